/-! ===== the model reads a test: all of it ===== -/
theorem W_and : WOk kAnd 6385252 := ⟨by decide, by decide, by decide, by decide, by decide⟩
theorem W_or : WOk kOr 28530 := ⟨by decide, by decide, by decide, by decide, by decide⟩
theorem W_not : WOk kNot 7237492 := ⟨by decide, by decide, by decide, by decide, by decide⟩
theorem W_if : WOk kIf 26982 := ⟨by decide, by decide, by decide, by decide, by decide⟩
noncomputable def TC (r0 : XW) : Option XR := (F_X12_isWord [.inr (11, 0), .inl (.long 6385252)] r0).bind fun r1 => (bif decide (¬ r1.1 = 0) then (q_X12_tested_49 r1.2) else (q_X12_tested_39 r1.2))
noncomputable def TB (w : XW) : Option (Int32 × XW) := ((((F_X12_layDown [.inr (11, 0), .inl (.int 3)] w).bind fun r0 => q_X12_closes_5 r0).bind pV).bind TC).bind pI
noncomputable def TA (w : XW) : Option (Int32 × XW) := ((((q_X12_fact_2 1 w).bind pI).bind fun r0 => (bif decide (¬ r0.1 = 0) then (q_X12_tested_25 r0.2) else (q_X12_tested_23 r0.2))) : Option XR).bind pI
theorem TB_eq (w : XW) : (q_X12_tested_25 w).bind pI = TB w := by
  rw [e_X12_tested_25, f_X12_closes, e_X12_closes_0]
  rfl
theorem TA_eq (w : XW) : (q_X12_tested_12 1 w).bind pI = TA w := by
  rw [e_X12_tested_12]
  simp (disch := omega) only [true_and, and_true, false_and, and_false, beq_t, beq_f, eqN_t, eqN_f, eqL_t, eqL_f, nm1, nm2, nm1', nm2', m1z, m2z, zm1, zm2, m12, m21, lg_cmp_ge, lg_cmp_le, lg_cmp_gt, lg_cmp_lt, lg_cmp_eq, oob, oobL, neg0, negL0, natle_f, or_false, false_or, true_or, or_true, or_self, cl, clL, le_t, le_f, lt_t, lt_f, leL_t, leL_f, ltL_t, ltL_f, leM_t, leM_f, ltM_t, ltM_f, leO_t, leO_f, cond_true, cond_false, Option.bind_some, Option.bind_none, if_false, if_true, nI_1, aL1, aL2, mL1, mL2, nI_add, pk_mul, pk_m1, sL1, dL1, pk_sub, m1p1, gIs_eq, gIs_k, gIs_i, gIs_n, gIs_e, gIJ, gIR, gJI, gJR, gJs_eq, gJs_k, gJs_n, gJs_e, gRI, gRJ, gRs_eq, gRs_k, gRs_i, gRs_n, gZI, gZJ, gZR, pI_s, pJ_s, pV_s, pR_s, pR_n, oR_n, oR_s, decide_true, decide_false, not_true_eq_false, not_false_eq_true, decT, decF, Bool.true_eq_false, Bool.false_eq_true, z01, o01, z1f, z1f', zz, oo, b2i_0, b2i_n, b2i_t, b2i_f, Bool.not_true, Bool.not_false]
  rw [e_X12_tested_16, f_X12_fact, e_X12_fact_0]
  rfl
def RMq (T : Nat) (F : Option (Int32 × XW)) (w : XW) (t : Tp) (r : Nat ⊕ St) : Prop := ∃ w', Fr (PMq T) w w' ∧ match r with
  | .inl f => F = some (0, w') ∧ gI w' 11 0 9 = nI f
  | .inr s => F = some (1, w') ∧ MRt T w' t s
theorem RMq.fr {T : Nat} {F F' : Option (Int32 × XW)} {w w1 : XW} {t : Tp} {r : Nat ⊕ St} (h : RMq T F' w1 t r) (hF : Fr (PMq T) w w1) (he : F = F') : RMq T F w t r := by
  obtain ⟨w', h1, h2⟩ := h
  exact ⟨w', hF.trans h1, by rw [he]; exact h2⟩
theorem MKt.mv {T : Nat} {w w' : XW} {t : Tp} {s : St} {p : Nat} {K : List Nat} (h : MKt T w t s K) (hF : Fr PM8 w w') (hp : MTp w' t p) : MKt T w' t (p, s.2) K := h.v (f8v hF) (h.1.at hF (fun κ k q => by unfold PM8; omega) hp)
def YA (T : Nat) (t : Tp) (K : List Nat) (s : St) (w : XW) : Prop := MKt T w t s K ∧ WK K ∧ dp K ≤ 10 ∧ s.2.1 ≤ 60 ∧ s.2.2.length + K.length ≤ s.1
theorem wrd_ne {t : Tp} {q : Nat} (hq : q ≤ t.1) (h : ¬ wrd t q = []) : q < t.1 ∧ isL (t.2 q) = true := by
  apply Classical.byContradiction
  intro z
  exact h (wrd_nil hq z)
theorem ch_let {t : Tp} (hT : TOk2 t) {q c : Nat} (hc : c < 97) (h : q < t.1 ∧ isL (t.2 q) = true) : ¬ chS t q = nI c := fun z => by
  obtain ⟨_, z2⟩ := ch_eq hT (by omega) z
  have := isL_t h.2
  omega
/-- behind a fact -/
theorem m_yardB {T : Nat} (hT6 : T < 6) {t : Tp} (hT : TOk2 t) (m : Nat) (ihA : ∀ K s w, t.1 - s.1 < m → YA T t K s w → RMq T (TA w) w t (sB (ftS t (10 - dp K) s) (cQ t false K))) (ihB : ∀ K s w, t.1 - s.1 < m → YA T t K s w → RMq T (TB w) w t (cQ t false K s)) :
    ∀ K s w, t.1 - s.1 = m → YA T t K s w → RMq T (TB w) w t (cQ t false K s) := by
  intro K0 s0 w0 hm hY
  have h4 := hT.1
  obtain ⟨hM0, hW0, hd0, hn0, hl0⟩ := hY
  have hp := hM0.1.1.2.2.2
  -- what is NOT is laid down
  obtain ⟨w1, a1, a2, a3⟩ := m_layF hT6 (l := 3) (by omega) (by omega) hM0 hW0 (by omega)
  have a1 : F_X12_layDown [.inr (11, 0), .inl (.int 3)] w0 = some w1 := a1
  rw [cQ_ly3 K0 s0 hW0]
  have hW := ly_w (l := 3) K0 s0 hW0
  have hd := Nat.le_trans (dp_ly (l := 3) K0 s0) hd0
  obtain ⟨l1, l2, l3⟩ := ly_1 (l := 3) K0 s0
  generalize (ly 3 K0 s0).1 = s at *
  generalize (ly 3 K0 s0).2 = K at *
  have hps : s.1 ≤ t.1 := by omega
  have hn : s.2.1 ≤ 60 := by omega
  have hl : s.2.2.length + K.length ≤ s.1 := by omega
  have hk := sk_le hps
  have ek := sk_sk hps
  have hle := le_le hk.2
  obtain ⟨w2, k1, k2, k3⟩ := m_see hT a2.1.1
  have M2 := a2.mv k3 k2
  have F2 : Fr (PMq T) w0 w2 := a3.trans (f8q k3)
  have k4 := m_see0 hT k2 ek
  have dA := m_isWord0 hT k2 ek W_and
  have dO := m_isWord0 hT k2 ek W_or
  have dI := m_isInside M2 hW (by omega)
  have g8 := k2.2.1
  -- closes() ends here
  have stop : (¬ chS t (sk t s.1) = 93 ∨ ¬ 91 ∈ K) → TB w0 = (TC w2).bind pI := by
    intro z
    unfold TB
    rw [a1, Option.bind_some, e_X12_closes_5]
    by_cases c : chS t (sk t s.1) = 93
    · have c2 : ¬ 91 ∈ K := z.resolve_left (fun y => y c)
      rw [decF c2] at dI
      rw [c] at k1
      simp (disch := omega) only [k1, e_X12_closes_14, dI, e_X12_closes_64, true_and, and_true, false_and, and_false, beq_t, beq_f, eqN_t, eqN_f, eqL_t, eqL_f, nm1, nm2, nm1', nm2', m1z, m2z, zm1, zm2, m12, m21, lg_cmp_ge, lg_cmp_le, lg_cmp_gt, lg_cmp_lt, lg_cmp_eq, oob, oobL, neg0, negL0, natle_f, or_false, false_or, true_or, or_true, or_self, cl, clL, le_t, le_f, lt_t, lt_f, leL_t, leL_f, ltL_t, ltL_f, leM_t, leM_f, ltM_t, ltM_f, leO_t, leO_f, cond_true, cond_false, Option.bind_some, Option.bind_none, if_false, if_true, nI_1, aL1, aL2, mL1, mL2, nI_add, pk_mul, pk_m1, sL1, dL1, pk_sub, m1p1, gIs_eq, gIs_k, gIs_i, gIs_n, gIs_e, gIJ, gIR, gJI, gJR, gJs_eq, gJs_k, gJs_n, gJs_e, gRI, gRJ, gRs_eq, gRs_k, gRs_i, gRs_n, gZI, gZJ, gZR, pI_s, pJ_s, pV_s, pR_s, pR_n, oR_n, oR_s, decide_true, decide_false, not_true_eq_false, not_false_eq_true, decT, decF, Bool.true_eq_false, Bool.false_eq_true, z01, o01, z1f, z1f', zz, oo, b2i_0, b2i_n, b2i_t, b2i_f, Bool.not_true, Bool.not_false]
    · simp (disch := omega) only [k1, c, e_X12_closes_64, true_and, and_true, false_and, and_false, beq_t, beq_f, eqN_t, eqN_f, eqL_t, eqL_f, nm1, nm2, nm1', nm2', m1z, m2z, zm1, zm2, m12, m21, lg_cmp_ge, lg_cmp_le, lg_cmp_gt, lg_cmp_lt, lg_cmp_eq, oob, oobL, neg0, negL0, natle_f, or_false, false_or, true_or, or_true, or_self, cl, clL, le_t, le_f, lt_t, lt_f, leL_t, leL_f, ltL_t, ltL_f, leM_t, leM_f, ltM_t, ltM_f, leO_t, leO_f, cond_true, cond_false, Option.bind_some, Option.bind_none, if_false, if_true, nI_1, aL1, aL2, mL1, mL2, nI_add, pk_mul, pk_m1, sL1, dL1, pk_sub, m1p1, gIs_eq, gIs_k, gIs_i, gIs_n, gIs_e, gIJ, gIR, gJI, gJR, gJs_eq, gJs_k, gJs_n, gJs_e, gRI, gRJ, gRs_eq, gRs_k, gRs_i, gRs_n, gZI, gZJ, gZR, pI_s, pJ_s, pV_s, pR_s, pR_n, oR_n, oR_s, decide_true, decide_false, not_true_eq_false, not_false_eq_true, decT, decF, Bool.true_eq_false, Bool.false_eq_true, z01, o01, z1f, z1f', zz, oo, b2i_0, b2i_n, b2i_t, b2i_f, Bool.not_true, Bool.not_false]
  by_cases cA : wrd t (sk t s.1) = kAnd
  · -- and
    have tA : tkT t s.1 = (1, le t (sk t s.1), -31) := by unfold tkT; rw [if_pos cA]
    have hL := wrd_ne hk.2 (by rw [cA]; decide)
    have hw3 := wrd_len hk.2 cA
    have : kAnd.length = 3 := rfl
    rw [decT cA] at dA
    obtain ⟨w3, b1, b2, b3⟩ := m_passWord hT k2
    have M3 : MKt T w3 t (le t (sk t s.1), s.2) K := M2.mv b3 b2
    obtain ⟨w4, e1, e2, e3⟩ := m_layF hT6 (l := 2) (by omega) (by omega) M3 hW (by show s.2.2.length + K.length ≤ 400; omega)
    have e1 : F_X12_layDown [.inr (11, 0), .inl (.int 2)] w3 = some w4 := e1
    have st2 : F_X12_strength [.inl (.int 12)] w3 = some (2, w3) := m_strength (x := 12) (by omega) w3
    rw [cQ_and hT hps tA K s hW rfl hn]
    have q1 := ly_1 (l := 2) K s
    have q2 := ly_w (l := 2) K s hW
    have q3 := Nat.le_trans (dp_ly (l := 2) K s) hd
    have q4 := ly_t (l := 2) K s
    rw [ly_mv] at e2
    generalize (ly 2 K s).1 = s4 at *
    generalize (ly 2 K s).2 = K4 at *
    have hK4 : K4.length ≤ 400 := by omega
    obtain ⟨m1, m2, m3, m6⟩ := e2
    have F5 : Fr (fun κ _ k => κ = 47 ∨ (κ = 11 ∧ k = 16)) w4 (sI (sI w4 47 0 K4.length 12) 11 0 16 (nI (K4.length + 1))) := ((Fr.refl _ _).sI (by omega)).sI (by omega)
    have hY : YA T t (12 :: K4) (le t (sk t s.1), s4.2) (sI (sI w4 47 0 K4.length 12) 11 0 16 (nI (K4.length + 1))) := by
      refine ⟨⟨m1.fr F5 (fun κ k q => by omega), by rw [gIs_eq, List.length_cons], ?_, ?_, m6.cg _ (fun i hi => by rw [gIs_n (by omega), gIs_k (by omega)])⟩, ⟨q2, Or.inr (Or.inr (Or.inl ⟨rfl, ?_⟩))⟩, by rw [dp12]; exact q3, by show s4.2.1 ≤ 60; omega, by show s4.2.2.length + (K4.length + 1) ≤ le t (sk t s.1); omega⟩
      · rw [gIs_k (by omega), gIs_n (by omega), dp12]; exact m3
      · rw [gIs_n (by omega)]; exact gIs_eq
      · rcases q4 with z | ⟨x, K', z1, z2⟩
        · exact Or.inl z
        · rw [z1] at q2 ⊢
          rcases q2.v with y | y | y | y
          · rw [y] at z2; exact absurd z2 (by decide)
          · rw [y] at z2; exact absurd z2 (by decide)
          · exact Or.inr (Or.inr (by rw [y]; rfl))
          · exact Or.inr (Or.inl (by rw [y]; rfl))
    have R := ihA _ _ _ (by show t.1 - le t (sk t s.1) < m; omega) hY
    rw [dp12] at R
    refine R.fr (((F2.trans (f8q b3)).trans e3).trans (F5.mono (fun κ i k q => by unfold PMq; omega))) ?_
    rw [stop (Or.inl (ch_let hT (c := 93) (by omega) hL)), ← TA_eq]
    unfold TC
    simp (disch := omega) only [dA, e_X12_tested_49, e_X12_tested_54, e_X12_tested_59, e_X12_tested_69, e_X12_tested_76, b1, st2, e1, m2, true_and, and_true, false_and, and_false, beq_t, beq_f, eqN_t, eqN_f, eqL_t, eqL_f, nm1, nm2, nm1', nm2', m1z, m2z, zm1, zm2, m12, m21, lg_cmp_ge, lg_cmp_le, lg_cmp_gt, lg_cmp_lt, lg_cmp_eq, oob, oobL, neg0, negL0, natle_f, or_false, false_or, true_or, or_true, or_self, cl, clL, le_t, le_f, lt_t, lt_f, leL_t, leL_f, ltL_t, ltL_f, leM_t, leM_f, ltM_t, ltM_f, leO_t, leO_f, cond_true, cond_false, Option.bind_some, Option.bind_none, if_false, if_true, nI_1, aL1, aL2, mL1, mL2, nI_add, pk_mul, pk_m1, sL1, dL1, pk_sub, m1p1, gIs_eq, gIs_k, gIs_i, gIs_n, gIs_e, gIJ, gIR, gJI, gJR, gJs_eq, gJs_k, gJs_n, gJs_e, gRI, gRJ, gRs_eq, gRs_k, gRs_i, gRs_n, gZI, gZJ, gZR, pI_s, pJ_s, pV_s, pR_s, pR_n, oR_n, oR_s, decide_true, decide_false, not_true_eq_false, not_false_eq_true, decT, decF, Bool.true_eq_false, Bool.false_eq_true, z01, o01, z1f, z1f', zz, oo, b2i_0, b2i_n, b2i_t, b2i_f, Bool.not_true, Bool.not_false]
  · rw [decF cA] at dA
    by_cases cO : wrd t (sk t s.1) = kOr
    · -- or
      have tO : tkT t s.1 = (2, le t (sk t s.1), -32) := by unfold tkT; rw [if_neg cA, if_pos cO]
      have hL := wrd_ne hk.2 (by rw [cO]; decide)
      have hw3 := wrd_len hk.2 cO
      have : kOr.length = 2 := rfl
      rw [decT cO] at dO
      obtain ⟨w3, b1, b2, b3⟩ := m_passWord hT k2
      have M3 : MKt T w3 t (le t (sk t s.1), s.2) K := M2.mv b3 b2
      obtain ⟨w4, e1, e2, e3⟩ := m_layF hT6 (l := 1) (by omega) (by omega) M3 hW (by show s.2.2.length + K.length ≤ 400; omega)
      have e1 : F_X12_layDown [.inr (11, 0), .inl (.int 1)] w3 = some w4 := e1
      have st2 : F_X12_strength [.inl (.int 13)] w3 = some (1, w3) := m_strength (x := 13) (by omega) w3
      rw [cQ_or hT hps tO K s hW rfl hn]
      have q1 := ly_1 (l := 1) K s
      have q2 := ly_w (l := 1) K s hW
      have q3 := Nat.le_trans (dp_ly (l := 1) K s) hd
      have q4 := ly_t (l := 1) K s
      rw [ly_mv] at e2
      generalize (ly 1 K s).1 = s4 at *
      generalize (ly 1 K s).2 = K4 at *
      have hK4 : K4.length ≤ 400 := by omega
      obtain ⟨m1, m2, m3, m6⟩ := e2
      have F5 : Fr (fun κ _ k => κ = 47 ∨ (κ = 11 ∧ k = 16)) w4 (sI (sI w4 47 0 K4.length 13) 11 0 16 (nI (K4.length + 1))) := ((Fr.refl _ _).sI (by omega)).sI (by omega)
      have hY : YA T t (13 :: K4) (le t (sk t s.1), s4.2) (sI (sI w4 47 0 K4.length 13) 11 0 16 (nI (K4.length + 1))) := by
        refine ⟨⟨m1.fr F5 (fun κ k q => by omega), by rw [gIs_eq, List.length_cons], ?_, ?_, m6.cg _ (fun i hi => by rw [gIs_n (by omega), gIs_k (by omega)])⟩, ⟨q2, Or.inr (Or.inr (Or.inr ⟨rfl, ?_⟩))⟩, by rw [dp13]; exact q3, by show s4.2.1 ≤ 60; omega, by show s4.2.2.length + (K4.length + 1) ≤ le t (sk t s.1); omega⟩
        · rw [gIs_k (by omega), gIs_n (by omega), dp13]; exact m3
        · rw [gIs_n (by omega)]; exact gIs_eq
        · rcases q4 with z | ⟨x, K', z1, z2⟩
          · exact Or.inl z
          · rw [z1] at q2 ⊢
            rcases q2.v with y | y | y | y
            · rw [y] at z2; exact absurd z2 (by decide)
            · rw [y] at z2; exact absurd z2 (by decide)
            · rw [y] at z2; exact absurd z2 (by decide)
            · exact Or.inr (by rw [y]; rfl)
      have R := ihA _ _ _ (by show t.1 - le t (sk t s.1) < m; omega) hY
      rw [dp13] at R
      refine R.fr (((F2.trans (f8q b3)).trans e3).trans (F5.mono (fun κ i k q => by unfold PMq; omega))) ?_
      rw [stop (Or.inl (ch_let hT (c := 93) (by omega) hL)), ← TA_eq]
      unfold TC
      simp (disch := omega) only [dA, e_X12_tested_39, dO, e_X12_tested_49, e_X12_tested_54, e_X12_tested_59, e_X12_tested_74, e_X12_tested_76, b1, st2, e1, m2, true_and, and_true, false_and, and_false, beq_t, beq_f, eqN_t, eqN_f, eqL_t, eqL_f, nm1, nm2, nm1', nm2', m1z, m2z, zm1, zm2, m12, m21, lg_cmp_ge, lg_cmp_le, lg_cmp_gt, lg_cmp_lt, lg_cmp_eq, oob, oobL, neg0, negL0, natle_f, or_false, false_or, true_or, or_true, or_self, cl, clL, le_t, le_f, lt_t, lt_f, leL_t, leL_f, ltL_t, ltL_f, leM_t, leM_f, ltM_t, ltM_f, leO_t, leO_f, cond_true, cond_false, Option.bind_some, Option.bind_none, if_false, if_true, nI_1, aL1, aL2, mL1, mL2, nI_add, pk_mul, pk_m1, sL1, dL1, pk_sub, m1p1, gIs_eq, gIs_k, gIs_i, gIs_n, gIs_e, gIJ, gIR, gJI, gJR, gJs_eq, gJs_k, gJs_n, gJs_e, gRI, gRJ, gRs_eq, gRs_k, gRs_i, gRs_n, gZI, gZJ, gZR, pI_s, pJ_s, pV_s, pR_s, pR_n, oR_n, oR_s, decide_true, decide_false, not_true_eq_false, not_false_eq_true, decT, decF, Bool.true_eq_false, Bool.false_eq_true, z01, o01, z1f, z1f', zz, oo, b2i_0, b2i_n, b2i_t, b2i_f, Bool.not_true, Bool.not_false]
    · -- neither
      have t0 : (tkT t s.1).1 = 0 := by unfold tkT; rw [if_neg cA, if_neg cO]
      rw [decF cO] at dO
      rw [cQ_end hT hps t0 K s hW rfl]
      obtain ⟨w4, e1, e2, e3⟩ := m_layF hT6 (l := 1) (by omega) (by omega) M2 hW (by show s.2.2.length + K.length ≤ 400; omega)
      have e1 : F_X12_layDown [.inr (11, 0), .inl (.int 1)] w2 = some w4 := e1
      have q0 := ly_in K s hW
      have q1 := ly_1 (l := 1) K s
      have q2 := ly_w (l := 1) K s hW
      have q3 := Nat.le_trans (dp_ly (l := 1) K s) hd
      have q4 := ly_t (l := 1) K s
      rw [ly_mv] at e2
      generalize (ly 1 K s).1 = s4 at *
      generalize (ly 1 K s).2 = K4 at *
      have rest : (¬ chS t (sk t s.1) = 93 ∨ ¬ 91 ∈ K) → TB w0 = (q_X12_tested_112 w2).bind pI := by
        intro z
        rw [stop z]
        unfold TC
        simp (disch := omega) only [dA, e_X12_tested_39, dO, e_X12_tested_53, e_X12_tested_54, e_X12_tested_12, true_and, and_true, false_and, and_false, beq_t, beq_f, eqN_t, eqN_f, eqL_t, eqL_f, nm1, nm2, nm1', nm2', m1z, m2z, zm1, zm2, m12, m21, lg_cmp_ge, lg_cmp_le, lg_cmp_gt, lg_cmp_lt, lg_cmp_eq, oob, oobL, neg0, negL0, natle_f, or_false, false_or, true_or, or_true, or_self, cl, clL, le_t, le_f, lt_t, lt_f, leL_t, leL_f, ltL_t, ltL_f, leM_t, leM_f, ltM_t, ltM_f, leO_t, leO_f, cond_true, cond_false, Option.bind_some, Option.bind_none, if_false, if_true, nI_1, aL1, aL2, mL1, mL2, nI_add, pk_mul, pk_m1, sL1, dL1, pk_sub, m1p1, gIs_eq, gIs_k, gIs_i, gIs_n, gIs_e, gIJ, gIR, gJI, gJR, gJs_eq, gJs_k, gJs_n, gJs_e, gRI, gRJ, gRs_eq, gRs_k, gRs_i, gRs_n, gZI, gZJ, gZR, pI_s, pJ_s, pV_s, pR_s, pR_n, oR_n, oR_s, decide_true, decide_false, not_true_eq_false, not_false_eq_true, decT, decF, Bool.true_eq_false, Bool.false_eq_true, z01, o01, z1f, z1f', zz, oo, b2i_0, b2i_n, b2i_t, b2i_f, Bool.not_true, Bool.not_false]
      by_cases cI : 91 ∈ K
      · rw [decT cI] at dI
        have cI4 := q0.mp cI
        obtain ⟨K', rfl⟩ : ∃ K', K4 = 91 :: K' := by
          rcases q4 with z | ⟨x, K', z1, z2⟩
          · rw [z] at cI4; cases cI4
          · rw [z1] at q2
            rcases q2.v with y | y | y | y
            · rw [y] at z2; exact absurd z2 (by decide)
            · rw [y] at z2; exact absurd z2 (by decide)
            · rw [y] at z2; exact absurd z2 (by decide)
            · exact ⟨K', by rw [z1, y]⟩
        rw [cQ_t91]
        unfold clsS
        dsimp only
        rw [ek]
        by_cases cC : isCl t (sk t s.1)
        · rw [if_pos cC]
          have ec : chS t (sk t s.1) = 93 := by unfold chS; rw [if_pos cC.1, cC.2]; rfl
          rw [ec] at k1
          obtain ⟨m1, m2, m3, m6⟩ := e2
          rw [List.length_cons] at m2 q1
          rw [dp91] at m3 q3
          have g84 := m1.1.2.1
          have g84 : gI w4 11 0 8 = nI (sk t s.1) := g84
          have F5 : Fr (fun κ _ k => κ = 11 ∧ (k = 8 ∨ k = 13 ∨ k = 16)) w4 (sI (sI (sI w4 11 0 16 (nI K'.length)) 11 0 13 (nI (dp K'))) 11 0 8 (nI (sk t s.1 + 1))) := (((Fr.refl _ _).sI (by omega)).sI (by omega)).sI (by omega)
          have hY : YA T t K' (sk t s.1 + 1, s4.2) (sI (sI (sI w4 11 0 16 (nI K'.length)) 11 0 13 (nI (dp K'))) 11 0 8 (nI (sk t s.1 + 1))) := by
            refine ⟨⟨m1.at F5 (fun κ k q => by omega) ⟨m1.1.1.fr F5 (fun κ k q => by omega), gIs_eq, ?_, cC.1⟩, ?_, ?_, m6.2.cg _ (fun i hi => by rw [gIs_n (by omega), gIs_n (by omega), gIs_n (by omega)])⟩, q2.1, by omega, by show s4.2.1 ≤ 60; omega, by show s4.2.2.length + K'.length ≤ sk t s.1 + 1; omega⟩
            · rw [gIs_k (by omega), gIs_k (by omega), gIs_k (by omega)]; exact m1.1.2.2.1
            · rw [gIs_k (by omega), gIs_k (by omega), gIs_eq]
            · rw [gIs_k (by omega), gIs_eq]
          have hcl := cC.1
          have R := ihB _ _ _ (by show t.1 - (sk t s.1 + 1) < m; omega) hY
          refine R.fr ((F2.trans e3).trans (F5.mono (fun κ i k q => by unfold PMq; omega))) ?_
          unfold TB
          rw [a1, Option.bind_some, e_X12_closes_5]
          simp (disch := omega) only [k1, e_X12_closes_14, dI, e_X12_closes_21, e1, m2, m3, g84, Nat.add_sub_cancel, true_and, and_true, false_and, and_false, beq_t, beq_f, eqN_t, eqN_f, eqL_t, eqL_f, nm1, nm2, nm1', nm2', m1z, m2z, zm1, zm2, m12, m21, lg_cmp_ge, lg_cmp_le, lg_cmp_gt, lg_cmp_lt, lg_cmp_eq, oob, oobL, neg0, negL0, natle_f, or_false, false_or, true_or, or_true, or_self, cl, clL, le_t, le_f, lt_t, lt_f, leL_t, leL_f, ltL_t, ltL_f, leM_t, leM_f, ltM_t, ltM_f, leO_t, leO_f, cond_true, cond_false, Option.bind_some, Option.bind_none, if_false, if_true, nI_1, aL1, aL2, mL1, mL2, nI_add, pk_mul, pk_m1, sL1, dL1, pk_sub, m1p1, gIs_eq, gIs_k, gIs_i, gIs_n, gIs_e, gIJ, gIR, gJI, gJR, gJs_eq, gJs_k, gJs_n, gJs_e, gRI, gRJ, gRs_eq, gRs_k, gRs_i, gRs_n, gZI, gZJ, gZR, pI_s, pJ_s, pV_s, pR_s, pR_n, oR_n, oR_s, decide_true, decide_false, not_true_eq_false, not_false_eq_true, decT, decF, Bool.true_eq_false, Bool.false_eq_true, z01, o01, z1f, z1f', zz, oo, b2i_0, b2i_n, b2i_t, b2i_f, Bool.not_true, Bool.not_false]
        · rw [if_neg cC]
          have nc : ¬ chS t (sk t s.1) = 93 := fun z => cC (by
            have := ch_eq hT (c := 93) (by omega) z
            exact ⟨this.1, this.2⟩)
          have kf := m_fails0 (w := w2) (sk t s.1) k2.2.2.1
          refine ⟨_, F2.sI (by unfold PMq; omega), ?_, gIs_eq⟩
          rw [rest (Or.inl nc), e_X12_tested_112]
          simp (disch := omega) only [dI, e_X12_tested_119, k4, g8, kf, true_and, and_true, false_and, and_false, beq_t, beq_f, eqN_t, eqN_f, eqL_t, eqL_f, nm1, nm2, nm1', nm2', m1z, m2z, zm1, zm2, m12, m21, lg_cmp_ge, lg_cmp_le, lg_cmp_gt, lg_cmp_lt, lg_cmp_eq, oob, oobL, neg0, negL0, natle_f, or_false, false_or, true_or, or_true, or_self, cl, clL, le_t, le_f, lt_t, lt_f, leL_t, leL_f, ltL_t, ltL_f, leM_t, leM_f, ltM_t, ltM_f, leO_t, leO_f, cond_true, cond_false, Option.bind_some, Option.bind_none, if_false, if_true, nI_1, aL1, aL2, mL1, mL2, nI_add, pk_mul, pk_m1, sL1, dL1, pk_sub, m1p1, gIs_eq, gIs_k, gIs_i, gIs_n, gIs_e, gIJ, gIR, gJI, gJR, gJs_eq, gJs_k, gJs_n, gJs_e, gRI, gRJ, gRs_eq, gRs_k, gRs_i, gRs_n, gZI, gZJ, gZR, pI_s, pJ_s, pV_s, pR_s, pR_n, oR_n, oR_s, decide_true, decide_false, not_true_eq_false, not_false_eq_true, decT, decF, Bool.true_eq_false, Bool.false_eq_true, z01, o01, z1f, z1f', zz, oo, b2i_0, b2i_n, b2i_t, b2i_f, Bool.not_true, Bool.not_false]
      · rw [decF cI] at dI
        have K40 : K4 = [] := by
          rcases q4 with z | ⟨x, K', z1, z2⟩
          · exact z
          · rw [z1] at q2 q0
            rcases q2.v with y | y | y | y
            · rw [y] at z2; exact absurd z2 (by decide)
            · rw [y] at z2; exact absurd z2 (by decide)
            · rw [y] at z2; exact absurd z2 (by decide)
            · exact absurd (q0.mpr (by rw [y]; exact List.mem_cons_self ..)) cI
        rw [K40]
        refine ⟨w4, F2.trans e3, ?_, e2.1⟩
        rw [rest (Or.inr cI), e_X12_tested_112]
        simp (disch := omega) only [dI, e_X12_tested_134, e1, true_and, and_true, false_and, and_false, beq_t, beq_f, eqN_t, eqN_f, eqL_t, eqL_f, nm1, nm2, nm1', nm2', m1z, m2z, zm1, zm2, m12, m21, lg_cmp_ge, lg_cmp_le, lg_cmp_gt, lg_cmp_lt, lg_cmp_eq, oob, oobL, neg0, negL0, natle_f, or_false, false_or, true_or, or_true, or_self, cl, clL, le_t, le_f, lt_t, lt_f, leL_t, leL_f, ltL_t, ltL_f, leM_t, leM_f, ltM_t, ltM_f, leO_t, leO_f, cond_true, cond_false, Option.bind_some, Option.bind_none, if_false, if_true, nI_1, aL1, aL2, mL1, mL2, nI_add, pk_mul, pk_m1, sL1, dL1, pk_sub, m1p1, gIs_eq, gIs_k, gIs_i, gIs_n, gIs_e, gIJ, gIR, gJI, gJR, gJs_eq, gJs_k, gJs_n, gJs_e, gRI, gRJ, gRs_eq, gRs_k, gRs_i, gRs_n, gZI, gZJ, gZR, pI_s, pJ_s, pV_s, pR_s, pR_n, oR_n, oR_s, decide_true, decide_false, not_true_eq_false, not_false_eq_true, decT, decF, Bool.true_eq_false, Bool.false_eq_true, z01, o01, z1f, z1f', zz, oo, b2i_0, b2i_n, b2i_t, b2i_f, Bool.not_true, Bool.not_false]
