/-! ===== the model reads a rule: values, sums, comparisons ===== -/
def MRt (T : Nat) (w : XW) (t : Tp) (s : St) : Prop := MTp w t s.1 ∧ gI w 11 0 12 = nI s.2.1 ∧ gI w 43 0 T = nI s.2.2.length ∧ gI w 11 0 11 = nI T ∧ LsAt (fun i => gI w 42 0 (400 * T + i)) (s.2.2.map encS)
def PMv (T κ _j k : Nat) : Prop := (κ = 11 ∧ ((8 ≤ k ∧ k ≤ 10) ∨ k = 12)) ∨ (κ = 42 ∧ 400 * T ≤ k ∧ k < 400 * T + 400) ∨ (κ = 43 ∧ k = T)
def PMp (T κ _j k : Nat) : Prop := (κ = 42 ∧ 400 * T ≤ k ∧ k < 400 * T + 400) ∨ (κ = 43 ∧ k = T)
theorem MRt.fr {T : Nat} {P : Nat → Nat → Nat → Prop} {w w' : XW} {t : Tp} {s : St} (h : MRt T w t s) (hF : Fr P w w') (hP : ∀ κ k, (κ = 11 ∧ (k = 1 ∨ k = 8 ∨ k = 9 ∨ k = 11 ∨ k = 12)) ∨ κ = 41 ∨ κ = 42 ∨ κ = 43 → ¬ P κ 0 k) : MRt T w' t s :=
  ⟨h.1.fr hF (fun κ k q => hP _ _ (by omega)), by rw [(hF 11 0 12 (hP _ _ (by omega))).1]; exact h.2.1, by rw [(hF 43 0 T (hP _ _ (by omega))).1]; exact h.2.2.1, by rw [(hF 11 0 11 (hP _ _ (by omega))).1]; exact h.2.2.2.1, fun i st hi => by show gI w' 42 0 _ = _; rw [(hF 42 0 _ (hP _ _ (by omega))).1]; exact h.2.2.2.2 i st hi⟩
theorem MRt.at {T : Nat} {P : Nat → Nat → Nat → Prop} {w w' : XW} {t : Tp} {s : St} {p : Nat} (h : MRt T w t s) (hF : Fr P w w') (hP : ∀ κ k, (κ = 11 ∧ (k = 11 ∨ k = 12)) ∨ κ = 42 ∨ κ = 43 → ¬ P κ 0 k) (hp : MTp w' t p) : MRt T w' t (p, s.2) :=
  ⟨hp, by rw [(hF 11 0 12 (hP _ _ (by omega))).1]; exact h.2.1, by rw [(hF 43 0 T (hP _ _ (by omega))).1]; exact h.2.2.1, by rw [(hF 11 0 11 (hP _ _ (by omega))).1]; exact h.2.2.2.1, fun i st hi => by show gI w' 42 0 _ = _; rw [(hF 42 0 _ (hP _ _ (by omega))).1]; exact h.2.2.2.2 i st hi⟩
theorem m_puts {T : Nat} (hT6 : T < 6) {w : XW} {t : Tp} {s : St} (h : MRt T w t s) (hl : s.2.2.length < 400) {x1 x2 c : Int32} (hc : x1 + 16 * x2 = encS c) : ∃ w', F_X12_puts [.inr (11, 0), .inl (.int x1), .inl (.int x2)] w = some w' ∧ MRt T w' t (adS s c) ∧ Fr (PMp T) w w' := by
  obtain ⟨h1, h2, h3, h5, h6⟩ := h
  have F1 : Fr (PMp T) w (sI (sI w 42 0 (400 * T + s.2.2.length) (encS c)) 43 0 T (nI (s.2.2.length + 1))) := ((Fr.refl _ _).sI (by unfold PMp; omega)).sI (by unfold PMp; omega)
  refine ⟨_, ?_, ⟨h1.fr F1 (fun κ k q => by unfold PMp; omega), ?_, ?_, ?_, ?_⟩, F1⟩
  · rw [f_X12_puts, e_X12_puts_0]
    simp (disch := omega) only [h5, h3, hc, true_and, and_true, false_and, and_false, beq_t, beq_f, eqN_t, eqN_f, eqL_t, eqL_f, nm1, nm2, nm1', nm2', m1z, m2z, zm1, zm2, m12, m21, lg_cmp_ge, lg_cmp_le, lg_cmp_gt, lg_cmp_lt, lg_cmp_eq, oob, oobL, neg0, negL0, natle_f, or_false, false_or, true_or, or_true, or_self, cl, clL, le_t, le_f, lt_t, lt_f, leL_t, leL_f, ltL_t, ltL_f, leM_t, leM_f, ltM_t, ltM_f, leO_t, leO_f, cond_true, cond_false, Option.bind_some, Option.bind_none, if_false, if_true, nI_1, aL1, aL2, mL1, mL2, nI_add, pk_mul, pk_m1, sL1, dL1, pk_sub, m1p1, gIs_eq, gIs_k, gIs_i, gIs_n, gIs_e, gIJ, gIR, gJI, gJR, gJs_eq, gJs_k, gJs_n, gJs_e, gRI, gRJ, gRs_eq, gRs_k, gRs_i, gRs_n, gZI, gZJ, gZR, pI_s, pJ_s, pV_s, pR_s, pR_n, oR_n, oR_s, decide_true, decide_false, not_true_eq_false, not_false_eq_true, decT, decF, Bool.true_eq_false, Bool.false_eq_true, z01, o01, z1f, z1f', zz, oo, b2i_0, b2i_n, b2i_t, b2i_f, Bool.not_true, Bool.not_false]
  · rw [gIs_n (by omega), gIs_n (by omega)]; exact h2
  · show _ = nI (s.2.2 ++ [c]).length
    rw [gIs_eq, List.length_append, List.length_singleton]
  · rw [gIs_n (by omega), gIs_n (by omega)]; exact h5
  · show LsAt _ ((s.2.2 ++ [c]).map encS)
    rw [List.map_append]
    refine h6.snoc (fun i hi => ?_) ?_
    · rw [List.length_map] at hi
      show gI _ 42 0 _ = gI w 42 0 _
      rw [gIs_n (by omega), gIs_k (by omega)]
    · rw [List.length_map]
      show gI _ 42 0 _ = _
      rw [gIs_n (by omega)]; exact gIs_eq
def RMr (T : Nat) (F : Option (Int32 × XW)) (w : XW) (t : Tp) (r : Nat ⊕ St) : Prop := ∃ w', Fr (PMv T) w w' ∧ match r with
  | .inl f => F = some (0, w') ∧ gI w' 11 0 9 = nI f
  | .inr s => F = some (1, w') ∧ MRt T w' t s
theorem RMr.fr {T : Nat} {F F' : Option (Int32 × XW)} {w w1 : XW} {t : Tp} {r : Nat ⊕ St} (h : RMr T F' w1 t r) (hF : Fr (PMv T) w w1) (he : F = F') : RMr T F w t r := by
  obtain ⟨w', h1, h2⟩ := h
  exact ⟨w', hF.trans h1, by rw [he]; exact h2⟩
theorem RMr.b01 {T : Nat} {F : Option (Int32 × XW)} {w : XW} {t : Tp} {r : Nat ⊕ St} (h : RMr T F w t r) : ((F.bind fun r0 => (if r0.1 = 0 ∨ r0.1 = 1 then some (some (.inl (.int r0.1)), r0.2) else none) : Option XR)).bind pI = F := by
  obtain ⟨w', h1, h2⟩ := h
  cases r with
  | inl f => rw [h2.1]; rfl
  | inr q => rw [h2.1]; rfl
theorem RMr.then {T : Nat} {F F2 : Option (Int32 × XW)} {w : XW} {t : Tp} {r : Nat ⊕ St} {g : St → Nat ⊕ St} (h : RMr T F w t r) (h0 : ∀ w', F = some (0, w') → F2 = some (0, w')) (h1 : ∀ s w', r = .inr s → F = some (1, w') → Fr (PMv T) w w' → MRt T w' t s → RMr T F2 w' t (g s)) : RMr T F2 w t (sB r g) := by
  obtain ⟨w', k1, k2⟩ := h
  cases r with
  | inl f => exact ⟨w', k1, h0 w' k2.1, k2.2⟩
  | inr s => exact (h1 s w' rfl k2.1 k1 k2.2).fr k1 rfl
theorem fPv {T : Nat} {w w' : XW} (h : Fr (PMp T) w w') : Fr (PMv T) w w' := h.mono (fun κ i k q => by unfold PMp at q; unfold  PMv; omega)
theorem f8v {T : Nat} {w w' : XW} (h : Fr PM8 w w') : Fr (PMv T) w w' := h.mono (fun κ i k q => by unfold PM8 at q; unfold  PMv; omega)
theorem flv {T : Nat} {w w' : XW} (h : Fr PMl w w') : Fr (PMv T) w w' := h.mono (fun κ i k q => by unfold PMl at q; unfold  PMv; omega)
theorem m_makes {T : Nat} {w : XW} {t : Tp} {s : St} (h : MRt T w t s) (hn : s.2.1 ≤ 60) (a : Nat) : RMr T (F_X12_makes [.inr (11, 0), .inl (.int (nI a))] w) w t (ctS a s) := by
  obtain ⟨h1, h2, h3, h5, h6⟩ := h
  have F1 : Fr (fun κ _ k => κ = 11 ∧ k = 12) w (sI w 11 0 12 (nI (s.2.1 + 1))) := (Fr.refl _ _).sI ⟨rfl, rfl⟩
  unfold ctS
  by_cases c : s.2.1 < 60
  · rw [if_pos c]
    refine ⟨sI w 11 0 12 (nI (s.2.1 + 1)), F1.mono (fun κ i k q => by unfold PMv; omega), ?_, h1.fr F1 (fun κ k q => by omega), gIs_eq, by rw [gIs_n (by omega)]; exact h3, by rw [gIs_k (by omega)]; exact h5, fun i st hi => by show gI _ 42 0 _ = _; rw [gIs_n (by omega)]; exact h6 i st hi⟩
    rw [f_X12_makes, e_X12_makes_0]
    simp (disch := omega) only [h2, e_X12_makes_16, true_and, and_true, false_and, and_false, beq_t, beq_f, eqN_t, eqN_f, eqL_t, eqL_f, nm1, nm2, nm1', nm2', m1z, m2z, zm1, zm2, m12, m21, lg_cmp_ge, lg_cmp_le, lg_cmp_gt, lg_cmp_lt, lg_cmp_eq, oob, oobL, neg0, negL0, natle_f, or_false, false_or, true_or, or_true, or_self, cl, clL, le_t, le_f, lt_t, lt_f, leL_t, leL_f, ltL_t, ltL_f, leM_t, leM_f, ltM_t, ltM_f, leO_t, leO_f, cond_true, cond_false, Option.bind_some, Option.bind_none, if_false, if_true, nI_1, aL1, aL2, mL1, mL2, nI_add, pk_mul, pk_m1, sL1, dL1, pk_sub, m1p1, gIs_eq, gIs_k, gIs_i, gIs_n, gIs_e, gIJ, gIR, gJI, gJR, gJs_eq, gJs_k, gJs_n, gJs_e, gRI, gRJ, gRs_eq, gRs_k, gRs_i, gRs_n, gZI, gZJ, gZR, pI_s, pJ_s, pV_s, pR_s, pR_n, oR_n, oR_s, decide_true, decide_false, not_true_eq_false, not_false_eq_true, decT, decF, Bool.true_eq_false, Bool.false_eq_true, z01, o01, z1f, z1f', zz, oo, b2i_0, b2i_n, b2i_t, b2i_f, Bool.not_true, Bool.not_false]
  · rw [if_neg c]
    have e60 : s.2.1 = 60 := by omega
    have kf := m_fails3 (w := w) a h1.2.2.1
    refine ⟨_, (Fr.refl _ _).sI (by unfold PMv; omega), ?_, gIs_eq⟩
    rw [f_X12_makes, e_X12_makes_0]
    simp (disch := omega) only [h2, e60, e_X12_makes_9, kf, true_and, and_true, false_and, and_false, beq_t, beq_f, eqN_t, eqN_f, eqL_t, eqL_f, nm1, nm2, nm1', nm2', m1z, m2z, zm1, zm2, m12, m21, lg_cmp_ge, lg_cmp_le, lg_cmp_gt, lg_cmp_lt, lg_cmp_eq, oob, oobL, neg0, negL0, natle_f, or_false, false_or, true_or, or_true, or_self, cl, clL, le_t, le_f, lt_t, lt_f, leL_t, leL_f, ltL_t, ltL_f, leM_t, leM_f, ltM_t, ltM_f, leO_t, leO_f, cond_true, cond_false, Option.bind_some, Option.bind_none, if_false, if_true, nI_1, aL1, aL2, mL1, mL2, nI_add, pk_mul, pk_m1, sL1, dL1, pk_sub, m1p1, gIs_eq, gIs_k, gIs_i, gIs_n, gIs_e, gIJ, gIR, gJI, gJR, gJs_eq, gJs_k, gJs_n, gJs_e, gRI, gRJ, gRs_eq, gRs_k, gRs_i, gRs_n, gZI, gZJ, gZR, pI_s, pJ_s, pV_s, pR_s, pR_n, oR_n, oR_s, decide_true, decide_false, not_true_eq_false, not_false_eq_true, decT, decF, Bool.true_eq_false, Bool.false_eq_true, z01, o01, z1f, z1f', zz, oo, b2i_0, b2i_n, b2i_t, b2i_f, Bool.not_true, Bool.not_false]
theorem fd1 (x : List Nat) : fdW (lW 1) x = if x = kPerson then some 0 else if x = kKeep then some 1 else if x = [116, 101, 108, 108, 115] then some 2 else if x = [102, 117, 108, 108] then some 3 else if x = [114, 111, 111, 109] then some 4 else if x = [104, 101, 97, 116] then some 5 else if x = [99, 111, 111, 108, 115] then some 6 else if x = kBeside then some 7 else if x = [111, 116, 104, 101, 114, 115] then some 8 else if x = [98, 117, 114, 110, 116] then some 9 else if x = [110, 105, 103, 104, 116] then some 10 else none := by
  show (if x = kPerson then some 0 else Option.map (· + 1) (if x = kKeep then some 0 else Option.map (· + 1) (if x = [116, 101, 108, 108, 115] then some 0 else Option.map (· + 1) (if x = [102, 117, 108, 108] then some 0 else Option.map (· + 1) (if x = [114, 111, 111, 109] then some 0 else Option.map (· + 1) (if x = [104, 101, 97, 116] then some 0 else Option.map (· + 1) (if x = [99, 111, 111, 108, 115] then some 0 else Option.map (· + 1) (if x = kBeside then some 0 else Option.map (· + 1) (if x = [111, 116, 104, 101, 114, 115] then some 0 else Option.map (· + 1) (if x = [98, 117, 114, 110, 116] then some 0 else Option.map (· + 1) (if x = [110, 105, 103, 104, 116] then some 0 else Option.map (· + 1) none))))))))))) = _
  have mp : ∀ (p : Prop) [Decidable p] (a : Nat) (o : Option Nat), Option.map (· + 1) (if p then some a else o) = if p then some (a + 1) else Option.map (· + 1) o := fun p _ a o => by
    by_cases c : p
    · rw [if_pos c, if_pos c]; rfl
    · rw [if_neg c, if_neg c]
  simp only [mp, Option.map_none]
def oJ (o : Option Nat) : Int32 := match o with
  | some j => nI j
  | none => -1
theorem m_wordHere {w : XW} {t : Tp} (hT : TOk2 t) {s : Nat} (h : MTp w t s) (hs : sk t s = s) : F_X12_wordHere [.inr (11, 0)] w = some (oJ (fdW (lW 1) (wrd t s)), w) := by
  have d0 := m_isWord0 hT h hs W_person
  have d1 := m_isWord0 hT h hs W_keep
  have d2 := m_isWord0 hT h hs W_tells
  have d3 := m_isWord0 hT h hs W_full
  have d4 := m_isWord0 hT h hs W_room
  have d5 := m_isWord0 hT h hs W_heat
  have d6 := m_isWord0 hT h hs W_cools
  have d7 := m_isWord0 hT h hs W_beside
  have d8 := m_isWord0 hT h hs W_others
  have d9 := m_isWord0 hT h hs W_burnt
  have d10 := m_isWord0 hT h hs W_night
  rw [fd1, f_X12_wordHere, e_X12_wordHere_0]
  generalize wrd t s = x at *
  by_cases c0 : x = kPerson
  · rw [decT c0] at d0
    rw [if_pos c0]
    simp (disch := omega) only [d0, e_X12_wordHere_10, true_and, and_true, false_and, and_false, beq_t, beq_f, eqN_t, eqN_f, eqL_t, eqL_f, nm1, nm2, nm1', nm2', m1z, m2z, zm1, zm2, m12, m21, lg_cmp_ge, lg_cmp_le, lg_cmp_gt, lg_cmp_lt, lg_cmp_eq, oob, oobL, neg0, negL0, natle_f, or_false, false_or, true_or, or_true, or_self, cl, clL, le_t, le_f, lt_t, lt_f, leL_t, leL_f, ltL_t, ltL_f, leM_t, leM_f, ltM_t, ltM_f, leO_t, leO_f, cond_true, cond_false, Option.bind_some, Option.bind_none, if_false, if_true, nI_1, aL1, aL2, mL1, mL2, nI_add, pk_mul, pk_m1, sL1, dL1, pk_sub, m1p1, gIs_eq, gIs_k, gIs_i, gIs_n, gIs_e, gIJ, gIR, gJI, gJR, gJs_eq, gJs_k, gJs_n, gJs_e, gRI, gRJ, gRs_eq, gRs_k, gRs_i, gRs_n, gZI, gZJ, gZR, pI_s, pJ_s, pV_s, pR_s, pR_n, oR_n, oR_s, decide_true, decide_false, not_true_eq_false, not_false_eq_true, decT, decF, Bool.true_eq_false, Bool.false_eq_true, z01, o01, z1f, z1f', zz, oo, b2i_0, b2i_n, b2i_t, b2i_f, Bool.not_true, Bool.not_false]
    rfl
  · rw [decF c0] at d0
    rw [if_neg c0]
    by_cases c1 : x = kKeep
    · rw [decT c1] at d1
      rw [if_pos c1]
      simp (disch := omega) only [d0, e_X12_wordHere_12, d1, e_X12_wordHere_22, true_and, and_true, false_and, and_false, beq_t, beq_f, eqN_t, eqN_f, eqL_t, eqL_f, nm1, nm2, nm1', nm2', m1z, m2z, zm1, zm2, m12, m21, lg_cmp_ge, lg_cmp_le, lg_cmp_gt, lg_cmp_lt, lg_cmp_eq, oob, oobL, neg0, negL0, natle_f, or_false, false_or, true_or, or_true, or_self, cl, clL, le_t, le_f, lt_t, lt_f, leL_t, leL_f, ltL_t, ltL_f, leM_t, leM_f, ltM_t, ltM_f, leO_t, leO_f, cond_true, cond_false, Option.bind_some, Option.bind_none, if_false, if_true, nI_1, aL1, aL2, mL1, mL2, nI_add, pk_mul, pk_m1, sL1, dL1, pk_sub, m1p1, gIs_eq, gIs_k, gIs_i, gIs_n, gIs_e, gIJ, gIR, gJI, gJR, gJs_eq, gJs_k, gJs_n, gJs_e, gRI, gRJ, gRs_eq, gRs_k, gRs_i, gRs_n, gZI, gZJ, gZR, pI_s, pJ_s, pV_s, pR_s, pR_n, oR_n, oR_s, decide_true, decide_false, not_true_eq_false, not_false_eq_true, decT, decF, Bool.true_eq_false, Bool.false_eq_true, z01, o01, z1f, z1f', zz, oo, b2i_0, b2i_n, b2i_t, b2i_f, Bool.not_true, Bool.not_false]
      rfl
    · rw [decF c1] at d1
      rw [if_neg c1]
      by_cases c2 : x = [116, 101, 108, 108, 115]
      · rw [decT c2] at d2
        rw [if_pos c2]
        simp (disch := omega) only [d0, e_X12_wordHere_12, d1, e_X12_wordHere_24, d2, e_X12_wordHere_34, true_and, and_true, false_and, and_false, beq_t, beq_f, eqN_t, eqN_f, eqL_t, eqL_f, nm1, nm2, nm1', nm2', m1z, m2z, zm1, zm2, m12, m21, lg_cmp_ge, lg_cmp_le, lg_cmp_gt, lg_cmp_lt, lg_cmp_eq, oob, oobL, neg0, negL0, natle_f, or_false, false_or, true_or, or_true, or_self, cl, clL, le_t, le_f, lt_t, lt_f, leL_t, leL_f, ltL_t, ltL_f, leM_t, leM_f, ltM_t, ltM_f, leO_t, leO_f, cond_true, cond_false, Option.bind_some, Option.bind_none, if_false, if_true, nI_1, aL1, aL2, mL1, mL2, nI_add, pk_mul, pk_m1, sL1, dL1, pk_sub, m1p1, gIs_eq, gIs_k, gIs_i, gIs_n, gIs_e, gIJ, gIR, gJI, gJR, gJs_eq, gJs_k, gJs_n, gJs_e, gRI, gRJ, gRs_eq, gRs_k, gRs_i, gRs_n, gZI, gZJ, gZR, pI_s, pJ_s, pV_s, pR_s, pR_n, oR_n, oR_s, decide_true, decide_false, not_true_eq_false, not_false_eq_true, decT, decF, Bool.true_eq_false, Bool.false_eq_true, z01, o01, z1f, z1f', zz, oo, b2i_0, b2i_n, b2i_t, b2i_f, Bool.not_true, Bool.not_false]
        rfl
      · rw [decF c2] at d2
        rw [if_neg c2]
        by_cases c3 : x = [102, 117, 108, 108]
        · rw [decT c3] at d3
          rw [if_pos c3]
          simp (disch := omega) only [d0, e_X12_wordHere_12, d1, e_X12_wordHere_24, d2, e_X12_wordHere_36, d3, e_X12_wordHere_46, true_and, and_true, false_and, and_false, beq_t, beq_f, eqN_t, eqN_f, eqL_t, eqL_f, nm1, nm2, nm1', nm2', m1z, m2z, zm1, zm2, m12, m21, lg_cmp_ge, lg_cmp_le, lg_cmp_gt, lg_cmp_lt, lg_cmp_eq, oob, oobL, neg0, negL0, natle_f, or_false, false_or, true_or, or_true, or_self, cl, clL, le_t, le_f, lt_t, lt_f, leL_t, leL_f, ltL_t, ltL_f, leM_t, leM_f, ltM_t, ltM_f, leO_t, leO_f, cond_true, cond_false, Option.bind_some, Option.bind_none, if_false, if_true, nI_1, aL1, aL2, mL1, mL2, nI_add, pk_mul, pk_m1, sL1, dL1, pk_sub, m1p1, gIs_eq, gIs_k, gIs_i, gIs_n, gIs_e, gIJ, gIR, gJI, gJR, gJs_eq, gJs_k, gJs_n, gJs_e, gRI, gRJ, gRs_eq, gRs_k, gRs_i, gRs_n, gZI, gZJ, gZR, pI_s, pJ_s, pV_s, pR_s, pR_n, oR_n, oR_s, decide_true, decide_false, not_true_eq_false, not_false_eq_true, decT, decF, Bool.true_eq_false, Bool.false_eq_true, z01, o01, z1f, z1f', zz, oo, b2i_0, b2i_n, b2i_t, b2i_f, Bool.not_true, Bool.not_false]
          rfl
        · rw [decF c3] at d3
          rw [if_neg c3]
          by_cases c4 : x = [114, 111, 111, 109]
          · rw [decT c4] at d4
            rw [if_pos c4]
            simp (disch := omega) only [d0, e_X12_wordHere_12, d1, e_X12_wordHere_24, d2, e_X12_wordHere_36, d3, e_X12_wordHere_48, d4, e_X12_wordHere_58, true_and, and_true, false_and, and_false, beq_t, beq_f, eqN_t, eqN_f, eqL_t, eqL_f, nm1, nm2, nm1', nm2', m1z, m2z, zm1, zm2, m12, m21, lg_cmp_ge, lg_cmp_le, lg_cmp_gt, lg_cmp_lt, lg_cmp_eq, oob, oobL, neg0, negL0, natle_f, or_false, false_or, true_or, or_true, or_self, cl, clL, le_t, le_f, lt_t, lt_f, leL_t, leL_f, ltL_t, ltL_f, leM_t, leM_f, ltM_t, ltM_f, leO_t, leO_f, cond_true, cond_false, Option.bind_some, Option.bind_none, if_false, if_true, nI_1, aL1, aL2, mL1, mL2, nI_add, pk_mul, pk_m1, sL1, dL1, pk_sub, m1p1, gIs_eq, gIs_k, gIs_i, gIs_n, gIs_e, gIJ, gIR, gJI, gJR, gJs_eq, gJs_k, gJs_n, gJs_e, gRI, gRJ, gRs_eq, gRs_k, gRs_i, gRs_n, gZI, gZJ, gZR, pI_s, pJ_s, pV_s, pR_s, pR_n, oR_n, oR_s, decide_true, decide_false, not_true_eq_false, not_false_eq_true, decT, decF, Bool.true_eq_false, Bool.false_eq_true, z01, o01, z1f, z1f', zz, oo, b2i_0, b2i_n, b2i_t, b2i_f, Bool.not_true, Bool.not_false]
            rfl
          · rw [decF c4] at d4
            rw [if_neg c4]
            by_cases c5 : x = [104, 101, 97, 116]
            · rw [decT c5] at d5
              rw [if_pos c5]
              simp (disch := omega) only [d0, e_X12_wordHere_12, d1, e_X12_wordHere_24, d2, e_X12_wordHere_36, d3, e_X12_wordHere_48, d4, e_X12_wordHere_60, d5, e_X12_wordHere_70, true_and, and_true, false_and, and_false, beq_t, beq_f, eqN_t, eqN_f, eqL_t, eqL_f, nm1, nm2, nm1', nm2', m1z, m2z, zm1, zm2, m12, m21, lg_cmp_ge, lg_cmp_le, lg_cmp_gt, lg_cmp_lt, lg_cmp_eq, oob, oobL, neg0, negL0, natle_f, or_false, false_or, true_or, or_true, or_self, cl, clL, le_t, le_f, lt_t, lt_f, leL_t, leL_f, ltL_t, ltL_f, leM_t, leM_f, ltM_t, ltM_f, leO_t, leO_f, cond_true, cond_false, Option.bind_some, Option.bind_none, if_false, if_true, nI_1, aL1, aL2, mL1, mL2, nI_add, pk_mul, pk_m1, sL1, dL1, pk_sub, m1p1, gIs_eq, gIs_k, gIs_i, gIs_n, gIs_e, gIJ, gIR, gJI, gJR, gJs_eq, gJs_k, gJs_n, gJs_e, gRI, gRJ, gRs_eq, gRs_k, gRs_i, gRs_n, gZI, gZJ, gZR, pI_s, pJ_s, pV_s, pR_s, pR_n, oR_n, oR_s, decide_true, decide_false, not_true_eq_false, not_false_eq_true, decT, decF, Bool.true_eq_false, Bool.false_eq_true, z01, o01, z1f, z1f', zz, oo, b2i_0, b2i_n, b2i_t, b2i_f, Bool.not_true, Bool.not_false]
              rfl
            · rw [decF c5] at d5
              rw [if_neg c5]
              by_cases c6 : x = [99, 111, 111, 108, 115]
              · rw [decT c6] at d6
                rw [if_pos c6]
                simp (disch := omega) only [d0, e_X12_wordHere_12, d1, e_X12_wordHere_24, d2, e_X12_wordHere_36, d3, e_X12_wordHere_48, d4, e_X12_wordHere_60, d5, e_X12_wordHere_72, d6, e_X12_wordHere_82, true_and, and_true, false_and, and_false, beq_t, beq_f, eqN_t, eqN_f, eqL_t, eqL_f, nm1, nm2, nm1', nm2', m1z, m2z, zm1, zm2, m12, m21, lg_cmp_ge, lg_cmp_le, lg_cmp_gt, lg_cmp_lt, lg_cmp_eq, oob, oobL, neg0, negL0, natle_f, or_false, false_or, true_or, or_true, or_self, cl, clL, le_t, le_f, lt_t, lt_f, leL_t, leL_f, ltL_t, ltL_f, leM_t, leM_f, ltM_t, ltM_f, leO_t, leO_f, cond_true, cond_false, Option.bind_some, Option.bind_none, if_false, if_true, nI_1, aL1, aL2, mL1, mL2, nI_add, pk_mul, pk_m1, sL1, dL1, pk_sub, m1p1, gIs_eq, gIs_k, gIs_i, gIs_n, gIs_e, gIJ, gIR, gJI, gJR, gJs_eq, gJs_k, gJs_n, gJs_e, gRI, gRJ, gRs_eq, gRs_k, gRs_i, gRs_n, gZI, gZJ, gZR, pI_s, pJ_s, pV_s, pR_s, pR_n, oR_n, oR_s, decide_true, decide_false, not_true_eq_false, not_false_eq_true, decT, decF, Bool.true_eq_false, Bool.false_eq_true, z01, o01, z1f, z1f', zz, oo, b2i_0, b2i_n, b2i_t, b2i_f, Bool.not_true, Bool.not_false]
                rfl
              · rw [decF c6] at d6
                rw [if_neg c6]
                by_cases c7 : x = kBeside
                · rw [decT c7] at d7
                  rw [if_pos c7]
                  simp (disch := omega) only [d0, e_X12_wordHere_12, d1, e_X12_wordHere_24, d2, e_X12_wordHere_36, d3, e_X12_wordHere_48, d4, e_X12_wordHere_60, d5, e_X12_wordHere_72, d6, e_X12_wordHere_85, d7, e_X12_wordHere_95, true_and, and_true, false_and, and_false, beq_t, beq_f, eqN_t, eqN_f, eqL_t, eqL_f, nm1, nm2, nm1', nm2', m1z, m2z, zm1, zm2, m12, m21, lg_cmp_ge, lg_cmp_le, lg_cmp_gt, lg_cmp_lt, lg_cmp_eq, oob, oobL, neg0, negL0, natle_f, or_false, false_or, true_or, or_true, or_self, cl, clL, le_t, le_f, lt_t, lt_f, leL_t, leL_f, ltL_t, ltL_f, leM_t, leM_f, ltM_t, ltM_f, leO_t, leO_f, cond_true, cond_false, Option.bind_some, Option.bind_none, if_false, if_true, nI_1, aL1, aL2, mL1, mL2, nI_add, pk_mul, pk_m1, sL1, dL1, pk_sub, m1p1, gIs_eq, gIs_k, gIs_i, gIs_n, gIs_e, gIJ, gIR, gJI, gJR, gJs_eq, gJs_k, gJs_n, gJs_e, gRI, gRJ, gRs_eq, gRs_k, gRs_i, gRs_n, gZI, gZJ, gZR, pI_s, pJ_s, pV_s, pR_s, pR_n, oR_n, oR_s, decide_true, decide_false, not_true_eq_false, not_false_eq_true, decT, decF, Bool.true_eq_false, Bool.false_eq_true, z01, o01, z1f, z1f', zz, oo, b2i_0, b2i_n, b2i_t, b2i_f, Bool.not_true, Bool.not_false]
                  rfl
                · rw [decF c7] at d7
                  rw [if_neg c7]
                  by_cases c8 : x = [111, 116, 104, 101, 114, 115]
                  · rw [decT c8] at d8
                    rw [if_pos c8]
                    simp (disch := omega) only [d0, e_X12_wordHere_12, d1, e_X12_wordHere_24, d2, e_X12_wordHere_36, d3, e_X12_wordHere_48, d4, e_X12_wordHere_60, d5, e_X12_wordHere_72, d6, e_X12_wordHere_85, d7, e_X12_wordHere_98, d8, e_X12_wordHere_108, true_and, and_true, false_and, and_false, beq_t, beq_f, eqN_t, eqN_f, eqL_t, eqL_f, nm1, nm2, nm1', nm2', m1z, m2z, zm1, zm2, m12, m21, lg_cmp_ge, lg_cmp_le, lg_cmp_gt, lg_cmp_lt, lg_cmp_eq, oob, oobL, neg0, negL0, natle_f, or_false, false_or, true_or, or_true, or_self, cl, clL, le_t, le_f, lt_t, lt_f, leL_t, leL_f, ltL_t, ltL_f, leM_t, leM_f, ltM_t, ltM_f, leO_t, leO_f, cond_true, cond_false, Option.bind_some, Option.bind_none, if_false, if_true, nI_1, aL1, aL2, mL1, mL2, nI_add, pk_mul, pk_m1, sL1, dL1, pk_sub, m1p1, gIs_eq, gIs_k, gIs_i, gIs_n, gIs_e, gIJ, gIR, gJI, gJR, gJs_eq, gJs_k, gJs_n, gJs_e, gRI, gRJ, gRs_eq, gRs_k, gRs_i, gRs_n, gZI, gZJ, gZR, pI_s, pJ_s, pV_s, pR_s, pR_n, oR_n, oR_s, decide_true, decide_false, not_true_eq_false, not_false_eq_true, decT, decF, Bool.true_eq_false, Bool.false_eq_true, z01, o01, z1f, z1f', zz, oo, b2i_0, b2i_n, b2i_t, b2i_f, Bool.not_true, Bool.not_false]
                    rfl
                  · rw [decF c8] at d8
                    rw [if_neg c8]
                    by_cases c9 : x = [98, 117, 114, 110, 116]
                    · rw [decT c9] at d9
                      rw [if_pos c9]
                      simp (disch := omega) only [d0, e_X12_wordHere_12, d1, e_X12_wordHere_24, d2, e_X12_wordHere_36, d3, e_X12_wordHere_48, d4, e_X12_wordHere_60, d5, e_X12_wordHere_72, d6, e_X12_wordHere_85, d7, e_X12_wordHere_98, d8, e_X12_wordHere_111, d9, e_X12_wordHere_121, e_X12_wordHere_142, true_and, and_true, false_and, and_false, beq_t, beq_f, eqN_t, eqN_f, eqL_t, eqL_f, nm1, nm2, nm1', nm2', m1z, m2z, zm1, zm2, m12, m21, lg_cmp_ge, lg_cmp_le, lg_cmp_gt, lg_cmp_lt, lg_cmp_eq, oob, oobL, neg0, negL0, natle_f, or_false, false_or, true_or, or_true, or_self, cl, clL, le_t, le_f, lt_t, lt_f, leL_t, leL_f, ltL_t, ltL_f, leM_t, leM_f, ltM_t, ltM_f, leO_t, leO_f, cond_true, cond_false, Option.bind_some, Option.bind_none, if_false, if_true, nI_1, aL1, aL2, mL1, mL2, nI_add, pk_mul, pk_m1, sL1, dL1, pk_sub, m1p1, gIs_eq, gIs_k, gIs_i, gIs_n, gIs_e, gIJ, gIR, gJI, gJR, gJs_eq, gJs_k, gJs_n, gJs_e, gRI, gRJ, gRs_eq, gRs_k, gRs_i, gRs_n, gZI, gZJ, gZR, pI_s, pJ_s, pV_s, pR_s, pR_n, oR_n, oR_s, decide_true, decide_false, not_true_eq_false, not_false_eq_true, decT, decF, Bool.true_eq_false, Bool.false_eq_true, z01, o01, z1f, z1f', zz, oo, b2i_0, b2i_n, b2i_t, b2i_f, Bool.not_true, Bool.not_false]
                      rfl
                    · rw [decF c9] at d9
                      rw [if_neg c9]
                      by_cases c10 : x = [110, 105, 103, 104, 116]
                      · rw [decT c10] at d10
                        rw [if_pos c10]
                        simp (disch := omega) only [d0, e_X12_wordHere_12, d1, e_X12_wordHere_24, d2, e_X12_wordHere_36, d3, e_X12_wordHere_48, d4, e_X12_wordHere_60, d5, e_X12_wordHere_72, d6, e_X12_wordHere_85, d7, e_X12_wordHere_98, d8, e_X12_wordHere_111, d9, e_X12_wordHere_126, d10, e_X12_wordHere_136, e_X12_wordHere_142, true_and, and_true, false_and, and_false, beq_t, beq_f, eqN_t, eqN_f, eqL_t, eqL_f, nm1, nm2, nm1', nm2', m1z, m2z, zm1, zm2, m12, m21, lg_cmp_ge, lg_cmp_le, lg_cmp_gt, lg_cmp_lt, lg_cmp_eq, oob, oobL, neg0, negL0, natle_f, or_false, false_or, true_or, or_true, or_self, cl, clL, le_t, le_f, lt_t, lt_f, leL_t, leL_f, ltL_t, ltL_f, leM_t, leM_f, ltM_t, ltM_f, leO_t, leO_f, cond_true, cond_false, Option.bind_some, Option.bind_none, if_false, if_true, nI_1, aL1, aL2, mL1, mL2, nI_add, pk_mul, pk_m1, sL1, dL1, pk_sub, m1p1, gIs_eq, gIs_k, gIs_i, gIs_n, gIs_e, gIJ, gIR, gJI, gJR, gJs_eq, gJs_k, gJs_n, gJs_e, gRI, gRJ, gRs_eq, gRs_k, gRs_i, gRs_n, gZI, gZJ, gZR, pI_s, pJ_s, pV_s, pR_s, pR_n, oR_n, oR_s, decide_true, decide_false, not_true_eq_false, not_false_eq_true, decT, decF, Bool.true_eq_false, Bool.false_eq_true, z01, o01, z1f, z1f', zz, oo, b2i_0, b2i_n, b2i_t, b2i_f, Bool.not_true, Bool.not_false]
                        rfl
                      · rw [decF c10] at d10
                        rw [if_neg c10]
                        simp (disch := omega) only [d0, e_X12_wordHere_12, d1, e_X12_wordHere_24, d2, e_X12_wordHere_36, d3, e_X12_wordHere_48, d4, e_X12_wordHere_60, d5, e_X12_wordHere_72, d6, e_X12_wordHere_85, d7, e_X12_wordHere_98, d8, e_X12_wordHere_111, d9, e_X12_wordHere_126, d10, e_X12_wordHere_141, e_X12_wordHere_142, true_and, and_true, false_and, and_false, beq_t, beq_f, eqN_t, eqN_f, eqL_t, eqL_f, nm1, nm2, nm1', nm2', m1z, m2z, zm1, zm2, m12, m21, lg_cmp_ge, lg_cmp_le, lg_cmp_gt, lg_cmp_lt, lg_cmp_eq, oob, oobL, neg0, negL0, natle_f, or_false, false_or, true_or, or_true, or_self, cl, clL, le_t, le_f, lt_t, lt_f, leL_t, leL_f, ltL_t, ltL_f, leM_t, leM_f, ltM_t, ltM_f, leO_t, leO_f, cond_true, cond_false, Option.bind_some, Option.bind_none, if_false, if_true, nI_1, aL1, aL2, mL1, mL2, nI_add, pk_mul, pk_m1, sL1, dL1, pk_sub, m1p1, gIs_eq, gIs_k, gIs_i, gIs_n, gIs_e, gIJ, gIR, gJI, gJR, gJs_eq, gJs_k, gJs_n, gJs_e, gRI, gRJ, gRs_eq, gRs_k, gRs_i, gRs_n, gZI, gZJ, gZR, pI_s, pJ_s, pV_s, pR_s, pR_n, oR_n, oR_s, decide_true, decide_false, not_true_eq_false, not_false_eq_true, decT, decF, Bool.true_eq_false, Bool.false_eq_true, z01, o01, z1f, z1f', zz, oo, b2i_0, b2i_n, b2i_t, b2i_f, Bool.not_true, Bool.not_false]
                        rfl
theorem wrd_nil {t : Tp} {q : Nat} (hq : q ≤ t.1) (h : ¬ (q < t.1 ∧ isL (t.2 q) = true)) : wrd t q = [] := by
  have : le t q = q := by
    by_cases c : q < t.1
    · have hb : isL (t.2 q) = false := by
        cases e : isL (t.2 q) with
        | false => rfl
        | true => exact absurd ⟨c, e⟩ h
      rw [le_succ c, if_neg (by rw [hb]; exact Bool.false_ne_true)]
    · have := le_le hq
      omega
  unfold wrd
  rw [this, Nat.sub_self]
  rfl
theorem dg_at {t : Tp} {q : Nat} (hq : q ≤ t.1) (h : ¬ (q < t.1 ∧ isD (t.2 q) = true)) : dg t q = q := by
  by_cases c : q < t.1
  · have hb : isD (t.2 q) = false := by
      cases e : isD (t.2 q) with
      | false => rfl
      | true => exact absurd ⟨c, e⟩ h
    exact rn_at (P := fun i => isD (t.2 i)) hb
  · have := dg_le hq
    omega
theorem ct_ad {a p n : Nat} {L : List Int32} {c : Int32} : ctS a (p, n, L ++ [c]) = sB (ctS a (p, n, L)) (fun s => .inr (adS s c)) := by
  unfold ctS
  show (if n < 60 then _ else _) = sB (if n < 60 then _ else _) _
  by_cases h : n < 60
  · rw [if_pos h, if_pos h]; rfl
  · rw [if_neg h, if_neg h]; rfl
theorem enc_w : ∀ j : Fin 11, 1 + 16 * nI j.val = encS (-1 - nI j.val) := by decide +kernel
theorem enc_n {v : Nat} (h : v ≤ 99999) : 0 + 16 * nI v = encS (nI v) := by
  rw [enc_nm0 h, Int32.zero_add]
  exact mL2
theorem m_value {T : Nat} (hT6 : T < 6) {w : XW} {t : Tp} (hT : TOk2 t) {s : St} (h : MRt T w t s) (hn : s.2.1 ≤ 60) (hl : s.2.2.length ≤ s.1) : RMr T (F_X12_value [.inr (11, 0)] w) w t (vlS t s) := by
  have h4 := hT.1
  obtain ⟨w1, k1, k2, k3⟩ := m_see hT h.1
  have hp := h.1.2.2.2
  have hk := sk_le hp
  have ek := sk_sk hp
  have F1 : Fr (PMv T) w w1 := f8v k3
  have C1 : MRt T w1 t (sk t s.1, s.2) := h.at k3 (fun κ k q => by unfold PM8; omega) k2
  have g8 := k2.2.1
  have dd := m_isDigit hT k2.1 (p := sk t s.1) (by omega)
  unfold vlS
  by_cases cD : sk t s.1 < t.1 ∧ isD (t.2 (sk t s.1)) = true
  · have cL : ¬ (sk t s.1 < t.1 ∧ isL (t.2 (sk t s.1)) = true) := fun z => by
      have := isD_t cD.2
      have := isL_t z.2
      omega
    rw [decT cD.1, cD.2] at dd
    rw [if_neg cL]
    obtain ⟨w2, F2, r2⟩ := m_number hT k2 0 100000 (by omega) (by omega)
    rw [nu_sk hp] at r2
    have en : dn 100000 = 99999 := rfl
    rw [en, nI_0] at r2
    have start : F_X12_value [.inr (11, 0)] w = (q_X12_value_21 (nI (sk t s.1)) w1).bind pI := by
      rw [f_X12_value, e_X12_value_0]
      simp (disch := omega) only [k1, g8, dd, Bool.and_self, true_and, and_true, false_and, and_false, beq_t, beq_f, eqN_t, eqN_f, eqL_t, eqL_f, nm1, nm2, nm1', nm2', m1z, m2z, zm1, zm2, m12, m21, lg_cmp_ge, lg_cmp_le, lg_cmp_gt, lg_cmp_lt, lg_cmp_eq, oob, oobL, neg0, negL0, natle_f, or_false, false_or, true_or, or_true, or_self, cl, clL, le_t, le_f, lt_t, lt_f, leL_t, leL_f, ltL_t, ltL_f, leM_t, leM_f, ltM_t, ltM_f, leO_t, leO_f, cond_true, cond_false, Option.bind_some, Option.bind_none, if_false, if_true, nI_1, aL1, aL2, mL1, mL2, nI_add, pk_mul, pk_m1, sL1, dL1, pk_sub, m1p1, gIs_eq, gIs_k, gIs_i, gIs_n, gIs_e, gIJ, gIR, gJI, gJR, gJs_eq, gJs_k, gJs_n, gJs_e, gRI, gRJ, gRs_eq, gRs_k, gRs_i, gRs_n, gZI, gZJ, gZR, pI_s, pJ_s, pV_s, pR_s, pR_n, oR_n, oR_s, decide_true, decide_false, not_true_eq_false, not_false_eq_true, decT, decF, Bool.true_eq_false, Bool.false_eq_true, z01, o01, z1f, z1f', zz, oo, b2i_0, b2i_n, b2i_t, b2i_f, Bool.not_true, Bool.not_false]
    cases hu : nuS t s.1 0 100000 with
    | inl f =>
      rw [hu] at r2
      refine ⟨w2, F1.trans (flv F2), ?_, r2.2⟩
      have r21 := r2.1
      rw [start, e_X12_value_21]
      simp (disch := omega) only [r21, e_X12_value_39, true_and, and_true, false_and, and_false, beq_t, beq_f, eqN_t, eqN_f, eqL_t, eqL_f, nm1, nm2, nm1', nm2', m1z, m2z, zm1, zm2, m12, m21, lg_cmp_ge, lg_cmp_le, lg_cmp_gt, lg_cmp_lt, lg_cmp_eq, oob, oobL, neg0, negL0, natle_f, or_false, false_or, true_or, or_true, or_self, cl, clL, le_t, le_f, lt_t, lt_f, leL_t, leL_f, ltL_t, ltL_f, leM_t, leM_f, ltM_t, ltM_f, leO_t, leO_f, cond_true, cond_false, Option.bind_some, Option.bind_none, if_false, if_true, nI_1, aL1, aL2, mL1, mL2, nI_add, pk_mul, pk_m1, sL1, dL1, pk_sub, m1p1, gIs_eq, gIs_k, gIs_i, gIs_n, gIs_e, gIJ, gIR, gJI, gJR, gJs_eq, gJs_k, gJs_n, gJs_e, gRI, gRJ, gRs_eq, gRs_k, gRs_i, gRs_n, gZI, gZJ, gZR, pI_s, pJ_s, pV_s, pR_s, pR_n, oR_n, oR_s, decide_true, decide_false, not_true_eq_false, not_false_eq_true, decT, decF, Bool.true_eq_false, Bool.false_eq_true, z01, o01, z1f, z1f', zz, oo, b2i_0, b2i_n, b2i_t, b2i_f, Bool.not_true, Bool.not_false]
    | inr r =>
      obtain ⟨n1, n2, n3, n4⟩ := nu_ok (show nuS t s.1 0 100000 = .inr (r.1, r.2) from hu)
      rw [hu] at r2
      obtain ⟨e, v⟩ := r
      obtain ⟨r1, r3, r4⟩ := r2
      have he := r3.2.2.2
      have n4 : sk t s.1 < e := n4
      have n2 : v < 100000 := n2
      have C2 : MRt T w2 t (e, s.2) := C1.at F2 (fun κ k q => by unfold PMl; omega) r3
      have R := m_makes C2 hn (sk t s.1)
      show RMr T _ w t (ctS (sk t s.1) (e, s.2.1, s.2.2 ++ [nI v]))
      rw [ct_ad]
      refine RMr.fr (w1 := w2) (R.then (fun w' hw => ?_) (fun s' w' hs hw hF hC => ?_)) (F1.trans (flv F2)) rfl
      · rw [start, e_X12_value_21]
        simp (disch := omega) only [r1, e_X12_value_31, hw, e_X12_value_39, true_and, and_true, false_and, and_false, beq_t, beq_f, eqN_t, eqN_f, eqL_t, eqL_f, nm1, nm2, nm1', nm2', m1z, m2z, zm1, zm2, m12, m21, lg_cmp_ge, lg_cmp_le, lg_cmp_gt, lg_cmp_lt, lg_cmp_eq, oob, oobL, neg0, negL0, natle_f, or_false, false_or, true_or, or_true, or_self, cl, clL, le_t, le_f, lt_t, lt_f, leL_t, leL_f, ltL_t, ltL_f, leM_t, leM_f, ltM_t, ltM_f, leO_t, leO_f, cond_true, cond_false, Option.bind_some, Option.bind_none, if_false, if_true, nI_1, aL1, aL2, mL1, mL2, nI_add, pk_mul, pk_m1, sL1, dL1, pk_sub, m1p1, gIs_eq, gIs_k, gIs_i, gIs_n, gIs_e, gIJ, gIR, gJI, gJR, gJs_eq, gJs_k, gJs_n, gJs_e, gRI, gRJ, gRs_eq, gRs_k, gRs_i, gRs_n, gZI, gZJ, gZR, pI_s, pJ_s, pV_s, pR_s, pR_n, oR_n, oR_s, decide_true, decide_false, not_true_eq_false, not_false_eq_true, decT, decF, Bool.true_eq_false, Bool.false_eq_true, z01, o01, z1f, z1f', zz, oo, b2i_0, b2i_n, b2i_t, b2i_f, Bool.not_true, Bool.not_false]
      · obtain ⟨c1, c2⟩ := ct_ok hs
        have g10 : gI w' 11 0 10 = nI v := by
          have q : w' = sI w2 11 0 12 (nI (s.2.1 + 1)) := by
            have hm : F_X12_makes [.inr (11, 0), .inl (.int (nI (sk t s.1)))] w2 = some (1, sI w2 11 0 12 (nI (s.2.1 + 1))) := by
              have h12 : gI w2 11 0 12 = nI s.2.1 := C2.2.1
              have c1 : s.2.1 < 60 := c1
              rw [f_X12_makes, e_X12_makes_0]
              simp (disch := omega) only [h12, e_X12_makes_16, true_and, and_true, false_and, and_false, beq_t, beq_f, eqN_t, eqN_f, eqL_t, eqL_f, nm1, nm2, nm1', nm2', m1z, m2z, zm1, zm2, m12, m21, lg_cmp_ge, lg_cmp_le, lg_cmp_gt, lg_cmp_lt, lg_cmp_eq, oob, oobL, neg0, negL0, natle_f, or_false, false_or, true_or, or_true, or_self, cl, clL, le_t, le_f, lt_t, lt_f, leL_t, leL_f, ltL_t, ltL_f, leM_t, leM_f, ltM_t, ltM_f, leO_t, leO_f, cond_true, cond_false, Option.bind_some, Option.bind_none, if_false, if_true, nI_1, aL1, aL2, mL1, mL2, nI_add, pk_mul, pk_m1, sL1, dL1, pk_sub, m1p1, gIs_eq, gIs_k, gIs_i, gIs_n, gIs_e, gIJ, gIR, gJI, gJR, gJs_eq, gJs_k, gJs_n, gJs_e, gRI, gRJ, gRs_eq, gRs_k, gRs_i, gRs_n, gZI, gZJ, gZR, pI_s, pJ_s, pV_s, pR_s, pR_n, oR_n, oR_s, decide_true, decide_false, not_true_eq_false, not_false_eq_true, decT, decF, Bool.true_eq_false, Bool.false_eq_true, z01, o01, z1f, z1f', zz, oo, b2i_0, b2i_n, b2i_t, b2i_f, Bool.not_true, Bool.not_false]
            rw [hm] at hw
            injection hw with hw
            injection hw with _ hw
            exact hw.symm
          rw [q, gIs_k (by omega)]; exact r4
        have hl' : s'.2.2.length < 400 := by rw [c2]; show s.2.2.length < 400; omega
        obtain ⟨w3, a1, a2, a3⟩ := m_puts hT6 hC hl' (x1 := 0) (x2 := nI v) (enc_n (by omega))
        refine ⟨w3, fPv a3, ?_, a2⟩
        rw [start, e_X12_value_21]
        simp (disch := omega) only [r1, e_X12_value_31, hw, e_X12_value_41, g10, a1, true_and, and_true, false_and, and_false, beq_t, beq_f, eqN_t, eqN_f, eqL_t, eqL_f, nm1, nm2, nm1', nm2', m1z, m2z, zm1, zm2, m12, m21, lg_cmp_ge, lg_cmp_le, lg_cmp_gt, lg_cmp_lt, lg_cmp_eq, oob, oobL, neg0, negL0, natle_f, or_false, false_or, true_or, or_true, or_self, cl, clL, le_t, le_f, lt_t, lt_f, leL_t, leL_f, ltL_t, ltL_f, leM_t, leM_f, ltM_t, ltM_f, leO_t, leO_f, cond_true, cond_false, Option.bind_some, Option.bind_none, if_false, if_true, nI_1, aL1, aL2, mL1, mL2, nI_add, pk_mul, pk_m1, sL1, dL1, pk_sub, m1p1, gIs_eq, gIs_k, gIs_i, gIs_n, gIs_e, gIJ, gIR, gJI, gJR, gJs_eq, gJs_k, gJs_n, gJs_e, gRI, gRJ, gRs_eq, gRs_k, gRs_i, gRs_n, gZI, gZJ, gZR, pI_s, pJ_s, pV_s, pR_s, pR_n, oR_n, oR_s, decide_true, decide_false, not_true_eq_false, not_false_eq_true, decT, decF, Bool.true_eq_false, Bool.false_eq_true, z01, o01, z1f, z1f', zz, oo, b2i_0, b2i_n, b2i_t, b2i_f, Bool.not_true, Bool.not_false]
  · have dd' : F_X12_isDigit [.inr (11, 0), .inl (.int (nI (sk t s.1)))] w1 = some (0, w1) := by
      rw [dd]
      have : (decide (sk t s.1 < t.1) && isD (t.2 (sk t s.1))) = false := by
        by_cases c : sk t s.1 < t.1
        · cases e : isD (t.2 (sk t s.1)) with
          | false => rw [Bool.and_false]
          | true => exact absurd ⟨c, e⟩ cD
        · rw [decF c, Bool.false_and]
      rw [this]
      rfl
    have wh := m_wordHere hT k2 ek
    have start : F_X12_value [.inr (11, 0)] w = (q_X12_value_52 (nI (sk t s.1)) w1).bind pI := by
      rw [f_X12_value, e_X12_value_0]
      simp (disch := omega) only [k1, g8, dd', true_and, and_true, false_and, and_false, beq_t, beq_f, eqN_t, eqN_f, eqL_t, eqL_f, nm1, nm2, nm1', nm2', m1z, m2z, zm1, zm2, m12, m21, lg_cmp_ge, lg_cmp_le, lg_cmp_gt, lg_cmp_lt, lg_cmp_eq, oob, oobL, neg0, negL0, natle_f, or_false, false_or, true_or, or_true, or_self, cl, clL, le_t, le_f, lt_t, lt_f, leL_t, leL_f, ltL_t, ltL_f, leM_t, leM_f, ltM_t, ltM_f, leO_t, leO_f, cond_true, cond_false, Option.bind_some, Option.bind_none, if_false, if_true, nI_1, aL1, aL2, mL1, mL2, nI_add, pk_mul, pk_m1, sL1, dL1, pk_sub, m1p1, gIs_eq, gIs_k, gIs_i, gIs_n, gIs_e, gIJ, gIR, gJI, gJR, gJs_eq, gJs_k, gJs_n, gJs_e, gRI, gRJ, gRs_eq, gRs_k, gRs_i, gRs_n, gZI, gZJ, gZR, pI_s, pJ_s, pV_s, pR_s, pR_n, oR_n, oR_s, decide_true, decide_false, not_true_eq_false, not_false_eq_true, decT, decF, Bool.true_eq_false, Bool.false_eq_true, z01, o01, z1f, z1f', zz, oo, b2i_0, b2i_n, b2i_t, b2i_f, Bool.not_true, Bool.not_false]
    have noW : fdW (lW 1) (wrd t (sk t s.1)) = none → F_X12_value [.inr (11, 0)] w = some (0, sI w1 11 0 9 (nI (1 + 8 * sk t s.1))) := fun e => by
      rw [e] at wh
      have wh : F_X12_wordHere [.inr (11, 0)] w1 = some (-1, w1) := wh
      have kf := m_fails0 (w := w1) (sk t s.1) k2.2.2.1
      rw [start, e_X12_value_52]
      simp (disch := omega) only [wh, e_X12_value_61, kf, true_and, and_true, false_and, and_false, beq_t, beq_f, eqN_t, eqN_f, eqL_t, eqL_f, nm1, nm2, nm1', nm2', m1z, m2z, zm1, zm2, m12, m21, lg_cmp_ge, lg_cmp_le, lg_cmp_gt, lg_cmp_lt, lg_cmp_eq, oob, oobL, neg0, negL0, natle_f, or_false, false_or, true_or, or_true, or_self, cl, clL, le_t, le_f, lt_t, lt_f, leL_t, leL_f, ltL_t, ltL_f, leM_t, leM_f, ltM_t, ltM_f, leO_t, leO_f, cond_true, cond_false, Option.bind_some, Option.bind_none, if_false, if_true, nI_1, aL1, aL2, mL1, mL2, nI_add, pk_mul, pk_m1, sL1, dL1, pk_sub, m1p1, gIs_eq, gIs_k, gIs_i, gIs_n, gIs_e, gIJ, gIR, gJI, gJR, gJs_eq, gJs_k, gJs_n, gJs_e, gRI, gRJ, gRs_eq, gRs_k, gRs_i, gRs_n, gZI, gZJ, gZR, pI_s, pJ_s, pV_s, pR_s, pR_n, oR_n, oR_s, decide_true, decide_false, not_true_eq_false, not_false_eq_true, decT, decF, Bool.true_eq_false, Bool.false_eq_true, z01, o01, z1f, z1f', zz, oo, b2i_0, b2i_n, b2i_t, b2i_f, Bool.not_true, Bool.not_false]
    by_cases cL : sk t s.1 < t.1 ∧ isL (t.2 (sk t s.1)) = true
    · rw [if_pos cL]
      have hle := le_gt cL.1 cL.2
      cases hf : fdW (lW 1) (wrd t (sk t s.1)) with
      | none => exact ⟨_, F1.sI (by unfold PMv; omega), noW hf, gIs_eq⟩
      | some j =>
        have hj : j < 11 := fd_lt (i := 1) (by omega) hf
        rw [hf] at wh
        have wh : F_X12_wordHere [.inr (11, 0)] w1 = some (nI j, w1) := wh
        have R := m_makes C1 hn (sk t s.1)
        show RMr T _ w t (ctS (sk t s.1) (le t (sk t s.1), s.2.1, s.2.2 ++ [-1 - nI j]))
        rw [ct_ad]
        have cc : ctS (sk t s.1) (le t (sk t s.1), s.2.1, s.2.2) = sB (ctS (sk t s.1) (sk t s.1, s.2.1, s.2.2)) (fun s' => .inr (le t (sk t s.1), s'.2)) := by
          unfold ctS
          show (if s.2.1 < 60 then _ else _) = sB (if s.2.1 < 60 then _ else _) _
          by_cases h : s.2.1 < 60
          · rw [if_pos h, if_pos h]; rfl
          · rw [if_neg h, if_neg h]; rfl
        rw [cc, sB_as]
        refine RMr.fr (w1 := w1) (R.then (fun w' hw => ?_) (fun s' w' hs hw hF hC => ?_)) F1 rfl
        · rw [start, e_X12_value_52]
          simp (disch := omega) only [wh, e_X12_value_68, hw, e_X12_value_76, true_and, and_true, false_and, and_false, beq_t, beq_f, eqN_t, eqN_f, eqL_t, eqL_f, nm1, nm2, nm1', nm2', m1z, m2z, zm1, zm2, m12, m21, lg_cmp_ge, lg_cmp_le, lg_cmp_gt, lg_cmp_lt, lg_cmp_eq, oob, oobL, neg0, negL0, natle_f, or_false, false_or, true_or, or_true, or_self, cl, clL, le_t, le_f, lt_t, lt_f, leL_t, leL_f, ltL_t, ltL_f, leM_t, leM_f, ltM_t, ltM_f, leO_t, leO_f, cond_true, cond_false, Option.bind_some, Option.bind_none, if_false, if_true, nI_1, aL1, aL2, mL1, mL2, nI_add, pk_mul, pk_m1, sL1, dL1, pk_sub, m1p1, gIs_eq, gIs_k, gIs_i, gIs_n, gIs_e, gIJ, gIR, gJI, gJR, gJs_eq, gJs_k, gJs_n, gJs_e, gRI, gRJ, gRs_eq, gRs_k, gRs_i, gRs_n, gZI, gZJ, gZR, pI_s, pJ_s, pV_s, pR_s, pR_n, oR_n, oR_s, decide_true, decide_false, not_true_eq_false, not_false_eq_true, decT, decF, Bool.true_eq_false, Bool.false_eq_true, z01, o01, z1f, z1f', zz, oo, b2i_0, b2i_n, b2i_t, b2i_f, Bool.not_true, Bool.not_false]
        · obtain ⟨c1, c2⟩ := ct_ok hs
          have e1 : s'.1 = sk t s.1 := by rw [c2]
          obtain ⟨w2, b1, b2, b3⟩ := m_passWord hT hC.1
          rw [e1] at b2
          have C2 : MRt T w2 t (le t (sk t s.1), s'.2) := hC.at b3 (fun κ k q => by unfold PM8; omega) b2
          have hl' : s'.2.2.length < 400 := by rw [c2]; show s.2.2.length < 400; omega
          obtain ⟨w3, a1, a2, a3⟩ := m_puts hT6 C2 (show (le t (sk t s.1), s'.2).2.2.length < 400 from hl') (x1 := 1) (x2 := nI j) (enc_w ⟨j, hj⟩)
          refine ⟨w3, (f8v b3).trans (fPv a3), ?_, a2⟩
          rw [start, e_X12_value_52]
          simp (disch := omega) only [wh, e_X12_value_68, hw, e_X12_value_78, b1, a1, true_and, and_true, false_and, and_false, beq_t, beq_f, eqN_t, eqN_f, eqL_t, eqL_f, nm1, nm2, nm1', nm2', m1z, m2z, zm1, zm2, m12, m21, lg_cmp_ge, lg_cmp_le, lg_cmp_gt, lg_cmp_lt, lg_cmp_eq, oob, oobL, neg0, negL0, natle_f, or_false, false_or, true_or, or_true, or_self, cl, clL, le_t, le_f, lt_t, lt_f, leL_t, leL_f, ltL_t, ltL_f, leM_t, leM_f, ltM_t, ltM_f, leO_t, leO_f, cond_true, cond_false, Option.bind_some, Option.bind_none, if_false, if_true, nI_1, aL1, aL2, mL1, mL2, nI_add, pk_mul, pk_m1, sL1, dL1, pk_sub, m1p1, gIs_eq, gIs_k, gIs_i, gIs_n, gIs_e, gIJ, gIR, gJI, gJR, gJs_eq, gJs_k, gJs_n, gJs_e, gRI, gRJ, gRs_eq, gRs_k, gRs_i, gRs_n, gZI, gZJ, gZR, pI_s, pJ_s, pV_s, pR_s, pR_n, oR_n, oR_s, decide_true, decide_false, not_true_eq_false, not_false_eq_true, decT, decF, Bool.true_eq_false, Bool.false_eq_true, z01, o01, z1f, z1f', zz, oo, b2i_0, b2i_n, b2i_t, b2i_f, Bool.not_true, Bool.not_false]
    · rw [if_neg cL]
      have e0 : nuS t s.1 0 100000 = .inl (1 + 8 * sk t s.1) := by unfold nuS; rw [if_pos (dg_at hk.2 cD)]
      rw [e0]
      exact ⟨_, F1.sI (by unfold PMv; omega), noW (by rw [wrd_nil hk.2 cL]; rfl), gIs_eq⟩
