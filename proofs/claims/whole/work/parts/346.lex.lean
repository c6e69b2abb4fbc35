/-! ===== texts: blanks, digits, letters; the class's walk along the tape ===== -/
def rnN (P : Nat → Bool) : Nat → Nat → Nat
  | 0, p => p
  | m + 1, p => if P p = true then rnN P m (p + 1) else p
theorem rnN_le {P : Nat → Bool} : ∀ (m p : Nat), p ≤ rnN P m p ∧ rnN P m p ≤ p + m := by
  intro m
  induction m with
  | zero => intro p; exact ⟨Nat.le_refl _, Nat.le_refl _⟩
  | succ m ih =>
    intro p
    unfold rnN
    by_cases h : P p = true
    · rw [if_pos h]; have := ih (p + 1); omega
    · rw [if_neg h]; omega
theorem rnN_all {P : Nat → Bool} : ∀ (m p i : Nat), p ≤ i → i < rnN P m p → P i = true := by
  intro m
  induction m with
  | zero => intro p i h1 h2; exact absurd h2 (by show ¬ i < p; omega)
  | succ m ih =>
    intro p i h1 h2
    unfold rnN at h2
    by_cases h : P p = true
    · rw [if_pos h] at h2
      by_cases e : i = p
      · rw [e]; exact h
      · exact ih (p + 1) i (by omega) h2
    · rw [if_neg h] at h2; omega
theorem rnN_end {P : Nat → Bool} : ∀ (m p : Nat), rnN P m p < p + m → P (rnN P m p) = false := by
  intro m
  induction m with
  | zero => intro p h; exact absurd h (by show ¬ p < p + 0; omega)
  | succ m ih =>
    intro p h
    unfold rnN at h ⊢
    by_cases hp : P p = true
    · rw [if_pos hp] at h ⊢; exact ih (p + 1) (by omega)
    · rw [if_neg hp]; cases q : P p <;> simp_all
def isB (b : Nat) : Bool := decide (b = 32)
def isL (b : Nat) : Bool := decide (97 ≤ b) && decide (b ≤ 122)
def isD (b : Nat) : Bool := decide (48 ≤ b) && decide (b ≤ 57)
abbrev Tp : Type := Nat × (Nat → Nat)
def sk (t : Tp) (p : Nat) : Nat := rnN (fun i => isB (t.2 i)) (t.1 - p) p
def le (t : Tp) (p : Nat) : Nat := rnN (fun i => isL (t.2 i)) (t.1 - p) p
def dg (t : Tp) (p : Nat) : Nat := rnN (fun i => isD (t.2 i)) (t.1 - p) p
def chS (t : Tp) (p : Nat) : Int32 := if p < t.1 then nI (t.2 p) else -1
def TOk2 (t : Tp) : Prop := t.1 ≤ 400 ∧ ∀ i, i < t.1 → t.2 i < 256
theorem sk_le {t : Tp} {p : Nat} (h : p ≤ t.1) : p ≤ sk t p ∧ sk t p ≤ t.1 := by have := rnN_le (P := fun i => isB (t.2 i)) (t.1 - p) p; unfold sk; omega
theorem le_le {t : Tp} {p : Nat} (h : p ≤ t.1) : p ≤ le t p ∧ le t p ≤ t.1 := by have := rnN_le (P := fun i => isL (t.2 i)) (t.1 - p) p; unfold le; omega
theorem dg_le {t : Tp} {p : Nat} (h : p ≤ t.1) : p ≤ dg t p ∧ dg t p ≤ t.1 := by have := rnN_le (P := fun i => isD (t.2 i)) (t.1 - p) p; unfold dg; omega
theorem sk_end {t : Tp} {p : Nat} (h : p ≤ t.1) (hq : sk t p < t.1) : isB (t.2 (sk t p)) = false := rnN_end (P := fun i => isB (t.2 i)) (t.1 - p) p (by unfold sk at hq; omega)
theorem rn_at {P : Nat → Bool} {m p : Nat} (h : P p = false) : rnN P m p = p := by
  cases m with
  | zero => rfl
  | succ m => unfold rnN; rw [h]; rfl
theorem sk_sk {t : Tp} {p : Nat} (h : p ≤ t.1) : sk t (sk t p) = sk t p := by
  by_cases hq : sk t p < t.1
  · exact rn_at (P := fun i => isB (t.2 i)) (sk_end h hq)
  · have h2 := sk_le h
    have : sk t p = t.1 := by omega
    rw [this]
    unfold sk
    rw [Nat.sub_self]
    rfl
theorem sk_of {t : Tp} {p : Nat} (h : p < t.1) (hb : isB (t.2 p) = false) : sk t p = p := rn_at (P := fun i => isB (t.2 i)) hb
/-- the class's walk is at p -/
def CTp (w : XW) (t : Tp) (p : Nat) : Prop := CT w t.1 t.2 ∧ gI w 9 0 2 = nI p ∧ p ≤ t.1
def PT2 (κ _j k : Nat) : Prop := κ = 9 ∧ k = 2
def PTt (κ _j k : Nat) : Prop := κ = 9 ∧ 2 ≤ k
theorem c_byteAt {w : XW} {t : Tp} (h : CT w t.1 t.2) (hT : TOk2 t) {p : Nat} (hp : p < 60000) : F_X10_byteAt [.inr (9, 0), .inl (.int (nI p))] w = some (chS t p, w) := by
  have h4 := hT.1
  have g := h.1
  rw [f_X10_byteAt, e_X10_byteAt_0]
  unfold chS
  by_cases e : p < t.1
  · have g2 := h.2 p e
    rw [if_pos e]
    simp (disch := omega) only [e_X10_byteAt_4, g, e_X10_byteAt_12, e_X10_byteAt_19, g2, e_X10_byteAt_29, true_and, and_true, false_and, and_false, beq_t, beq_f, eqN_t, eqN_f, eqL_t, eqL_f, nm1, nm2, nm1', nm2', m1z, m2z, zm1, zm2, m12, m21, lg_cmp_ge, lg_cmp_le, lg_cmp_gt, lg_cmp_lt, lg_cmp_eq, oob, oobL, neg0, negL0, natle_f, or_false, false_or, true_or, or_true, or_self, cl, clL, le_t, le_f, lt_t, lt_f, leL_t, leL_f, ltL_t, ltL_f, leM_t, leM_f, ltM_t, ltM_f, leO_t, leO_f, cond_true, cond_false, Option.bind_some, Option.bind_none, if_false, if_true, nI_1, aL1, aL2, mL1, mL2, nI_add, pk_mul, pk_m1, sL1, dL1, pk_sub, m1p1, gIs_eq, gIs_k, gIs_i, gIs_n, gIs_e, gIJ, gIR, gJI, gJR, gJs_eq, gJs_k, gJs_n, gJs_e, gRI, gRJ, gRs_eq, gRs_k, gRs_i, gRs_n, gZI, gZJ, gZR, pI_s, pJ_s, pV_s, pR_s, pR_n, oR_n, oR_s, decide_true, decide_false, not_true_eq_false, not_false_eq_true, decT, decF, Bool.true_eq_false, Bool.false_eq_true, z01, o01, z1f, z1f', zz, oo, b2i_0, b2i_n, b2i_t, b2i_f, Bool.not_true, Bool.not_false]
  · rw [if_neg e]
    simp (disch := omega) only [e_X10_byteAt_4, g, e_X10_byteAt_28, e_X10_byteAt_29, true_and, and_true, false_and, and_false, beq_t, beq_f, eqN_t, eqN_f, eqL_t, eqL_f, nm1, nm2, nm1', nm2', m1z, m2z, zm1, zm2, m12, m21, lg_cmp_ge, lg_cmp_le, lg_cmp_gt, lg_cmp_lt, lg_cmp_eq, oob, oobL, neg0, negL0, natle_f, or_false, false_or, true_or, or_true, or_self, cl, clL, le_t, le_f, lt_t, lt_f, leL_t, leL_f, ltL_t, ltL_f, leM_t, leM_f, ltM_t, ltM_f, leO_t, leO_f, cond_true, cond_false, Option.bind_some, Option.bind_none, if_false, if_true, nI_1, aL1, aL2, mL1, mL2, nI_add, pk_mul, pk_m1, sL1, dL1, pk_sub, m1p1, gIs_eq, gIs_k, gIs_i, gIs_n, gIs_e, gIJ, gIR, gJI, gJR, gJs_eq, gJs_k, gJs_n, gJs_e, gRI, gRJ, gRs_eq, gRs_k, gRs_i, gRs_n, gZI, gZJ, gZR, pI_s, pJ_s, pV_s, pR_s, pR_n, oR_n, oR_s, decide_true, decide_false, not_true_eq_false, not_false_eq_true, decT, decF, Bool.true_eq_false, Bool.false_eq_true, z01, o01, z1f, z1f', zz, oo, b2i_0, b2i_n, b2i_t, b2i_f, Bool.not_true, Bool.not_false]
theorem nI32 {b : Nat} (h : b < 256) : decide (¬ nI b = 32) = !isB b := by
  unfold isB
  by_cases e : b = 32
  · rw [e]; decide
  · rw [decF e, decT (show ¬ nI b = 32 from fun q => e ((nI_eq (a := b) (b := 32) (by omega) (by omega)).mp q))]
    rfl
theorem c_signE {w : XW} {t : Tp} (hT : TOk2 t) {p : Nat} (h : CTp w t p) : ∃ w', q_X10_sign_0 w = some (some (.inl (.int (chS t (sk t p)))), w') ∧ CTp w' t (sk t p) ∧ Fr PT2 w w' := by
  have h4 := hT.1
  have key : ∀ m p (w : XW), p + m = t.1 → CTp w t p → ∃ w', q_X10_sign_0 w = some (some (.inl (.int (chS t (rnN (fun i => isB (t.2 i)) m p)))), w') ∧ CTp w' t (rnN (fun i => isB (t.2 i)) m p) ∧ Fr PT2 w w' := by
    intro m
    induction m with
    | zero =>
      intro p w hm h
      obtain ⟨h1, h2, h3⟩ := h
      have g := h1.1
      have b := c_byteAt h1 hT (p := p) (by omega)
      refine ⟨w, ?_, ⟨h1, h2, h3⟩, Fr.refl _ _⟩
      ((try dsimp only); rw [e_X10_sign_0]; simp (disch := omega) only [g, h2, e_X10_sign_37, b, true_and, and_true, false_and, and_false, beq_t, beq_f, eqN_t, eqN_f, eqL_t, eqL_f, nm1, nm2, nm1', nm2', m1z, m2z, zm1, zm2, m12, m21, lg_cmp_ge, lg_cmp_le, lg_cmp_gt, lg_cmp_lt, lg_cmp_eq, oob, oobL, neg0, negL0, natle_f, or_false, false_or, true_or, or_true, or_self, cl, clL, le_t, le_f, lt_t, lt_f, leL_t, leL_f, ltL_t, ltL_f, leM_t, leM_f, ltM_t, ltM_f, leO_t, leO_f, cond_true, cond_false, Option.bind_some, Option.bind_none, if_false, if_true, nI_1, aL1, aL2, mL1, mL2, nI_add, pk_mul, pk_m1, sL1, dL1, pk_sub, m1p1, gIs_eq, gIs_k, gIs_i, gIs_n, gIs_e, gIJ, gIR, gJI, gJR, gJs_eq, gJs_k, gJs_n, gJs_e, gRI, gRJ, gRs_eq, gRs_k, gRs_i, gRs_n, gZI, gZJ, gZR, pI_s, pJ_s, pV_s, pR_s, pR_n, oR_n, oR_s, decide_true, decide_false, not_true_eq_false, not_false_eq_true, decT, decF, Bool.true_eq_false, Bool.false_eq_true, z01, o01, z1f, z1f', zz, oo, b2i_0, b2i_n, b2i_t, b2i_f, Bool.not_true, Bool.not_false])
      rfl
    | succ m ih =>
      intro p w hm h
      obtain ⟨h1, h2, h3⟩ := h
      have g := h1.1
      have b := c_byteAt h1 hT (p := p) (by omega)
      have hb : chS t p = nI (t.2 p) := if_pos (by omega)
      rw [hb] at b
      have h256 := hT.2 p (by omega)
      have e := nI32 h256
      have e2 : rnN (fun i => isB (t.2 i)) (m + 1) p = if isB (t.2 p) = true then rnN (fun i => isB (t.2 i)) m (p + 1) else p := rfl
      rw [e2]
      cases hq : isB (t.2 p) with
      | false =>
        rw [hq] at e
        rw [if_neg Bool.false_ne_true, hb]
        refine ⟨w, ?_, ⟨h1, h2, h3⟩, Fr.refl _ _⟩
        ((try dsimp only); rw [e_X10_sign_0]; simp (disch := omega) only [g, h2, e_X10_sign_11, b, e, e_X10_sign_37, true_and, and_true, false_and, and_false, beq_t, beq_f, eqN_t, eqN_f, eqL_t, eqL_f, nm1, nm2, nm1', nm2', m1z, m2z, zm1, zm2, m12, m21, lg_cmp_ge, lg_cmp_le, lg_cmp_gt, lg_cmp_lt, lg_cmp_eq, oob, oobL, neg0, negL0, natle_f, or_false, false_or, true_or, or_true, or_self, cl, clL, le_t, le_f, lt_t, lt_f, leL_t, leL_f, ltL_t, ltL_f, leM_t, leM_f, ltM_t, ltM_f, leO_t, leO_f, cond_true, cond_false, Option.bind_some, Option.bind_none, if_false, if_true, nI_1, aL1, aL2, mL1, mL2, nI_add, pk_mul, pk_m1, sL1, dL1, pk_sub, m1p1, gIs_eq, gIs_k, gIs_i, gIs_n, gIs_e, gIJ, gIR, gJI, gJR, gJs_eq, gJs_k, gJs_n, gJs_e, gRI, gRJ, gRs_eq, gRs_k, gRs_i, gRs_n, gZI, gZJ, gZR, pI_s, pJ_s, pV_s, pR_s, pR_n, oR_n, oR_s, decide_true, decide_false, not_true_eq_false, not_false_eq_true, decT, decF, Bool.true_eq_false, Bool.false_eq_true, z01, o01, z1f, z1f', zz, oo, b2i_0, b2i_n, b2i_t, b2i_f, Bool.not_true, Bool.not_false])
      | true =>
        rw [hq] at e
        rw [if_pos rfl]
        have F1 : Fr PT2 w (sI w 9 0 2 (nI (p + 1))) := (Fr.refl _ _).sI ⟨rfl, rfl⟩
        obtain ⟨w', k1, k2, k3⟩ := ih (p + 1) (sI w 9 0 2 (nI (p + 1))) (by omega) ⟨h1.fr F1 (fun κ k q => by unfold PT2; omega), gIs_eq, by omega⟩
        refine ⟨w', ?_, k2, F1.trans k3⟩
        rw [← k1]
        ((try dsimp only); rw [e_X10_sign_0]; simp (disch := omega) only [g, h2, e_X10_sign_11, b, e, e_X10_sign_24, true_and, and_true, false_and, and_false, beq_t, beq_f, eqN_t, eqN_f, eqL_t, eqL_f, nm1, nm2, nm1', nm2', m1z, m2z, zm1, zm2, m12, m21, lg_cmp_ge, lg_cmp_le, lg_cmp_gt, lg_cmp_lt, lg_cmp_eq, oob, oobL, neg0, negL0, natle_f, or_false, false_or, true_or, or_true, or_self, cl, clL, le_t, le_f, lt_t, lt_f, leL_t, leL_f, ltL_t, ltL_f, leM_t, leM_f, ltM_t, ltM_f, leO_t, leO_f, cond_true, cond_false, Option.bind_some, Option.bind_none, if_false, if_true, nI_1, aL1, aL2, mL1, mL2, nI_add, pk_mul, pk_m1, sL1, dL1, pk_sub, m1p1, gIs_eq, gIs_k, gIs_i, gIs_n, gIs_e, gIJ, gIR, gJI, gJR, gJs_eq, gJs_k, gJs_n, gJs_e, gRI, gRJ, gRs_eq, gRs_k, gRs_i, gRs_n, gZI, gZJ, gZR, pI_s, pJ_s, pV_s, pR_s, pR_n, oR_n, oR_s, decide_true, decide_false, not_true_eq_false, not_false_eq_true, decT, decF, Bool.true_eq_false, Bool.false_eq_true, z01, o01, z1f, z1f', zz, oo, b2i_0, b2i_n, b2i_t, b2i_f, Bool.not_true, Bool.not_false])
  have h3 := h.2.2
  exact key (t.1 - p) p w (by omega) h
theorem c_sign {w : XW} {t : Tp} (hT : TOk2 t) {p : Nat} (h : CTp w t p) : ∃ w', F_X10_sign [.inr (9, 0)] w = some (chS t (sk t p), w') ∧ CTp w' t (sk t p) ∧ Fr PT2 w w' := by
  obtain ⟨w', k1, k2, k3⟩ := c_signE hT h
  refine ⟨w', ?_, k2, k3⟩
  rw [f_X10_sign, k1]
  rfl
theorem CTp.fr {w w' : XW} {t : Tp} {p : Nat} (h : CTp w t p) {P : Nat → Nat → Nat → Prop} (hF : Fr P w w') (hP : ∀ κ k, (κ = 9 ∧ (k = 1 ∨ k = 2)) ∨ κ = 34 → ¬ P κ 0 k) : CTp w' t p :=
  ⟨h.1.fr hF (fun κ k q => hP κ k (by omega)), by rw [(hF 9 0 2 (hP _ _ (by omega))).1]; exact h.2.1, h.2.2⟩
theorem c_fail {w : XW} (p k : Nat) : F_X10_fail [.inr (9, 0), .inl (.int (nI p)), .inl (.int (nI k))] w = some (0, sI w 9 0 5 (nI (1 + 8 * p + k))) := by
  rw [f_X10_fail, e_X10_fail_0]
  simp (disch := omega) only [true_and, and_true, false_and, and_false, beq_t, beq_f, eqN_t, eqN_f, eqL_t, eqL_f, nm1, nm2, nm1', nm2', m1z, m2z, zm1, zm2, m12, m21, lg_cmp_ge, lg_cmp_le, lg_cmp_gt, lg_cmp_lt, lg_cmp_eq, oob, oobL, neg0, negL0, natle_f, or_false, false_or, true_or, or_true, or_self, cl, clL, le_t, le_f, lt_t, lt_f, leL_t, leL_f, ltL_t, ltL_f, leM_t, leM_f, ltM_t, ltM_f, leO_t, leO_f, cond_true, cond_false, Option.bind_some, Option.bind_none, if_false, if_true, nI_1, aL1, aL2, mL1, mL2, nI_add, pk_mul, pk_m1, sL1, dL1, pk_sub, m1p1, gIs_eq, gIs_k, gIs_i, gIs_n, gIs_e, gIJ, gIR, gJI, gJR, gJs_eq, gJs_k, gJs_n, gJs_e, gRI, gRJ, gRs_eq, gRs_k, gRs_i, gRs_n, gZI, gZJ, gZR, pI_s, pJ_s, pV_s, pR_s, pR_n, oR_n, oR_s, decide_true, decide_false, not_true_eq_false, not_false_eq_true, decT, decF, Bool.true_eq_false, Bool.false_eq_true, z01, o01, z1f, z1f', zz, oo, b2i_0, b2i_n, b2i_t, b2i_f, Bool.not_true, Bool.not_false]
theorem c_fail0 {w : XW} (p : Nat) : F_X10_fail [.inr (9, 0), .inl (.int (nI p)), .inl (.int 0)] w = some (0, sI w 9 0 5 (nI (1 + 8 * p))) := c_fail p 0
theorem c_fail1 {w : XW} (p : Nat) : F_X10_fail [.inr (9, 0), .inl (.int (nI p)), .inl (.int 1)] w = some (0, sI w 9 0 5 (nI (1 + 8 * p + 1))) := c_fail p 1
theorem c_fail2 {w : XW} (p : Nat) : F_X10_fail [.inr (9, 0), .inl (.int (nI p)), .inl (.int 2)] w = some (0, sI w 9 0 5 (nI (1 + 8 * p + 2))) := c_fail p 2
theorem c_fail3 {w : XW} (p : Nat) : F_X10_fail [.inr (9, 0), .inl (.int (nI p)), .inl (.int 3)] w = some (0, sI w 9 0 5 (nI (1 + 8 * p + 3))) := c_fail p 3
theorem c_fail4 {w : XW} (p : Nat) : F_X10_fail [.inr (9, 0), .inl (.int (nI p)), .inl (.int 4)] w = some (0, sI w 9 0 5 (nI (1 + 8 * p + 4))) := c_fail p 4
theorem c_passSign {w : XW} {t : Tp} (hT : TOk2 t) {p : Nat} (h : CTp w t p) (c : Int32) (hc : chS t (sk t p) = c) (hlt : sk t p < t.1) : ∃ w', F_X10_passSign [.inr (9, 0), .inl (.int c)] w = some (1, w') ∧ CTp w' t (sk t p + 1) ∧ Fr PT2 w w' := by
  obtain ⟨w1, k1, k2, k3⟩ := c_sign hT h
  rw [hc] at k1
  have F1 : Fr PT2 w1 (sI w1 9 0 2 (nI (sk t p + 1))) := (Fr.refl _ _).sI ⟨rfl, rfl⟩
  refine ⟨sI w1 9 0 2 (nI (sk t p + 1)), ?_, ⟨k2.1.fr F1 (fun κ k q => by unfold PT2; omega), gIs_eq, by omega⟩, k3.trans F1⟩
  rw [f_X10_passSign, e_X10_passSign_0]
  simp (disch := omega) only [k1, e_X10_passSign_18, k2.2.1, true_and, and_true, false_and, and_false, beq_t, beq_f, eqN_t, eqN_f, eqL_t, eqL_f, nm1, nm2, nm1', nm2', m1z, m2z, zm1, zm2, m12, m21, lg_cmp_ge, lg_cmp_le, lg_cmp_gt, lg_cmp_lt, lg_cmp_eq, oob, oobL, neg0, negL0, natle_f, or_false, false_or, true_or, or_true, or_self, cl, clL, le_t, le_f, lt_t, lt_f, leL_t, leL_f, ltL_t, ltL_f, leM_t, leM_f, ltM_t, ltM_f, leO_t, leO_f, cond_true, cond_false, Option.bind_some, Option.bind_none, if_false, if_true, nI_1, aL1, aL2, mL1, mL2, nI_add, pk_mul, pk_m1, sL1, dL1, pk_sub, m1p1, gIs_eq, gIs_k, gIs_i, gIs_n, gIs_e, gIJ, gIR, gJI, gJR, gJs_eq, gJs_k, gJs_n, gJs_e, gRI, gRJ, gRs_eq, gRs_k, gRs_i, gRs_n, gZI, gZJ, gZR, pI_s, pJ_s, pV_s, pR_s, pR_n, oR_n, oR_s, decide_true, decide_false, not_true_eq_false, not_false_eq_true, decT, decF, Bool.true_eq_false, Bool.false_eq_true, z01, o01, z1f, z1f', zz, oo, b2i_0, b2i_n, b2i_t, b2i_f, Bool.not_true, Bool.not_false]
theorem c_passSignN {w : XW} {t : Tp} (hT : TOk2 t) {p : Nat} (h : CTp w t p) (c : Int32) (hc : ¬ chS t (sk t p) = c) : ∃ w', F_X10_passSign [.inr (9, 0), .inl (.int c)] w = some (0, w') ∧ gI w' 9 0 5 = nI (1 + 8 * sk t p) ∧ Fr PTt w w' := by
  obtain ⟨w1, k1, k2, k3⟩ := c_sign hT h
  have kf := c_fail0 (w := w1) (sk t p)
  have F1 : Fr PTt w1 (sI w1 9 0 5 (nI (1 + 8 * sk t p))) := (Fr.refl _ _).sI ⟨rfl, by omega⟩
  refine ⟨_, ?_, gIs_eq, (k3.mono (fun κ i k q => by unfold PT2 at q; unfold  PTt; omega)).trans F1⟩
  rw [f_X10_passSign, e_X10_passSign_0]
  simp (disch := omega) only [k1, hc, e_X10_passSign_8, k2.2.1, kf, true_and, and_true, false_and, and_false, beq_t, beq_f, eqN_t, eqN_f, eqL_t, eqL_f, nm1, nm2, nm1', nm2', m1z, m2z, zm1, zm2, m12, m21, lg_cmp_ge, lg_cmp_le, lg_cmp_gt, lg_cmp_lt, lg_cmp_eq, oob, oobL, neg0, negL0, natle_f, or_false, false_or, true_or, or_true, or_self, cl, clL, le_t, le_f, lt_t, lt_f, leL_t, leL_f, ltL_t, ltL_f, leM_t, leM_f, ltM_t, ltM_f, leO_t, leO_f, cond_true, cond_false, Option.bind_some, Option.bind_none, if_false, if_true, nI_1, aL1, aL2, mL1, mL2, nI_add, pk_mul, pk_m1, sL1, dL1, pk_sub, m1p1, gIs_eq, gIs_k, gIs_i, gIs_n, gIs_e, gIJ, gIR, gJI, gJR, gJs_eq, gJs_k, gJs_n, gJs_e, gRI, gRJ, gRs_eq, gRs_k, gRs_i, gRs_n, gZI, gZJ, gZR, pI_s, pJ_s, pV_s, pR_s, pR_n, oR_n, oR_s, decide_true, decide_false, not_true_eq_false, not_false_eq_true, decT, decF, Bool.true_eq_false, Bool.false_eq_true, z01, o01, z1f, z1f', zz, oo, b2i_0, b2i_n, b2i_t, b2i_f, Bool.not_true, Bool.not_false]
/-! numbers -/
def nmS (tb : Nat → Nat) (s : Nat) : Nat → Nat
  | 0 => 0
  | n + 1 => nmS tb s n * 10 + (tb (s + n) - 48)
/-- what the first five digits say -/
def nvS (t : Tp) (s : Nat) : Nat := nmS t.2 s (min (dg t s - s) 5)
/-- a number from lo on, below hi: what comes behind it, and it; or the fault -/
def nuS (t : Tp) (p lo hi : Nat) : Nat ⊕ (Nat × Nat) :=
  if dg t (sk t p) = sk t p then .inl (1 + 8 * sk t p) else if dg t (sk t p) - sk t p ≤ 5 ∧ lo ≤ nvS t (sk t p) ∧ nvS t (sk t p) < hi then .inr (dg t (sk t p), nvS t (sk t p)) else .inl (1 + 8 * sk t p + 1)
theorem nmS_lt {tb : Nat → Nat} {s : Nat} : ∀ n, (∀ i, i < n → isD (tb (s + i)) = true) → nmS tb s n < 10 ^ n := by
  intro n
  induction n with
  | zero => intro _; exact Nat.lt_succ_self 0
  | succ n ih =>
    intro h
    have h1 := ih (fun i hi => h i (by omega))
    have h2 := h n (by omega)
    unfold isD at h2
    rw [Bool.and_eq_true] at h2
    have h3 := of_decide_eq_true h2.2
    show nmS tb s n * 10 + (tb (s + n) - 48) < 10 ^ (n + 1)
    rw [Nat.pow_succ]
    omega
theorem nmS_5 {tb : Nat → Nat} {s n : Nat} (hn : n ≤ 5) (h : ∀ i, i < n → isD (tb (s + i)) = true) : nmS tb s n ≤ 99999 := by
  have h1 := nmS_lt n h
  have h2 : 10 ^ n ≤ 10 ^ 5 := Nat.pow_le_pow_right (by omega) hn
  omega
theorem nvS_le {t : Tp} {s : Nat} : nvS t s ≤ 99999 := nmS_5 (by omega) (fun i hi => rnN_all (P := fun i => isD (t.2 i)) (t.1 - s) s (s + i) (by omega) (by show s + i < dg t s; omega))
theorem nI48 {b : Nat} (h : b < 256) : decide (nI b < 48) = !decide (48 ≤ b) := by
  by_cases e : 48 ≤ b
  · rw [decT e]; exact ltM_f (c := 48) e (by omega)
  · rw [decF e]; exact ltM_t (c := 48) (show b < 48 by omega) (by decide)
theorem nI57 {b : Nat} (h : b < 256) : decide (57 < nI b) = !decide (b ≤ 57) := by
  by_cases e : b ≤ 57
  · rw [decT e]; exact ltL_f (c := 57) e (by decide)
  · rw [decF e]; exact ltL_t (c := 57) (show 57 < b by omega) (by omega)
theorem nI97 {b : Nat} (h : b < 256) : decide (nI b < 97) = !decide (97 ≤ b) := by
  by_cases e : 97 ≤ b
  · rw [decT e]; exact ltM_f (c := 97) e (by omega)
  · rw [decF e]; exact ltM_t (c := 97) (show b < 97 by omega) (by decide)
theorem nI122 {b : Nat} (h : b < 256) : decide (122 < nI b) = !decide (b ≤ 122) := by
  by_cases e : b ≤ 122
  · rw [decT e]; exact ltL_f (c := 122) e (by decide)
  · rw [decF e]; exact ltL_t (c := 122) (show 122 < b by omega) (by omega)
