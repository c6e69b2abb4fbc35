/-! ===== counting up and down ===== -/
def cnt (P : Nat → Bool) : Nat → Nat → Nat
  | _, 0 => 0
  | a, m + 1 => (if P a = true then 1 else 0) + cnt P (a + 1) m
def fstD (nn : Int32) (P : Nat → Bool) : Nat → Nat → Int32
  | _, 0 => nn
  | a, m + 1 => if P a = true then nI a else fstD nn P (a + 1) m
theorem cnt_up {P : Nat → Bool} : ∀ (m a : Nat), cnt P a (m + 1) = cnt P a m + (if P (a + m) = true then 1 else 0) := by
  intro m
  induction m with
  | zero => intro a; show (if P a = true then 1 else 0) + 0 = 0 + _; rw [Nat.add_zero, Nat.zero_add, Nat.add_zero]
  | succ m ih =>
    intro a
    show (if P a = true then 1 else 0) + cnt P (a + 1) (m + 1) = (if P a = true then 1 else 0) + cnt P (a + 1) m + _
    rw [ih (a + 1), show a + 1 + m = a + (m + 1) by omega, Nat.add_assoc]
theorem cnt_le {P : Nat → Bool} : ∀ (m a : Nat), cnt P a m ≤ m := by
  intro m
  induction m with
  | zero => intro a; exact Nat.le_refl _
  | succ m ih =>
    intro a
    have := ih (a + 1)
    show (if P a = true then 1 else 0) + cnt P (a + 1) m ≤ m + 1
    by_cases h : P a = true
    · rw [if_pos h]; omega
    · rw [if_neg h]; omega
theorem fstD_up {nn : Int32} {P : Nat → Bool} : ∀ (m a : Nat), (∀ j, j < a + m → ¬ nI j = nn) → fstD nn P a (m + 1) = if fstD nn P a m = nn then (if P (a + m) = true then nI (a + m) else nn) else fstD nn P a m := by
  intro m
  induction m with
  | zero =>
    intro a _
    show (if P a = true then nI a else nn) = if nn = nn then _ else _
    rw [if_pos rfl]
    rfl
  | succ m ih =>
    intro a h
    show (if P a = true then nI a else fstD nn P (a + 1) (m + 1)) = if (if P a = true then nI a else fstD nn P (a + 1) m) = nn then _ else (if P a = true then nI a else fstD nn P (a + 1) m)
    by_cases hp : P a = true
    · rw [if_pos hp, if_pos hp, if_neg (h a (by omega))]
    · rw [if_neg hp, if_neg hp, ih (a + 1) (fun j hj => h j (by omega)), show a + 1 + m = a + (m + 1) by omega]
theorem fstD_none {nn : Int32} {P : Nat → Bool} : ∀ (m a : Nat), fstD nn P a m = nn ∨ ∃ j, a ≤ j ∧ j < a + m ∧ fstD nn P a m = nI j := by
  intro m
  induction m with
  | zero => intro a; exact Or.inl rfl
  | succ m ih =>
    intro a
    show (if P a = true then nI a else fstD nn P (a + 1) m) = nn ∨ _
    by_cases hp : P a = true
    · exact Or.inr ⟨a, Nat.le_refl _, by omega, if_pos hp⟩
    · rcases ih (a + 1) with q | ⟨j, h1, h2, h3⟩
      · left; rw [if_neg hp]; exact q
      · right; exact ⟨j, by omega, by omega, by show (if P a = true then nI a else fstD nn P (a + 1) m) = _; rw [if_neg hp]; exact h3⟩
def dn : Nat → Int32
  | 0 => -1
  | t + 1 => nI t
theorem dn_m1 (t : Nat) : nI t + (-1) = dn t := by
  cases t with
  | zero => rfl
  | succ t => exact pk_m1 t
/-! ===== silent ===== -/
theorem pc_bits {d : Dl} (hD : DOk d) (pl : Ar) (v : XW) : F_X12_bits [.inl (.int (brS d pl))] v = some (pcS (brS d pl), v) := by
  obtain ⟨br, br1, br2⟩ := bts_lt (fun k => decide (pl k = -2)) hD.1.2
  rw [show brS d pl = nI br from br2]
  exact p_X12_bits br1 v
def wgM (d : Dl) (r : Option Rl) (ts : Ar) (n : Nat) (s : Sc) : Int32 := pcS (brS d (nightsS d r ts n s).2.2.2.1)
def wgF (d : Dl) (r : Option Rl) (ts : Ar) (n : Nat) (s : Sc) : Int32 := faS d (nightsS d r ts n s)
def wgT (x many much : Int32) (a : Int32 × Int32 × Int32) : Int32 × Int32 × Int32 := if many < a.2.1 ∨ (many = a.2.1 ∧ ¬ much ≤ a.2.2) then (x, many, much) else a
theorem i32_tri (a b : Int32) : a < b ∨ a = b ∨ b < a := by
  rw [Int32.lt_iff_toInt_lt, Int32.lt_iff_toInt_lt]
  rcases Int.lt_trichotomy a.toInt b.toInt with h | h | h
  · exact Or.inl h
  · exact Or.inr (Or.inl (Int32.toInt_inj.mp h))
  · exact Or.inr (Or.inr h)
theorem i32_irr (a : Int32) : ¬ a < a := fun h => by
  rw [Int32.lt_iff_toInt_lt] at h
  omega
theorem i32_asym {a b : Int32} (h : a < b) : ¬ b < a := fun h2 => by
  rw [Int32.lt_iff_toInt_lt] at h h2
  omega
theorem i32_ne {a b : Int32} (h : a < b) : ¬ b = a ∧ ¬ a = b := ⟨fun q => by rw [q] at h; exact i32_irr _ h, fun q => by rw [q] at h; exact i32_irr _ h⟩
theorem i32_nle {a b : Int32} : (¬ a ≤ b) = (b < a) := propext ⟨fun h => Int32.not_le.mp h, fun h => Int32.not_le.mpr h⟩
theorem m_weighs {w : XW} {d : Dl} {s : Sc} {r : Option Rl} {ts' : Ar} {f mu : Int32} (h : RunM w d s r (tlS d)) (hk : KeptM w s f) (hD : DOk d) (hS : SOk d s) (hmu : Mu d (tlS d) mu ts') (n : Nat) (hn : n ≤ 100) :
    ∃ w', F_X12_weighs [.inr (11, 0), .inl (.int (nI n)), .inl (.int mu)] w = some w' ∧ RunM w' d s r (tlS d) ∧ KeptM w' s f ∧ Fr PQm w w' ∧ (gI w' 11 0 31, gI w' 11 0 32, gI w' 11 0 33) = if mu < 0 then (mu, wgM d r ts' n s, wgF d r ts' n s) else wgT mu (wgM d r ts' n s) (wgF d r ts' n s) (gI w 11 0 31, gI w 11 0 32, gI w 11 0 33) := by
  have F0 : Fr (fun κ _ k => κ = 11 ∧ k = 23) w (sI w 11 0 23 mu) := (Fr.refl _ _).sI ⟨rfl, rfl⟩
  obtain ⟨w1, a1, a2, a3⟩ := p_X12_passesAll d hD r (tlS d) ts' mu s hS (tl_ok hD) hmu n hn (sI w 11 0 23 mu) (h.1.fr F0 (fun k q => by omega)) (h.2.1.fr F0 (fun k q => by omega)) (h.2.2.1.fr F0 (fun k q => by omega)) (h.2.2.2.1.fr F0 (fun κ k q => by omega)) gIs_eq
  have F1 : Fr (fun κ _ k => κ = 11 ∧ k = 23) w1 (sI w1 11 0 23 (-1)) := (Fr.refl _ _).sI ⟨rfl, rfl⟩
  have b1 : MdAt (sI w1 11 0 23 (-1)) d := ((h.1.fr F0 (fun k q => by omega)).fr a3 (fun k q => by unfold PMn; omega)).fr F1 (fun k q => by omega)
  have b2 : MsAt (sI w1 11 0 23 (-1)) (nightsS d r ts' n s) := a2.fr F1 (fun k q => by omega)
  have hk2 : KeptM (sI w1 11 0 23 (-1)) s f := (((hk.fr F0 (fun k => by omega) (by omega)).fr a3 (fun k => by unfold PMn; omega) (by unfold PMn; omega))).fr F1 (fun k => by omega) (by omega)
  have hrun : RunM (sI w1 11 0 23 (-1)) d (nightsS d r ts' n s) r (tlS d) := ⟨b1, ((h.2.1.fr F0 (fun k q => by omega)).fr a3 (fun k q => by unfold PMn; omega)).fr F1 (fun k q => by omega), b2, ((h.2.2.2.1.fr F0 (fun κ k q => by omega)).fr a3 (fun κ k q => by unfold PMn; omega)).fr F1 (fun κ k q => by omega), gIs_eq⟩
  obtain ⟨w3, c3, c4, c5, c6⟩ := m_laysBack hrun hk2
  have hF : Fr PQm w w3 := (((F0.mono (fun κ i k q => by unfold PQm; omega)).trans (a3.mono (fun κ i k q => by unfold PMn at q; unfold  PQm; omega))).trans (F1.mono (fun κ i k q => by unfold PQm; omega))).trans (c6.mono (fun κ i k q => by unfold P50s at q; unfold  PQm; omega))
  have g : ∀ k, k = 31 ∨ k = 32 ∨ k = 33 → gI w3 11 0 k = gI w 11 0 k := fun k hk => by
    rw [(c6 11 0 k (by unfold P50s; omega)).1, (F1 11 0 k (by omega)).1, (a3 11 0 k (by unfold PMn; omega)).1, (F0 11 0 k (by omega)).1]
  have g1 := g 31 (by omega)
  have g2 := g 32 (by omega)
  have g3 := g 33 (by omega)
  have take : ∃ w', (q_X12_weighs_65 mu (wgM d r ts' n s) (wgF d r ts' n s) w3).bind pV = some w' ∧ RunM w' d s r (tlS d) ∧ KeptM w' s f ∧ Fr PQm w w' ∧ (gI w' 11 0 31, gI w' 11 0 32, gI w' 11 0 33) = (mu, wgM d r ts' n s, wgF d r ts' n s) := by
    have F3 : Fr (fun κ _ k => κ = 11 ∧ (k = 31 ∨ k = 32 ∨ k = 33)) w3 (sI (sI (sI w3 11 0 31 mu) 11 0 32 (wgM d r ts' n s)) 11 0 33 (wgF d r ts' n s)) := by
      refine Fr.sI (Fr.sI (Fr.sI (Fr.refl _ _) ?_) ?_) ?_ <;> exact ⟨rfl, by omega⟩
    refine ⟨_, by rw [e_X12_weighs_65]; rfl, c4.fr F3 (fun κ k q => by omega), c5.fr F3 (fun k => by omega) (by omega), hF.trans (F3.mono (fun κ i k q => by unfold PQm; omega)), ?_⟩
    simp (disch := omega) only [true_and, and_true, false_and, and_false, beq_t, beq_f, eqN_t, eqN_f, eqL_t, eqL_f, nm1, nm2, nm1', nm2', m1z, m2z, zm1, zm2, m12, m21, lg_cmp_ge, lg_cmp_le, lg_cmp_gt, lg_cmp_lt, lg_cmp_eq, oob, oobL, neg0, negL0, natle_f, or_false, false_or, true_or, or_true, or_self, cl, clL, le_t, le_f, lt_t, lt_f, leL_t, leL_f, ltL_t, ltL_f, leM_t, leM_f, ltM_t, ltM_f, leO_t, leO_f, cond_true, cond_false, Option.bind_some, Option.bind_none, if_false, if_true, nI_1, aL1, aL2, mL1, mL2, nI_add, pk_mul, pk_m1, sL1, dL1, pk_sub, m1p1, gIs_eq, gIs_k, gIs_i, gIs_n, gIs_e, gIJ, gIR, gJI, gJR, gJs_eq, gJs_k, gJs_n, gJs_e, gRI, gRJ, gRs_eq, gRs_k, gRs_i, gRs_n, gZI, gZJ, gZR, pI_s, pJ_s, pV_s, pR_s, pR_n, oR_n, oR_s, decide_true, decide_false, not_true_eq_false, not_false_eq_true, decT, decF, Bool.true_eq_false, Bool.false_eq_true, z01, o01, z1f, z1f', zz, oo, b2i_0, b2i_n, b2i_t, b2i_f, Bool.not_true, Bool.not_false]
  have skip : ∃ w', (q_X12_weighs_64 w3).bind pV = some w' ∧ RunM w' d s r (tlS d) ∧ KeptM w' s f ∧ Fr PQm w w' ∧ (gI w' 11 0 31, gI w' 11 0 32, gI w' 11 0 33) = (gI w 11 0 31, gI w 11 0 32, gI w 11 0 33) :=
    ⟨w3, by rw [e_X12_weighs_64]; rfl, c4, c5, hF, by rw [g1, g2, g3]⟩
  rw [f_X12_weighs, e_X12_weighs_0, a1]
  simp (disch := omega) only [p_onesB d hD _ _ b1 b2, pc_bits hD, m_fullAll b1 b2 hD, c3, true_and, and_true, false_and, and_false, beq_t, beq_f, eqN_t, eqN_f, eqL_t, eqL_f, nm1, nm2, nm1', nm2', m1z, m2z, zm1, zm2, m12, m21, lg_cmp_ge, lg_cmp_le, lg_cmp_gt, lg_cmp_lt, lg_cmp_eq, oob, oobL, neg0, negL0, natle_f, or_false, false_or, true_or, or_true, or_self, cl, clL, le_t, le_f, lt_t, lt_f, leL_t, leL_f, ltL_t, ltL_f, leM_t, leM_f, ltM_t, ltM_f, leO_t, leO_f, cond_true, cond_false, Option.bind_some, Option.bind_none, if_false, if_true, nI_1, aL1, aL2, mL1, mL2, nI_add, pk_mul, pk_m1, sL1, dL1, pk_sub, m1p1, gIs_eq, gIs_k, gIs_i, gIs_n, gIs_e, gIJ, gIR, gJI, gJR, gJs_eq, gJs_k, gJs_n, gJs_e, gRI, gRJ, gRs_eq, gRs_k, gRs_i, gRs_n, gZI, gZJ, gZR, pI_s, pJ_s, pV_s, pR_s, pR_n, oR_n, oR_s, decide_true, decide_false, not_true_eq_false, not_false_eq_true, decT, decF, Bool.true_eq_false, Bool.false_eq_true, z01, o01, z1f, z1f', zz, oo, b2i_0, b2i_n, b2i_t, b2i_f, Bool.not_true, Bool.not_false]
  rw [show pcS (brS d (nightsS d r ts' n s).2.2.2.1) = wgM d r ts' n s from rfl, show faS d (nightsS d r ts' n s) = wgF d r ts' n s from rfl]
  by_cases hm : mu < 0
  · simp (disch := omega) only [hm, true_and, and_true, false_and, and_false, beq_t, beq_f, eqN_t, eqN_f, eqL_t, eqL_f, nm1, nm2, nm1', nm2', m1z, m2z, zm1, zm2, m12, m21, lg_cmp_ge, lg_cmp_le, lg_cmp_gt, lg_cmp_lt, lg_cmp_eq, oob, oobL, neg0, negL0, natle_f, or_false, false_or, true_or, or_true, or_self, cl, clL, le_t, le_f, lt_t, lt_f, leL_t, leL_f, ltL_t, ltL_f, leM_t, leM_f, ltM_t, ltM_f, leO_t, leO_f, cond_true, cond_false, Option.bind_some, Option.bind_none, if_false, if_true, nI_1, aL1, aL2, mL1, mL2, nI_add, pk_mul, pk_m1, sL1, dL1, pk_sub, m1p1, gIs_eq, gIs_k, gIs_i, gIs_n, gIs_e, gIJ, gIR, gJI, gJR, gJs_eq, gJs_k, gJs_n, gJs_e, gRI, gRJ, gRs_eq, gRs_k, gRs_i, gRs_n, gZI, gZJ, gZR, pI_s, pJ_s, pV_s, pR_s, pR_n, oR_n, oR_s, decide_true, decide_false, not_true_eq_false, not_false_eq_true, decT, decF, Bool.true_eq_false, Bool.false_eq_true, z01, o01, z1f, z1f', zz, oo, b2i_0, b2i_n, b2i_t, b2i_f, Bool.not_true, Bool.not_false]
    exact take
  · simp (disch := omega) only [hm, e_X12_weighs_39, g2, true_and, and_true, false_and, and_false, beq_t, beq_f, eqN_t, eqN_f, eqL_t, eqL_f, nm1, nm2, nm1', nm2', m1z, m2z, zm1, zm2, m12, m21, lg_cmp_ge, lg_cmp_le, lg_cmp_gt, lg_cmp_lt, lg_cmp_eq, oob, oobL, neg0, negL0, natle_f, or_false, false_or, true_or, or_true, or_self, cl, clL, le_t, le_f, lt_t, lt_f, leL_t, leL_f, ltL_t, ltL_f, leM_t, leM_f, ltM_t, ltM_f, leO_t, leO_f, cond_true, cond_false, Option.bind_some, Option.bind_none, if_false, if_true, nI_1, aL1, aL2, mL1, mL2, nI_add, pk_mul, pk_m1, sL1, dL1, pk_sub, m1p1, gIs_eq, gIs_k, gIs_i, gIs_n, gIs_e, gIJ, gIR, gJI, gJR, gJs_eq, gJs_k, gJs_n, gJs_e, gRI, gRJ, gRs_eq, gRs_k, gRs_i, gRs_n, gZI, gZJ, gZR, pI_s, pJ_s, pV_s, pR_s, pR_n, oR_n, oR_s, decide_true, decide_false, not_true_eq_false, not_false_eq_true, decT, decF, Bool.true_eq_false, Bool.false_eq_true, z01, o01, z1f, z1f', zz, oo, b2i_0, b2i_n, b2i_t, b2i_f, Bool.not_true, Bool.not_false]
    unfold wgT
    dsimp only
    rcases i32_tri (wgM d r ts' n s) (gI w 11 0 32) with q | q | q
    · have q1 := i32_asym q
      have q2 := (i32_ne q).2
      simp (disch := omega) only [q, q1, e_X12_weighs_47, g2, q2, true_and, and_true, false_and, and_false, beq_t, beq_f, eqN_t, eqN_f, eqL_t, eqL_f, nm1, nm2, nm1', nm2', m1z, m2z, zm1, zm2, m12, m21, lg_cmp_ge, lg_cmp_le, lg_cmp_gt, lg_cmp_lt, lg_cmp_eq, oob, oobL, neg0, negL0, natle_f, or_false, false_or, true_or, or_true, or_self, cl, clL, le_t, le_f, lt_t, lt_f, leL_t, leL_f, ltL_t, ltL_f, leM_t, leM_f, ltM_t, ltM_f, leO_t, leO_f, cond_true, cond_false, Option.bind_some, Option.bind_none, if_false, if_true, nI_1, aL1, aL2, mL1, mL2, nI_add, pk_mul, pk_m1, sL1, dL1, pk_sub, m1p1, gIs_eq, gIs_k, gIs_i, gIs_n, gIs_e, gIJ, gIR, gJI, gJR, gJs_eq, gJs_k, gJs_n, gJs_e, gRI, gRJ, gRs_eq, gRs_k, gRs_i, gRs_n, gZI, gZJ, gZR, pI_s, pJ_s, pV_s, pR_s, pR_n, oR_n, oR_s, decide_true, decide_false, not_true_eq_false, not_false_eq_true, decT, decF, Bool.true_eq_false, Bool.false_eq_true, z01, o01, z1f, z1f', zz, oo, b2i_0, b2i_n, b2i_t, b2i_f, Bool.not_true, Bool.not_false]
      exact take
    · have q1 : ¬ gI w 11 0 32 < wgM d r ts' n s := by rw [q]; exact i32_irr _
      have q2 : ¬ wgM d r ts' n s < gI w 11 0 32 := by rw [q]; exact i32_irr _
      simp (disch := omega) only [q1, q2, e_X12_weighs_47, g2, true_and, and_true, false_and, and_false, beq_t, beq_f, eqN_t, eqN_f, eqL_t, eqL_f, nm1, nm2, nm1', nm2', m1z, m2z, zm1, zm2, m12, m21, lg_cmp_ge, lg_cmp_le, lg_cmp_gt, lg_cmp_lt, lg_cmp_eq, oob, oobL, neg0, negL0, natle_f, or_false, false_or, true_or, or_true, or_self, cl, clL, le_t, le_f, lt_t, lt_f, leL_t, leL_f, ltL_t, ltL_f, leM_t, leM_f, ltM_t, ltM_f, leO_t, leO_f, cond_true, cond_false, Option.bind_some, Option.bind_none, if_false, if_true, nI_1, aL1, aL2, mL1, mL2, nI_add, pk_mul, pk_m1, sL1, dL1, pk_sub, m1p1, gIs_eq, gIs_k, gIs_i, gIs_n, gIs_e, gIJ, gIR, gJI, gJR, gJs_eq, gJs_k, gJs_n, gJs_e, gRI, gRJ, gRs_eq, gRs_k, gRs_i, gRs_n, gZI, gZJ, gZR, pI_s, pJ_s, pV_s, pR_s, pR_n, oR_n, oR_s, decide_true, decide_false, not_true_eq_false, not_false_eq_true, decT, decF, Bool.true_eq_false, Bool.false_eq_true, z01, o01, z1f, z1f', zz, oo, b2i_0, b2i_n, b2i_t, b2i_f, Bool.not_true, Bool.not_false]
      by_cases q3 : gI w 11 0 33 < wgF d r ts' n s
      · simp (disch := omega) only [q, e_X12_weighs_55, g3, q3, i32_nle, true_and, and_true, false_and, and_false, beq_t, beq_f, eqN_t, eqN_f, eqL_t, eqL_f, nm1, nm2, nm1', nm2', m1z, m2z, zm1, zm2, m12, m21, lg_cmp_ge, lg_cmp_le, lg_cmp_gt, lg_cmp_lt, lg_cmp_eq, oob, oobL, neg0, negL0, natle_f, or_false, false_or, true_or, or_true, or_self, cl, clL, le_t, le_f, lt_t, lt_f, leL_t, leL_f, ltL_t, ltL_f, leM_t, leM_f, ltM_t, ltM_f, leO_t, leO_f, cond_true, cond_false, Option.bind_some, Option.bind_none, if_false, if_true, nI_1, aL1, aL2, mL1, mL2, nI_add, pk_mul, pk_m1, sL1, dL1, pk_sub, m1p1, gIs_eq, gIs_k, gIs_i, gIs_n, gIs_e, gIJ, gIR, gJI, gJR, gJs_eq, gJs_k, gJs_n, gJs_e, gRI, gRJ, gRs_eq, gRs_k, gRs_i, gRs_n, gZI, gZJ, gZR, pI_s, pJ_s, pV_s, pR_s, pR_n, oR_n, oR_s, decide_true, decide_false, not_true_eq_false, not_false_eq_true, decT, decF, Bool.true_eq_false, Bool.false_eq_true, z01, o01, z1f, z1f', zz, oo, b2i_0, b2i_n, b2i_t, b2i_f, Bool.not_true, Bool.not_false]
        rw [q] at take
        exact take
      · simp (disch := omega) only [q, e_X12_weighs_55, g3, q3, i32_nle, true_and, and_true, false_and, and_false, beq_t, beq_f, eqN_t, eqN_f, eqL_t, eqL_f, nm1, nm2, nm1', nm2', m1z, m2z, zm1, zm2, m12, m21, lg_cmp_ge, lg_cmp_le, lg_cmp_gt, lg_cmp_lt, lg_cmp_eq, oob, oobL, neg0, negL0, natle_f, or_false, false_or, true_or, or_true, or_self, cl, clL, le_t, le_f, lt_t, lt_f, leL_t, leL_f, ltL_t, ltL_f, leM_t, leM_f, ltM_t, ltM_f, leO_t, leO_f, cond_true, cond_false, Option.bind_some, Option.bind_none, if_false, if_true, nI_1, aL1, aL2, mL1, mL2, nI_add, pk_mul, pk_m1, sL1, dL1, pk_sub, m1p1, gIs_eq, gIs_k, gIs_i, gIs_n, gIs_e, gIJ, gIR, gJI, gJR, gJs_eq, gJs_k, gJs_n, gJs_e, gRI, gRJ, gRs_eq, gRs_k, gRs_i, gRs_n, gZI, gZJ, gZR, pI_s, pJ_s, pV_s, pR_s, pR_n, oR_n, oR_s, decide_true, decide_false, not_true_eq_false, not_false_eq_true, decT, decF, Bool.true_eq_false, Bool.false_eq_true, z01, o01, z1f, z1f', zz, oo, b2i_0, b2i_n, b2i_t, b2i_f, Bool.not_true, Bool.not_false]
        exact skip
    · have q1 := i32_asym q
      have q2 := (i32_ne q).1
      simp (disch := omega) only [q, q1, q2, true_and, and_true, false_and, and_false, beq_t, beq_f, eqN_t, eqN_f, eqL_t, eqL_f, nm1, nm2, nm1', nm2', m1z, m2z, zm1, zm2, m12, m21, lg_cmp_ge, lg_cmp_le, lg_cmp_gt, lg_cmp_lt, lg_cmp_eq, oob, oobL, neg0, negL0, natle_f, or_false, false_or, true_or, or_true, or_self, cl, clL, le_t, le_f, lt_t, lt_f, leL_t, leL_f, ltL_t, ltL_f, leM_t, leM_f, ltM_t, ltM_f, leO_t, leO_f, cond_true, cond_false, Option.bind_some, Option.bind_none, if_false, if_true, nI_1, aL1, aL2, mL1, mL2, nI_add, pk_mul, pk_m1, sL1, dL1, pk_sub, m1p1, gIs_eq, gIs_k, gIs_i, gIs_n, gIs_e, gIJ, gIR, gJI, gJR, gJs_eq, gJs_k, gJs_n, gJs_e, gRI, gRJ, gRs_eq, gRs_k, gRs_i, gRs_n, gZI, gZJ, gZR, pI_s, pJ_s, pV_s, pR_s, pR_n, oR_n, oR_s, decide_true, decide_false, not_true_eq_false, not_false_eq_true, decT, decF, Bool.true_eq_false, Bool.false_eq_true, z01, o01, z1f, z1f', zz, oo, b2i_0, b2i_n, b2i_t, b2i_f, Bool.not_true, Bool.not_false]
      exact skip
theorem pn_ge {d : Dl} {k : Nat} (hD : DOk d) (hk : k < pn d) : nI k < 0 ↔ False := ⟨fun h => nI_pos (by have := hD.2.1.2; omega) h, False.elim⟩
theorem q_silent {d : Dl} {s : Sc} {rs : List Rl} {f : Int32} (hO : OX d s rs f) (x y : Int32) : QOk d s rs f (F_X11_silent [.inr (10, 0), .inl (.int x), .inl (.int y)]) (F_X12_silent [.inr (11, 0), .inl (.int x), .inl (.int y)]) := by
  have hD := hO.1.1
  have h5 := hD.2.1.2
  have hS := hO.2.1.1
  have hTs := tl_ok hD
  rcases told01 hO.1.2 with ht | ht
  · by_cases c1 : (¬ x < 1 ∧ ¬ 40 < x)
    · by_cases c2 : (¬ y < 0 ∧ ¬ 2 < y)
      · obtain ⟨n, hn1, hn, rfl⟩ := rngL 1 40 (by omega) (by omega) c1
        obtain ⟨q, _, hq, rfl⟩ := rngL 0 2 (by omega) (by omega) c2
        have hq3 : q = 0 ∨ q = 1 ∨ q = 2 := by omega
        generalize hr : curR rs f = r
        generalize ha0 : ((-1 : Int32), wgM d r (tlS d) n s, wgF d r (tlS d) n s) = a0
        generalize hst : (fun k => wgT (nI k) (wgM d r (upd (tlS d) k 0) n s) (wgF d r (upd (tlS d) k 0) n s)) = st
        have hst' : ∀ k a, st k a = wgT (nI k) (wgM d r (upd (tlS d) k 0) n s) (wgF d r (upd (tlS d) k 0) n s) a := fun k a => by rw [← hst]
        -- the class, one of them
        have one : ∀ w, CX w d s rs f → ∀ (mu : Int32) (ts' : Ar), Mu d (tlS d) mu ts' → ∃ w', Fr PQc w w' ∧ ∀ x3 x4 x5, q_X11_silent_55 (nI n) (nI q) x3 x4 x5 mu w = (bif decide (mu = (-1)) then (q_X11_silent_122 (nI n) (nI q) mu (wgM d r ts' n s) (wgF d r ts' n s) w') else (q_X11_silent_101 (nI n) (nI q) x3 x4 x5 mu (wgM d r ts' n s) (wgF d r ts' n s) w')) := by
          intro w hC mu ts' hmu
          obtain ⟨w1, a1, a2, a3⟩ := c_start hC hO
          rw [hr] at a2
          have : ∃ w2, F_X4_nowTells [.inr (3, 0), .inl (.int mu), .inl (.int 0)] w1 = some w2 ∧ RunC w2 d s r ts' ∧ Fr PQc w1 w2 := by
            rcases hmu with ⟨rfl, rfl⟩ | ⟨p, hp, rfl, rfl⟩
            · exact ⟨w1, c_nowTells0 0 w1, a2, Fr.refl _ _⟩
            · exact c_nowTells a2 (by omega) 0
          obtain ⟨w2, b1, b2, b3⟩ := this
          obtain ⟨w3, d1, d2, d3⟩ := c_goOn b2 hD hS (hmu.ok hTs) n (by omega)
          obtain ⟨jd, jr, y1, y2, y3, y4, y5, y6⟩ := d2
          refine ⟨w3, (a3.trans b3).trans d3, fun x3 x4 x5 => ?_⟩
          rw [e_X11_silent_55, a1]
          simp (disch := omega) only [b1, d1, c_burntBits y4 y5 hD, p_bitCount, c_fullAll y4 y5 hD, true_and, and_true, false_and, and_false, beq_t, beq_f, eqN_t, eqN_f, eqL_t, eqL_f, nm1, nm2, nm1', nm2', m1z, m2z, zm1, zm2, m12, m21, lg_cmp_ge, lg_cmp_le, lg_cmp_gt, lg_cmp_lt, lg_cmp_eq, oob, oobL, neg0, negL0, natle_f, or_false, false_or, true_or, or_true, or_self, cl, clL, le_t, le_f, lt_t, lt_f, leL_t, leL_f, ltL_t, ltL_f, leM_t, leM_f, ltM_t, ltM_f, leO_t, leO_f, cond_true, cond_false, Option.bind_some, Option.bind_none, if_false, if_true, nI_1, aL1, aL2, mL1, mL2, nI_add, pk_mul, pk_m1, sL1, dL1, pk_sub, m1p1, gIs_eq, gIs_k, gIs_i, gIs_n, gIs_e, gIJ, gIR, gJI, gJR, gJs_eq, gJs_k, gJs_n, gJs_e, gRI, gRJ, gRs_eq, gRs_k, gRs_i, gRs_n, gZI, gZJ, gZR, pI_s, pJ_s, pV_s, pR_s, pR_n, oR_n, oR_s, decide_true, decide_false, not_true_eq_false, not_false_eq_true, decT, decF, Bool.true_eq_false, Bool.false_eq_true, z01, o01, z1f, z1f', zz, oo, b2i_0, b2i_n, b2i_t, b2i_f, Bool.not_true, Bool.not_false]
          rfl
        refine ⟨if q = 0 then (itr st 0 (pn d) a0).1 else if q = 1 then (itr st 0 (pn d) a0).2.1 else (itr st 0 (pn d) a0).2.2, fun w hC => ?_, fun w hM => ?_⟩
        · obtain ⟨w1, e1, e2⟩ := one w hC (-1) (tlS d) (Or.inl ⟨rfl, rfl⟩)
          have hC1 := hC.fr e1
          obtain ⟨a', w2, b1, b2, b3, b4⟩ := loopA (pn d) (fun k a v => q_X11_silent_43 (nI n) (nI q) a.1 a.2.1 a.2.2 (nI k) v) (fun a v => q_X11_silent_139 (nI q) a.1 a.2.1 a.2.2 v) (fun k a v => CX v d s rs f ∧ Fr PQc w v ∧ a = itr st 0 k a0) (a := a0) (s := w1) ⟨hC1, e1, rfl⟩ (fun k a v hk hi => by
              obtain ⟨i1, i2, i3⟩ := hi
              obtain ⟨u, u1, u2⟩ := one v i1 (nI k) _ (Or.inr ⟨k, hk, rfl, rfl⟩)
              have u2 := u2 a.1 a.2.1 a.2.2
              obtain ⟨jd, x1, x2⟩ := i1.1
              have g : gI v 1 jd 4 = nI (pn d) := by rw [x2.1 4 (by omega)]; exact hD.2.1.1
              rw [itr_succ, Nat.zero_add, ← i3, hst']
              unfold wgT
              rw [e_X11_silent_43]
              simp (disch := omega) only [x1, g, u2, true_and, and_true, false_and, and_false, beq_t, beq_f, eqN_t, eqN_f, eqL_t, eqL_f, nm1, nm2, nm1', nm2', m1z, m2z, zm1, zm2, m12, m21, lg_cmp_ge, lg_cmp_le, lg_cmp_gt, lg_cmp_lt, lg_cmp_eq, oob, oobL, neg0, negL0, natle_f, or_false, false_or, true_or, or_true, or_self, cl, clL, le_t, le_f, lt_t, lt_f, leL_t, leL_f, ltL_t, ltL_f, leM_t, leM_f, ltM_t, ltM_f, leO_t, leO_f, cond_true, cond_false, Option.bind_some, Option.bind_none, if_false, if_true, nI_1, aL1, aL2, mL1, mL2, nI_add, pk_mul, pk_m1, sL1, dL1, pk_sub, m1p1, gIs_eq, gIs_k, gIs_i, gIs_n, gIs_e, gIJ, gIR, gJI, gJR, gJs_eq, gJs_k, gJs_n, gJs_e, gRI, gRJ, gRs_eq, gRs_k, gRs_i, gRs_n, gZI, gZJ, gZR, pI_s, pJ_s, pV_s, pR_s, pR_n, oR_n, oR_s, decide_true, decide_false, not_true_eq_false, not_false_eq_true, decT, decF, Bool.true_eq_false, Bool.false_eq_true, z01, o01, z1f, z1f', zz, oo, b2i_0, b2i_n, b2i_t, b2i_f, Bool.not_true, Bool.not_false]
              rcases i32_tri (wgM d r (upd (tlS d) k 0) n s) a.2.1 with q1 | q1 | q1
              · simp (disch := omega) only [e_X11_silent_101, q1, e_X11_silent_122, e_X11_silent_133, true_and, and_true, false_and, and_false, beq_t, beq_f, eqN_t, eqN_f, eqL_t, eqL_f, nm1, nm2, nm1', nm2', m1z, m2z, zm1, zm2, m12, m21, lg_cmp_ge, lg_cmp_le, lg_cmp_gt, lg_cmp_lt, lg_cmp_eq, oob, oobL, neg0, negL0, natle_f, or_false, false_or, true_or, or_true, or_self, cl, clL, le_t, le_f, lt_t, lt_f, leL_t, leL_f, ltL_t, ltL_f, leM_t, leM_f, ltM_t, ltM_f, leO_t, leO_f, cond_true, cond_false, Option.bind_some, Option.bind_none, if_false, if_true, nI_1, aL1, aL2, mL1, mL2, nI_add, pk_mul, pk_m1, sL1, dL1, pk_sub, m1p1, gIs_eq, gIs_k, gIs_i, gIs_n, gIs_e, gIJ, gIR, gJI, gJR, gJs_eq, gJs_k, gJs_n, gJs_e, gRI, gRJ, gRs_eq, gRs_k, gRs_i, gRs_n, gZI, gZJ, gZR, pI_s, pJ_s, pV_s, pR_s, pR_n, oR_n, oR_s, decide_true, decide_false, not_true_eq_false, not_false_eq_true, decT, decF, Bool.true_eq_false, Bool.false_eq_true, z01, o01, z1f, z1f', zz, oo, b2i_0, b2i_n, b2i_t, b2i_f, Bool.not_true, Bool.not_false]
                exact ⟨(_, _, _), _, rfl, i1.fr u1, i2.trans u1, rfl⟩
              · have q2 : ¬ wgM d r (upd (tlS d) k 0) n s < a.2.1 := by rw [q1]; exact i32_irr _
                by_cases q3 : wgF d r (upd (tlS d) k 0) n s ≤ a.2.2
                · have i0 := i32_irr a.2.1
                  simp (disch := omega) only [e_X11_silent_101, q1, i0, q3, e_X11_silent_108, e_X11_silent_115, e_X11_silent_133, true_and, and_true, false_and, and_false, beq_t, beq_f, eqN_t, eqN_f, eqL_t, eqL_f, nm1, nm2, nm1', nm2', m1z, m2z, zm1, zm2, m12, m21, lg_cmp_ge, lg_cmp_le, lg_cmp_gt, lg_cmp_lt, lg_cmp_eq, oob, oobL, neg0, negL0, natle_f, or_false, false_or, true_or, or_true, or_self, cl, clL, le_t, le_f, lt_t, lt_f, leL_t, leL_f, ltL_t, ltL_f, leM_t, leM_f, ltM_t, ltM_f, leO_t, leO_f, cond_true, cond_false, Option.bind_some, Option.bind_none, if_false, if_true, nI_1, aL1, aL2, mL1, mL2, nI_add, pk_mul, pk_m1, sL1, dL1, pk_sub, m1p1, gIs_eq, gIs_k, gIs_i, gIs_n, gIs_e, gIJ, gIR, gJI, gJR, gJs_eq, gJs_k, gJs_n, gJs_e, gRI, gRJ, gRs_eq, gRs_k, gRs_i, gRs_n, gZI, gZJ, gZR, pI_s, pJ_s, pV_s, pR_s, pR_n, oR_n, oR_s, decide_true, decide_false, not_true_eq_false, not_false_eq_true, decT, decF, Bool.true_eq_false, Bool.false_eq_true, z01, o01, z1f, z1f', zz, oo, b2i_0, b2i_n, b2i_t, b2i_f, Bool.not_true, Bool.not_false]
                  exact ⟨a, _, rfl, i1.fr u1, i2.trans u1, rfl⟩
                · have i0 := i32_irr a.2.1
                  simp (disch := omega) only [e_X11_silent_101, q1, i0, q3, e_X11_silent_108, e_X11_silent_115, e_X11_silent_122, e_X11_silent_133, true_and, and_true, false_and, and_false, beq_t, beq_f, eqN_t, eqN_f, eqL_t, eqL_f, nm1, nm2, nm1', nm2', m1z, m2z, zm1, zm2, m12, m21, lg_cmp_ge, lg_cmp_le, lg_cmp_gt, lg_cmp_lt, lg_cmp_eq, oob, oobL, neg0, negL0, natle_f, or_false, false_or, true_or, or_true, or_self, cl, clL, le_t, le_f, lt_t, lt_f, leL_t, leL_f, ltL_t, ltL_f, leM_t, leM_f, ltM_t, ltM_f, leO_t, leO_f, cond_true, cond_false, Option.bind_some, Option.bind_none, if_false, if_true, nI_1, aL1, aL2, mL1, mL2, nI_add, pk_mul, pk_m1, sL1, dL1, pk_sub, m1p1, gIs_eq, gIs_k, gIs_i, gIs_n, gIs_e, gIJ, gIR, gJI, gJR, gJs_eq, gJs_k, gJs_n, gJs_e, gRI, gRJ, gRs_eq, gRs_k, gRs_i, gRs_n, gZI, gZJ, gZR, pI_s, pJ_s, pV_s, pR_s, pR_n, oR_n, oR_s, decide_true, decide_false, not_true_eq_false, not_false_eq_true, decT, decF, Bool.true_eq_false, Bool.false_eq_true, z01, o01, z1f, z1f', zz, oo, b2i_0, b2i_n, b2i_t, b2i_f, Bool.not_true, Bool.not_false]
                  exact ⟨(_, _, _), _, rfl, i1.fr u1, i2.trans u1, rfl⟩
              · have q2 := i32_asym q1
                have q3 := (i32_ne q1).1
                simp (disch := omega) only [e_X11_silent_101, q2, q3, e_X11_silent_108, e_X11_silent_133, true_and, and_true, false_and, and_false, beq_t, beq_f, eqN_t, eqN_f, eqL_t, eqL_f, nm1, nm2, nm1', nm2', m1z, m2z, zm1, zm2, m12, m21, lg_cmp_ge, lg_cmp_le, lg_cmp_gt, lg_cmp_lt, lg_cmp_eq, oob, oobL, neg0, negL0, natle_f, or_false, false_or, true_or, or_true, or_self, cl, clL, le_t, le_f, lt_t, lt_f, leL_t, leL_f, ltL_t, ltL_f, leM_t, leM_f, ltM_t, ltM_f, leO_t, leO_f, cond_true, cond_false, Option.bind_some, Option.bind_none, if_false, if_true, nI_1, aL1, aL2, mL1, mL2, nI_add, pk_mul, pk_m1, sL1, dL1, pk_sub, m1p1, gIs_eq, gIs_k, gIs_i, gIs_n, gIs_e, gIJ, gIR, gJI, gJR, gJs_eq, gJs_k, gJs_n, gJs_e, gRI, gRJ, gRs_eq, gRs_k, gRs_i, gRs_n, gZI, gZJ, gZR, pI_s, pJ_s, pV_s, pR_s, pR_n, oR_n, oR_s, decide_true, decide_false, not_true_eq_false, not_false_eq_true, decT, decF, Bool.true_eq_false, Bool.false_eq_true, z01, o01, z1f, z1f', zz, oo, b2i_0, b2i_n, b2i_t, b2i_f, Bool.not_true, Bool.not_false]
                exact ⟨a, _, rfl, i1.fr u1, i2.trans u1, rfl⟩) (fun a v hi => by
              obtain ⟨jd, x1, x2⟩ := hi.1.1
              have g : gI v 1 jd 4 = nI (pn d) := by rw [x2.1 4 (by omega)]; exact hD.2.1.1
              ((try dsimp only); rw [e_X11_silent_43]; simp (disch := omega) only [x1, g, true_and, and_true, false_and, and_false, beq_t, beq_f, eqN_t, eqN_f, eqL_t, eqL_f, nm1, nm2, nm1', nm2', m1z, m2z, zm1, zm2, m12, m21, lg_cmp_ge, lg_cmp_le, lg_cmp_gt, lg_cmp_lt, lg_cmp_eq, oob, oobL, neg0, negL0, natle_f, or_false, false_or, true_or, or_true, or_self, cl, clL, le_t, le_f, lt_t, lt_f, leL_t, leL_f, ltL_t, ltL_f, leM_t, leM_f, ltM_t, ltM_f, leO_t, leO_f, cond_true, cond_false, Option.bind_some, Option.bind_none, if_false, if_true, nI_1, aL1, aL2, mL1, mL2, nI_add, pk_mul, pk_m1, sL1, dL1, pk_sub, m1p1, gIs_eq, gIs_k, gIs_i, gIs_n, gIs_e, gIJ, gIR, gJI, gJR, gJs_eq, gJs_k, gJs_n, gJs_e, gRI, gRJ, gRs_eq, gRs_k, gRs_i, gRs_n, gZI, gZJ, gZR, pI_s, pJ_s, pV_s, pR_s, pR_n, oR_n, oR_s, decide_true, decide_false, not_true_eq_false, not_false_eq_true, decT, decF, Bool.true_eq_false, Bool.false_eq_true, z01, o01, z1f, z1f', zz, oo, b2i_0, b2i_n, b2i_t, b2i_f, Bool.not_true, Bool.not_false]))
          rw [← b4]
          refine ⟨w2, ?_, b3⟩
          have e2 := e2 (-1) 0 0
          rw [show decide ((-1 : Int32) = -1) = true from rfl, cond_true, e_X11_silent_122, e_X11_silent_133, m1p1, show q_X11_silent_43 (nI n) (nI q) (-1) (wgM d r (tlS d) n s) (wgF d r (tlS d) n s) (nI 0) w1 = q_X11_silent_43 (nI n) (nI q) a0.1 a0.2.1 a0.2.2 (nI 0) w1 from by rw [← ha0]] at e2
          rw [b1] at e2
          obtain ⟨⟨jd, x1, x2⟩, _⟩ := hC
          have t0 := x2.1 0 (by omega)
          have g : decide (gI w 1 jd 4 ≤ -1) = false := by
            rw [x2.1 4 (by omega), hD.2.1.1]
            exact decF (fun q => by
              rw [Int32.le_iff_toInt_le, nI_toInt (by omega), show (-1 : Int32).toInt = -1 from by decide] at q
              omega)
          rw [f_X11_silent, e_X11_silent_0]
          simp (disch := omega) only [x1, t0, ht, e_X11_silent_10, p_within, c1, e_X11_silent_20, c2, e_X11_silent_32, true_and, and_true, false_and, and_false, beq_t, beq_f, eqN_t, eqN_f, eqL_t, eqL_f, nm1, nm2, nm1', nm2', m1z, m2z, zm1, zm2, m12, m21, lg_cmp_ge, lg_cmp_le, lg_cmp_gt, lg_cmp_lt, lg_cmp_eq, oob, oobL, neg0, negL0, natle_f, or_false, false_or, true_or, or_true, or_self, cl, clL, le_t, le_f, lt_t, lt_f, leL_t, leL_f, ltL_t, ltL_f, leM_t, leM_f, ltM_t, ltM_f, leO_t, leO_f, cond_true, cond_false, Option.bind_some, Option.bind_none, if_false, if_true, nI_1, aL1, aL2, mL1, mL2, nI_add, pk_mul, pk_m1, sL1, dL1, pk_sub, m1p1, gIs_eq, gIs_k, gIs_i, gIs_n, gIs_e, gIJ, gIR, gJI, gJR, gJs_eq, gJs_k, gJs_n, gJs_e, gRI, gRJ, gRs_eq, gRs_k, gRs_i, gRs_n, gZI, gZJ, gZR, pI_s, pJ_s, pV_s, pR_s, pR_n, oR_n, oR_s, decide_true, decide_false, not_true_eq_false, not_false_eq_true, decT, decF, Bool.true_eq_false, Bool.false_eq_true, z01, o01, z1f, z1f', zz, oo, b2i_0, b2i_n, b2i_t, b2i_f, Bool.not_true, Bool.not_false]
          rw [e_X11_silent_43]
          simp (disch := omega) only [x1, g, e2, true_and, and_true, false_and, and_false, beq_t, beq_f, eqN_t, eqN_f, eqL_t, eqL_f, nm1, nm2, nm1', nm2', m1z, m2z, zm1, zm2, m12, m21, lg_cmp_ge, lg_cmp_le, lg_cmp_gt, lg_cmp_lt, lg_cmp_eq, oob, oobL, neg0, negL0, natle_f, or_false, false_or, true_or, or_true, or_self, cl, clL, le_t, le_f, lt_t, lt_f, leL_t, leL_f, ltL_t, ltL_f, leM_t, leM_f, ltM_t, ltM_f, leO_t, leO_f, cond_true, cond_false, Option.bind_some, Option.bind_none, if_false, if_true, nI_1, aL1, aL2, mL1, mL2, nI_add, pk_mul, pk_m1, sL1, dL1, pk_sub, m1p1, gIs_eq, gIs_k, gIs_i, gIs_n, gIs_e, gIJ, gIR, gJI, gJR, gJs_eq, gJs_k, gJs_n, gJs_e, gRI, gRJ, gRs_eq, gRs_k, gRs_i, gRs_n, gZI, gZJ, gZR, pI_s, pJ_s, pV_s, pR_s, pR_n, oR_n, oR_s, decide_true, decide_false, not_true_eq_false, not_false_eq_true, decT, decF, Bool.true_eq_false, Bool.false_eq_true, z01, o01, z1f, z1f', zz, oo, b2i_0, b2i_n, b2i_t, b2i_f, Bool.not_true, Bool.not_false]
          rcases hq3 with rfl | rfl | rfl
          · ((try dsimp only); rw [e_X11_silent_139]; simp (disch := omega) only [e_X11_silent_143, true_and, and_true, false_and, and_false, beq_t, beq_f, eqN_t, eqN_f, eqL_t, eqL_f, nm1, nm2, nm1', nm2', m1z, m2z, zm1, zm2, m12, m21, lg_cmp_ge, lg_cmp_le, lg_cmp_gt, lg_cmp_lt, lg_cmp_eq, oob, oobL, neg0, negL0, natle_f, or_false, false_or, true_or, or_true, or_self, cl, clL, le_t, le_f, lt_t, lt_f, leL_t, leL_f, ltL_t, ltL_f, leM_t, leM_f, ltM_t, ltM_f, leO_t, leO_f, cond_true, cond_false, Option.bind_some, Option.bind_none, if_false, if_true, nI_1, aL1, aL2, mL1, mL2, nI_add, pk_mul, pk_m1, sL1, dL1, pk_sub, m1p1, gIs_eq, gIs_k, gIs_i, gIs_n, gIs_e, gIJ, gIR, gJI, gJR, gJs_eq, gJs_k, gJs_n, gJs_e, gRI, gRJ, gRs_eq, gRs_k, gRs_i, gRs_n, gZI, gZJ, gZR, pI_s, pJ_s, pV_s, pR_s, pR_n, oR_n, oR_s, decide_true, decide_false, not_true_eq_false, not_false_eq_true, decT, decF, Bool.true_eq_false, Bool.false_eq_true, z01, o01, z1f, z1f', zz, oo, b2i_0, b2i_n, b2i_t, b2i_f, Bool.not_true, Bool.not_false])
          · ((try dsimp only); rw [e_X11_silent_139]; simp (disch := omega) only [e_X11_silent_145, e_X11_silent_150, e_X11_silent_157, true_and, and_true, false_and, and_false, beq_t, beq_f, eqN_t, eqN_f, eqL_t, eqL_f, nm1, nm2, nm1', nm2', m1z, m2z, zm1, zm2, m12, m21, lg_cmp_ge, lg_cmp_le, lg_cmp_gt, lg_cmp_lt, lg_cmp_eq, oob, oobL, neg0, negL0, natle_f, or_false, false_or, true_or, or_true, or_self, cl, clL, le_t, le_f, lt_t, lt_f, leL_t, leL_f, ltL_t, ltL_f, leM_t, leM_f, ltM_t, ltM_f, leO_t, leO_f, cond_true, cond_false, Option.bind_some, Option.bind_none, if_false, if_true, nI_1, aL1, aL2, mL1, mL2, nI_add, pk_mul, pk_m1, sL1, dL1, pk_sub, m1p1, gIs_eq, gIs_k, gIs_i, gIs_n, gIs_e, gIJ, gIR, gJI, gJR, gJs_eq, gJs_k, gJs_n, gJs_e, gRI, gRJ, gRs_eq, gRs_k, gRs_i, gRs_n, gZI, gZJ, gZR, pI_s, pJ_s, pV_s, pR_s, pR_n, oR_n, oR_s, decide_true, decide_false, not_true_eq_false, not_false_eq_true, decT, decF, Bool.true_eq_false, Bool.false_eq_true, z01, o01, z1f, z1f', zz, oo, b2i_0, b2i_n, b2i_t, b2i_f, Bool.not_true, Bool.not_false])
            rfl
          · ((try dsimp only); rw [e_X11_silent_139]; simp (disch := omega) only [e_X11_silent_145, e_X11_silent_155, e_X11_silent_157, true_and, and_true, false_and, and_false, beq_t, beq_f, eqN_t, eqN_f, eqL_t, eqL_f, nm1, nm2, nm1', nm2', m1z, m2z, zm1, zm2, m12, m21, lg_cmp_ge, lg_cmp_le, lg_cmp_gt, lg_cmp_lt, lg_cmp_eq, oob, oobL, neg0, negL0, natle_f, or_false, false_or, true_or, or_true, or_self, cl, clL, le_t, le_f, lt_t, lt_f, leL_t, leL_f, ltL_t, ltL_f, leM_t, leM_f, ltM_t, ltM_f, leO_t, leO_f, cond_true, cond_false, Option.bind_some, Option.bind_none, if_false, if_true, nI_1, aL1, aL2, mL1, mL2, nI_add, pk_mul, pk_m1, sL1, dL1, pk_sub, m1p1, gIs_eq, gIs_k, gIs_i, gIs_n, gIs_e, gIJ, gIR, gJI, gJR, gJs_eq, gJs_k, gJs_n, gJs_e, gRI, gRJ, gRs_eq, gRs_k, gRs_i, gRs_n, gZI, gZJ, gZR, pI_s, pJ_s, pV_s, pR_s, pR_n, oR_n, oR_s, decide_true, decide_false, not_true_eq_false, not_false_eq_true, decT, decF, Bool.true_eq_false, Bool.false_eq_true, z01, o01, z1f, z1f', zz, oo, b2i_0, b2i_n, b2i_t, b2i_f, Bool.not_true, Bool.not_false])
            rfl
        · obtain ⟨w0, a1, a2, a3, a4⟩ := m_keeps (hM.run hO) hM.2.2.2.2.1
          rw [hr] at a2
          obtain ⟨w1, e1, e2, e3, e4, e5⟩ := m_weighs a2 a3 hD hS (Or.inl ⟨rfl, rfl⟩) n (by omega)
          rw [if_pos (by decide), ha0] at e5
          obtain ⟨w2, b1, b2, b3, b4, b5⟩ := loop0 (pn d) (fun k v => q_X12_silent_40 (nI n) (nI q) (nI k) v) (fun v => q_X12_silent_62 (nI q) v) (fun k v => RunM v d s r (tlS d) ∧ KeptM v s f ∧ Fr PQm w v ∧ (gI v 11 0 31, gI v 11 0 32, gI v 11 0 33) = itr st 0 k a0) (s := w1) ⟨e2, e3, a4.trans e4, e5⟩ (fun k v hk hi => by
              obtain ⟨i1, i2, i3, i4⟩ := hi
              obtain ⟨u, u1, u2, u3, u4, u5⟩ := m_weighs i1 i2 hD hS (Or.inr ⟨k, hk, rfl, rfl⟩) n (by omega)
              have g : gI v 50 0 4 = nI (pn d) := by rw [i1.1.1 4 (by omega)]; exact hD.2.1.1
              rw [if_neg (nI_pos (by omega)), i4, ← hst'] at u5
              refine ⟨u, ?_, u2, u3, i3.trans u4, by rw [itr_succ, Nat.zero_add]; exact u5⟩
              ((try dsimp only); rw [e_X12_silent_40]; simp (disch := omega) only [g, e_X12_silent_50, u1, true_and, and_true, false_and, and_false, beq_t, beq_f, eqN_t, eqN_f, eqL_t, eqL_f, nm1, nm2, nm1', nm2', m1z, m2z, zm1, zm2, m12, m21, lg_cmp_ge, lg_cmp_le, lg_cmp_gt, lg_cmp_lt, lg_cmp_eq, oob, oobL, neg0, negL0, natle_f, or_false, false_or, true_or, or_true, or_self, cl, clL, le_t, le_f, lt_t, lt_f, leL_t, leL_f, ltL_t, ltL_f, leM_t, leM_f, ltM_t, ltM_f, leO_t, leO_f, cond_true, cond_false, Option.bind_some, Option.bind_none, if_false, if_true, nI_1, aL1, aL2, mL1, mL2, nI_add, pk_mul, pk_m1, sL1, dL1, pk_sub, m1p1, gIs_eq, gIs_k, gIs_i, gIs_n, gIs_e, gIJ, gIR, gJI, gJR, gJs_eq, gJs_k, gJs_n, gJs_e, gRI, gRJ, gRs_eq, gRs_k, gRs_i, gRs_n, gZI, gZJ, gZR, pI_s, pJ_s, pV_s, pR_s, pR_n, oR_n, oR_s, decide_true, decide_false, not_true_eq_false, not_false_eq_true, decT, decF, Bool.true_eq_false, Bool.false_eq_true, z01, o01, z1f, z1f', zz, oo, b2i_0, b2i_n, b2i_t, b2i_f, Bool.not_true, Bool.not_false])) (fun v hi => by
              have g : gI v 50 0 4 = nI (pn d) := by rw [hi.1.1.1 4 (by omega)]; exact hD.2.1.1
              ((try dsimp only); rw [e_X12_silent_40]; simp (disch := omega) only [g, true_and, and_true, false_and, and_false, beq_t, beq_f, eqN_t, eqN_f, eqL_t, eqL_f, nm1, nm2, nm1', nm2', m1z, m2z, zm1, zm2, m12, m21, lg_cmp_ge, lg_cmp_le, lg_cmp_gt, lg_cmp_lt, lg_cmp_eq, oob, oobL, neg0, negL0, natle_f, or_false, false_or, true_or, or_true, or_self, cl, clL, le_t, le_f, lt_t, lt_f, leL_t, leL_f, ltL_t, ltL_f, leM_t, leM_f, ltM_t, ltM_f, leO_t, leO_f, cond_true, cond_false, Option.bind_some, Option.bind_none, if_false, if_true, nI_1, aL1, aL2, mL1, mL2, nI_add, pk_mul, pk_m1, sL1, dL1, pk_sub, m1p1, gIs_eq, gIs_k, gIs_i, gIs_n, gIs_e, gIJ, gIR, gJI, gJR, gJs_eq, gJs_k, gJs_n, gJs_e, gRI, gRJ, gRs_eq, gRs_k, gRs_i, gRs_n, gZI, gZJ, gZR, pI_s, pJ_s, pV_s, pR_s, pR_n, oR_n, oR_s, decide_true, decide_false, not_true_eq_false, not_false_eq_true, decT, decF, Bool.true_eq_false, Bool.false_eq_true, z01, o01, z1f, z1f', zz, oo, b2i_0, b2i_n, b2i_t, b2i_f, Bool.not_true, Bool.not_false]))
          refine ⟨w2, ?_, hM.of_run b4 b2 b3, b4⟩
          have g : gI w0 50 0 4 = nI (pn d) := by rw [a2.1.1 4 (by omega)]; exact hD.2.1.1
          have g0 : decide (nI (pn d) ≤ -1) = false := decF (fun q => by
              rw [Int32.le_iff_toInt_le, nI_toInt (by omega), show (-1 : Int32).toInt = -1 from by decide] at q
              omega)
          rw [f_X12_silent, e_X12_silent_0]
          simp (disch := omega) only [m_isDale hM.1, ht, e_X12_silent_7, p_in_1_40, c1, e_X12_silent_19, p_in_0_2, c2, e_X12_silent_34, a1, true_and, and_true, false_and, and_false, beq_t, beq_f, eqN_t, eqN_f, eqL_t, eqL_f, nm1, nm2, nm1', nm2', m1z, m2z, zm1, zm2, m12, m21, lg_cmp_ge, lg_cmp_le, lg_cmp_gt, lg_cmp_lt, lg_cmp_eq, oob, oobL, neg0, negL0, natle_f, or_false, false_or, true_or, or_true, or_self, cl, clL, le_t, le_f, lt_t, lt_f, leL_t, leL_f, ltL_t, ltL_f, leM_t, leM_f, ltM_t, ltM_f, leO_t, leO_f, cond_true, cond_false, Option.bind_some, Option.bind_none, if_false, if_true, nI_1, aL1, aL2, mL1, mL2, nI_add, pk_mul, pk_m1, sL1, dL1, pk_sub, m1p1, gIs_eq, gIs_k, gIs_i, gIs_n, gIs_e, gIJ, gIR, gJI, gJR, gJs_eq, gJs_k, gJs_n, gJs_e, gRI, gRJ, gRs_eq, gRs_k, gRs_i, gRs_n, gZI, gZJ, gZR, pI_s, pJ_s, pV_s, pR_s, pR_n, oR_n, oR_s, decide_true, decide_false, not_true_eq_false, not_false_eq_true, decT, decF, Bool.true_eq_false, Bool.false_eq_true, z01, o01, z1f, z1f', zz, oo, b2i_0, b2i_n, b2i_t, b2i_f, Bool.not_true, Bool.not_false]
          rw [e_X12_silent_40]
          simp (disch := omega) only [g, g0, true_and, and_true, false_and, and_false, beq_t, beq_f, eqN_t, eqN_f, eqL_t, eqL_f, nm1, nm2, nm1', nm2', m1z, m2z, zm1, zm2, m12, m21, lg_cmp_ge, lg_cmp_le, lg_cmp_gt, lg_cmp_lt, lg_cmp_eq, oob, oobL, neg0, negL0, natle_f, or_false, false_or, true_or, or_true, or_self, cl, clL, le_t, le_f, lt_t, lt_f, leL_t, leL_f, ltL_t, ltL_f, leM_t, leM_f, ltM_t, ltM_f, leO_t, leO_f, cond_true, cond_false, Option.bind_some, Option.bind_none, if_false, if_true, nI_1, aL1, aL2, mL1, mL2, nI_add, pk_mul, pk_m1, sL1, dL1, pk_sub, m1p1, gIs_eq, gIs_k, gIs_i, gIs_n, gIs_e, gIJ, gIR, gJI, gJR, gJs_eq, gJs_k, gJs_n, gJs_e, gRI, gRJ, gRs_eq, gRs_k, gRs_i, gRs_n, gZI, gZJ, gZR, pI_s, pJ_s, pV_s, pR_s, pR_n, oR_n, oR_s, decide_true, decide_false, not_true_eq_false, not_false_eq_true, decT, decF, Bool.true_eq_false, Bool.false_eq_true, z01, o01, z1f, z1f', zz, oo, b2i_0, b2i_n, b2i_t, b2i_f, Bool.not_true, Bool.not_false]
          rw [e_X12_silent_50, e1]
          simp (disch := omega) only [true_and, and_true, false_and, and_false, beq_t, beq_f, eqN_t, eqN_f, eqL_t, eqL_f, nm1, nm2, nm1', nm2', m1z, m2z, zm1, zm2, m12, m21, lg_cmp_ge, lg_cmp_le, lg_cmp_gt, lg_cmp_lt, lg_cmp_eq, oob, oobL, neg0, negL0, natle_f, or_false, false_or, true_or, or_true, or_self, cl, clL, le_t, le_f, lt_t, lt_f, leL_t, leL_f, ltL_t, ltL_f, leM_t, leM_f, ltM_t, ltM_f, leO_t, leO_f, cond_true, cond_false, Option.bind_some, Option.bind_none, if_false, if_true, nI_1, aL1, aL2, mL1, mL2, nI_add, pk_mul, pk_m1, sL1, dL1, pk_sub, m1p1, gIs_eq, gIs_k, gIs_i, gIs_n, gIs_e, gIJ, gIR, gJI, gJR, gJs_eq, gJs_k, gJs_n, gJs_e, gRI, gRJ, gRs_eq, gRs_k, gRs_i, gRs_n, gZI, gZJ, gZR, pI_s, pJ_s, pV_s, pR_s, pR_n, oR_n, oR_s, decide_true, decide_false, not_true_eq_false, not_false_eq_true, decT, decF, Bool.true_eq_false, Bool.false_eq_true, z01, o01, z1f, z1f', zz, oo, b2i_0, b2i_n, b2i_t, b2i_f, Bool.not_true, Bool.not_false]
          rw [b1, ← b5]
          rcases hq3 with rfl | rfl | rfl
          · ((try dsimp only); rw [e_X12_silent_62]; simp (disch := omega) only [e_X12_silent_66, e_X12_silent_89, true_and, and_true, false_and, and_false, beq_t, beq_f, eqN_t, eqN_f, eqL_t, eqL_f, nm1, nm2, nm1', nm2', m1z, m2z, zm1, zm2, m12, m21, lg_cmp_ge, lg_cmp_le, lg_cmp_gt, lg_cmp_lt, lg_cmp_eq, oob, oobL, neg0, negL0, natle_f, or_false, false_or, true_or, or_true, or_self, cl, clL, le_t, le_f, lt_t, lt_f, leL_t, leL_f, ltL_t, ltL_f, leM_t, leM_f, ltM_t, ltM_f, leO_t, leO_f, cond_true, cond_false, Option.bind_some, Option.bind_none, if_false, if_true, nI_1, aL1, aL2, mL1, mL2, nI_add, pk_mul, pk_m1, sL1, dL1, pk_sub, m1p1, gIs_eq, gIs_k, gIs_i, gIs_n, gIs_e, gIJ, gIR, gJI, gJR, gJs_eq, gJs_k, gJs_n, gJs_e, gRI, gRJ, gRs_eq, gRs_k, gRs_i, gRs_n, gZI, gZJ, gZR, pI_s, pJ_s, pV_s, pR_s, pR_n, oR_n, oR_s, decide_true, decide_false, not_true_eq_false, not_false_eq_true, decT, decF, Bool.true_eq_false, Bool.false_eq_true, z01, o01, z1f, z1f', zz, oo, b2i_0, b2i_n, b2i_t, b2i_f, Bool.not_true, Bool.not_false])
          · ((try dsimp only); rw [e_X12_silent_62]; simp (disch := omega) only [e_X12_silent_73, e_X12_silent_78, e_X12_silent_89, true_and, and_true, false_and, and_false, beq_t, beq_f, eqN_t, eqN_f, eqL_t, eqL_f, nm1, nm2, nm1', nm2', m1z, m2z, zm1, zm2, m12, m21, lg_cmp_ge, lg_cmp_le, lg_cmp_gt, lg_cmp_lt, lg_cmp_eq, oob, oobL, neg0, negL0, natle_f, or_false, false_or, true_or, or_true, or_self, cl, clL, le_t, le_f, lt_t, lt_f, leL_t, leL_f, ltL_t, ltL_f, leM_t, leM_f, ltM_t, ltM_f, leO_t, leO_f, cond_true, cond_false, Option.bind_some, Option.bind_none, if_false, if_true, nI_1, aL1, aL2, mL1, mL2, nI_add, pk_mul, pk_m1, sL1, dL1, pk_sub, m1p1, gIs_eq, gIs_k, gIs_i, gIs_n, gIs_e, gIJ, gIR, gJI, gJR, gJs_eq, gJs_k, gJs_n, gJs_e, gRI, gRJ, gRs_eq, gRs_k, gRs_i, gRs_n, gZI, gZJ, gZR, pI_s, pJ_s, pV_s, pR_s, pR_n, oR_n, oR_s, decide_true, decide_false, not_true_eq_false, not_false_eq_true, decT, decF, Bool.true_eq_false, Bool.false_eq_true, z01, o01, z1f, z1f', zz, oo, b2i_0, b2i_n, b2i_t, b2i_f, Bool.not_true, Bool.not_false])
            rfl
          · ((try dsimp only); rw [e_X12_silent_62]; simp (disch := omega) only [e_X12_silent_73, e_X12_silent_85, e_X12_silent_89, true_and, and_true, false_and, and_false, beq_t, beq_f, eqN_t, eqN_f, eqL_t, eqL_f, nm1, nm2, nm1', nm2', m1z, m2z, zm1, zm2, m12, m21, lg_cmp_ge, lg_cmp_le, lg_cmp_gt, lg_cmp_lt, lg_cmp_eq, oob, oobL, neg0, negL0, natle_f, or_false, false_or, true_or, or_true, or_self, cl, clL, le_t, le_f, lt_t, lt_f, leL_t, leL_f, ltL_t, ltL_f, leM_t, leM_f, ltM_t, ltM_f, leO_t, leO_f, cond_true, cond_false, Option.bind_some, Option.bind_none, if_false, if_true, nI_1, aL1, aL2, mL1, mL2, nI_add, pk_mul, pk_m1, sL1, dL1, pk_sub, m1p1, gIs_eq, gIs_k, gIs_i, gIs_n, gIs_e, gIJ, gIR, gJI, gJR, gJs_eq, gJs_k, gJs_n, gJs_e, gRI, gRJ, gRs_eq, gRs_k, gRs_i, gRs_n, gZI, gZJ, gZR, pI_s, pJ_s, pV_s, pR_s, pR_n, oR_n, oR_s, decide_true, decide_false, not_true_eq_false, not_false_eq_true, decT, decF, Bool.true_eq_false, Bool.false_eq_true, z01, o01, z1f, z1f', zz, oo, b2i_0, b2i_n, b2i_t, b2i_f, Bool.not_true, Bool.not_false])
            rfl
      · refine ⟨-2, fun w hC => ⟨w, ?_, Fr.refl _ _⟩, fun w hM => ⟨w, ?_, hM, Fr.refl _ _⟩⟩
        · obtain ⟨⟨jd, x1, x2⟩, _⟩ := hC
          have t0 := x2.1 0 (by omega)
          rw [f_X11_silent, e_X11_silent_0]
          simp (disch := omega) only [x1, t0, ht, e_X11_silent_10, p_within, c1, e_X11_silent_20, c2, e_X11_silent_29, true_and, and_true, false_and, and_false, beq_t, beq_f, eqN_t, eqN_f, eqL_t, eqL_f, nm1, nm2, nm1', nm2', m1z, m2z, zm1, zm2, m12, m21, lg_cmp_ge, lg_cmp_le, lg_cmp_gt, lg_cmp_lt, lg_cmp_eq, oob, oobL, neg0, negL0, natle_f, or_false, false_or, true_or, or_true, or_self, cl, clL, le_t, le_f, lt_t, lt_f, leL_t, leL_f, ltL_t, ltL_f, leM_t, leM_f, ltM_t, ltM_f, leO_t, leO_f, cond_true, cond_false, Option.bind_some, Option.bind_none, if_false, if_true, nI_1, aL1, aL2, mL1, mL2, nI_add, pk_mul, pk_m1, sL1, dL1, pk_sub, m1p1, gIs_eq, gIs_k, gIs_i, gIs_n, gIs_e, gIJ, gIR, gJI, gJR, gJs_eq, gJs_k, gJs_n, gJs_e, gRI, gRJ, gRs_eq, gRs_k, gRs_i, gRs_n, gZI, gZJ, gZR, pI_s, pJ_s, pV_s, pR_s, pR_n, oR_n, oR_s, decide_true, decide_false, not_true_eq_false, not_false_eq_true, decT, decF, Bool.true_eq_false, Bool.false_eq_true, z01, o01, z1f, z1f', zz, oo, b2i_0, b2i_n, b2i_t, b2i_f, Bool.not_true, Bool.not_false]
        · rw [f_X12_silent, e_X12_silent_0]
          simp (disch := omega) only [m_isDale hM.1, ht, e_X12_silent_7, p_in_1_40, c1, e_X12_silent_19, p_in_0_2, c2, e_X12_silent_31, true_and, and_true, false_and, and_false, beq_t, beq_f, eqN_t, eqN_f, eqL_t, eqL_f, nm1, nm2, nm1', nm2', m1z, m2z, zm1, zm2, m12, m21, lg_cmp_ge, lg_cmp_le, lg_cmp_gt, lg_cmp_lt, lg_cmp_eq, oob, oobL, neg0, negL0, natle_f, or_false, false_or, true_or, or_true, or_self, cl, clL, le_t, le_f, lt_t, lt_f, leL_t, leL_f, ltL_t, ltL_f, leM_t, leM_f, ltM_t, ltM_f, leO_t, leO_f, cond_true, cond_false, Option.bind_some, Option.bind_none, if_false, if_true, nI_1, aL1, aL2, mL1, mL2, nI_add, pk_mul, pk_m1, sL1, dL1, pk_sub, m1p1, gIs_eq, gIs_k, gIs_i, gIs_n, gIs_e, gIJ, gIR, gJI, gJR, gJs_eq, gJs_k, gJs_n, gJs_e, gRI, gRJ, gRs_eq, gRs_k, gRs_i, gRs_n, gZI, gZJ, gZR, pI_s, pJ_s, pV_s, pR_s, pR_n, oR_n, oR_s, decide_true, decide_false, not_true_eq_false, not_false_eq_true, decT, decF, Bool.true_eq_false, Bool.false_eq_true, z01, o01, z1f, z1f', zz, oo, b2i_0, b2i_n, b2i_t, b2i_f, Bool.not_true, Bool.not_false]
    · refine ⟨-2, fun w hC => ⟨w, ?_, Fr.refl _ _⟩, fun w hM => ⟨w, ?_, hM, Fr.refl _ _⟩⟩
      · obtain ⟨⟨jd, x1, x2⟩, _⟩ := hC
        have t0 := x2.1 0 (by omega)
        rw [f_X11_silent, e_X11_silent_0]
        simp (disch := omega) only [x1, t0, ht, e_X11_silent_10, p_within, c1, e_X11_silent_29, true_and, and_true, false_and, and_false, beq_t, beq_f, eqN_t, eqN_f, eqL_t, eqL_f, nm1, nm2, nm1', nm2', m1z, m2z, zm1, zm2, m12, m21, lg_cmp_ge, lg_cmp_le, lg_cmp_gt, lg_cmp_lt, lg_cmp_eq, oob, oobL, neg0, negL0, natle_f, or_false, false_or, true_or, or_true, or_self, cl, clL, le_t, le_f, lt_t, lt_f, leL_t, leL_f, ltL_t, ltL_f, leM_t, leM_f, ltM_t, ltM_f, leO_t, leO_f, cond_true, cond_false, Option.bind_some, Option.bind_none, if_false, if_true, nI_1, aL1, aL2, mL1, mL2, nI_add, pk_mul, pk_m1, sL1, dL1, pk_sub, m1p1, gIs_eq, gIs_k, gIs_i, gIs_n, gIs_e, gIJ, gIR, gJI, gJR, gJs_eq, gJs_k, gJs_n, gJs_e, gRI, gRJ, gRs_eq, gRs_k, gRs_i, gRs_n, gZI, gZJ, gZR, pI_s, pJ_s, pV_s, pR_s, pR_n, oR_n, oR_s, decide_true, decide_false, not_true_eq_false, not_false_eq_true, decT, decF, Bool.true_eq_false, Bool.false_eq_true, z01, o01, z1f, z1f', zz, oo, b2i_0, b2i_n, b2i_t, b2i_f, Bool.not_true, Bool.not_false]
      · rw [f_X12_silent, e_X12_silent_0]
        simp (disch := omega) only [m_isDale hM.1, ht, e_X12_silent_7, p_in_1_40, c1, e_X12_silent_31, true_and, and_true, false_and, and_false, beq_t, beq_f, eqN_t, eqN_f, eqL_t, eqL_f, nm1, nm2, nm1', nm2', m1z, m2z, zm1, zm2, m12, m21, lg_cmp_ge, lg_cmp_le, lg_cmp_gt, lg_cmp_lt, lg_cmp_eq, oob, oobL, neg0, negL0, natle_f, or_false, false_or, true_or, or_true, or_self, cl, clL, le_t, le_f, lt_t, lt_f, leL_t, leL_f, ltL_t, ltL_f, leM_t, leM_f, ltM_t, ltM_f, leO_t, leO_f, cond_true, cond_false, Option.bind_some, Option.bind_none, if_false, if_true, nI_1, aL1, aL2, mL1, mL2, nI_add, pk_mul, pk_m1, sL1, dL1, pk_sub, m1p1, gIs_eq, gIs_k, gIs_i, gIs_n, gIs_e, gIJ, gIR, gJI, gJR, gJs_eq, gJs_k, gJs_n, gJs_e, gRI, gRJ, gRs_eq, gRs_k, gRs_i, gRs_n, gZI, gZJ, gZR, pI_s, pJ_s, pV_s, pR_s, pR_n, oR_n, oR_s, decide_true, decide_false, not_true_eq_false, not_false_eq_true, decT, decF, Bool.true_eq_false, Bool.false_eq_true, z01, o01, z1f, z1f', zz, oo, b2i_0, b2i_n, b2i_t, b2i_f, Bool.not_true, Bool.not_false]
  · refine ⟨-2, fun w hC => ⟨w, ?_, Fr.refl _ _⟩, fun w hM => ⟨w, ?_, hM, Fr.refl _ _⟩⟩
    · obtain ⟨⟨jd, x1, x2⟩, _⟩ := hC
      have t0 := x2.1 0 (by omega)
      rw [f_X11_silent, e_X11_silent_0]
      simp (disch := omega) only [x1, t0, ht, e_X11_silent_29, true_and, and_true, false_and, and_false, beq_t, beq_f, eqN_t, eqN_f, eqL_t, eqL_f, nm1, nm2, nm1', nm2', m1z, m2z, zm1, zm2, m12, m21, lg_cmp_ge, lg_cmp_le, lg_cmp_gt, lg_cmp_lt, lg_cmp_eq, oob, oobL, neg0, negL0, natle_f, or_false, false_or, true_or, or_true, or_self, cl, clL, le_t, le_f, lt_t, lt_f, leL_t, leL_f, ltL_t, ltL_f, leM_t, leM_f, ltM_t, ltM_f, leO_t, leO_f, cond_true, cond_false, Option.bind_some, Option.bind_none, if_false, if_true, nI_1, aL1, aL2, mL1, mL2, nI_add, pk_mul, pk_m1, sL1, dL1, pk_sub, m1p1, gIs_eq, gIs_k, gIs_i, gIs_n, gIs_e, gIJ, gIR, gJI, gJR, gJs_eq, gJs_k, gJs_n, gJs_e, gRI, gRJ, gRs_eq, gRs_k, gRs_i, gRs_n, gZI, gZJ, gZR, pI_s, pJ_s, pV_s, pR_s, pR_n, oR_n, oR_s, decide_true, decide_false, not_true_eq_false, not_false_eq_true, decT, decF, Bool.true_eq_false, Bool.false_eq_true, z01, o01, z1f, z1f', zz, oo, b2i_0, b2i_n, b2i_t, b2i_f, Bool.not_true, Bool.not_false]
    · rw [f_X12_silent, e_X12_silent_0]
      simp (disch := omega) only [m_isDale hM.1, ht, e_X12_silent_31, true_and, and_true, false_and, and_false, beq_t, beq_f, eqN_t, eqN_f, eqL_t, eqL_f, nm1, nm2, nm1', nm2', m1z, m2z, zm1, zm2, m12, m21, lg_cmp_ge, lg_cmp_le, lg_cmp_gt, lg_cmp_lt, lg_cmp_eq, oob, oobL, neg0, negL0, natle_f, or_false, false_or, true_or, or_true, or_self, cl, clL, le_t, le_f, lt_t, lt_f, leL_t, leL_f, ltL_t, ltL_f, leM_t, leM_f, ltM_t, ltM_f, leO_t, leO_f, cond_true, cond_false, Option.bind_some, Option.bind_none, if_false, if_true, nI_1, aL1, aL2, mL1, mL2, nI_add, pk_mul, pk_m1, sL1, dL1, pk_sub, m1p1, gIs_eq, gIs_k, gIs_i, gIs_n, gIs_e, gIJ, gIR, gJI, gJR, gJs_eq, gJs_k, gJs_n, gJs_e, gRI, gRJ, gRs_eq, gRs_k, gRs_i, gRs_n, gZI, gZJ, gZR, pI_s, pJ_s, pV_s, pR_s, pR_n, oR_n, oR_s, decide_true, decide_false, not_true_eq_false, not_false_eq_true, decT, decF, Bool.true_eq_false, Bool.false_eq_true, z01, o01, z1f, z1f', zz, oo, b2i_0, b2i_n, b2i_t, b2i_f, Bool.not_true, Bool.not_false]
