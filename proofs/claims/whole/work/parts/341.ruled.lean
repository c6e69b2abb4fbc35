/-! ===== all fits; ruled ===== -/
def RowsM (w : XW) (d : Dl) (rs : List Rl) (no : No) (L m : Nat) : Prop := ∀ t, t < m → gI w 59 0 t = b2i (fitS d no (curR rs (dn t))) ∧ ∀ j, j < kn d → gI w 60 0 (6 * t + j) = (bgS d (curR rs (dn t)) L).2.1 j
theorem m_fills {w : XW} {d : Dl} {s : Sc} {rs : List Rl} {f : Int32} {no : No} (hX : MX w d s rs f) (hOX : OX d s rs f) (hn : NoM w no) (hO : NoOk d no) {L : Nat} (hL : L ≤ 60) :
    ∃ w', F_X12_fillsFits [.inr (11, 0), .inl (.int (nI L))] w = some w' ∧ MX w' d s rs f ∧ RowsM w' d rs no L (rs.length + 1) ∧ Fr PFf w w' := by
  have hD := hOX.1.1
  have h6 := hD.1.2
  have hR := hOX.2.2.1
  have h6r : rs.length ≤ 6 := hOX.2.2.2.1
  obtain ⟨w0, k1, k2, k3⟩ := p_X12_keeps w
  have h21 : gI w 11 0 21 = f := hX.2.2.2.2.1
  obtain ⟨w1, h1, h2, h3, h4⟩ := loop0 (rs.length + 1) (fun t v => q_X12_fillsFits_11 (nI L) f (nI t) v) (fun v => q_X12_fillsFits_133 f v) (fun t v => Fr PFf w v ∧ (∀ k, k < 25 → gI v 53 0 k = flS s k) ∧ RowsM v d rs no L t) (s := w0) ⟨k3.mono (fun κ i k q => by unfold P53 at q; unfold  PFf; omega), fun k hk => (k2 k hk).trans (fl_of_Ms hX.2.2.1 hk), fun t ht => absurd ht (by omega)⟩ (fun t v hk hi => by
      obtain ⟨b1, b2, b3⟩ := hi
      have hmr : MR v rs := hX.2.2.2.1.fr b1 (fun κ k q => by unfold PFf; omega)
      have gn : gI v 11 0 2 = nI rs.length := hmr.1
      have F1 : Fr PFf w (sI v 11 0 21 (dn t)) := b1.sI (by unfold PFf; omega)
      obtain ⟨v1, c1, c2, c3⟩ := p_X12_begins (sI v 11 0 21 (dn t)) d (hX.1.fr F1 (fun k q => by unfold PFf; omega))
      have F2 := F1.trans (c3.mono (fun κ i k q => by unfold P50s at q; unfold  PFf; omega))
      obtain ⟨v2, d1, d2, d3⟩ := fit_run hD hO hR h6r (hX.1.fr F2 (fun k q => by unfold PFf; omega)) (hX.2.1.fr F2 (fun k q => by unfold PFf; omega)) (hX.2.2.2.1.fr F2 (fun κ k q => by unfold PFf; omega)) (hn.fr hO.1 F2 (fun k q => by unfold PFf; omega)) (by rw [(F2 11 0 23 (by unfold PFf; omega)).1]; exact hX.2.2.2.2.2) (t := t) (by omega) (by rw [(c3 11 0 21 (by unfold P50s; omega)).1]; exact gIs_eq) c2 f hL
      have F3 := F2.trans (d3.mono (fun κ j k q => by unfold PMn at q; unfold PFf; omega))
      refine ⟨sI v2 59 0 t (b2i (fitS d no (curR rs (dn t)))), ?_, F3.sI (by unfold PFf; omega), fun k hk => ?_, fun t' ht' => ?_⟩
      · rw [e_X12_fillsFits_11, gn, lt_f (by omega) (by omega), cond_false, e_X12_fillsFits_19, dn_sub, c1, Option.bind_some, d1, e_X12_fillsFits_119, nar_b]
        simp (disch := omega) only [true_and, and_true, false_and, and_false, beq_t, beq_f, eqN_t, eqN_f, eqL_t, eqL_f, nm1, nm2, nm1', nm2', m1z, m2z, zm1, zm2, m12, m21, lg_cmp_ge, lg_cmp_le, lg_cmp_gt, lg_cmp_lt, lg_cmp_eq, oob, oobL, neg0, negL0, natle_f, or_false, false_or, true_or, or_true, or_self, cl, clL, le_t, le_f, lt_t, lt_f, leL_t, leL_f, ltL_t, ltL_f, leM_t, leM_f, ltM_t, ltM_f, leO_t, leO_f, cond_true, cond_false, Option.bind_some, Option.bind_none, if_false, if_true, nI_1, aL1, aL2, mL1, mL2, nI_add, pk_mul, pk_m1, sL1, dL1, pk_sub, m1p1, gIs_eq, gIs_k, gIs_i, gIs_n, gIs_e, gIJ, gIR, gJI, gJR, gJs_eq, gJs_k, gJs_n, gJs_e, gRI, gRJ, gRs_eq, gRs_k, gRs_i, gRs_n, gZI, gZJ, gZR, pI_s, pJ_s, pV_s, pR_s, pR_n, oR_n, oR_s, decide_true, decide_false, not_true_eq_false, not_false_eq_true, decT, decF, Bool.true_eq_false, Bool.false_eq_true, z01, o01, z1f, z1f', zz, oo, b2i_0, b2i_n, b2i_t, b2i_f, Bool.not_true, Bool.not_false]
      · rw [gIs_n (by omega), (d3 53 0 k (by unfold PMn; omega)).1, (c3 53 0 k (by unfold P50s; omega)).1, gIs_n (by omega)]
        exact b2 k hk
      · by_cases e : t' = t
        · subst e
          exact ⟨gIs_eq, fun j hj => by rw [gIs_n (by omega)]; exact d2 j hj⟩
        · obtain ⟨r1, r2⟩ := b3 t' (by omega)
          refine ⟨?_, fun j hj => ?_⟩
          · rw [gIs_k e, (d3 59 0 t' (by unfold PMn; omega)).1, (c3 59 0 t' (by unfold P50s; omega)).1, gIs_n (by omega)]
            exact r1
          · rw [gIs_n (by omega), (d3 60 0 _ (by unfold PMn; omega)).1, (c3 60 0 _ (by unfold P50s; omega)).1, gIs_n (by omega)]
            exact r2 j hj) (fun v hi => by
      have gn : gI v 11 0 2 = nI rs.length := (hX.2.2.2.1.fr hi.1 (fun κ k q => by unfold PFf; omega)).1
      ((try dsimp only); rw [e_X12_fillsFits_11]; simp (disch := omega) only [gn, true_and, and_true, false_and, and_false, beq_t, beq_f, eqN_t, eqN_f, eqL_t, eqL_f, nm1, nm2, nm1', nm2', m1z, m2z, zm1, zm2, m12, m21, lg_cmp_ge, lg_cmp_le, lg_cmp_gt, lg_cmp_lt, lg_cmp_eq, oob, oobL, neg0, negL0, natle_f, or_false, false_or, true_or, or_true, or_self, cl, clL, le_t, le_f, lt_t, lt_f, leL_t, leL_f, ltL_t, ltL_f, leM_t, leM_f, ltM_t, ltM_f, leO_t, leO_f, cond_true, cond_false, Option.bind_some, Option.bind_none, if_false, if_true, nI_1, aL1, aL2, mL1, mL2, nI_add, pk_mul, pk_m1, sL1, dL1, pk_sub, m1p1, gIs_eq, gIs_k, gIs_i, gIs_n, gIs_e, gIJ, gIR, gJI, gJR, gJs_eq, gJs_k, gJs_n, gJs_e, gRI, gRJ, gRs_eq, gRs_k, gRs_i, gRs_n, gZI, gZJ, gZR, pI_s, pJ_s, pV_s, pR_s, pR_n, oR_n, oR_s, decide_true, decide_false, not_true_eq_false, not_false_eq_true, decT, decF, Bool.true_eq_false, Bool.false_eq_true, z01, o01, z1f, z1f', zz, oo, b2i_0, b2i_n, b2i_t, b2i_f, Bool.not_true, Bool.not_false]))
  rw [nI_0] at h1
  obtain ⟨w2, l1, l2, l3⟩ := p_X12_laysBack (sI w1 11 0 21 f)
  have F4 : Fr PFf w w2 := (h2.sI (by unfold PFf; omega)).trans (l3.mono (fun κ i k q => by unfold P50s at q; unfold  PFf; omega))
  refine ⟨w2, ?_, ⟨hX.1.fr F4 (fun k q => by unfold PFf; omega), hX.2.1.fr F4 (fun k q => by unfold PFf; omega), Ms_of_fl (fun k hk => ?_), hX.2.2.2.1.fr F4 (fun κ k q => by unfold PFf; omega), ?_, ?_⟩, fun t ht => ?_, F4⟩
  · rw [f_X12_fillsFits, e_X12_fillsFits_0, k1, h21, Option.bind_some, h1, e_X12_fillsFits_133, l1]
    rfl
  · rw [l2 k hk, gIs_n (by omega)]
    exact h3 k hk
  · rw [(l3 11 0 21 (by unfold P50s; omega)).1]
    exact gIs_eq
  · rw [(F4 11 0 23 (by unfold PFf; omega)).1]; exact hX.2.2.2.2.2
  · obtain ⟨r1, r2⟩ := h4 t ht
    refine ⟨?_, fun j hj => ?_⟩
    · rw [(l3 59 0 t (by unfold P50s; omega)).1, gIs_n (by omega)]
      exact r1
    · rw [(l3 60 0 _ (by unfold P50s; omega)).1, gIs_n (by omega)]
      exact r2 j hj
/-- the first that fits, one lower; -2 where none does -/
def fsM (P : Nat → Bool) : Nat → Nat → Int32
  | _, 0 => -2
  | a, m + 1 => if P a = true then dn a else fsM P (a + 1) m
theorem dn_m2 (a : Nat) (h : a < 60000) : ¬ dn a = -2 := by
  cases a with
  | zero => decide
  | succ a =>
    show ¬ nI a = -2
    rw [nm2 (by omega)]
    exact id
theorem fsM_up {P : Nat → Bool} : ∀ (m a : Nat), a + m < 60000 → fsM P a (m + 1) = if fsM P a m = -2 then (if P (a + m) = true then dn (a + m) else -2) else fsM P a m := by
  intro m
  induction m with
  | zero =>
    intro a _
    show (if P a = true then dn a else -2) = if (-2 : Int32) = -2 then (if P (a + 0) = true then dn (a + 0) else -2) else -2
    rw [if_pos rfl, Nat.add_zero]
  | succ m ih =>
    intro a ha
    show (if P a = true then dn a else fsM P (a + 1) (m + 1)) = if (if P a = true then dn a else fsM P (a + 1) m) = -2 then (if P (a + (m + 1)) = true then dn (a + (m + 1)) else -2) else (if P a = true then dn a else fsM P (a + 1) m)
    by_cases h : P a = true
    · rw [if_pos h, if_pos h, if_neg (dn_m2 a (by omega))]
    · rw [if_neg h, if_neg h, ih (a + 1) (by omega), show a + 1 + m = a + (m + 1) by omega]
def fitN (d : Dl) (rs : List Rl) (no : No) (t : Nat) : Bool := fitS d no (curR rs (dn t))
def ansR (d : Dl) (rs : List Rl) (no : No) (q : Nat) : Int32 := if q = 0 then nI (cnt (fitN d rs no) 0 (rs.length + 1)) else fsM (fitN d rs no) 0 (rs.length + 1)
theorem c_ruled {w : XW} {d : Dl} {s : Sc} {rs : List Rl} {f : Int32} {no : No} (hX : CX w d s rs f) (hOX : OX d s rs f) (ht : d.1 0 = 1) (hN : NoAt w 0 no) (hO : NoOk d no) {q : Nat} (hq : q ≤ 1) :
    ∃ w', F_X11_ruled [.inr (10, 0), .inl (.int (nI q))] w = some (ansR d rs no q, w') ∧ Fr PSo w w' := by
  have h6r : rs.length ≤ 6 := hOX.2.2.2.1
  obtain ⟨a, w1, h1, h2, h3⟩ := loopA (rs.length + 1) (fun t (a : Int32 × Int32) v => q_X11_ruled_30 (nI q) a.1 a.2 (dn t) v) (fun a v => q_X11_ruled_71 (nI q) a.1 a.2 v) (fun t a v => a = (nI (cnt (fitN d rs no) 0 t), fsM (fitN d rs no) 0 t) ∧ Fr PSo w v) (a := (0, -2)) (s := w) ⟨rfl, Fr.refl _ _⟩ (fun t a v hk hi => by
      obtain ⟨b1, b2⟩ := hi
      subst b1
      have hXv : CX v d s rs f := hX.frx b2 (fun κ j k q => by unfold PSo PQc PLk; omega)
      have hNv := hN.fr b2 (fun κ k q => by unfold PSo PQc PLk; omega)
      obtain ⟨v1, c1, c2, c3⟩ := c_isSoBy hXv hOX hNv hO (t := dn t) (dn_ok (by omega)) (L := 0) (by omega)
      have c1 : F_X11_isSoBy [.inr (10, 0), .inl (.int (dn t)), .inl (.int 0)] v = some (b2i (fitN d rs no t), v1) := c1
      have gn : gI v 10 0 3 = nI rs.length := hXv.2.2.1.1
      have hle := cnt_le (P := fitN d rs no) t 0
      have hlt : decide (nI rs.length ≤ dn t) = false := by
        cases t with
        | zero => exact decF (fun z => by
            rw [Int32.le_iff_toInt_le, nI_toInt (by omega), show (dn 0).toInt = -1 from by decide] at z
            omega)
        | succ t => exact le_f (show t < rs.length by omega) (by omega)
      refine ⟨_, v1, ?_, rfl, b2.trans c3⟩
      rw [cnt_up, fsM_up t 0 (by omega), Nat.zero_add]
      rw [e_X11_ruled_30, gn, hlt, cond_false, e_X11_ruled_39, c1, Option.bind_some]
      dsimp only
      cases hf : fitN d rs no t with
      | false =>
        rw [b2i_0]
        simp only [Bool.not_false, cond_true, e_X11_ruled_65, dn_p1, Bool.false_eq_true, if_false, Nat.add_zero]
        rw [dn_s]
        by_cases e : fsM (fitN d rs no) 0 t = -2
        · rw [if_pos e, e]
        · rw [if_neg e]
      | true =>
        rw [b2i_0]
        simp only [Bool.not_true, cond_false, e_X11_ruled_49, if_true]
        rw [dn_s]
        by_cases e : fsM (fitN d rs no) 0 t = -2
        · rw [if_pos e, decF (fun z => z e), cond_false, e_X11_ruled_58, e_X11_ruled_64, e_X11_ruled_65, dn_p1, nI_1]
        · rw [if_neg e, decT e, cond_true, e_X11_ruled_63, e_X11_ruled_64, e_X11_ruled_65, dn_p1, nI_1]) (fun a v hi => by
      have gn : gI v 10 0 3 = nI rs.length := by rw [(hi.2 10 0 3 (by unfold PSo PQc PLk; omega)).1]; exact hX.2.2.1.1
      show q_X11_ruled_30 (nI q) a.1 a.2 (nI rs.length) v = _
      ((try dsimp only); rw [e_X11_ruled_30]; simp (disch := omega) only [gn, true_and, and_true, false_and, and_false, beq_t, beq_f, eqN_t, eqN_f, eqL_t, eqL_f, nm1, nm2, nm1', nm2', m1z, m2z, zm1, zm2, m12, m21, lg_cmp_ge, lg_cmp_le, lg_cmp_gt, lg_cmp_lt, lg_cmp_eq, oob, oobL, neg0, negL0, natle_f, or_false, false_or, true_or, or_true, or_self, cl, clL, le_t, le_f, lt_t, lt_f, leL_t, leL_f, ltL_t, ltL_f, leM_t, leM_f, ltM_t, ltM_f, leO_t, leO_f, cond_true, cond_false, Option.bind_some, Option.bind_none, if_false, if_true, nI_1, aL1, aL2, mL1, mL2, nI_add, pk_mul, pk_m1, sL1, dL1, pk_sub, m1p1, gIs_eq, gIs_k, gIs_i, gIs_n, gIs_e, gIJ, gIR, gJI, gJR, gJs_eq, gJs_k, gJs_n, gJs_e, gRI, gRJ, gRs_eq, gRs_k, gRs_i, gRs_n, gZI, gZJ, gZR, pI_s, pJ_s, pV_s, pR_s, pR_n, oR_n, oR_s, decide_true, decide_false, not_true_eq_false, not_false_eq_true, decT, decF, Bool.true_eq_false, Bool.false_eq_true, z01, o01, z1f, z1f', zz, oo, b2i_0, b2i_n, b2i_t, b2i_f, Bool.not_true, Bool.not_false]))
  subst h2
  have h1 : q_X11_ruled_30 (nI q) 0 (-2) (-1) w = _ := h1
  refine ⟨w1, ?_, h3⟩
  obtain ⟨jd, x1, x2⟩ := hX.1
  have t0 := x2.1 0 (by omega)
  have w4' : (¬ nI q < 0 ∧ ¬ (1 : Int32) < nI q) := ⟨nI_pos (by omega), of_decide_eq_false (ltL_f (c := 1) (show q ≤ 1 from hq) (by decide))⟩
  rw [f_X11_ruled, e_X11_ruled_0]
  simp (disch := omega) only [x1, t0, ht, e_X11_ruled_10, p_within, w4', e_X11_ruled_22, h1, e_X11_ruled_71, true_and, and_true, false_and, and_false, beq_t, beq_f, eqN_t, eqN_f, eqL_t, eqL_f, nm1, nm2, nm1', nm2', m1z, m2z, zm1, zm2, m12, m21, lg_cmp_ge, lg_cmp_le, lg_cmp_gt, lg_cmp_lt, lg_cmp_eq, oob, oobL, neg0, negL0, natle_f, or_false, false_or, true_or, or_true, or_self, cl, clL, le_t, le_f, lt_t, lt_f, leL_t, leL_f, ltL_t, ltL_f, leM_t, leM_f, ltM_t, ltM_f, leO_t, leO_f, cond_true, cond_false, Option.bind_some, Option.bind_none, if_false, if_true, nI_1, aL1, aL2, mL1, mL2, nI_add, pk_mul, pk_m1, sL1, dL1, pk_sub, m1p1, gIs_eq, gIs_k, gIs_i, gIs_n, gIs_e, gIJ, gIR, gJI, gJR, gJs_eq, gJs_k, gJs_n, gJs_e, gRI, gRJ, gRs_eq, gRs_k, gRs_i, gRs_n, gZI, gZJ, gZR, pI_s, pJ_s, pV_s, pR_s, pR_n, oR_n, oR_s, decide_true, decide_false, not_true_eq_false, not_false_eq_true, decT, decF, Bool.true_eq_false, Bool.false_eq_true, z01, o01, z1f, z1f', zz, oo, b2i_0, b2i_n, b2i_t, b2i_f, Bool.not_true, Bool.not_false]
  unfold ansR
  have hq2 : q = 0 ∨ q = 1 := by omega
  rcases hq2 with rfl | rfl
  · simp (disch := omega) only [e_X11_ruled_75, e_X11_ruled_80, true_and, and_true, false_and, and_false, beq_t, beq_f, eqN_t, eqN_f, eqL_t, eqL_f, nm1, nm2, nm1', nm2', m1z, m2z, zm1, zm2, m12, m21, lg_cmp_ge, lg_cmp_le, lg_cmp_gt, lg_cmp_lt, lg_cmp_eq, oob, oobL, neg0, negL0, natle_f, or_false, false_or, true_or, or_true, or_self, cl, clL, le_t, le_f, lt_t, lt_f, leL_t, leL_f, ltL_t, ltL_f, leM_t, leM_f, ltM_t, ltM_f, leO_t, leO_f, cond_true, cond_false, Option.bind_some, Option.bind_none, if_false, if_true, nI_1, aL1, aL2, mL1, mL2, nI_add, pk_mul, pk_m1, sL1, dL1, pk_sub, m1p1, gIs_eq, gIs_k, gIs_i, gIs_n, gIs_e, gIJ, gIR, gJI, gJR, gJs_eq, gJs_k, gJs_n, gJs_e, gRI, gRJ, gRs_eq, gRs_k, gRs_i, gRs_n, gZI, gZJ, gZR, pI_s, pJ_s, pV_s, pR_s, pR_n, oR_n, oR_s, decide_true, decide_false, not_true_eq_false, not_false_eq_true, decT, decF, Bool.true_eq_false, Bool.false_eq_true, z01, o01, z1f, z1f', zz, oo, b2i_0, b2i_n, b2i_t, b2i_f, Bool.not_true, Bool.not_false]
  · simp (disch := omega) only [e_X11_ruled_79, e_X11_ruled_80, true_and, and_true, false_and, and_false, beq_t, beq_f, eqN_t, eqN_f, eqL_t, eqL_f, nm1, nm2, nm1', nm2', m1z, m2z, zm1, zm2, m12, m21, lg_cmp_ge, lg_cmp_le, lg_cmp_gt, lg_cmp_lt, lg_cmp_eq, oob, oobL, neg0, negL0, natle_f, or_false, false_or, true_or, or_true, or_self, cl, clL, le_t, le_f, lt_t, lt_f, leL_t, leL_f, ltL_t, ltL_f, leM_t, leM_f, ltM_t, ltM_f, leO_t, leO_f, cond_true, cond_false, Option.bind_some, Option.bind_none, if_false, if_true, nI_1, aL1, aL2, mL1, mL2, nI_add, pk_mul, pk_m1, sL1, dL1, pk_sub, m1p1, gIs_eq, gIs_k, gIs_i, gIs_n, gIs_e, gIJ, gIR, gJI, gJR, gJs_eq, gJs_k, gJs_n, gJs_e, gRI, gRJ, gRs_eq, gRs_k, gRs_i, gRs_n, gZI, gZJ, gZR, pI_s, pJ_s, pV_s, pR_s, pR_n, oR_n, oR_s, decide_true, decide_false, not_true_eq_false, not_false_eq_true, decT, decF, Bool.true_eq_false, Bool.false_eq_true, z01, o01, z1f, z1f', zz, oo, b2i_0, b2i_n, b2i_t, b2i_f, Bool.not_true, Bool.not_false]
    rfl
