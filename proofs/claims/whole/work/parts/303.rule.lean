/-! ===== what a rule is worth ===== -/
def kn (d : Dl) : Nat := (d.1 3).toNatClampNeg
def pn (d : Dl) : Nat := (d.1 4).toNatClampNeg
def fn (d : Dl) : Nat := (d.1 5).toNatClampNeg
def own (d : Dl) (p : Nat) : Nat := (d.2.2.2.2.1 p).toNatClampNeg
def In (b : Nat) (x : Int32) : Prop := ∃ m, m ≤ b ∧ x = nI m
/-- a dale as it is told -/
def DOk (d : Dl) : Prop := (d.1 3 = nI (kn d) ∧ kn d ≤ 6) ∧ (d.1 4 = nI (pn d) ∧ pn d ≤ 5) ∧ (d.1 5 = nI (fn d) ∧ fn d ≤ 4) ∧ (∀ p, p < pn d → d.2.2.2.2.1 p = nI (own d p) ∧ own d p < kn d ∧ In 9 (d.2.2.2.2.2.1 p)) ∧
  In 9 (d.1 1) ∧ In 99 (d.1 2) ∧ (0 < kn d → ¬ d.1 2 = 0) ∧ (∀ k, k < kn d → In 60 (d.2.1 k) ∧ In 20 (d.2.2.1 k)) ∧ ∀ f, f < fn d → In 60 (d.2.2.2.2.2.2 f)
def pcS (x0 : Int32) : Int32 := match F_J6_bitCount_0f7a4 [.inl (.int x0)] (fun _ _ _ => 0, fun _ _ _ => 0, fun _ _ _ => none, fun _ _ => 0) with
  | some r => r.1
  | none => 0
theorem p_bitCount (x : Int32) (w : XW) : F_J6_bitCount_0f7a4 [.inl (.int x)] w = some (pcS x, w) := by
  unfold pcS
  rw [f_J6_bitCount_0f7a4, e_J6_bitCount_0f7a4_0, f_J6_bitCount_0f7a4, e_J6_bitCount_0f7a4_0]
  rfl
def hmS (d : Dl) (s : Sc) : Int32 := bts (fun k => decide (s.2.2.2.1 k = -1)) (kn d)
def brS (d : Dl) (s : Sc) : Int32 := bts (fun k => decide (s.2.2.2.1 k = -2)) (kn d)
def othS (d : Dl) (p : Nat) : Int32 := itr (fun o c => if ¬ o = p ∧ d.2.2.2.2.1 o = d.2.2.2.2.1 p then c + 1 else c) 0 (pn d) 0
/-- the words of a rule, of person p -/
def wdS (d : Dl) (ts : Ar) (s : Sc) (p c : Nat) : Int64 :=
  if c = 0 then (nI p).toInt64 else if c = 1 then (d.2.2.2.2.1 p).toInt64 else if c = 2 then (ts p).toInt64 else if c = 3 then (s.2.1 (own d p)).toInt64 else if c = 4 then (d.2.1 (own d p)).toInt64
  else if c = 5 then (s.2.2.1 (own d p)).toInt64 else if c = 6 then (d.2.2.1 (own d p)).toInt64 else if c = 7 then (pcS (s.2.2.2.2 (own d p) &&& hmS d s)).toInt64 else if c = 8 then (othS d p).toInt64
  else if c = 9 then (pcS (brS d s)).toInt64 else s.1.toInt64
def NtAt (w : XW) (jd : Nat) (jr : Option Nat) (ts : Ar) : Prop := gR w 3 0 0 = some jd ∧ gR w 3 0 1 = jr ∧ ∀ p, p < 5 → gI w 19 0 p = ts p
def HbAt (w : XW) (d : Dl) (s : Sc) : Prop := gI w 3 0 5 = hmS d s ∧ gI w 3 0 6 = pcS (brS d s)
theorem p_X1_othersOf (d : Dl) (hD : DOk d) (jd p : Nat) (w : XW) (hd : DlAt w jd d) (hp : p < pn d) : F_X1_othersOf [.inr (1, jd), .inl (.int (nI p))] w = some (othS d p, w) := by
  have h5 := hD.2.1.2
  have e4 : gI w 1 jd 4 = nI (pn d) := by rw [hd.1 4 (by omega)]; exact hD.2.1.1
  rw [f_X1_othersOf, e_X1_othersOf_0]
  have := itr_run (pn d) (fun k s => q_X1_othersOf_4 jd (nI p) s (nI k) w) (fun o c => if ¬ o = p ∧ d.2.2.2.2.1 o = d.2.2.2.2.1 p then c + 1 else c) (fun s => some (some (.inl (.int s)), w)) (fun k s hk => by
    (((try dsimp only); rw [e_X1_othersOf_4]; simp (disch := omega) only [e4, e_X1_othersOf_12, true_and, and_true, beq_t, beq_f, eqN_t, eqN_f, eqL_t, eqL_f, lg_cmp_ge, lg_cmp_le, lg_cmp_gt, lg_cmp_lt, lg_cmp_eq, oob, oobL, neg0, negL0, natle_f, or_false, false_or, or_self, cl, clL, le_t, le_f, lt_t, lt_f, leL_t, leL_f, ltL_t, ltL_f, leM_t, leM_f, ltM_t, ltM_f, cond_true, cond_false, Option.bind_some, if_false, if_true, nI_1, gIs_eq, gIs_k, gIs_i, gIs_n, gIJ, gIR, gJI, gJR, gJs_eq, gJs_k, gJs_n, gRI, gRJ, gRs_eq, gRs_k, gRs_i, gRs_n, gZI, gZJ, gZR, pI_s, pJ_s, pV_s, pR_s, pR_n, decide_true, decide_false, not_true_eq_false, not_false_eq_true, decT, decF, Bool.true_eq_false, Bool.false_eq_true]))
    by_cases h1 : k = p
    · simp (disch := omega) only [h1, e_X1_othersOf_35, false_and, true_and, and_true, beq_t, beq_f, eqN_t, eqN_f, eqL_t, eqL_f, lg_cmp_ge, lg_cmp_le, lg_cmp_gt, lg_cmp_lt, lg_cmp_eq, oob, oobL, neg0, negL0, natle_f, or_false, false_or, or_self, cl, clL, le_t, le_f, lt_t, lt_f, leL_t, leL_f, ltL_t, ltL_f, leM_t, leM_f, ltM_t, ltM_f, cond_true, cond_false, Option.bind_some, if_false, if_true, nI_1, gIs_eq, gIs_k, gIs_i, gIs_n, gIJ, gIR, gJI, gJR, gJs_eq, gJs_k, gJs_n, gRI, gRJ, gRs_eq, gRs_k, gRs_i, gRs_n, gZI, gZJ, gZR, pI_s, pJ_s, pV_s, pR_s, pR_n, decide_true, decide_false, not_true_eq_false, not_false_eq_true, decT, decF, Bool.true_eq_false, Bool.false_eq_true]
    · simp (disch := omega) only [h1, e_X1_othersOf_17, true_and, and_true, beq_t, beq_f, eqN_t, eqN_f, eqL_t, eqL_f, lg_cmp_ge, lg_cmp_le, lg_cmp_gt, lg_cmp_lt, lg_cmp_eq, oob, oobL, neg0, negL0, natle_f, or_false, false_or, or_self, cl, clL, le_t, le_f, lt_t, lt_f, leL_t, leL_f, ltL_t, ltL_f, leM_t, leM_f, ltM_t, ltM_f, cond_true, cond_false, Option.bind_some, if_false, if_true, nI_1, gIs_eq, gIs_k, gIs_i, gIs_n, gIJ, gIR, gJI, gJR, gJs_eq, gJs_k, gJs_n, gRI, gRJ, gRs_eq, gRs_k, gRs_i, gRs_n, gZI, gZJ, gZR, pI_s, pJ_s, pV_s, pR_s, pR_n, decide_true, decide_false, not_true_eq_false, not_false_eq_true, decT, decF, Bool.true_eq_false, Bool.false_eq_true]
      rw [(hd.2.2.1 k (by omega)).1, (hd.2.2.1 p (by omega)).1]
      by_cases h2 : d.2.2.2.2.1 k = d.2.2.2.2.1 p
      · simp (disch := omega) only [h2, e_X1_othersOf_32, e_X1_othersOf_35, true_and, and_true, beq_t, beq_f, eqN_t, eqN_f, eqL_t, eqL_f, lg_cmp_ge, lg_cmp_le, lg_cmp_gt, lg_cmp_lt, lg_cmp_eq, oob, oobL, neg0, negL0, natle_f, or_false, false_or, or_self, cl, clL, le_t, le_f, lt_t, lt_f, leL_t, leL_f, ltL_t, ltL_f, leM_t, leM_f, ltM_t, ltM_f, cond_true, cond_false, Option.bind_some, if_false, if_true, nI_1, gIs_eq, gIs_k, gIs_i, gIs_n, gIJ, gIR, gJI, gJR, gJs_eq, gJs_k, gJs_n, gRI, gRJ, gRs_eq, gRs_k, gRs_i, gRs_n, gZI, gZJ, gZR, pI_s, pJ_s, pV_s, pR_s, pR_n, decide_true, decide_false, not_true_eq_false, not_false_eq_true, decT, decF, Bool.true_eq_false, Bool.false_eq_true]
      · simp (disch := omega) only [h2, e_X1_othersOf_35, true_and, and_true, beq_t, beq_f, eqN_t, eqN_f, eqL_t, eqL_f, lg_cmp_ge, lg_cmp_le, lg_cmp_gt, lg_cmp_lt, lg_cmp_eq, oob, oobL, neg0, negL0, natle_f, or_false, false_or, or_self, cl, clL, le_t, le_f, lt_t, lt_f, leL_t, leL_f, ltL_t, ltL_f, leM_t, leM_f, ltM_t, ltM_f, cond_true, cond_false, Option.bind_some, if_false, if_true, nI_1, gIs_eq, gIs_k, gIs_i, gIs_n, gIJ, gIR, gJI, gJR, gJs_eq, gJs_k, gJs_n, gRI, gRJ, gRs_eq, gRs_k, gRs_i, gRs_n, gZI, gZJ, gZR, pI_s, pJ_s, pV_s, pR_s, pR_n, decide_true, decide_false, not_true_eq_false, not_false_eq_true, decT, decF, Bool.true_eq_false, Bool.false_eq_true]) (fun s => by ((try dsimp only); rw [e_X1_othersOf_4]; simp (disch := omega) only [e4, e_X1_othersOf_41, true_and, and_true, beq_t, beq_f, eqN_t, eqN_f, eqL_t, eqL_f, lg_cmp_ge, lg_cmp_le, lg_cmp_gt, lg_cmp_lt, lg_cmp_eq, oob, oobL, neg0, negL0, natle_f, or_false, false_or, or_self, cl, clL, le_t, le_f, lt_t, lt_f, leL_t, leL_f, ltL_t, ltL_f, leM_t, leM_f, ltM_t, ltM_f, cond_true, cond_false, Option.bind_some, if_false, if_true, nI_1, gIs_eq, gIs_k, gIs_i, gIs_n, gIJ, gIR, gJI, gJR, gJs_eq, gJs_k, gJs_n, gRI, gRJ, gRs_eq, gRs_k, gRs_i, gRs_n, gZI, gZJ, gZR, pI_s, pJ_s, pV_s, pR_s, pR_n, decide_true, decide_false, not_true_eq_false, not_false_eq_true, decT, decF, Bool.true_eq_false, Bool.false_eq_true])) 0
  rw [nI_0] at this
  rw [this]
  rfl
theorem p_X4_wordOf (d : Dl) (hD : DOk d) (i jd p c : Nat) (jr : Option Nat) (ts : Ar) (s : Sc) (w : XW) (hd : DlAt w jd d) (hn : NtAt w jd jr ts) (hs : ScAt w i s) (hb : HbAt w d s) (hp : p < pn d) (hc : c ≤ 10) :
    F_X4_wordOf [.inr (3, 0), .inr (8, i), .inl (.int (nI p)), .inl (.int (nI c))] w = some (wdS d ts s p c, w) := by
  have h5 := hD.2.1.2
  have h6 := hD.1.2
  obtain ⟨o1, o2, _⟩ := hD.2.2.2.1 p hp
  have ho : gI w 16 jd p = nI (own d p) := by rw [(hd.2.2.1 p (by omega)).1]; exact o1
  have hg := hn.1
  have x1 := hn.2.2 p (by omega)
  have x2 := hs.2 (own d p) (by omega)
  have x3 := hd.2.1 (own d p) (by omega)
  have x4 := p_X1_othersOf d hD jd p w hd hp
  have : c = 0 ∨ c = 1 ∨ c = 2 ∨ c = 3 ∨ c = 4 ∨ c = 5 ∨ c = 6 ∨ c = 7 ∨ c = 8 ∨ c = 9 ∨ c = 10 := by omega
  unfold wdS
  rw [f_X4_wordOf, e_X4_wordOf_0]
  rcases this with rfl | rfl | rfl | rfl | rfl | rfl | rfl | rfl | rfl | rfl | rfl
  · simp (disch := omega) only [hg, ho, e_X4_wordOf_68, true_and, and_true, beq_t, beq_f, eqN_t, eqN_f, eqL_t, eqL_f, lg_cmp_ge, lg_cmp_le, lg_cmp_gt, lg_cmp_lt, lg_cmp_eq, oob, oobL, neg0, negL0, natle_f, or_false, false_or, or_self, cl, clL, le_t, le_f, lt_t, lt_f, leL_t, leL_f, ltL_t, ltL_f, leM_t, leM_f, ltM_t, ltM_f, cond_true, cond_false, Option.bind_some, if_false, if_true, nI_1, gIs_eq, gIs_k, gIs_i, gIs_n, gIJ, gIR, gJI, gJR, gJs_eq, gJs_k, gJs_n, gRI, gRJ, gRs_eq, gRs_k, gRs_i, gRs_n, gZI, gZJ, gZR, pI_s, pJ_s, pV_s, pR_s, pR_n, decide_true, decide_false, not_true_eq_false, not_false_eq_true, decT, decF, Bool.true_eq_false, Bool.false_eq_true]
  · simp (disch := omega) only [hg, ho, e_X4_wordOf_71, true_and, and_true, beq_t, beq_f, eqN_t, eqN_f, eqL_t, eqL_f, lg_cmp_ge, lg_cmp_le, lg_cmp_gt, lg_cmp_lt, lg_cmp_eq, oob, oobL, neg0, negL0, natle_f, or_false, false_or, or_self, cl, clL, le_t, le_f, lt_t, lt_f, leL_t, leL_f, ltL_t, ltL_f, leM_t, leM_f, ltM_t, ltM_f, cond_true, cond_false, Option.bind_some, if_false, if_true, nI_1, gIs_eq, gIs_k, gIs_i, gIs_n, gIJ, gIR, gJI, gJR, gJs_eq, gJs_k, gJs_n, gRI, gRJ, gRs_eq, gRs_k, gRs_i, gRs_n, gZI, gZJ, gZR, pI_s, pJ_s, pV_s, pR_s, pR_n, decide_true, decide_false, not_true_eq_false, not_false_eq_true, decT, decF, Bool.true_eq_false, Bool.false_eq_true]
    simp [o1]
  · simp (disch := omega) only [hg, ho, e_X4_wordOf_75, x1, true_and, and_true, beq_t, beq_f, eqN_t, eqN_f, eqL_t, eqL_f, lg_cmp_ge, lg_cmp_le, lg_cmp_gt, lg_cmp_lt, lg_cmp_eq, oob, oobL, neg0, negL0, natle_f, or_false, false_or, or_self, cl, clL, le_t, le_f, lt_t, lt_f, leL_t, leL_f, ltL_t, ltL_f, leM_t, leM_f, ltM_t, ltM_f, cond_true, cond_false, Option.bind_some, if_false, if_true, nI_1, gIs_eq, gIs_k, gIs_i, gIs_n, gIJ, gIR, gJI, gJR, gJs_eq, gJs_k, gJs_n, gRI, gRJ, gRs_eq, gRs_k, gRs_i, gRs_n, gZI, gZJ, gZR, pI_s, pJ_s, pV_s, pR_s, pR_n, decide_true, decide_false, not_true_eq_false, not_false_eq_true, decT, decF, Bool.true_eq_false, Bool.false_eq_true]
    simp
  · simp (disch := omega) only [hg, ho, e_X4_wordOf_83, x2, true_and, and_true, beq_t, beq_f, eqN_t, eqN_f, eqL_t, eqL_f, lg_cmp_ge, lg_cmp_le, lg_cmp_gt, lg_cmp_lt, lg_cmp_eq, oob, oobL, neg0, negL0, natle_f, or_false, false_or, or_self, cl, clL, le_t, le_f, lt_t, lt_f, leL_t, leL_f, ltL_t, ltL_f, leM_t, leM_f, ltM_t, ltM_f, cond_true, cond_false, Option.bind_some, if_false, if_true, nI_1, gIs_eq, gIs_k, gIs_i, gIs_n, gIJ, gIR, gJI, gJR, gJs_eq, gJs_k, gJs_n, gRI, gRJ, gRs_eq, gRs_k, gRs_i, gRs_n, gZI, gZJ, gZR, pI_s, pJ_s, pV_s, pR_s, pR_n, decide_true, decide_false, not_true_eq_false, not_false_eq_true, decT, decF, Bool.true_eq_false, Bool.false_eq_true]
    simp
  · simp (disch := omega) only [hg, ho, e_X4_wordOf_92, x3, true_and, and_true, beq_t, beq_f, eqN_t, eqN_f, eqL_t, eqL_f, lg_cmp_ge, lg_cmp_le, lg_cmp_gt, lg_cmp_lt, lg_cmp_eq, oob, oobL, neg0, negL0, natle_f, or_false, false_or, or_self, cl, clL, le_t, le_f, lt_t, lt_f, leL_t, leL_f, ltL_t, ltL_f, leM_t, leM_f, ltM_t, ltM_f, cond_true, cond_false, Option.bind_some, if_false, if_true, nI_1, gIs_eq, gIs_k, gIs_i, gIs_n, gIJ, gIR, gJI, gJR, gJs_eq, gJs_k, gJs_n, gRI, gRJ, gRs_eq, gRs_k, gRs_i, gRs_n, gZI, gZJ, gZR, pI_s, pJ_s, pV_s, pR_s, pR_n, decide_true, decide_false, not_true_eq_false, not_false_eq_true, decT, decF, Bool.true_eq_false, Bool.false_eq_true]
    simp
  · simp (disch := omega) only [hg, ho, e_X4_wordOf_104, x2, true_and, and_true, beq_t, beq_f, eqN_t, eqN_f, eqL_t, eqL_f, lg_cmp_ge, lg_cmp_le, lg_cmp_gt, lg_cmp_lt, lg_cmp_eq, oob, oobL, neg0, negL0, natle_f, or_false, false_or, or_self, cl, clL, le_t, le_f, lt_t, lt_f, leL_t, leL_f, ltL_t, ltL_f, leM_t, leM_f, ltM_t, ltM_f, cond_true, cond_false, Option.bind_some, if_false, if_true, nI_1, gIs_eq, gIs_k, gIs_i, gIs_n, gIJ, gIR, gJI, gJR, gJs_eq, gJs_k, gJs_n, gRI, gRJ, gRs_eq, gRs_k, gRs_i, gRs_n, gZI, gZJ, gZR, pI_s, pJ_s, pV_s, pR_s, pR_n, decide_true, decide_false, not_true_eq_false, not_false_eq_true, decT, decF, Bool.true_eq_false, Bool.false_eq_true]
    simp
  · simp (disch := omega) only [hg, ho, e_X4_wordOf_113, x3, true_and, and_true, beq_t, beq_f, eqN_t, eqN_f, eqL_t, eqL_f, lg_cmp_ge, lg_cmp_le, lg_cmp_gt, lg_cmp_lt, lg_cmp_eq, oob, oobL, neg0, negL0, natle_f, or_false, false_or, or_self, cl, clL, le_t, le_f, lt_t, lt_f, leL_t, leL_f, ltL_t, ltL_f, leM_t, leM_f, ltM_t, ltM_f, cond_true, cond_false, Option.bind_some, if_false, if_true, nI_1, gIs_eq, gIs_k, gIs_i, gIs_n, gIJ, gIR, gJI, gJR, gJs_eq, gJs_k, gJs_n, gRI, gRJ, gRs_eq, gRs_k, gRs_i, gRs_n, gZI, gZJ, gZR, pI_s, pJ_s, pV_s, pR_s, pR_n, decide_true, decide_false, not_true_eq_false, not_false_eq_true, decT, decF, Bool.true_eq_false, Bool.false_eq_true]
    simp
  · simp (disch := omega) only [hg, ho, e_X4_wordOf_125, x2, hb.1, p_bitCount, true_and, and_true, beq_t, beq_f, eqN_t, eqN_f, eqL_t, eqL_f, lg_cmp_ge, lg_cmp_le, lg_cmp_gt, lg_cmp_lt, lg_cmp_eq, oob, oobL, neg0, negL0, natle_f, or_false, false_or, or_self, cl, clL, le_t, le_f, lt_t, lt_f, leL_t, leL_f, ltL_t, ltL_f, leM_t, leM_f, ltM_t, ltM_f, cond_true, cond_false, Option.bind_some, if_false, if_true, nI_1, gIs_eq, gIs_k, gIs_i, gIs_n, gIJ, gIR, gJI, gJR, gJs_eq, gJs_k, gJs_n, gRI, gRJ, gRs_eq, gRs_k, gRs_i, gRs_n, gZI, gZJ, gZR, pI_s, pJ_s, pV_s, pR_s, pR_n, decide_true, decide_false, not_true_eq_false, not_false_eq_true, decT, decF, Bool.true_eq_false, Bool.false_eq_true]
    simp
  · simp (disch := omega) only [hg, ho, e_X4_wordOf_142, x4, true_and, and_true, beq_t, beq_f, eqN_t, eqN_f, eqL_t, eqL_f, lg_cmp_ge, lg_cmp_le, lg_cmp_gt, lg_cmp_lt, lg_cmp_eq, oob, oobL, neg0, negL0, natle_f, or_false, false_or, or_self, cl, clL, le_t, le_f, lt_t, lt_f, leL_t, leL_f, ltL_t, ltL_f, leM_t, leM_f, ltM_t, ltM_f, cond_true, cond_false, Option.bind_some, if_false, if_true, nI_1, gIs_eq, gIs_k, gIs_i, gIs_n, gIJ, gIR, gJI, gJR, gJs_eq, gJs_k, gJs_n, gRI, gRJ, gRs_eq, gRs_k, gRs_i, gRs_n, gZI, gZJ, gZR, pI_s, pJ_s, pV_s, pR_s, pR_n, decide_true, decide_false, not_true_eq_false, not_false_eq_true, decT, decF, Bool.true_eq_false, Bool.false_eq_true]
    simp
  · simp (disch := omega) only [hg, ho, e_X4_wordOf_152, hb.2, true_and, and_true, beq_t, beq_f, eqN_t, eqN_f, eqL_t, eqL_f, lg_cmp_ge, lg_cmp_le, lg_cmp_gt, lg_cmp_lt, lg_cmp_eq, oob, oobL, neg0, negL0, natle_f, or_false, false_or, or_self, cl, clL, le_t, le_f, lt_t, lt_f, leL_t, leL_f, ltL_t, ltL_f, leM_t, leM_f, ltM_t, ltM_f, cond_true, cond_false, Option.bind_some, if_false, if_true, nI_1, gIs_eq, gIs_k, gIs_i, gIs_n, gIJ, gIR, gJI, gJR, gJs_eq, gJs_k, gJs_n, gRI, gRJ, gRs_eq, gRs_k, gRs_i, gRs_n, gZI, gZJ, gZR, pI_s, pJ_s, pV_s, pR_s, pR_n, decide_true, decide_false, not_true_eq_false, not_false_eq_true, decT, decF, Bool.true_eq_false, Bool.false_eq_true]
    simp
  · simp (disch := omega) only [hg, ho, e_X4_wordOf_158, hs.1, true_and, and_true, beq_t, beq_f, eqN_t, eqN_f, eqL_t, eqL_f, lg_cmp_ge, lg_cmp_le, lg_cmp_gt, lg_cmp_lt, lg_cmp_eq, oob, oobL, neg0, negL0, natle_f, or_false, false_or, or_self, cl, clL, le_t, le_f, lt_t, lt_f, leL_t, leL_f, ltL_t, ltL_f, leM_t, leM_f, ltM_t, ltM_f, cond_true, cond_false, Option.bind_some, if_false, if_true, nI_1, gIs_eq, gIs_k, gIs_i, gIs_n, gIJ, gIR, gJI, gJR, gJs_eq, gJs_k, gJs_n, gRI, gRJ, gRs_eq, gRs_k, gRs_i, gRs_n, gZI, gZJ, gZR, pI_s, pJ_s, pV_s, pR_s, pR_n, decide_true, decide_false, not_true_eq_false, not_false_eq_true, decT, decF, Bool.true_eq_false, Bool.false_eq_true]
    simp
/-- what one step does with two numbers -/
def dnS (st : Int32) (x y : Int64) : Int64 :=
  if st = -20 then x + y else if st = -21 then x - y else if st = -22 then x * y else if st = -23 then (if y = 0 then 0 else x / y) else if st = -24 then (if y = 0 then 0 else x - x / y * y) else if st = -25 then (if x < y then 1 else 0)
  else if st = -26 then (if x ≤ y then 1 else 0) else if st = -27 then (if x = y then 1 else 0) else if st = -28 then (if y ≤ x then 1 else 0) else if st = -29 then (if y < x then 1 else 0) else if st = -31 then x &&& y else x ||| y
def opS : List Int32 := [-20, -21, -22, -23, -24, -25, -26, -27, -28, -29, -31, -32]
theorem le64 {x y : Int64} : (¬ x < y) = (y ≤ x) := propext ⟨fun h => by
  rcases lg_tri x y with q | q | q
  · exact absurd q h
  · rw [q]; exact Int64.le_refl _
  · exact Int64.le_of_lt q, fun h q => lg_lt_not_le q h⟩
theorem p_X4_done (st : Int32) (hst : st ∈ opS) (x y : Int64) (w : XW) : F_X4_done [.inl (.int st), .inl (.long x), .inl (.long y)] w = some (dnS st x y, w) := by
  unfold opS at hst
  simp only [List.mem_cons, List.not_mem_nil, or_false] at hst
  rw [f_X4_done, e_X4_done_0]
  unfold dnS
  rcases hst with rfl | rfl | rfl | rfl | rfl | rfl | rfl | rfl | rfl | rfl | rfl | rfl
  · rw [e_X4_done_64]; rfl
  · rw [e_X4_done_68]; rfl
  · rw [e_X4_done_72]; rfl
  · rw [e_X4_done_76]
    by_cases h : y = 0
    · simp (disch := omega) only [h, e_X4_done_82, e_X4_done_89, true_and, and_true, beq_t, beq_f, eqN_t, eqN_f, eqL_t, eqL_f, lg_cmp_ge, lg_cmp_le, lg_cmp_gt, lg_cmp_lt, lg_cmp_eq, oob, oobL, neg0, negL0, natle_f, or_false, false_or, or_self, cl, clL, le_t, le_f, lt_t, lt_f, leL_t, leL_f, ltL_t, ltL_f, leM_t, leM_f, ltM_t, ltM_f, cond_true, cond_false, Option.bind_some, if_false, if_true, nI_1, gIs_eq, gIs_k, gIs_i, gIs_n, gIJ, gIR, gJI, gJR, gJs_eq, gJs_k, gJs_n, gRI, gRJ, gRs_eq, gRs_k, gRs_i, gRs_n, gZI, gZJ, gZR, pI_s, pJ_s, pV_s, pR_s, pR_n, decide_true, decide_false, not_true_eq_false, not_false_eq_true, decT, decF, Bool.true_eq_false, Bool.false_eq_true]
      rfl
    · simp (disch := omega) only [h, e_X4_done_86, e_X4_done_89, true_and, and_true, beq_t, beq_f, eqN_t, eqN_f, eqL_t, eqL_f, lg_cmp_ge, lg_cmp_le, lg_cmp_gt, lg_cmp_lt, lg_cmp_eq, oob, oobL, neg0, negL0, natle_f, or_false, false_or, or_self, cl, clL, le_t, le_f, lt_t, lt_f, leL_t, leL_f, ltL_t, ltL_f, leM_t, leM_f, ltM_t, ltM_f, cond_true, cond_false, Option.bind_some, if_false, if_true, nI_1, gIs_eq, gIs_k, gIs_i, gIs_n, gIJ, gIR, gJI, gJR, gJs_eq, gJs_k, gJs_n, gRI, gRJ, gRs_eq, gRs_k, gRs_i, gRs_n, gZI, gZJ, gZR, pI_s, pJ_s, pV_s, pR_s, pR_n, decide_true, decide_false, not_true_eq_false, not_false_eq_true, decT, decF, Bool.true_eq_false, Bool.false_eq_true]
      rfl
  · rw [e_X4_done_90]
    by_cases h : y = 0
    · simp (disch := omega) only [h, e_X4_done_96, e_X4_done_103, true_and, and_true, beq_t, beq_f, eqN_t, eqN_f, eqL_t, eqL_f, lg_cmp_ge, lg_cmp_le, lg_cmp_gt, lg_cmp_lt, lg_cmp_eq, oob, oobL, neg0, negL0, natle_f, or_false, false_or, or_self, cl, clL, le_t, le_f, lt_t, lt_f, leL_t, leL_f, ltL_t, ltL_f, leM_t, leM_f, ltM_t, ltM_f, cond_true, cond_false, Option.bind_some, if_false, if_true, nI_1, gIs_eq, gIs_k, gIs_i, gIs_n, gIJ, gIR, gJI, gJR, gJs_eq, gJs_k, gJs_n, gRI, gRJ, gRs_eq, gRs_k, gRs_i, gRs_n, gZI, gZJ, gZR, pI_s, pJ_s, pV_s, pR_s, pR_n, decide_true, decide_false, not_true_eq_false, not_false_eq_true, decT, decF, Bool.true_eq_false, Bool.false_eq_true]
      rfl
    · simp (disch := omega) only [h, e_X4_done_100, e_X4_done_103, true_and, and_true, beq_t, beq_f, eqN_t, eqN_f, eqL_t, eqL_f, lg_cmp_ge, lg_cmp_le, lg_cmp_gt, lg_cmp_lt, lg_cmp_eq, oob, oobL, neg0, negL0, natle_f, or_false, false_or, or_self, cl, clL, le_t, le_f, lt_t, lt_f, leL_t, leL_f, ltL_t, ltL_f, leM_t, leM_f, ltM_t, ltM_f, cond_true, cond_false, Option.bind_some, if_false, if_true, nI_1, gIs_eq, gIs_k, gIs_i, gIs_n, gIJ, gIR, gJI, gJR, gJs_eq, gJs_k, gJs_n, gRI, gRJ, gRs_eq, gRs_k, gRs_i, gRs_n, gZI, gZJ, gZR, pI_s, pJ_s, pV_s, pR_s, pR_n, decide_true, decide_false, not_true_eq_false, not_false_eq_true, decT, decF, Bool.true_eq_false, Bool.false_eq_true]
      rfl
  · rw [e_X4_done_104]
    by_cases h : x < y
    · simp (disch := omega) only [h, lg_lt_not_le, e_X4_done_110, e_X4_done_115, true_and, and_true, beq_t, beq_f, eqN_t, eqN_f, eqL_t, eqL_f, lg_cmp_ge, lg_cmp_le, lg_cmp_gt, lg_cmp_lt, lg_cmp_eq, oob, oobL, neg0, negL0, natle_f, or_false, false_or, or_self, cl, clL, le_t, le_f, lt_t, lt_f, leL_t, leL_f, ltL_t, ltL_f, leM_t, leM_f, ltM_t, ltM_f, cond_true, cond_false, Option.bind_some, if_false, if_true, nI_1, gIs_eq, gIs_k, gIs_i, gIs_n, gIJ, gIR, gJI, gJR, gJs_eq, gJs_k, gJs_n, gRI, gRJ, gRs_eq, gRs_k, gRs_i, gRs_n, gZI, gZJ, gZR, pI_s, pJ_s, pV_s, pR_s, pR_n, decide_true, decide_false, not_true_eq_false, not_false_eq_true, decT, decF, Bool.true_eq_false, Bool.false_eq_true]
      rfl
    · rw [le64] at h
      simp (disch := omega) only [h, lg_le_not_lt, e_X4_done_114, e_X4_done_115, true_and, and_true, beq_t, beq_f, eqN_t, eqN_f, eqL_t, eqL_f, lg_cmp_ge, lg_cmp_le, lg_cmp_gt, lg_cmp_lt, lg_cmp_eq, oob, oobL, neg0, negL0, natle_f, or_false, false_or, or_self, cl, clL, le_t, le_f, lt_t, lt_f, leL_t, leL_f, ltL_t, ltL_f, leM_t, leM_f, ltM_t, ltM_f, cond_true, cond_false, Option.bind_some, if_false, if_true, nI_1, gIs_eq, gIs_k, gIs_i, gIs_n, gIJ, gIR, gJI, gJR, gJs_eq, gJs_k, gJs_n, gRI, gRJ, gRs_eq, gRs_k, gRs_i, gRs_n, gZI, gZJ, gZR, pI_s, pJ_s, pV_s, pR_s, pR_n, decide_true, decide_false, not_true_eq_false, not_false_eq_true, decT, decF, Bool.true_eq_false, Bool.false_eq_true]
      rfl
  · sorry
  · sorry
  · sorry
  · sorry
  · rw [e_X4_done_164]; rfl
  · rw [e_X4_done_168]; rfl
