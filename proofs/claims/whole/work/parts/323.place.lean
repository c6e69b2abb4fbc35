/-! ===== the class's reckoning ===== -/
def tkP (d : Dl) (s : Sc) (f : Nat) : Bool := decide (¬ kiS d s (nI f) = -1)
theorem bts_lt4' : ∀ a b c d e f : Bool, ∀ n : Fin 5, ∃ m : Fin 16, bts (bl6 a b c d e f) n.val = nI m.val := by decide +kernel
theorem bts_lt4 (P : Nat → Bool) {n : Nat} (hn : n ≤ 4) : ∃ m, m < 16 ∧ bts P n = nI m := by
  rw [bts_congr (fun j hj => bl6_of P (by omega))]
  obtain ⟨m, hm⟩ := bts_lt4' (P 0) (P 1) (P 2) (P 3) (P 4) (P 5) ⟨n, by omega⟩
  exact ⟨m.val, m.isLt, hm⟩
theorem or4 : ∀ S : Fin 16, ∀ f : Fin 4, nI S.val ||| ((1 : Int32) <<< (nI f.val &&& 31)) = nI (S.val ||| 2 ^ f.val) ∧ S.val ||| 2 ^ f.val < 16 := by decide +kernel
theorem sup4 : ∀ S T : Fin 16, ∀ f : Fin 4, S.val &&& T.val = T.val → (S.val ||| 2 ^ f.val) &&& T.val = T.val := by decide +kernel
theorem orb4 : ∀ S T : Fin 16, ∀ f : Fin 4, ((S.val ||| T.val) / 2 ^ f.val % 2 = 0) ↔ (S.val / 2 ^ f.val % 2 = 0 ∧ T.val / 2 ^ f.val % 2 = 0) := by decide +kernel
theorem tk_ex (d : Dl) (hD : DOk d) (s : Sc) : ∃ T, T < 16 ∧ bts (tkP d s) (fn d) = nI T ∧ ∀ f, f < fn d → (T / 2 ^ f % 2 = 1 ↔ ¬ kiS d s (nI f) = -1) := by
  have h4 := hD.2.2.1.2
  obtain ⟨T, hT, e⟩ := bts_lt4 (tkP d s) h4
  refine ⟨T, hT, e, fun f hf => ?_⟩
  rw [bts_bitN (P := tkP d s) (by omega) (by omega) e (k := f) (by omega)]
  unfold tkP
  rw [decide_eq_true_eq]
  exact ⟨fun h => h.2, fun h => ⟨hf, h⟩⟩
theorem c_takenIn {w : XW} {d : Dl} {s : Sc} {jd i : Nat} (hd : DlAt w jd d) (hs : ScAt w i s) (h0 : gI w 8 i 0 = d.1 3) (hD : DOk d) : F_X6_takenIn [.inr (1, jd), .inr (8, i)] w = some (bts (tkP d s) (fn d), w) := by
  have h4 := hD.2.2.1.2
  have g : gI w 1 jd 5 = nI (fn d) := by rw [hd.1 5 (by omega)]; exact hD.2.2.1.1
  rw [f_X6_takenIn, e_X6_takenIn_0]
  have := itr_run (fn d) (fun k s => q_X6_takenIn_4 jd i s (nI k) w) (fun k b => if tkP d s k = true then b ||| ((1 : Int32) <<< (nI k &&& 31)) else b) (fun s => some (some (.inl (.int s)), w)) (fun k b hk => by
    ((try dsimp only); rw [e_X6_takenIn_4]; simp (disch := omega) only [g, e_X6_takenIn_12, c_keepIn hs h0 hD, true_and, and_true, false_and, and_false, beq_t, beq_f, eqN_t, eqN_f, eqL_t, eqL_f, nm1, nm2, nm1', nm2', m1z, m2z, zm1, zm2, m12, m21, lg_cmp_ge, lg_cmp_le, lg_cmp_gt, lg_cmp_lt, lg_cmp_eq, oob, oobL, neg0, negL0, natle_f, or_false, false_or, true_or, or_true, or_self, cl, clL, le_t, le_f, lt_t, lt_f, leL_t, leL_f, ltL_t, ltL_f, leM_t, leM_f, ltM_t, ltM_f, leO_t, leO_f, cond_true, cond_false, Option.bind_some, Option.bind_none, if_false, if_true, nI_1, aL1, aL2, mL1, mL2, nI_add, pk_mul, pk_m1, sL1, dL1, pk_sub, m1p1, gIs_eq, gIs_k, gIs_i, gIs_n, gIs_e, gIJ, gIR, gJI, gJR, gJs_eq, gJs_k, gJs_n, gJs_e, gRI, gRJ, gRs_eq, gRs_k, gRs_i, gRs_n, gZI, gZJ, gZR, pI_s, pJ_s, pV_s, pR_s, pR_n, oR_n, oR_s, decide_true, decide_false, not_true_eq_false, not_false_eq_true, decT, decF, Bool.true_eq_false, Bool.false_eq_true, z01, o01, z1f, z1f', zz, oo, b2i_0, b2i_n, b2i_t, b2i_f, Bool.not_true, Bool.not_false])
    unfold tkP
    by_cases hq : kiS d s (nI k) = -1
    · simp (disch := omega) only [hq, e_X6_takenIn_27, true_and, and_true, false_and, and_false, beq_t, beq_f, eqN_t, eqN_f, eqL_t, eqL_f, nm1, nm2, nm1', nm2', m1z, m2z, zm1, zm2, m12, m21, lg_cmp_ge, lg_cmp_le, lg_cmp_gt, lg_cmp_lt, lg_cmp_eq, oob, oobL, neg0, negL0, natle_f, or_false, false_or, true_or, or_true, or_self, cl, clL, le_t, le_f, lt_t, lt_f, leL_t, leL_f, ltL_t, ltL_f, leM_t, leM_f, ltM_t, ltM_f, leO_t, leO_f, cond_true, cond_false, Option.bind_some, Option.bind_none, if_false, if_true, nI_1, aL1, aL2, mL1, mL2, nI_add, pk_mul, pk_m1, sL1, dL1, pk_sub, m1p1, gIs_eq, gIs_k, gIs_i, gIs_n, gIs_e, gIJ, gIR, gJI, gJR, gJs_eq, gJs_k, gJs_n, gJs_e, gRI, gRJ, gRs_eq, gRs_k, gRs_i, gRs_n, gZI, gZJ, gZR, pI_s, pJ_s, pV_s, pR_s, pR_n, oR_n, oR_s, decide_true, decide_false, not_true_eq_false, not_false_eq_true, decT, decF, Bool.true_eq_false, Bool.false_eq_true, z01, o01, z1f, z1f', zz, oo, b2i_0, b2i_n, b2i_t, b2i_f, Bool.not_true, Bool.not_false]
    · simp (disch := omega) only [hq, e_X6_takenIn_21, e_X6_takenIn_27, true_and, and_true, false_and, and_false, beq_t, beq_f, eqN_t, eqN_f, eqL_t, eqL_f, nm1, nm2, nm1', nm2', m1z, m2z, zm1, zm2, m12, m21, lg_cmp_ge, lg_cmp_le, lg_cmp_gt, lg_cmp_lt, lg_cmp_eq, oob, oobL, neg0, negL0, natle_f, or_false, false_or, true_or, or_true, or_self, cl, clL, le_t, le_f, lt_t, lt_f, leL_t, leL_f, ltL_t, ltL_f, leM_t, leM_f, ltM_t, ltM_f, leO_t, leO_f, cond_true, cond_false, Option.bind_some, Option.bind_none, if_false, if_true, nI_1, aL1, aL2, mL1, mL2, nI_add, pk_mul, pk_m1, sL1, dL1, pk_sub, m1p1, gIs_eq, gIs_k, gIs_i, gIs_n, gIs_e, gIJ, gIR, gJI, gJR, gJs_eq, gJs_k, gJs_n, gJs_e, gRI, gRJ, gRs_eq, gRs_k, gRs_i, gRs_n, gZI, gZJ, gZR, pI_s, pJ_s, pV_s, pR_s, pR_n, oR_n, oR_s, decide_true, decide_false, not_true_eq_false, not_false_eq_true, decT, decF, Bool.true_eq_false, Bool.false_eq_true, z01, o01, z1f, z1f', zz, oo, b2i_0, b2i_n, b2i_t, b2i_f, Bool.not_true, Bool.not_false]) (fun b => by ((try dsimp only); rw [e_X6_takenIn_4]; simp (disch := omega) only [g, e_X6_takenIn_33, true_and, and_true, false_and, and_false, beq_t, beq_f, eqN_t, eqN_f, eqL_t, eqL_f, nm1, nm2, nm1', nm2', m1z, m2z, zm1, zm2, m12, m21, lg_cmp_ge, lg_cmp_le, lg_cmp_gt, lg_cmp_lt, lg_cmp_eq, oob, oobL, neg0, negL0, natle_f, or_false, false_or, true_or, or_true, or_self, cl, clL, le_t, le_f, lt_t, lt_f, leL_t, leL_f, ltL_t, ltL_f, leM_t, leM_f, ltM_t, ltM_f, leO_t, leO_f, cond_true, cond_false, Option.bind_some, Option.bind_none, if_false, if_true, nI_1, aL1, aL2, mL1, mL2, nI_add, pk_mul, pk_m1, sL1, dL1, pk_sub, m1p1, gIs_eq, gIs_k, gIs_i, gIs_n, gIs_e, gIJ, gIR, gJI, gJR, gJs_eq, gJs_k, gJs_n, gJs_e, gRI, gRJ, gRs_eq, gRs_k, gRs_i, gRs_n, gZI, gZJ, gZR, pI_s, pJ_s, pV_s, pR_s, pR_n, oR_n, oR_s, decide_true, decide_false, not_true_eq_false, not_false_eq_true, decT, decF, Bool.true_eq_false, Bool.false_eq_true, z01, o01, z1f, z1f', zz, oo, b2i_0, b2i_n, b2i_t, b2i_f, Bool.not_true, Bool.not_false])) 0
  rw [nI_0] at this
  rw [this]
  rfl
def TbC (w : XW) (d : Dl) (s : Sc) (T k : Nat) : Prop := ∀ k' S, k ≤ k' → k' ≤ kn d → S < 16 → S &&& T = T → gI w 25 0 (k' * 16 + S) = nI (trk d s (kn d - k') k' S).1
def P25 (κ _j _k : Nat) : Prop := κ = 25
theorem c_bestWith {w : XW} {d : Dl} (hD : DOk d) {s : Sc} (hS : SOk d s) {jd i : Nat} (hd : DlAt w jd d) (hs : ScAt w i s) {T k S f : Nat} (hT : T < 16) (hk : k < kn d) (hSl : S < 16) (hST : S &&& T = T) (hf : f < fn d) (ht : TbC w d s T (k + 1)) :
    F_X6_bestWith [.inr (5, 0), .inr (1, jd), .inr (8, i), .inl (.int (nI k)), .inl (.int (nI S)), .inl (.int (nI f))] w = some (nI ((trk d s (kn d - (k + 1)) (k + 1) (S ||| 2 ^ f)).1 + 8 * koN d s k f) - 1, w) := by
  have h6 := hD.1.2
  have h4 := hD.2.2.1.2
  obtain ⟨o1, o2⟩ := or4 ⟨S, hSl⟩ ⟨f, by omega⟩
  dsimp only at o1 o2
  have t1 := ht (k + 1) (S ||| 2 ^ f) (Nat.le_refl _) (by omega) o2 (sup4 ⟨S, hSl⟩ ⟨T, hT⟩ ⟨f, by omega⟩ hST)
  have x1 := (hs.2 k (by omega)).1
  have x2 := hd.2.2.2 f (by omega)
  obtain ⟨ko1, ko2⟩ := ko_nI hD hS hk hf
  have ko1 : (if s.2.1 k < d.2.2.2.2.2.2 f then s.2.1 k else d.2.2.2.2.2.2 f) = nI (koN d s k f) := ko1
  rw [f_X6_bestWith, e_X6_bestWith_0, o1]
  simp (disch := omega) only [x1, x2, ko1, t1, true_and, and_true, false_and, and_false, beq_t, beq_f, eqN_t, eqN_f, eqL_t, eqL_f, nm1, nm2, nm1', nm2', m1z, m2z, zm1, zm2, m12, m21, lg_cmp_ge, lg_cmp_le, lg_cmp_gt, lg_cmp_lt, lg_cmp_eq, oob, oobL, neg0, negL0, natle_f, or_false, false_or, true_or, or_true, or_self, cl, clL, le_t, le_f, lt_t, lt_f, leL_t, leL_f, ltL_t, ltL_f, leM_t, leM_f, ltM_t, ltM_f, leO_t, leO_f, cond_true, cond_false, Option.bind_some, Option.bind_none, if_false, if_true, nI_1, aL1, aL2, mL1, mL2, nI_add, pk_mul, pk_m1, sL1, dL1, pk_sub, m1p1, gIs_eq, gIs_k, gIs_i, gIs_n, gIs_e, gIJ, gIR, gJI, gJR, gJs_eq, gJs_k, gJs_n, gJs_e, gRI, gRJ, gRs_eq, gRs_k, gRs_i, gRs_n, gZI, gZJ, gZR, pI_s, pJ_s, pV_s, pR_s, pR_n, oR_n, oR_s, decide_true, decide_false, not_true_eq_false, not_false_eq_true, decT, decF, Bool.true_eq_false, Bool.false_eq_true, z01, o01, z1f, z1f', zz, oo, b2i_0, b2i_n, b2i_t, b2i_f, Bool.not_true, Bool.not_false]
theorem mxS (m c : Nat) (hm : m < 60000) (hc : c < 60000) : (if nI m < nI c - 1 then nI c - 1 else nI m) = nI (if m + 1 < c then c - 1 else m) := by
  have h1 : (nI c - 1).toInt = (c : Int) - 1 := pk_sub_toInt (a := c) (b := 1) (by omega) (by omega)
  by_cases h : m + 1 < c
  · rw [if_pos h, if_pos (by rw [Int32.lt_iff_toInt_lt, h1, nI_toInt (by omega)]; omega)]
    exact pk_sub (a := c) (b := 1) (by omega)
  · rw [if_neg h, if_neg (by rw [Int32.lt_iff_toInt_lt, h1, nI_toInt (by omega)]; omega)]
theorem eqS (m c : Nat) (hm : m < 60000) (hc : c < 60000) : (nI c - 1 = nI m) = (c = m + 1) := by
  have h1 : (nI c - 1).toInt = (c : Int) - 1 := pk_sub_toInt (a := c) (b := 1) (by omega) (by omega)
  apply propext
  constructor
  · intro h
    have := congrArg Int32.toInt h
    rw [h1, nI_toInt (by omega)] at this
    omega
  · intro h
    rw [h]
    exact nI_pred m
theorem tr1_le {d : Dl} (hD : DOk d) {s : Sc} (hS : SOk d s) {n k S : Nat} (hk : k + (n + 1) ≤ kn d) : ∀ m, m ≤ fn d → (tr1 d s n k S m).1 ≤ 480 * (n + 1) := by
  intro m
  induction m with
  | zero => intro _; have := trk_le hD hS n (k + 1) S (by omega); show (trk d s n (k + 1) S).1 ≤ _; omega
  | succ m ihm =>
    intro hm
    rw [tr1_s]
    have h1 := ihm (by omega)
    cases alw s k S m && decide ((tr1 d s n k S m).1 + 1 < (trk d s n (k + 1) (S ||| 2 ^ m)).1 + 8 * koN d s k m) with
    | false => exact h1
    | true =>
      have h2 := trk_le hD hS n (k + 1) (S ||| 2 ^ m) (by omega)
      have h3 := (ko_nI hD hS (k := k) (f := m) (by omega) (by omega)).2
      show _ - 1 ≤ _
      omega
theorem tr1_stay {d : Dl} {s : Sc} {n k S : Nat} (h : ¬ s.2.2.2.1 k = -1) : ∀ m, tr1 d s n k S m = ((trk d s n (k + 1) S).1, 0) := by
  intro m
  induction m with
  | zero => rfl
  | succ m ih =>
    rw [tr1_s, ih]
    unfold alw
    rw [decF h]
    rfl
theorem c_bestFrom {w : XW} {d : Dl} (hD : DOk d) {s : Sc} (hS : SOk d s) {jd i : Nat} (hd : DlAt w jd d) (hs : ScAt w i s) {T k S n : Nat} (hT : T < 16) (hk : k + (n + 1) = kn d) (hSl : S < 16) (hST : S &&& T = T) (ht : TbC w d s T (k + 1)) :
    F_X6_bestFrom [.inr (5, 0), .inr (1, jd), .inr (8, i), .inl (.int (nI k)), .inl (.int (nI S))] w = some (nI (tr1 d s n k S (fn d)).1, w) := by
  have h6 := hD.1.2
  have h4 := hD.2.2.1.2
  have hn : kn d - (k + 1) = n := by omega
  have t0 := ht (k + 1) S (Nat.le_refl _) (by omega) hSl hST
  rw [hn] at t0
  have g : gI w 1 jd 5 = nI (fn d) := by rw [hd.1 5 (by omega)]; exact hD.2.2.1.1
  have x1 := (hs.2 k (by omega)).2.2.1
  rw [f_X6_bestFrom, e_X6_bestFrom_0]
  by_cases hh : s.2.2.2.1 k = -1
  · have loop := itr_loop (fn d) (fun f (a : Nat) => q_X6_bestFrom_19 jd i (nI k) (nI S) (nI a) (nI f) w) (fun f a => bif decide (S / 2 ^ f % 2 = 0) && decide (a + 1 < (trk d s n (k + 1) (S ||| 2 ^ f)).1 + 8 * koN d s k f) then (trk d s n (k + 1) (S ||| 2 ^ f)).1 + 8 * koN d s k f - 1 else a) (fun a => some (some (.inl (.int (nI a))), w)) (fun f a => a = (tr1 d s n k S f).1) (fun f a hf ha => by
      have hb := c_bestWith hD hS hd hs hT (k := k) (by omega) hSl hST hf ht
      rw [hn] at hb
      have l1 := tr1_le hD hS (n := n) (k := k) (S := S) (by omega) f (by omega)
      have l2 := trk_le hD hS n (k + 1) (S ||| 2 ^ f) (by omega)
      have l3 := (ko_nI hD hS (k := k) (f := f) (by omega) hf).2
      have hmx := mxS a ((trk d s n (k + 1) (S ||| 2 ^ f)).1 + 8 * koN d s k f) (by omega) (by omega)
      refine ⟨?_, ?_⟩
      · rw [e_X6_bestFrom_19]
        simp (disch := omega) only [g, e_X6_bestFrom_28, x1, hh, e_X6_bestFrom_38, bit6 (b := S) (j := f) (by omega) (by omega), true_and, and_true, false_and, and_false, beq_t, beq_f, eqN_t, eqN_f, eqL_t, eqL_f, nm1, nm2, nm1', nm2', m1z, m2z, zm1, zm2, m12, m21, lg_cmp_ge, lg_cmp_le, lg_cmp_gt, lg_cmp_lt, lg_cmp_eq, oob, oobL, neg0, negL0, natle_f, or_false, false_or, true_or, or_true, or_self, cl, clL, le_t, le_f, lt_t, lt_f, leL_t, leL_f, ltL_t, ltL_f, leM_t, leM_f, ltM_t, ltM_f, leO_t, leO_f, cond_true, cond_false, Option.bind_some, Option.bind_none, if_false, if_true, nI_1, aL1, aL2, mL1, mL2, nI_add, pk_mul, pk_m1, sL1, dL1, pk_sub, m1p1, gIs_eq, gIs_k, gIs_i, gIs_n, gIs_e, gIJ, gIR, gJI, gJR, gJs_eq, gJs_k, gJs_n, gJs_e, gRI, gRJ, gRs_eq, gRs_k, gRs_i, gRs_n, gZI, gZJ, gZR, pI_s, pJ_s, pV_s, pR_s, pR_n, oR_n, oR_s, decide_true, decide_false, not_true_eq_false, not_false_eq_true, decT, decF, Bool.true_eq_false, Bool.false_eq_true, z01, o01, z1f, z1f', zz, oo, b2i_0, b2i_n, b2i_t, b2i_f, Bool.not_true, Bool.not_false]
        have h01 : S / 2 ^ f % 2 = 0 ∨ S / 2 ^ f % 2 = 1 := by omega
        rcases h01 with h01 | h01
        · rw [h01]
          simp (disch := omega) only [e_X6_bestFrom_48, hb, hmx, e_X6_bestFrom_66, Bool.true_and, true_and, and_true, false_and, and_false, beq_t, beq_f, eqN_t, eqN_f, eqL_t, eqL_f, nm1, nm2, nm1', nm2', m1z, m2z, zm1, zm2, m12, m21, lg_cmp_ge, lg_cmp_le, lg_cmp_gt, lg_cmp_lt, lg_cmp_eq, oob, oobL, neg0, negL0, natle_f, or_false, false_or, true_or, or_true, or_self, cl, clL, le_t, le_f, lt_t, lt_f, leL_t, leL_f, ltL_t, ltL_f, leM_t, leM_f, ltM_t, ltM_f, leO_t, leO_f, cond_true, cond_false, Option.bind_some, Option.bind_none, if_false, if_true, nI_1, aL1, aL2, mL1, mL2, nI_add, pk_mul, pk_m1, sL1, dL1, pk_sub, m1p1, gIs_eq, gIs_k, gIs_i, gIs_n, gIs_e, gIJ, gIR, gJI, gJR, gJs_eq, gJs_k, gJs_n, gJs_e, gRI, gRJ, gRs_eq, gRs_k, gRs_i, gRs_n, gZI, gZJ, gZR, pI_s, pJ_s, pV_s, pR_s, pR_n, oR_n, oR_s, decide_true, decide_false, not_true_eq_false, not_false_eq_true, decT, decF, Bool.true_eq_false, Bool.false_eq_true, z01, o01, z1f, z1f', zz, oo, b2i_0, b2i_n, b2i_t, b2i_f, Bool.not_true, Bool.not_false]
          by_cases hl : a + 1 < (trk d s n (k + 1) (S ||| 2 ^ f)).1 + 8 * koN d s k f
          · rw [if_pos hl, decT hl]
            rfl
          · rw [if_neg hl, decF hl]
            rfl
        · rw [h01]
          simp (disch := omega) only [e_X6_bestFrom_66, Nat.one_ne_zero, Bool.false_and, true_and, and_true, false_and, and_false, beq_t, beq_f, eqN_t, eqN_f, eqL_t, eqL_f, nm1, nm2, nm1', nm2', m1z, m2z, zm1, zm2, m12, m21, lg_cmp_ge, lg_cmp_le, lg_cmp_gt, lg_cmp_lt, lg_cmp_eq, oob, oobL, neg0, negL0, natle_f, or_false, false_or, true_or, or_true, or_self, cl, clL, le_t, le_f, lt_t, lt_f, leL_t, leL_f, ltL_t, ltL_f, leM_t, leM_f, ltM_t, ltM_f, leO_t, leO_f, cond_true, cond_false, Option.bind_some, Option.bind_none, if_false, if_true, nI_1, aL1, aL2, mL1, mL2, nI_add, pk_mul, pk_m1, sL1, dL1, pk_sub, m1p1, gIs_eq, gIs_k, gIs_i, gIs_n, gIs_e, gIJ, gIR, gJI, gJR, gJs_eq, gJs_k, gJs_n, gJs_e, gRI, gRJ, gRs_eq, gRs_k, gRs_i, gRs_n, gZI, gZJ, gZR, pI_s, pJ_s, pV_s, pR_s, pR_n, oR_n, oR_s, decide_true, decide_false, not_true_eq_false, not_false_eq_true, decT, decF, Bool.true_eq_false, Bool.false_eq_true, z01, o01, z1f, z1f', zz, oo, b2i_0, b2i_n, b2i_t, b2i_f, Bool.not_true, Bool.not_false]
      · rw [tr1_s, ← ha]
        unfold alw
        rw [decT hh, Bool.true_and]
        cases decide (S / 2 ^ f % 2 = 0) && decide (a + 1 < (trk d s n (k + 1) (S ||| 2 ^ f)).1 + 8 * koN d s k f) with
        | true => rfl
        | false => exact ha) (fun a _ => by
      (try dsimp only)
      rw [e_X6_bestFrom_19]
      simp (disch := omega) only [g, e_X6_bestFrom_72, true_and, and_true, false_and, and_false, beq_t, beq_f, eqN_t, eqN_f, eqL_t, eqL_f, nm1, nm2, nm1', nm2', m1z, m2z, zm1, zm2, m12, m21, lg_cmp_ge, lg_cmp_le, lg_cmp_gt, lg_cmp_lt, lg_cmp_eq, oob, oobL, neg0, negL0, natle_f, or_false, false_or, true_or, or_true, or_self, cl, clL, le_t, le_f, lt_t, lt_f, leL_t, leL_f, ltL_t, ltL_f, leM_t, leM_f, ltM_t, ltM_f, leO_t, leO_f, cond_true, cond_false, Option.bind_some, Option.bind_none, if_false, if_true, nI_1, aL1, aL2, mL1, mL2, nI_add, pk_mul, pk_m1, sL1, dL1, pk_sub, m1p1, gIs_eq, gIs_k, gIs_i, gIs_n, gIs_e, gIJ, gIR, gJI, gJR, gJs_eq, gJs_k, gJs_n, gJs_e, gRI, gRJ, gRs_eq, gRs_k, gRs_i, gRs_n, gZI, gZJ, gZR, pI_s, pJ_s, pV_s, pR_s, pR_n, oR_n, oR_s, decide_true, decide_false, not_true_eq_false, not_false_eq_true, decT, decF, Bool.true_eq_false, Bool.false_eq_true, z01, o01, z1f, z1f', zz, oo, b2i_0, b2i_n, b2i_t, b2i_f, Bool.not_true, Bool.not_false]) (fn d) 0 (trk d s n (k + 1) S).1 (by omega) rfl
    obtain ⟨l1, l2⟩ := loop
    rw [l2, nI_0] at l1
    simp (disch := omega) only [t0, l1, true_and, and_true, false_and, and_false, beq_t, beq_f, eqN_t, eqN_f, eqL_t, eqL_f, nm1, nm2, nm1', nm2', m1z, m2z, zm1, zm2, m12, m21, lg_cmp_ge, lg_cmp_le, lg_cmp_gt, lg_cmp_lt, lg_cmp_eq, oob, oobL, neg0, negL0, natle_f, or_false, false_or, true_or, or_true, or_self, cl, clL, le_t, le_f, lt_t, lt_f, leL_t, leL_f, ltL_t, ltL_f, leM_t, leM_f, ltM_t, ltM_f, leO_t, leO_f, cond_true, cond_false, Option.bind_some, Option.bind_none, if_false, if_true, nI_1, aL1, aL2, mL1, mL2, nI_add, pk_mul, pk_m1, sL1, dL1, pk_sub, m1p1, gIs_eq, gIs_k, gIs_i, gIs_n, gIs_e, gIJ, gIR, gJI, gJR, gJs_eq, gJs_k, gJs_n, gJs_e, gRI, gRJ, gRs_eq, gRs_k, gRs_i, gRs_n, gZI, gZJ, gZR, pI_s, pJ_s, pV_s, pR_s, pR_n, oR_n, oR_s, decide_true, decide_false, not_true_eq_false, not_false_eq_true, decT, decF, Bool.true_eq_false, Bool.false_eq_true, z01, o01, z1f, z1f', zz, oo, b2i_0, b2i_n, b2i_t, b2i_f, Bool.not_true, Bool.not_false]
  · rw [tr1_stay hh]
    by_cases hf0 : fn d = 0
    · simp (disch := omega) only [t0, e_X6_bestFrom_19, g, hf0, e_X6_bestFrom_72, true_and, and_true, false_and, and_false, beq_t, beq_f, eqN_t, eqN_f, eqL_t, eqL_f, nm1, nm2, nm1', nm2', m1z, m2z, zm1, zm2, m12, m21, lg_cmp_ge, lg_cmp_le, lg_cmp_gt, lg_cmp_lt, lg_cmp_eq, oob, oobL, neg0, negL0, natle_f, or_false, false_or, true_or, or_true, or_self, cl, clL, le_t, le_f, lt_t, lt_f, leL_t, leL_f, ltL_t, ltL_f, leM_t, leM_f, ltM_t, ltM_f, leO_t, leO_f, cond_true, cond_false, Option.bind_some, Option.bind_none, if_false, if_true, nI_1, aL1, aL2, mL1, mL2, nI_add, pk_mul, pk_m1, sL1, dL1, pk_sub, m1p1, gIs_eq, gIs_k, gIs_i, gIs_n, gIs_e, gIJ, gIR, gJI, gJR, gJs_eq, gJs_k, gJs_n, gJs_e, gRI, gRJ, gRs_eq, gRs_k, gRs_i, gRs_n, gZI, gZJ, gZR, pI_s, pJ_s, pV_s, pR_s, pR_n, oR_n, oR_s, decide_true, decide_false, not_true_eq_false, not_false_eq_true, decT, decF, Bool.true_eq_false, Bool.false_eq_true, z01, o01, z1f, z1f', zz, oo, b2i_0, b2i_n, b2i_t, b2i_f, Bool.not_true, Bool.not_false]
    · simp (disch := omega) only [t0, e_X6_bestFrom_19, g, e_X6_bestFrom_28, x1, hh, e_X6_bestFrom_72, true_and, and_true, false_and, and_false, beq_t, beq_f, eqN_t, eqN_f, eqL_t, eqL_f, nm1, nm2, nm1', nm2', m1z, m2z, zm1, zm2, m12, m21, lg_cmp_ge, lg_cmp_le, lg_cmp_gt, lg_cmp_lt, lg_cmp_eq, oob, oobL, neg0, negL0, natle_f, or_false, false_or, true_or, or_true, or_self, cl, clL, le_t, le_f, lt_t, lt_f, leL_t, leL_f, ltL_t, ltL_f, leM_t, leM_f, ltM_t, ltM_f, leO_t, leO_f, cond_true, cond_false, Option.bind_some, Option.bind_none, if_false, if_true, nI_1, aL1, aL2, mL1, mL2, nI_add, pk_mul, pk_m1, sL1, dL1, pk_sub, m1p1, gIs_eq, gIs_k, gIs_i, gIs_n, gIs_e, gIJ, gIR, gJI, gJR, gJs_eq, gJs_k, gJs_n, gJs_e, gRI, gRJ, gRs_eq, gRs_k, gRs_i, gRs_n, gZI, gZJ, gZR, pI_s, pJ_s, pV_s, pR_s, pR_n, oR_n, oR_s, decide_true, decide_false, not_true_eq_false, not_false_eq_true, decT, decF, Bool.true_eq_false, Bool.false_eq_true, z01, o01, z1f, z1f', zz, oo, b2i_0, b2i_n, b2i_t, b2i_f, Bool.not_true, Bool.not_false]
theorem dn_sub (n : Nat) : nI n - 1 = dn n := by
  cases n with
  | zero => decide
  | succ n => exact nI_pred n
theorem c_find {w : XW} {d : Dl} (hD : DOk d) {s : Sc} (hS : SOk d s) {jd i T : Nat} (hd : DlAt w jd d) (hs : ScAt w i s) (h0 : gI w 8 i 0 = d.1 3) (hT : T < 16) (eT : bts (tkP d s) (fn d) = nI T) :
    ∃ w', F_X6_find [.inr (5, 0), .inr (1, jd), .inr (8, i)] w = some (nI (((trk d s (kn d) 0 T).1 + 7) / 8), w') ∧ TbC w' d s T 0 ∧ Fr P25 w w' := by
  have h6 := hD.1.2
  have st : ∀ v, Fr P25 w v → DlAt v jd d ∧ ScAt v i s ∧ gI v 1 jd 3 = nI (kn d) := fun v hF => by
    have := hd.fr hF (fun κ k q => by unfold P25; omega)
    exact ⟨this, hs.fr hF (fun κ k q => by unfold P25; omega), by rw [this.1 3 (by omega)]; exact hD.1.1⟩
  obtain ⟨w1, a1, a2, a3⟩ := loop0 16 (fun S v => q_X6_find_9 jd i (nI T) (nI S) v) (fun v => q_X6_find_38 jd i (nI T) v) (fun S v => Fr P25 w v ∧ ∀ S', S' < S → gI v 25 0 (kn d * 16 + S') = 0) (s := w) ⟨Fr.refl _ _, fun S' h => absurd h (by omega)⟩ (fun S v hS' hi => by
      obtain ⟨i1, i2⟩ := hi
      obtain ⟨_, _, g⟩ := st v i1
      ((try dsimp only); rw [e_X6_find_9]; simp (disch := omega) only [e_X6_find_16, g, true_and, and_true, false_and, and_false, beq_t, beq_f, eqN_t, eqN_f, eqL_t, eqL_f, nm1, nm2, nm1', nm2', m1z, m2z, zm1, zm2, m12, m21, lg_cmp_ge, lg_cmp_le, lg_cmp_gt, lg_cmp_lt, lg_cmp_eq, oob, oobL, neg0, negL0, natle_f, or_false, false_or, true_or, or_true, or_self, cl, clL, le_t, le_f, lt_t, lt_f, leL_t, leL_f, ltL_t, ltL_f, leM_t, leM_f, ltM_t, ltM_f, leO_t, leO_f, cond_true, cond_false, Option.bind_some, Option.bind_none, if_false, if_true, nI_1, aL1, aL2, mL1, mL2, nI_add, pk_mul, pk_m1, sL1, dL1, pk_sub, m1p1, gIs_eq, gIs_k, gIs_i, gIs_n, gIs_e, gIJ, gIR, gJI, gJR, gJs_eq, gJs_k, gJs_n, gJs_e, gRI, gRJ, gRs_eq, gRs_k, gRs_i, gRs_n, gZI, gZJ, gZR, pI_s, pJ_s, pV_s, pR_s, pR_n, oR_n, oR_s, decide_true, decide_false, not_true_eq_false, not_false_eq_true, decT, decF, Bool.true_eq_false, Bool.false_eq_true, z01, o01, z1f, z1f', zz, oo, b2i_0, b2i_n, b2i_t, b2i_f, Bool.not_true, Bool.not_false])
      refine ⟨_, rfl, i1.sI (by unfold P25; omega), fun S' h => ?_⟩
      by_cases e : S' = S
      · subst e; simp (disch := omega) only [true_and, and_true, false_and, and_false, beq_t, beq_f, eqN_t, eqN_f, eqL_t, eqL_f, nm1, nm2, nm1', nm2', m1z, m2z, zm1, zm2, m12, m21, lg_cmp_ge, lg_cmp_le, lg_cmp_gt, lg_cmp_lt, lg_cmp_eq, oob, oobL, neg0, negL0, natle_f, or_false, false_or, true_or, or_true, or_self, cl, clL, le_t, le_f, lt_t, lt_f, leL_t, leL_f, ltL_t, ltL_f, leM_t, leM_f, ltM_t, ltM_f, leO_t, leO_f, cond_true, cond_false, Option.bind_some, Option.bind_none, if_false, if_true, nI_1, aL1, aL2, mL1, mL2, nI_add, pk_mul, pk_m1, sL1, dL1, pk_sub, m1p1, gIs_eq, gIs_k, gIs_i, gIs_n, gIs_e, gIJ, gIR, gJI, gJR, gJs_eq, gJs_k, gJs_n, gJs_e, gRI, gRJ, gRs_eq, gRs_k, gRs_i, gRs_n, gZI, gZJ, gZR, pI_s, pJ_s, pV_s, pR_s, pR_n, oR_n, oR_s, decide_true, decide_false, not_true_eq_false, not_false_eq_true, decT, decF, Bool.true_eq_false, Bool.false_eq_true, z01, o01, z1f, z1f', zz, oo, b2i_0, b2i_n, b2i_t, b2i_f, Bool.not_true, Bool.not_false]
      · simp (disch := omega) only [true_and, and_true, false_and, and_false, beq_t, beq_f, eqN_t, eqN_f, eqL_t, eqL_f, nm1, nm2, nm1', nm2', m1z, m2z, zm1, zm2, m12, m21, lg_cmp_ge, lg_cmp_le, lg_cmp_gt, lg_cmp_lt, lg_cmp_eq, oob, oobL, neg0, negL0, natle_f, or_false, false_or, true_or, or_true, or_self, cl, clL, le_t, le_f, lt_t, lt_f, leL_t, leL_f, ltL_t, ltL_f, leM_t, leM_f, ltM_t, ltM_f, leO_t, leO_f, cond_true, cond_false, Option.bind_some, Option.bind_none, if_false, if_true, nI_1, aL1, aL2, mL1, mL2, nI_add, pk_mul, pk_m1, sL1, dL1, pk_sub, m1p1, gIs_eq, gIs_k, gIs_i, gIs_n, gIs_e, gIJ, gIR, gJI, gJR, gJs_eq, gJs_k, gJs_n, gJs_e, gRI, gRJ, gRs_eq, gRs_k, gRs_i, gRs_n, gZI, gZJ, gZR, pI_s, pJ_s, pV_s, pR_s, pR_n, oR_n, oR_s, decide_true, decide_false, not_true_eq_false, not_false_eq_true, decT, decF, Bool.true_eq_false, Bool.false_eq_true, z01, o01, z1f, z1f', zz, oo, b2i_0, b2i_n, b2i_t, b2i_f, Bool.not_true, Bool.not_false]
        exact i2 S' (by omega)) (fun v hi => by ((try dsimp only); rw [e_X6_find_9]; simp (disch := omega) only [true_and, and_true, false_and, and_false, beq_t, beq_f, eqN_t, eqN_f, eqL_t, eqL_f, nm1, nm2, nm1', nm2', m1z, m2z, zm1, zm2, m12, m21, lg_cmp_ge, lg_cmp_le, lg_cmp_gt, lg_cmp_lt, lg_cmp_eq, oob, oobL, neg0, negL0, natle_f, or_false, false_or, true_or, or_true, or_self, cl, clL, le_t, le_f, lt_t, lt_f, leL_t, leL_f, ltL_t, ltL_f, leM_t, leM_f, ltM_t, ltM_f, leO_t, leO_f, cond_true, cond_false, Option.bind_some, Option.bind_none, if_false, if_true, nI_1, aL1, aL2, mL1, mL2, nI_add, pk_mul, pk_m1, sL1, dL1, pk_sub, m1p1, gIs_eq, gIs_k, gIs_i, gIs_n, gIs_e, gIJ, gIR, gJI, gJR, gJs_eq, gJs_k, gJs_n, gJs_e, gRI, gRJ, gRs_eq, gRs_k, gRs_i, gRs_n, gZI, gZJ, gZR, pI_s, pJ_s, pV_s, pR_s, pR_n, oR_n, oR_s, decide_true, decide_false, not_true_eq_false, not_false_eq_true, decT, decF, Bool.true_eq_false, Bool.false_eq_true, z01, o01, z1f, z1f', zz, oo, b2i_0, b2i_n, b2i_t, b2i_f, Bool.not_true, Bool.not_false]))
  have tb : TbC w1 d s T (kn d) := fun k' S h1 h2 h3 _ => by
    have : k' = kn d := by omega
    subst this
    rw [a3 S h3, Nat.sub_self]
    rfl
  have key : ∀ m v, m ≤ kn d → Fr P25 w v → TbC v d s T m → ∃ w', q_X6_find_46 jd i (nI T) (dn m) v = q_X6_find_104 (nI T) w' ∧ TbC w' d s T 0 ∧ Fr P25 w w' := by
    intro m
    induction m with
    | zero =>
      intro v _ hF ht
      refine ⟨v, ?_, ht, hF⟩
      rw [e_X6_find_46]
      simp (disch := omega) only [dn, true_and, and_true, false_and, and_false, beq_t, beq_f, eqN_t, eqN_f, eqL_t, eqL_f, nm1, nm2, nm1', nm2', m1z, m2z, zm1, zm2, m12, m21, lg_cmp_ge, lg_cmp_le, lg_cmp_gt, lg_cmp_lt, lg_cmp_eq, oob, oobL, neg0, negL0, natle_f, or_false, false_or, true_or, or_true, or_self, cl, clL, le_t, le_f, lt_t, lt_f, leL_t, leL_f, ltL_t, ltL_f, leM_t, leM_f, ltM_t, ltM_f, leO_t, leO_f, cond_true, cond_false, Option.bind_some, Option.bind_none, if_false, if_true, nI_1, aL1, aL2, mL1, mL2, nI_add, pk_mul, pk_m1, sL1, dL1, pk_sub, m1p1, gIs_eq, gIs_k, gIs_i, gIs_n, gIs_e, gIJ, gIR, gJI, gJR, gJs_eq, gJs_k, gJs_n, gJs_e, gRI, gRJ, gRs_eq, gRs_k, gRs_i, gRs_n, gZI, gZJ, gZR, pI_s, pJ_s, pV_s, pR_s, pR_n, oR_n, oR_s, decide_true, decide_false, not_true_eq_false, not_false_eq_true, decT, decF, Bool.true_eq_false, Bool.false_eq_true, z01, o01, z1f, z1f', zz, oo, b2i_0, b2i_n, b2i_t, b2i_f, Bool.not_true, Bool.not_false]
    | succ k ih =>
      intro v hk hF ht
      obtain ⟨w2, b1, b2, b3, b4⟩ := loop0 16 (fun S v => q_X6_find_54 jd i (nI T) (nI k) (nI S) v) (fun v => q_X6_find_98 jd i (nI T) (nI k) v) (fun S v => Fr P25 w v ∧ TbC v d s T (k + 1) ∧ ∀ S', S' < S → S' &&& T = T → gI v 25 0 (k * 16 + S') = nI (trk d s (kn d - k) k S').1) (s := v) ⟨hF, ht, fun S' h => absurd h (by omega)⟩ (fun S v hS' hi => by
          obtain ⟨i1, i2, i3⟩ := hi
          obtain ⟨hdv, hsv, g⟩ := st v i1
          have ea := and6 ⟨S, by omega⟩ ⟨T, by omega⟩
          dsimp only at ea
          rw [e_X6_find_54]
          simp (disch := omega) only [e_X6_find_61, ea, true_and, and_true, false_and, and_false, beq_t, beq_f, eqN_t, eqN_f, eqL_t, eqL_f, nm1, nm2, nm1', nm2', m1z, m2z, zm1, zm2, m12, m21, lg_cmp_ge, lg_cmp_le, lg_cmp_gt, lg_cmp_lt, lg_cmp_eq, oob, oobL, neg0, negL0, natle_f, or_false, false_or, true_or, or_true, or_self, cl, clL, le_t, le_f, lt_t, lt_f, leL_t, leL_f, ltL_t, ltL_f, leM_t, leM_f, ltM_t, ltM_f, leO_t, leO_f, cond_true, cond_false, Option.bind_some, Option.bind_none, if_false, if_true, nI_1, aL1, aL2, mL1, mL2, nI_add, pk_mul, pk_m1, sL1, dL1, pk_sub, m1p1, gIs_eq, gIs_k, gIs_i, gIs_n, gIs_e, gIJ, gIR, gJI, gJR, gJs_eq, gJs_k, gJs_n, gJs_e, gRI, gRJ, gRs_eq, gRs_k, gRs_i, gRs_n, gZI, gZJ, gZR, pI_s, pJ_s, pV_s, pR_s, pR_n, oR_n, oR_s, decide_true, decide_false, not_true_eq_false, not_false_eq_true, decT, decF, Bool.true_eq_false, Bool.false_eq_true, z01, o01, z1f, z1f', zz, oo, b2i_0, b2i_n, b2i_t, b2i_f, Bool.not_true, Bool.not_false]
          have hl : S &&& T < 64 := Nat.lt_of_le_of_lt Nat.and_le_left (by omega)
          by_cases hST : S &&& T = T
          · have hb := c_bestFrom hD hS hdv hsv hT (k := k) (n := kn d - (k + 1)) (by omega) hS' hST i2
            simp (disch := omega) only [hST, e_X6_find_69, hb, e_X6_find_92, true_and, and_true, false_and, and_false, beq_t, beq_f, eqN_t, eqN_f, eqL_t, eqL_f, nm1, nm2, nm1', nm2', m1z, m2z, zm1, zm2, m12, m21, lg_cmp_ge, lg_cmp_le, lg_cmp_gt, lg_cmp_lt, lg_cmp_eq, oob, oobL, neg0, negL0, natle_f, or_false, false_or, true_or, or_true, or_self, cl, clL, le_t, le_f, lt_t, lt_f, leL_t, leL_f, ltL_t, ltL_f, leM_t, leM_f, ltM_t, ltM_f, leO_t, leO_f, cond_true, cond_false, Option.bind_some, Option.bind_none, if_false, if_true, nI_1, aL1, aL2, mL1, mL2, nI_add, pk_mul, pk_m1, sL1, dL1, pk_sub, m1p1, gIs_eq, gIs_k, gIs_i, gIs_n, gIs_e, gIJ, gIR, gJI, gJR, gJs_eq, gJs_k, gJs_n, gJs_e, gRI, gRJ, gRs_eq, gRs_k, gRs_i, gRs_n, gZI, gZJ, gZR, pI_s, pJ_s, pV_s, pR_s, pR_n, oR_n, oR_s, decide_true, decide_false, not_true_eq_false, not_false_eq_true, decT, decF, Bool.true_eq_false, Bool.false_eq_true, z01, o01, z1f, z1f', zz, oo, b2i_0, b2i_n, b2i_t, b2i_f, Bool.not_true, Bool.not_false]
            refine ⟨_, rfl, i1.sI (by unfold P25; omega), fun k' S2 q1 q2 q3 q4 => ?_, fun S2 h q4 => ?_⟩
            · rw [gIs_k (by omega)]
              exact i2 k' S2 q1 q2 q3 q4
            · by_cases e : S2 = S
              · subst e
                rw [gIs_eq, show kn d - k = kn d - (k + 1) + 1 by omega]
                rfl
              · rw [gIs_k (by omega)]
                exact i3 S2 (by omega) q4
          · simp (disch := omega) only [hST, e_X6_find_92, true_and, and_true, false_and, and_false, beq_t, beq_f, eqN_t, eqN_f, eqL_t, eqL_f, nm1, nm2, nm1', nm2', m1z, m2z, zm1, zm2, m12, m21, lg_cmp_ge, lg_cmp_le, lg_cmp_gt, lg_cmp_lt, lg_cmp_eq, oob, oobL, neg0, negL0, natle_f, or_false, false_or, true_or, or_true, or_self, cl, clL, le_t, le_f, lt_t, lt_f, leL_t, leL_f, ltL_t, ltL_f, leM_t, leM_f, ltM_t, ltM_f, leO_t, leO_f, cond_true, cond_false, Option.bind_some, Option.bind_none, if_false, if_true, nI_1, aL1, aL2, mL1, mL2, nI_add, pk_mul, pk_m1, sL1, dL1, pk_sub, m1p1, gIs_eq, gIs_k, gIs_i, gIs_n, gIs_e, gIJ, gIR, gJI, gJR, gJs_eq, gJs_k, gJs_n, gJs_e, gRI, gRJ, gRs_eq, gRs_k, gRs_i, gRs_n, gZI, gZJ, gZR, pI_s, pJ_s, pV_s, pR_s, pR_n, oR_n, oR_s, decide_true, decide_false, not_true_eq_false, not_false_eq_true, decT, decF, Bool.true_eq_false, Bool.false_eq_true, z01, o01, z1f, z1f', zz, oo, b2i_0, b2i_n, b2i_t, b2i_f, Bool.not_true, Bool.not_false]
            refine ⟨v, rfl, i1, i2, fun S2 h q4 => ?_⟩
            by_cases e : S2 = S
            · rw [e] at q4
              exact absurd q4 hST
            · exact i3 S2 (by omega) q4) (fun v hi => by ((try dsimp only); rw [e_X6_find_54]; simp (disch := omega) only [true_and, and_true, false_and, and_false, beq_t, beq_f, eqN_t, eqN_f, eqL_t, eqL_f, nm1, nm2, nm1', nm2', m1z, m2z, zm1, zm2, m12, m21, lg_cmp_ge, lg_cmp_le, lg_cmp_gt, lg_cmp_lt, lg_cmp_eq, oob, oobL, neg0, negL0, natle_f, or_false, false_or, true_or, or_true, or_self, cl, clL, le_t, le_f, lt_t, lt_f, leL_t, leL_f, ltL_t, ltL_f, leM_t, leM_f, ltM_t, ltM_f, leO_t, leO_f, cond_true, cond_false, Option.bind_some, Option.bind_none, if_false, if_true, nI_1, aL1, aL2, mL1, mL2, nI_add, pk_mul, pk_m1, sL1, dL1, pk_sub, m1p1, gIs_eq, gIs_k, gIs_i, gIs_n, gIs_e, gIJ, gIR, gJI, gJR, gJs_eq, gJs_k, gJs_n, gJs_e, gRI, gRJ, gRs_eq, gRs_k, gRs_i, gRs_n, gZI, gZJ, gZR, pI_s, pJ_s, pV_s, pR_s, pR_n, oR_n, oR_s, decide_true, decide_false, not_true_eq_false, not_false_eq_true, decT, decF, Bool.true_eq_false, Bool.false_eq_true, z01, o01, z1f, z1f', zz, oo, b2i_0, b2i_n, b2i_t, b2i_f, Bool.not_true, Bool.not_false]))
      rw [nI_0] at b1
      obtain ⟨w3, c1, c2, c3⟩ := ih w2 (by omega) b2 (fun k' S q1 q2 q3 q4 => by
        by_cases e : k' = k
        · subst e
          exact b4 S q3 q4
        · exact b3 k' S (by omega) q2 q3 q4)
      refine ⟨w3, ?_, c2, c3⟩
      rw [e_X6_find_46]
      simp (disch := omega) only [dn_s, e_X6_find_51, b1, e_X6_find_98, dn_m1, c1, true_and, and_true, false_and, and_false, beq_t, beq_f, eqN_t, eqN_f, eqL_t, eqL_f, nm1, nm2, nm1', nm2', m1z, m2z, zm1, zm2, m12, m21, lg_cmp_ge, lg_cmp_le, lg_cmp_gt, lg_cmp_lt, lg_cmp_eq, oob, oobL, neg0, negL0, natle_f, or_false, false_or, true_or, or_true, or_self, cl, clL, le_t, le_f, lt_t, lt_f, leL_t, leL_f, ltL_t, ltL_f, leM_t, leM_f, ltM_t, ltM_f, leO_t, leO_f, cond_true, cond_false, Option.bind_some, Option.bind_none, if_false, if_true, nI_1, aL1, aL2, mL1, mL2, nI_add, pk_mul, pk_m1, sL1, dL1, pk_sub, m1p1, gIs_eq, gIs_k, gIs_i, gIs_n, gIs_e, gIJ, gIR, gJI, gJR, gJs_eq, gJs_k, gJs_n, gJs_e, gRI, gRJ, gRs_eq, gRs_k, gRs_i, gRs_n, gZI, gZJ, gZR, pI_s, pJ_s, pV_s, pR_s, pR_n, oR_n, oR_s, decide_true, decide_false, not_true_eq_false, not_false_eq_true, decT, decF, Bool.true_eq_false, Bool.false_eq_true, z01, o01, z1f, z1f', zz, oo, b2i_0, b2i_n, b2i_t, b2i_f, Bool.not_true, Bool.not_false]
  obtain ⟨w2, b1, b2, b3⟩ := key (kn d) w1 (Nat.le_refl _) a2 tb
  obtain ⟨_, _, g⟩ := st w1 a2
  have hfin := b2 0 T (Nat.le_refl _) (by omega) hT (Nat.and_self T)
  rw [Nat.zero_mul, Nat.zero_add, Nat.sub_zero] at hfin
  have hle := trk_le hD hS (kn d) 0 T (by omega)
  refine ⟨w2, ?_, b2, b3⟩
  rw [nI_0] at a1
  rw [f_X6_find, e_X6_find_0, c_takenIn hd hs h0 hD, eT]
  simp (disch := omega) only [a1, e_X6_find_38, g, true_and, and_true, false_and, and_false, beq_t, beq_f, eqN_t, eqN_f, eqL_t, eqL_f, nm1, nm2, nm1', nm2', m1z, m2z, zm1, zm2, m12, m21, lg_cmp_ge, lg_cmp_le, lg_cmp_gt, lg_cmp_lt, lg_cmp_eq, oob, oobL, neg0, negL0, natle_f, or_false, false_or, true_or, or_true, or_self, cl, clL, le_t, le_f, lt_t, lt_f, leL_t, leL_f, ltL_t, ltL_f, leM_t, leM_f, ltM_t, ltM_f, leO_t, leO_f, cond_true, cond_false, Option.bind_some, Option.bind_none, if_false, if_true, nI_1, aL1, aL2, mL1, mL2, nI_add, pk_mul, pk_m1, sL1, dL1, pk_sub, m1p1, gIs_eq, gIs_k, gIs_i, gIs_n, gIs_e, gIJ, gIR, gJI, gJR, gJs_eq, gJs_k, gJs_n, gJs_e, gRI, gRJ, gRs_eq, gRs_k, gRs_i, gRs_n, gZI, gZJ, gZR, pI_s, pJ_s, pV_s, pR_s, pR_n, oR_n, oR_s, decide_true, decide_false, not_true_eq_false, not_false_eq_true, decT, decF, Bool.true_eq_false, Bool.false_eq_true, z01, o01, z1f, z1f', zz, oo, b2i_0, b2i_n, b2i_t, b2i_f, Bool.not_true, Bool.not_false]
  rw [dn_sub, b1, e_X6_find_104]
  simp (disch := omega) only [hfin, true_and, and_true, false_and, and_false, beq_t, beq_f, eqN_t, eqN_f, eqL_t, eqL_f, nm1, nm2, nm1', nm2', m1z, m2z, zm1, zm2, m12, m21, lg_cmp_ge, lg_cmp_le, lg_cmp_gt, lg_cmp_lt, lg_cmp_eq, oob, oobL, neg0, negL0, natle_f, or_false, false_or, true_or, or_true, or_self, cl, clL, le_t, le_f, lt_t, lt_f, leL_t, leL_f, ltL_t, ltL_f, leM_t, leM_f, ltM_t, ltM_f, leO_t, leO_f, cond_true, cond_false, Option.bind_some, Option.bind_none, if_false, if_true, nI_1, aL1, aL2, mL1, mL2, nI_add, pk_mul, pk_m1, sL1, dL1, pk_sub, m1p1, gIs_eq, gIs_k, gIs_i, gIs_n, gIs_e, gIJ, gIR, gJI, gJR, gJs_eq, gJs_k, gJs_n, gJs_e, gRI, gRJ, gRs_eq, gRs_k, gRs_i, gRs_n, gZI, gZJ, gZR, pI_s, pJ_s, pV_s, pR_s, pR_n, oR_n, oR_s, decide_true, decide_false, not_true_eq_false, not_false_eq_true, decT, decF, Bool.true_eq_false, Bool.false_eq_true, z01, o01, z1f, z1f', zz, oo, b2i_0, b2i_n, b2i_t, b2i_f, Bool.not_true, Bool.not_false]
theorem c_firstBest {w : XW} {d : Dl} (hD : DOk d) {s : Sc} (hS : SOk d s) {jd i : Nat} (hd : DlAt w jd d) (hs : ScAt w i s) {T k S n : Nat} (hT : T < 16) (hk : k + (n + 1) = kn d) (hSl : S < 16) (hST : S &&& T = T) (ht : TbC w d s T 0) :
    F_X6_firstBest [.inr (5, 0), .inr (1, jd), .inr (8, i), .inl (.int (nI k)), .inl (.int (nI S))] w = some (dn (tr1 d s n k S (fn d)).2, w) := by
  have h6 := hD.1.2
  have h4 := hD.2.2.1.2
  have hn : kn d - (k + 1) = n := by omega
  have t0 := ht (k + 1) S (by omega) (by omega) hSl hST
  have t1 := ht k S (by omega) (by omega) hSl hST
  rw [hn] at t0
  rw [show kn d - k = n + 1 by omega] at t1
  have t1 : gI w 25 0 (k * 16 + S) = nI (tr1 d s n k S (fn d)).1 := t1
  have g : gI w 1 jd 5 = nI (fn d) := by rw [hd.1 5 (by omega)]; exact hD.2.2.1.1
  have x1 := (hs.2 k (by omega)).2.2.1
  have l0 := trk_le hD hS n (k + 1) S (by omega)
  have l1 := tr1_le hD hS (n := n) (k := k) (S := S) (by omega) (fn d) (Nat.le_refl _)
  have ht1 : TbC w d s T (k + 1) := fun k' S' q1 q2 q3 q4 => ht k' S' (by omega) q2 q3 q4
  rw [f_X6_firstBest, e_X6_firstBest_0]
  by_cases hh : s.2.2.2.1 k = -1
  · simp (disch := omega) only [x1, hh, t1, e_X6_firstBest_24, t0, true_and, and_true, false_and, and_false, beq_t, beq_f, eqN_t, eqN_f, eqL_t, eqL_f, nm1, nm2, nm1', nm2', m1z, m2z, zm1, zm2, m12, m21, lg_cmp_ge, lg_cmp_le, lg_cmp_gt, lg_cmp_lt, lg_cmp_eq, oob, oobL, neg0, negL0, natle_f, or_false, false_or, true_or, or_true, or_self, cl, clL, le_t, le_f, lt_t, lt_f, leL_t, leL_f, ltL_t, ltL_f, leM_t, leM_f, ltM_t, ltM_f, leO_t, leO_f, cond_true, cond_false, Option.bind_some, Option.bind_none, if_false, if_true, nI_1, aL1, aL2, mL1, mL2, nI_add, pk_mul, pk_m1, sL1, dL1, pk_sub, m1p1, gIs_eq, gIs_k, gIs_i, gIs_n, gIs_e, gIJ, gIR, gJI, gJR, gJs_eq, gJs_k, gJs_n, gJs_e, gRI, gRJ, gRs_eq, gRs_k, gRs_i, gRs_n, gZI, gZJ, gZR, pI_s, pJ_s, pV_s, pR_s, pR_n, oR_n, oR_s, decide_true, decide_false, not_true_eq_false, not_false_eq_true, decT, decF, Bool.true_eq_false, Bool.false_eq_true, z01, o01, z1f, z1f', zz, oo, b2i_0, b2i_n, b2i_t, b2i_f, Bool.not_true, Bool.not_false]
    rcases tr1_0 (d := d) (s := s) (n := n) (k := k) (S := S) (fn d) with ⟨e1, e2⟩ | ⟨f, f1, f2, f3, f4, f5, f6⟩
    · rw [e1, e2]
      simp (disch := omega) only [e_X6_firstBest_43, true_and, and_true, false_and, and_false, beq_t, beq_f, eqN_t, eqN_f, eqL_t, eqL_f, nm1, nm2, nm1', nm2', m1z, m2z, zm1, zm2, m12, m21, lg_cmp_ge, lg_cmp_le, lg_cmp_gt, lg_cmp_lt, lg_cmp_eq, oob, oobL, neg0, negL0, natle_f, or_false, false_or, true_or, or_true, or_self, cl, clL, le_t, le_f, lt_t, lt_f, leL_t, leL_f, ltL_t, ltL_f, leM_t, leM_f, ltM_t, ltM_f, leO_t, leO_f, cond_true, cond_false, Option.bind_some, Option.bind_none, if_false, if_true, nI_1, aL1, aL2, mL1, mL2, nI_add, pk_mul, pk_m1, sL1, dL1, pk_sub, m1p1, gIs_eq, gIs_k, gIs_i, gIs_n, gIs_e, gIJ, gIR, gJI, gJR, gJs_eq, gJs_k, gJs_n, gJs_e, gRI, gRJ, gRs_eq, gRs_k, gRs_i, gRs_n, gZI, gZJ, gZR, pI_s, pJ_s, pV_s, pR_s, pR_n, oR_n, oR_s, decide_true, decide_false, not_true_eq_false, not_false_eq_true, decT, decF, Bool.true_eq_false, Bool.false_eq_true, z01, o01, z1f, z1f', zz, oo, b2i_0, b2i_n, b2i_t, b2i_f, Bool.not_true, Bool.not_false]
      rfl
    · have ne : ¬ (trk d s n (k + 1) S).1 = (tr1 d s n k S (fn d)).1 := by omega
      simp (disch := omega) only [ne, e_X6_firstBest_45, true_and, and_true, false_and, and_false, beq_t, beq_f, eqN_t, eqN_f, eqL_t, eqL_f, nm1, nm2, nm1', nm2', m1z, m2z, zm1, zm2, m12, m21, lg_cmp_ge, lg_cmp_le, lg_cmp_gt, lg_cmp_lt, lg_cmp_eq, oob, oobL, neg0, negL0, natle_f, or_false, false_or, true_or, or_true, or_self, cl, clL, le_t, le_f, lt_t, lt_f, leL_t, leL_f, ltL_t, ltL_f, leM_t, leM_f, ltM_t, ltM_f, leO_t, leO_f, cond_true, cond_false, Option.bind_some, Option.bind_none, if_false, if_true, nI_1, aL1, aL2, mL1, mL2, nI_add, pk_mul, pk_m1, sL1, dL1, pk_sub, m1p1, gIs_eq, gIs_k, gIs_i, gIs_n, gIs_e, gIJ, gIR, gJI, gJR, gJs_eq, gJs_k, gJs_n, gJs_e, gRI, gRJ, gRs_eq, gRs_k, gRs_i, gRs_n, gZI, gZJ, gZR, pI_s, pJ_s, pV_s, pR_s, pR_n, oR_n, oR_s, decide_true, decide_false, not_true_eq_false, not_false_eq_true, decT, decF, Bool.true_eq_false, Bool.false_eq_true, z01, o01, z1f, z1f', zz, oo, b2i_0, b2i_n, b2i_t, b2i_f, Bool.not_true, Bool.not_false]
      have key : ∀ q j, j + q = f → q_X6_firstBest_48 jd i (nI k) (nI S) (nI (tr1 d s n k S (fn d)).1) (nI j) w = some (some (.inl (.int (nI f))), w) := by
        intro q
        induction q with
        | zero =>
          intro j hj
          have : j = f := by omega
          subst this
          have hb := c_bestWith hD hS hd hs hT (k := k) (by omega) hSl hST f1 ht1
          rw [hn] at hb
          have l2 := trk_le hD hS n (k + 1) (S ||| 2 ^ j) (by omega)
          have l3 := (ko_nI hD hS (k := k) (f := j) (by omega) f1).2
          have he := eqS (tr1 d s n k S (fn d)).1 ((trk d s n (k + 1) (S ||| 2 ^ j)).1 + 8 * koN d s k j) (by omega) (by omega)
          have hbit : S / 2 ^ j % 2 = 0 := of_decide_eq_true ((Bool.and_eq_true _ _).mp f3).2
          rw [e_X6_firstBest_48]
          simp (disch := omega) only [g, e_X6_firstBest_57, bit6 (b := S) (j := j) (by omega) (by omega), hbit, e_X6_firstBest_67, hb, he, f4, e_X6_firstBest_83, true_and, and_true, false_and, and_false, beq_t, beq_f, eqN_t, eqN_f, eqL_t, eqL_f, nm1, nm2, nm1', nm2', m1z, m2z, zm1, zm2, m12, m21, lg_cmp_ge, lg_cmp_le, lg_cmp_gt, lg_cmp_lt, lg_cmp_eq, oob, oobL, neg0, negL0, natle_f, or_false, false_or, true_or, or_true, or_self, cl, clL, le_t, le_f, lt_t, lt_f, leL_t, leL_f, ltL_t, ltL_f, leM_t, leM_f, ltM_t, ltM_f, leO_t, leO_f, cond_true, cond_false, Option.bind_some, Option.bind_none, if_false, if_true, nI_1, aL1, aL2, mL1, mL2, nI_add, pk_mul, pk_m1, sL1, dL1, pk_sub, m1p1, gIs_eq, gIs_k, gIs_i, gIs_n, gIs_e, gIJ, gIR, gJI, gJR, gJs_eq, gJs_k, gJs_n, gJs_e, gRI, gRJ, gRs_eq, gRs_k, gRs_i, gRs_n, gZI, gZJ, gZR, pI_s, pJ_s, pV_s, pR_s, pR_n, oR_n, oR_s, decide_true, decide_false, not_true_eq_false, not_false_eq_true, decT, decF, Bool.true_eq_false, Bool.false_eq_true, z01, o01, z1f, z1f', zz, oo, b2i_0, b2i_n, b2i_t, b2i_f, Bool.not_true, Bool.not_false]
        | succ q ih =>
          intro j hj
          have hb := c_bestWith hD hS hd hs hT (k := k) (by omega) hSl hST (f := j) (by omega) ht1
          rw [hn] at hb
          have l2 := trk_le hD hS n (k + 1) (S ||| 2 ^ j) (by omega)
          have l3 := (ko_nI hD hS (k := k) (f := j) (by omega) (by omega)).2
          have he := eqS (tr1 d s n k S (fn d)).1 ((trk d s n (k + 1) (S ||| 2 ^ j)).1 + 8 * koN d s k j) (by omega) (by omega)
          have ih := ih (j + 1) (by omega)
          rw [e_X6_firstBest_48]
          simp (disch := omega) only [g, e_X6_firstBest_57, bit6 (b := S) (j := j) (by omega) (by omega), true_and, and_true, false_and, and_false, beq_t, beq_f, eqN_t, eqN_f, eqL_t, eqL_f, nm1, nm2, nm1', nm2', m1z, m2z, zm1, zm2, m12, m21, lg_cmp_ge, lg_cmp_le, lg_cmp_gt, lg_cmp_lt, lg_cmp_eq, oob, oobL, neg0, negL0, natle_f, or_false, false_or, true_or, or_true, or_self, cl, clL, le_t, le_f, lt_t, lt_f, leL_t, leL_f, ltL_t, ltL_f, leM_t, leM_f, ltM_t, ltM_f, leO_t, leO_f, cond_true, cond_false, Option.bind_some, Option.bind_none, if_false, if_true, nI_1, aL1, aL2, mL1, mL2, nI_add, pk_mul, pk_m1, sL1, dL1, pk_sub, m1p1, gIs_eq, gIs_k, gIs_i, gIs_n, gIs_e, gIJ, gIR, gJI, gJR, gJs_eq, gJs_k, gJs_n, gJs_e, gRI, gRJ, gRs_eq, gRs_k, gRs_i, gRs_n, gZI, gZJ, gZR, pI_s, pJ_s, pV_s, pR_s, pR_n, oR_n, oR_s, decide_true, decide_false, not_true_eq_false, not_false_eq_true, decT, decF, Bool.true_eq_false, Bool.false_eq_true, z01, o01, z1f, z1f', zz, oo, b2i_0, b2i_n, b2i_t, b2i_f, Bool.not_true, Bool.not_false]
          have h01 : S / 2 ^ j % 2 = 0 ∨ S / 2 ^ j % 2 = 1 := by omega
          rcases h01 with h01 | h01
          · have := f6 j (by omega) (by unfold alw; rw [decT hh, decT h01]; rfl)
            have ne2 : ¬ (trk d s n (k + 1) (S ||| 2 ^ j)).1 + 8 * koN d s k j = (tr1 d s n k S (fn d)).1 + 1 := by omega
            rw [h01]
            simp (disch := omega) only [e_X6_firstBest_67, hb, he, ne2, e_X6_firstBest_86, true_and, and_true, false_and, and_false, beq_t, beq_f, eqN_t, eqN_f, eqL_t, eqL_f, nm1, nm2, nm1', nm2', m1z, m2z, zm1, zm2, m12, m21, lg_cmp_ge, lg_cmp_le, lg_cmp_gt, lg_cmp_lt, lg_cmp_eq, oob, oobL, neg0, negL0, natle_f, or_false, false_or, true_or, or_true, or_self, cl, clL, le_t, le_f, lt_t, lt_f, leL_t, leL_f, ltL_t, ltL_f, leM_t, leM_f, ltM_t, ltM_f, leO_t, leO_f, cond_true, cond_false, Option.bind_some, Option.bind_none, if_false, if_true, nI_1, aL1, aL2, mL1, mL2, nI_add, pk_mul, pk_m1, sL1, dL1, pk_sub, m1p1, gIs_eq, gIs_k, gIs_i, gIs_n, gIs_e, gIJ, gIR, gJI, gJR, gJs_eq, gJs_k, gJs_n, gJs_e, gRI, gRJ, gRs_eq, gRs_k, gRs_i, gRs_n, gZI, gZJ, gZR, pI_s, pJ_s, pV_s, pR_s, pR_n, oR_n, oR_s, decide_true, decide_false, not_true_eq_false, not_false_eq_true, decT, decF, Bool.true_eq_false, Bool.false_eq_true, z01, o01, z1f, z1f', zz, oo, b2i_0, b2i_n, b2i_t, b2i_f, Bool.not_true, Bool.not_false]
            exact ih
          · rw [h01]
            simp (disch := omega) only [e_X6_firstBest_86, true_and, and_true, false_and, and_false, beq_t, beq_f, eqN_t, eqN_f, eqL_t, eqL_f, nm1, nm2, nm1', nm2', m1z, m2z, zm1, zm2, m12, m21, lg_cmp_ge, lg_cmp_le, lg_cmp_gt, lg_cmp_lt, lg_cmp_eq, oob, oobL, neg0, negL0, natle_f, or_false, false_or, true_or, or_true, or_self, cl, clL, le_t, le_f, lt_t, lt_f, leL_t, leL_f, ltL_t, ltL_f, leM_t, leM_f, ltM_t, ltM_f, leO_t, leO_f, cond_true, cond_false, Option.bind_some, Option.bind_none, if_false, if_true, nI_1, aL1, aL2, mL1, mL2, nI_add, pk_mul, pk_m1, sL1, dL1, pk_sub, m1p1, gIs_eq, gIs_k, gIs_i, gIs_n, gIs_e, gIJ, gIR, gJI, gJR, gJs_eq, gJs_k, gJs_n, gJs_e, gRI, gRJ, gRs_eq, gRs_k, gRs_i, gRs_n, gZI, gZJ, gZR, pI_s, pJ_s, pV_s, pR_s, pR_n, oR_n, oR_s, decide_true, decide_false, not_true_eq_false, not_false_eq_true, decT, decF, Bool.true_eq_false, Bool.false_eq_true, z01, o01, z1f, z1f', zz, oo, b2i_0, b2i_n, b2i_t, b2i_f, Bool.not_true, Bool.not_false]
            exact ih
      have k0 := key f 0 (by omega)
      rw [nI_0] at k0
      rw [k0, f2, dn_s]
      rfl
  · simp (disch := omega) only [x1, hh, e_X6_firstBest_43, true_and, and_true, false_and, and_false, beq_t, beq_f, eqN_t, eqN_f, eqL_t, eqL_f, nm1, nm2, nm1', nm2', m1z, m2z, zm1, zm2, m12, m21, lg_cmp_ge, lg_cmp_le, lg_cmp_gt, lg_cmp_lt, lg_cmp_eq, oob, oobL, neg0, negL0, natle_f, or_false, false_or, true_or, or_true, or_self, cl, clL, le_t, le_f, lt_t, lt_f, leL_t, leL_f, ltL_t, ltL_f, leM_t, leM_f, ltM_t, ltM_f, leO_t, leO_f, cond_true, cond_false, Option.bind_some, Option.bind_none, if_false, if_true, nI_1, aL1, aL2, mL1, mL2, nI_add, pk_mul, pk_m1, sL1, dL1, pk_sub, m1p1, gIs_eq, gIs_k, gIs_i, gIs_n, gIs_e, gIJ, gIR, gJI, gJR, gJs_eq, gJs_k, gJs_n, gJs_e, gRI, gRJ, gRs_eq, gRs_k, gRs_i, gRs_n, gZI, gZJ, gZR, pI_s, pJ_s, pV_s, pR_s, pR_n, oR_n, oR_s, decide_true, decide_false, not_true_eq_false, not_false_eq_true, decT, decF, Bool.true_eq_false, Bool.false_eq_true, z01, o01, z1f, z1f', zz, oo, b2i_0, b2i_n, b2i_t, b2i_f, Bool.not_true, Bool.not_false]
    rw [tr1_stay hh]
    rfl
/-- the sets along the best way -/
def Sq (d : Dl) (s : Sc) (T : Nat) : Nat → Nat
  | 0 => T
  | k + 1 => nxt (Sq d s T k) (trk d s (kn d - k) k (Sq d s T k)).2
theorem trk_tr1 {d : Dl} {s : Sc} {k S : Nat} (hk : k < kn d) : trk d s (kn d - k) k S = tr1 d s (kn d - (k + 1)) k S (fn d) := by
  rw [show kn d - k = kn d - (k + 1) + 1 by omega]
  rfl
theorem ch_le {d : Dl} {s : Sc} {k S : Nat} (hk : k < kn d) : (trk d s (kn d - k) k S).2 ≤ fn d := by
  rw [trk_tr1 hk]
  rcases tr1_0 (d := d) (s := s) (n := kn d - (k + 1)) (k := k) (S := S) (fn d) with ⟨e1, _⟩ | ⟨f, f1, f2, _⟩
  · omega
  · omega
theorem Sq_ok {d : Dl} (hD : DOk d) {s : Sc} {T : Nat} (hT : T < 16) : ∀ k, k ≤ kn d → Sq d s T k < 16 ∧ Sq d s T k &&& T = T := by
  have h4 := hD.2.2.1.2
  intro k
  induction k with
  | zero => intro _; exact ⟨hT, Nat.and_self T⟩
  | succ k ih =>
    intro hk
    obtain ⟨h1, h2⟩ := ih (by omega)
    have hc := ch_le (d := d) (s := s) (k := k) (S := Sq d s T k) (by omega)
    show nxt (Sq d s T k) (trk d s (kn d - k) k (Sq d s T k)).2 < 16 ∧ nxt (Sq d s T k) (trk d s (kn d - k) k (Sq d s T k)).2 &&& T = T
    generalize (trk d s (kn d - k) k (Sq d s T k)).2 = c at hc
    unfold nxt
    by_cases e : c = 0
    · rw [if_pos e]; exact ⟨h1, h2⟩
    · rw [if_neg e]
      exact ⟨(or4 ⟨_, h1⟩ ⟨c - 1, by omega⟩).2, sup4 ⟨_, h1⟩ ⟨T, hT⟩ ⟨c - 1, by omega⟩ h2⟩
theorem ext_at {d : Dl} {s : Sc} {T : Nat} : ∀ (n k : Nat) (g : Nat → Nat) (j : Nat), k + n = kn d → k ≤ j → j < kn d → ext d s n k (Sq d s T k) g j = (trk d s (kn d - j) j (Sq d s T j)).2 := by
  intro n
  induction n with
  | zero => intro k g j hk h1 h2; omega
  | succ n ih =>
    intro k g j hk h1 h2
    show ext d s n (k + 1) (nxt (Sq d s T k) (trk d s (n + 1) k (Sq d s T k)).2) (updN g k (trk d s (n + 1) k (Sq d s T k)).2) j = _
    have e : kn d - k = n + 1 := by omega
    by_cases hj : j = k
    · subst hj
      rw [ext_low _ _ _ _ _ (by omega), updN_s, e]
    · have := ih (k + 1) (updN g k (trk d s (n + 1) k (Sq d s T k)).2) j (by omega) (by omega) h2
      rw [← this]
      show ext d s n (k + 1) (nxt (Sq d s T k) (trk d s (n + 1) k (Sq d s T k)).2) _ j = ext d s n (k + 1) (nxt (Sq d s T k) (trk d s (kn d - k) k (Sq d s T k)).2) _ j
      rw [e]
theorem c_whereGoes {w : XW} {d : Dl} (hD : DOk d) {s : Sc} (hS : SOk d s) {jd i T : Nat} (hd : DlAt w jd d) (hs : ScAt w i s) (h0 : gI w 8 i 0 = d.1 3) (hT : T < 16) (eT : bts (tkP d s) (fn d) = nI T) (ht : TbC w d s T 0) {K : Nat} (hK : K < kn d) :
    F_X6_whereGoes [.inr (5, 0), .inr (1, jd), .inr (8, i), .inl (.int (nI K))] w = some (dn (trk d s (kn d - K) K (Sq d s T K)).2, w) := by
  have h6 := hD.1.2
  have h4 := hD.2.2.1.2
  have g : gI w 1 jd 3 = nI (kn d) := by rw [hd.1 3 (by omega)]; exact hD.1.1
  have key : ∀ q k x5, k + q = K + 1 → (0 < k → x5 = dn (trk d s (kn d - (k - 1)) (k - 1) (Sq d s T (k - 1))).2) → q_X6_whereGoes_13 jd i (nI K) (nI (Sq d s T k)) x5 (nI k) w = some (some (.inl (.int (dn (trk d s (kn d - K) K (Sq d s T K)).2))), w) := by
    intro q
    induction q with
    | zero =>
      intro k x5 hk hx
      have : k = K + 1 := by omega
      subst this
      rw [hx (by omega), Nat.add_sub_cancel, e_X6_whereGoes_13]
      simp (disch := omega) only [e_X6_whereGoes_66, true_and, and_true, false_and, and_false, beq_t, beq_f, eqN_t, eqN_f, eqL_t, eqL_f, nm1, nm2, nm1', nm2', m1z, m2z, zm1, zm2, m12, m21, lg_cmp_ge, lg_cmp_le, lg_cmp_gt, lg_cmp_lt, lg_cmp_eq, oob, oobL, neg0, negL0, natle_f, or_false, false_or, true_or, or_true, or_self, cl, clL, le_t, le_f, lt_t, lt_f, leL_t, leL_f, ltL_t, ltL_f, leM_t, leM_f, ltM_t, ltM_f, leO_t, leO_f, cond_true, cond_false, Option.bind_some, Option.bind_none, if_false, if_true, nI_1, aL1, aL2, mL1, mL2, nI_add, pk_mul, pk_m1, sL1, dL1, pk_sub, m1p1, gIs_eq, gIs_k, gIs_i, gIs_n, gIs_e, gIJ, gIR, gJI, gJR, gJs_eq, gJs_k, gJs_n, gJs_e, gRI, gRJ, gRs_eq, gRs_k, gRs_i, gRs_n, gZI, gZJ, gZR, pI_s, pJ_s, pV_s, pR_s, pR_n, oR_n, oR_s, decide_true, decide_false, not_true_eq_false, not_false_eq_true, decT, decF, Bool.true_eq_false, Bool.false_eq_true, z01, o01, z1f, z1f', zz, oo, b2i_0, b2i_n, b2i_t, b2i_f, Bool.not_true, Bool.not_false]
    | succ q ih =>
      intro k x5 hk hx
      obtain ⟨s1, s2⟩ := Sq_ok hD (s := s) hT k (by omega)
      have hb := c_firstBest hD hS hd hs hT (k := k) (n := kn d - (k + 1)) (by omega) s1 s2 ht
      rw [← trk_tr1 (by omega)] at hb
      have hc := ch_le (d := d) (s := s) (k := k) (S := Sq d s T k) (by omega)
      have ih := ih (k + 1) (dn (trk d s (kn d - k) k (Sq d s T k)).2) (by omega) (fun _ => by rw [Nat.add_sub_cancel])
      have eS : Sq d s T (k + 1) = nxt (Sq d s T k) (trk d s (kn d - k) k (Sq d s T k)).2 := rfl
      rw [eS] at ih
      rw [e_X6_whereGoes_13]
      simp (disch := omega) only [e_X6_whereGoes_19, g, e_X6_whereGoes_28, hb, true_and, and_true, false_and, and_false, beq_t, beq_f, eqN_t, eqN_f, eqL_t, eqL_f, nm1, nm2, nm1', nm2', m1z, m2z, zm1, zm2, m12, m21, lg_cmp_ge, lg_cmp_le, lg_cmp_gt, lg_cmp_lt, lg_cmp_eq, oob, oobL, neg0, negL0, natle_f, or_false, false_or, true_or, or_true, or_self, cl, clL, le_t, le_f, lt_t, lt_f, leL_t, leL_f, ltL_t, ltL_f, leM_t, leM_f, ltM_t, ltM_f, leO_t, leO_f, cond_true, cond_false, Option.bind_some, Option.bind_none, if_false, if_true, nI_1, aL1, aL2, mL1, mL2, nI_add, pk_mul, pk_m1, sL1, dL1, pk_sub, m1p1, gIs_eq, gIs_k, gIs_i, gIs_n, gIs_e, gIJ, gIR, gJI, gJR, gJs_eq, gJs_k, gJs_n, gJs_e, gRI, gRJ, gRs_eq, gRs_k, gRs_i, gRs_n, gZI, gZJ, gZR, pI_s, pJ_s, pV_s, pR_s, pR_n, oR_n, oR_s, decide_true, decide_false, not_true_eq_false, not_false_eq_true, decT, decF, Bool.true_eq_false, Bool.false_eq_true, z01, o01, z1f, z1f', zz, oo, b2i_0, b2i_n, b2i_t, b2i_f, Bool.not_true, Bool.not_false]
      generalize (trk d s (kn d - k) k (Sq d s T k)).2 = c at hc ih hb ⊢
      cases c with
      | zero =>
        simp (disch := omega) only [dn_0, e_X6_whereGoes_46, e_X6_whereGoes_58, true_and, and_true, false_and, and_false, beq_t, beq_f, eqN_t, eqN_f, eqL_t, eqL_f, nm1, nm2, nm1', nm2', m1z, m2z, zm1, zm2, m12, m21, lg_cmp_ge, lg_cmp_le, lg_cmp_gt, lg_cmp_lt, lg_cmp_eq, oob, oobL, neg0, negL0, natle_f, or_false, false_or, true_or, or_true, or_self, cl, clL, le_t, le_f, lt_t, lt_f, leL_t, leL_f, ltL_t, ltL_f, leM_t, leM_f, ltM_t, ltM_f, leO_t, leO_f, cond_true, cond_false, Option.bind_some, Option.bind_none, if_false, if_true, nI_1, aL1, aL2, mL1, mL2, nI_add, pk_mul, pk_m1, sL1, dL1, pk_sub, m1p1, gIs_eq, gIs_k, gIs_i, gIs_n, gIs_e, gIJ, gIR, gJI, gJR, gJs_eq, gJs_k, gJs_n, gJs_e, gRI, gRJ, gRs_eq, gRs_k, gRs_i, gRs_n, gZI, gZJ, gZR, pI_s, pJ_s, pV_s, pR_s, pR_n, oR_n, oR_s, decide_true, decide_false, not_true_eq_false, not_false_eq_true, decT, decF, Bool.true_eq_false, Bool.false_eq_true, z01, o01, z1f, z1f', zz, oo, b2i_0, b2i_n, b2i_t, b2i_f, Bool.not_true, Bool.not_false]
        exact ih
      | succ f =>
        have o := (or4 ⟨_, s1⟩ ⟨f, by omega⟩).1
        dsimp only at o
        simp (disch := omega) only [dn_s, e_X6_whereGoes_51, o, e_X6_whereGoes_58, true_and, and_true, false_and, and_false, beq_t, beq_f, eqN_t, eqN_f, eqL_t, eqL_f, nm1, nm2, nm1', nm2', m1z, m2z, zm1, zm2, m12, m21, lg_cmp_ge, lg_cmp_le, lg_cmp_gt, lg_cmp_lt, lg_cmp_eq, oob, oobL, neg0, negL0, natle_f, or_false, false_or, true_or, or_true, or_self, cl, clL, le_t, le_f, lt_t, lt_f, leL_t, leL_f, ltL_t, ltL_f, leM_t, leM_f, ltM_t, ltM_f, leO_t, leO_f, cond_true, cond_false, Option.bind_some, Option.bind_none, if_false, if_true, nI_1, aL1, aL2, mL1, mL2, nI_add, pk_mul, pk_m1, sL1, dL1, pk_sub, m1p1, gIs_eq, gIs_k, gIs_i, gIs_n, gIs_e, gIJ, gIR, gJI, gJR, gJs_eq, gJs_k, gJs_n, gJs_e, gRI, gRJ, gRs_eq, gRs_k, gRs_i, gRs_n, gZI, gZJ, gZR, pI_s, pJ_s, pV_s, pR_s, pR_n, oR_n, oR_s, decide_true, decide_false, not_true_eq_false, not_false_eq_true, decT, decF, Bool.true_eq_false, Bool.false_eq_true, z01, o01, z1f, z1f', zz, oo, b2i_0, b2i_n, b2i_t, b2i_f, Bool.not_true, Bool.not_false]
        exact ih
  have k0 := key (K + 1) 0 (-1) (by omega) (fun h => absurd h (by omega))
  rw [nI_0] at k0
  have k0 : q_X6_whereGoes_13 jd i (nI K) (nI T) (-1) 0 w = _ := k0
  rw [f_X6_whereGoes, e_X6_whereGoes_0, c_takenIn hd hs h0 hD, eT]
  simp (disch := omega) only [k0, true_and, and_true, false_and, and_false, beq_t, beq_f, eqN_t, eqN_f, eqL_t, eqL_f, nm1, nm2, nm1', nm2', m1z, m2z, zm1, zm2, m12, m21, lg_cmp_ge, lg_cmp_le, lg_cmp_gt, lg_cmp_lt, lg_cmp_eq, oob, oobL, neg0, negL0, natle_f, or_false, false_or, true_or, or_true, or_self, cl, clL, le_t, le_f, lt_t, lt_f, leL_t, leL_f, ltL_t, ltL_f, leM_t, leM_f, ltM_t, ltM_f, leO_t, leO_f, cond_true, cond_false, Option.bind_some, Option.bind_none, if_false, if_true, nI_1, aL1, aL2, mL1, mL2, nI_add, pk_mul, pk_m1, sL1, dL1, pk_sub, m1p1, gIs_eq, gIs_k, gIs_i, gIs_n, gIs_e, gIJ, gIR, gJI, gJR, gJs_eq, gJs_k, gJs_n, gJs_e, gRI, gRJ, gRs_eq, gRs_k, gRs_i, gRs_n, gZI, gZJ, gZR, pI_s, pJ_s, pV_s, pR_s, pR_n, oR_n, oR_s, decide_true, decide_false, not_true_eq_false, not_false_eq_true, decT, decF, Bool.true_eq_false, Bool.false_eq_true, z01, o01, z1f, z1f', zz, oo, b2i_0, b2i_n, b2i_t, b2i_f, Bool.not_true, Bool.not_false]
