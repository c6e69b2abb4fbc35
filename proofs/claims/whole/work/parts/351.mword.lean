/-! ===== the model: words ===== -/
def pkN (tb : Nat → Nat) (s : Nat) : Nat → Nat
  | 0 => 0
  | n + 1 => pkN tb s n * 256 + tb (s + n)
def dec : Nat → Nat → List Nat
  | 0, _ => []
  | n + 1, x => if x = 0 then [] else dec n (x / 256) ++ [x % 256]
theorem bys_snoc {tb : Nat → Nat} : ∀ n s, bys tb s (n + 1) = bys tb s n ++ [tb (s + n)] := by
  intro n
  induction n with
  | zero => intro s; rfl
  | succ n ih =>
    intro s
    show tb s :: bys tb (s + 1) (n + 1) = tb s :: bys tb (s + 1) n ++ [tb (s + (n + 1))]
    rw [ih (s + 1), show s + 1 + n = s + (n + 1) by omega]
    rfl
theorem pk_dec {tb : Nat → Nat} {s : Nat} : ∀ n m, n ≤ m → (∀ i, i < n → 0 < tb (s + i) ∧ tb (s + i) < 256) → dec m (pkN tb s n) = bys tb s n := by
  intro n
  induction n with
  | zero =>
    intro m _ _
    cases m with
    | zero => rfl
    | succ m => rfl
  | succ n ih =>
    intro m hm h
    cases m with
    | zero => omega
    | succ m =>
      have hn := h n (by omega)
      have e : pkN tb s (n + 1) = pkN tb s n * 256 + tb (s + n) := rfl
      show (if pkN tb s (n + 1) = 0 then [] else dec m (pkN tb s (n + 1) / 256) ++ [pkN tb s (n + 1) % 256]) = _
      rw [if_neg (by omega), bys_snoc, ← ih m (by omega) (fun i hi => h i (by omega)), e]
      congr 2 <;> omega
theorem pkN_lt {tb : Nat → Nat} {s : Nat} : ∀ n, (∀ i, i < n → tb (s + i) < 256) → pkN tb s n < 256 ^ n := by
  intro n
  induction n with
  | zero => intro _; exact Nat.lt_succ_self 0
  | succ n ih =>
    intro h
    have h1 := ih (fun i hi => h i (by omega))
    have h2 := h n (by omega)
    show pkN tb s n * 256 + tb (s + n) < 256 ^ (n + 1)
    rw [Nat.pow_succ]
    omega
theorem i64_step {v b : Nat} (hv : v < 256 ^ 7) (hb : b < 256) : ((Int64.ofNat v) <<< ((8 : Int32).toInt64 &&& 63)) ||| (nI b).toInt64 = Int64.ofNat (v * 256 + b) := by
  have e1 : (nI b).toInt64 = Int64.ofNat b := by
    apply Int64.toInt_inj.mp
    rw [Int32.toInt_toInt64, nI_toInt (by omega), Int64.toInt_ofNat_of_lt (by omega)]
  rw [e1, show ((8 : Int32).toInt64 &&& 63) = 8 from by decide]
  apply Int64.toBitVec_inj.mp
  apply BitVec.eq_of_toNat_eq
  rw [Int64.toBitVec_or, BitVec.toNat_or]
  have e2 : (Int64.ofNat v <<< (8 : Int64)).toBitVec = (BitVec.ofNat 64 v) <<< 8 := rfl
  rw [e2, BitVec.toNat_shiftLeft, BitVec.toNat_ofNat]
  have e3 : (Int64.ofNat b).toBitVec.toNat = b := by
    show (BitVec.ofNat 64 b).toNat = b
    rw [BitVec.toNat_ofNat]; omega
  have e4 : (Int64.ofNat (v * 256 + b)).toBitVec.toNat = v * 256 + b := by
    show (BitVec.ofNat 64 (v * 256 + b)).toNat = _
    rw [BitVec.toNat_ofNat]
    have : (256 : Nat) ^ 7 = 72057594037927936 := by decide
    omega
  have : (256 : Nat) ^ 7 = 72057594037927936 := by decide
  rw [e3, e4, Nat.mod_eq_of_lt (show v < 2 ^ 64 by omega)]
  have e5 : v <<< 8 = v * 256 := by rw [Nat.shiftLeft_eq]
  rw [e5, Nat.mod_eq_of_lt (show v * 256 < 2 ^ 64 by omega), ← e5, ← Nat.shiftLeft_add_eq_or_of_lt (show b < 2 ^ 8 by omega)]
/-- the number that a word is in the model -/
def pkL (x : List Nat) : Nat := x.foldl (fun v b => v * 256 + b) 0
theorem pk_bys {tb : Nat → Nat} {s : Nat} : ∀ n, pkL (bys tb s n) = pkN tb s n := by
  intro n
  induction n with
  | zero => rfl
  | succ n ih =>
    rw [bys_snoc]
    unfold pkL at ih ⊢
    rw [List.foldl_append, ih]
    rfl
def WOk (x : List Nat) (W : Int64) : Prop := dec 7 (pkL x) = x ∧ 0 < x.length ∧ x.length < 8 ∧ W = Int64.ofNat (pkL x) ∧ pkL x < 256 ^ 7
theorem le_succ {t : Tp} {p : Nat} (h : p < t.1) : le t p = if isL (t.2 p) = true then le t (p + 1) else p := by
  unfold le
  rw [show t.1 - p = t.1 - (p + 1) + 1 by omega]
  rfl
theorem le_let {t : Tp} {s i : Nat} (h : s + i < le t s) : isL (t.2 (s + i)) = true := rnN_all (P := fun i => isL (t.2 i)) (t.1 - s) s (s + i) (by omega) h
theorem le_from {t : Tp} {s : Nat} : ∀ n, s + n ≤ le t s → s ≤ t.1 → le t (s + n) = le t s := by
  intro n
  induction n with
  | zero => intro _ _; rfl
  | succ n ih =>
    intro h hs
    have h2 := le_le hs
    have := ih (by omega) hs
    rw [← this, le_succ (show s + n < t.1 by omega), if_pos (le_let (by omega))]
    rfl
theorem m_wordE {w : XW} {t : Tp} (hT : TOk2 t) {s : Nat} (h : MTp w t s) (W : Int64) : ∀ m n, s + n + m = le t s →
    ∃ v, q_X12_isWord_10 W (Int64.ofNat (pkN t.2 s (min n 8))) (nI n) w = q_X12_isWord_56 W v (nI (le t s - s)) w ∧ (le t s - s < 8 → v = Int64.ofNat (pkN t.2 s (le t s - s))) := by
  have h4 := hT.1
  have hl := le_le h.2.2.2
  have g2 := h.2.1
  intro m
  induction m with
  | zero =>
    intro n hn
    have hx := m_isLetter hT h.1 (p := s + n) (by omega)
    have hf : (decide (s + n < t.1) && isL (t.2 (s + n))) = false := by
      by_cases c : s + n < t.1
      · rw [decT c, Bool.true_and]
        have e := le_succ c
        rw [le_from n (by omega) h.2.2.2] at e
        cases q : isL (t.2 (s + n)) with
        | false => rfl
        | true =>
          rw [q, if_pos rfl] at e
          have := le_le (t := t) (p := s + n + 1) (by omega)
          omega
      · rw [decF c, Bool.false_and]
    rw [hf] at hx
    refine ⟨Int64.ofNat (pkN t.2 s (min n 8)), ?_, fun q => by congr 2; omega⟩
    rw [show le t s - s = n by omega]
    ((try dsimp only); rw [e_X12_isWord_10]; simp (disch := omega) only [g2, hx, true_and, and_true, false_and, and_false, beq_t, beq_f, eqN_t, eqN_f, eqL_t, eqL_f, nm1, nm2, nm1', nm2', m1z, m2z, zm1, zm2, m12, m21, lg_cmp_ge, lg_cmp_le, lg_cmp_gt, lg_cmp_lt, lg_cmp_eq, oob, oobL, neg0, negL0, natle_f, or_false, false_or, true_or, or_true, or_self, cl, clL, le_t, le_f, lt_t, lt_f, leL_t, leL_f, ltL_t, ltL_f, leM_t, leM_f, ltM_t, ltM_f, leO_t, leO_f, cond_true, cond_false, Option.bind_some, Option.bind_none, if_false, if_true, nI_1, aL1, aL2, mL1, mL2, nI_add, pk_mul, pk_m1, sL1, dL1, pk_sub, m1p1, gIs_eq, gIs_k, gIs_i, gIs_n, gIs_e, gIJ, gIR, gJI, gJR, gJs_eq, gJs_k, gJs_n, gJs_e, gRI, gRJ, gRs_eq, gRs_k, gRs_i, gRs_n, gZI, gZJ, gZR, pI_s, pJ_s, pV_s, pR_s, pR_n, oR_n, oR_s, decide_true, decide_false, not_true_eq_false, not_false_eq_true, decT, decF, Bool.true_eq_false, Bool.false_eq_true, z01, o01, z1f, z1f', zz, oo, b2i_0, b2i_n, b2i_t, b2i_f, Bool.not_true, Bool.not_false])
  | succ m ih =>
    intro n hn
    have hx := m_isLetter hT h.1 (p := s + n) (by omega)
    have hL := le_let (t := t) (s := s) (i := n) (by omega)
    rw [decT (by omega), hL] at hx
    obtain ⟨v, k1, k2⟩ := ih (n + 1) (by omega)
    refine ⟨v, ?_, k2⟩
    rw [← k1]
    have b := h.1.2 (s + n) (by omega)
    rw [(sb_f ⟨t.2 (s + n), hT.2 _ (by omega)⟩).2.2.2.2 (by show (isD (t.2 (s + n)) || isL (t.2 (s + n))) = true; rw [hL, Bool.or_true])] at b
    dsimp only at b
    have hb := isL_t hL
    by_cases c : n < 8
    · have e8 : min n 8 = n := by omega
      have e9 : min (n + 1) 8 = n + 1 := by omega
      rw [e8, e9]
      have hv : pkN t.2 s n < 256 ^ 7 := Nat.lt_of_lt_of_le (pkN_lt n (fun i hi => by have := isL_t (le_let (t := t) (s := s) (i := i) (by omega)); omega)) (Nat.pow_le_pow_right (by omega) (by omega))
      have e := i64_step hv (show t.2 (s + n) < 256 by omega)
      have e' : pkN t.2 s (n + 1) = pkN t.2 s n * 256 + t.2 (s + n) := rfl
      rw [e', ← e]
      ((try dsimp only); rw [e_X12_isWord_10]; simp (disch := omega) only [g2, hx, Bool.and_self, e_X12_isWord_24, e_X12_isWord_31, b, e_X12_isWord_50, true_and, and_true, false_and, and_false, beq_t, beq_f, eqN_t, eqN_f, eqL_t, eqL_f, nm1, nm2, nm1', nm2', m1z, m2z, zm1, zm2, m12, m21, lg_cmp_ge, lg_cmp_le, lg_cmp_gt, lg_cmp_lt, lg_cmp_eq, oob, oobL, neg0, negL0, natle_f, or_false, false_or, true_or, or_true, or_self, cl, clL, le_t, le_f, lt_t, lt_f, leL_t, leL_f, ltL_t, ltL_f, leM_t, leM_f, ltM_t, ltM_f, leO_t, leO_f, cond_true, cond_false, Option.bind_some, Option.bind_none, if_false, if_true, nI_1, aL1, aL2, mL1, mL2, nI_add, pk_mul, pk_m1, sL1, dL1, pk_sub, m1p1, gIs_eq, gIs_k, gIs_i, gIs_n, gIs_e, gIJ, gIR, gJI, gJR, gJs_eq, gJs_k, gJs_n, gJs_e, gRI, gRJ, gRs_eq, gRs_k, gRs_i, gRs_n, gZI, gZJ, gZR, pI_s, pJ_s, pV_s, pR_s, pR_n, oR_n, oR_s, decide_true, decide_false, not_true_eq_false, not_false_eq_true, decT, decF, Bool.true_eq_false, Bool.false_eq_true, z01, o01, z1f, z1f', zz, oo, b2i_0, b2i_n, b2i_t, b2i_f, Bool.not_true, Bool.not_false])
    · rw [show min (n + 1) 8 = min n 8 by omega]
      ((try dsimp only); rw [e_X12_isWord_10]; simp (disch := omega) only [g2, hx, Bool.and_self, e_X12_isWord_24, e_X12_isWord_50, true_and, and_true, false_and, and_false, beq_t, beq_f, eqN_t, eqN_f, eqL_t, eqL_f, nm1, nm2, nm1', nm2', m1z, m2z, zm1, zm2, m12, m21, lg_cmp_ge, lg_cmp_le, lg_cmp_gt, lg_cmp_lt, lg_cmp_eq, oob, oobL, neg0, negL0, natle_f, or_false, false_or, true_or, or_true, or_self, cl, clL, le_t, le_f, lt_t, lt_f, leL_t, leL_f, ltL_t, ltL_f, leM_t, leM_f, ltM_t, ltM_f, leO_t, leO_f, cond_true, cond_false, Option.bind_some, Option.bind_none, if_false, if_true, nI_1, aL1, aL2, mL1, mL2, nI_add, pk_mul, pk_m1, sL1, dL1, pk_sub, m1p1, gIs_eq, gIs_k, gIs_i, gIs_n, gIs_e, gIJ, gIR, gJI, gJR, gJs_eq, gJs_k, gJs_n, gJs_e, gRI, gRJ, gRs_eq, gRs_k, gRs_i, gRs_n, gZI, gZJ, gZR, pI_s, pJ_s, pV_s, pR_s, pR_n, oR_n, oR_s, decide_true, decide_false, not_true_eq_false, not_false_eq_true, decT, decF, Bool.true_eq_false, Bool.false_eq_true, z01, o01, z1f, z1f', zz, oo, b2i_0, b2i_n, b2i_t, b2i_f, Bool.not_true, Bool.not_false])
theorem m_isWord {w : XW} {t : Tp} (hT : TOk2 t) {p : Nat} (h : MTp w t p) {x : List Nat} {W : Int64} (hW : WOk x W) : ∃ w', F_X12_isWord [.inr (11, 0), .inl (.long W)] w = some (b2i (decide (wrd t (sk t p) = x)), w') ∧ MTp w' t (sk t p) ∧ Fr PM8 w w' := by
  have h4 := hT.1
  obtain ⟨w1, k1, k2, k3⟩ := m_see hT h
  have hs := sk_le h.2.2.2
  generalize sk t p = s at *
  have hl := le_le hs.2
  obtain ⟨v, j1, j2⟩ := m_wordE hT k2 W (le t s - s) 0 (by omega)
  have j1 : q_X12_isWord_10 W 0 0 w1 = _ := j1
  refine ⟨w1, ?_, k2, k3⟩
  rw [f_X12_isWord, e_X12_isWord_0, k1, Option.bind_some]
  dsimp only
  rw [j1]
  have hlet : ∀ i, i < le t s - s → 0 < t.2 (s + i) ∧ t.2 (s + i) < 256 := fun i hi => by have := isL_t (le_let (t := t) (s := s) (i := i) (by omega)); omega
  have hwl : (wrd t s).length = le t s - s := bys_len _ _
  unfold wrd
  generalize hn : le t s - s = n at *
  by_cases n0 : n = 0
  · have : ¬ bys t.2 s n = x := fun z => by
      have := hW.2.1
      rw [← z, n0] at this
      exact absurd this (by show ¬ 0 < 0; omega)
    rw [decF this, e_X12_isWord_56]
    simp (disch := omega) only [n0, e_X12_isWord_78, e_X12_isWord_79, true_and, and_true, false_and, and_false, beq_t, beq_f, eqN_t, eqN_f, eqL_t, eqL_f, nm1, nm2, nm1', nm2', m1z, m2z, zm1, zm2, m12, m21, lg_cmp_ge, lg_cmp_le, lg_cmp_gt, lg_cmp_lt, lg_cmp_eq, oob, oobL, neg0, negL0, natle_f, or_false, false_or, true_or, or_true, or_self, cl, clL, le_t, le_f, lt_t, lt_f, leL_t, leL_f, ltL_t, ltL_f, leM_t, leM_f, ltM_t, ltM_f, leO_t, leO_f, cond_true, cond_false, Option.bind_some, Option.bind_none, if_false, if_true, nI_1, aL1, aL2, mL1, mL2, nI_add, pk_mul, pk_m1, sL1, dL1, pk_sub, m1p1, gIs_eq, gIs_k, gIs_i, gIs_n, gIs_e, gIJ, gIR, gJI, gJR, gJs_eq, gJs_k, gJs_n, gJs_e, gRI, gRJ, gRs_eq, gRs_k, gRs_i, gRs_n, gZI, gZJ, gZR, pI_s, pJ_s, pV_s, pR_s, pR_n, oR_n, oR_s, decide_true, decide_false, not_true_eq_false, not_false_eq_true, decT, decF, Bool.true_eq_false, Bool.false_eq_true, z01, o01, z1f, z1f', zz, oo, b2i_0, b2i_n, b2i_t, b2i_f, Bool.not_true, Bool.not_false]
  · have e0 : decide (nI n ≤ 0) = false := leM_f (c := 0) (show 0 < n by omega) (by omega)
    by_cases n8 : n < 8
    · have j2 := j2 n8
      have hd := pk_dec (tb := t.2) (s := s) n 7 (by omega) hlet
      have hlt : pkN t.2 s n < 256 ^ 7 := Nat.lt_of_lt_of_le (pkN_lt n (fun i hi => (hlet i hi).2)) (Nat.pow_le_pow_right (by omega) (by omega))
      have he : (v = W) = (bys t.2 s n = x) := by
        refine propext ⟨fun z => ?_, fun z => ?_⟩
        · rw [j2, hW.2.2.2.1] at z
          have z2 : pkN t.2 s n = pkL x := by
            have := congrArg (fun y : Int64 => y.toBitVec.toNat) z
            have q1 : ∀ y, y < 256 ^ 7 → (Int64.ofNat y).toBitVec.toNat = y := fun y hy => by
              show (BitVec.ofNat 64 y).toNat = y
              rw [BitVec.toNat_ofNat]
              have : (256 : Nat) ^ 7 = 72057594037927936 := by decide
              omega
            rw [q1 _ hlt, q1 _ hW.2.2.2.2] at this
            exact this
          rw [← hd, z2, hW.1]
        · rw [j2, hW.2.2.2.1, ← z, pk_bys]
      rw [e_X12_isWord_56, e0, cond_false, e_X12_isWord_61, leL_f (c := 8) (show n < 8 from n8) (by decide), cond_false, e_X12_isWord_68]
      by_cases c : v = W
      · have c2 := c
        rw [he] at c2
        rw [decT c2]
        simp (disch := omega) only [c, e_X12_isWord_74, e_X12_isWord_79, true_and, and_true, false_and, and_false, beq_t, beq_f, eqN_t, eqN_f, eqL_t, eqL_f, nm1, nm2, nm1', nm2', m1z, m2z, zm1, zm2, m12, m21, lg_cmp_ge, lg_cmp_le, lg_cmp_gt, lg_cmp_lt, lg_cmp_eq, oob, oobL, neg0, negL0, natle_f, or_false, false_or, true_or, or_true, or_self, cl, clL, le_t, le_f, lt_t, lt_f, leL_t, leL_f, ltL_t, ltL_f, leM_t, leM_f, ltM_t, ltM_f, leO_t, leO_f, cond_true, cond_false, Option.bind_some, Option.bind_none, if_false, if_true, nI_1, aL1, aL2, mL1, mL2, nI_add, pk_mul, pk_m1, sL1, dL1, pk_sub, m1p1, gIs_eq, gIs_k, gIs_i, gIs_n, gIs_e, gIJ, gIR, gJI, gJR, gJs_eq, gJs_k, gJs_n, gJs_e, gRI, gRJ, gRs_eq, gRs_k, gRs_i, gRs_n, gZI, gZJ, gZR, pI_s, pJ_s, pV_s, pR_s, pR_n, oR_n, oR_s, decide_true, decide_false, not_true_eq_false, not_false_eq_true, decT, decF, Bool.true_eq_false, Bool.false_eq_true, z01, o01, z1f, z1f', zz, oo, b2i_0, b2i_n, b2i_t, b2i_f, Bool.not_true, Bool.not_false]
      · have c2 := c
        rw [he] at c2
        rw [decF c2]
        simp (disch := omega) only [c, e_X12_isWord_78, e_X12_isWord_79, true_and, and_true, false_and, and_false, beq_t, beq_f, eqN_t, eqN_f, eqL_t, eqL_f, nm1, nm2, nm1', nm2', m1z, m2z, zm1, zm2, m12, m21, lg_cmp_ge, lg_cmp_le, lg_cmp_gt, lg_cmp_lt, lg_cmp_eq, oob, oobL, neg0, negL0, natle_f, or_false, false_or, true_or, or_true, or_self, cl, clL, le_t, le_f, lt_t, lt_f, leL_t, leL_f, ltL_t, ltL_f, leM_t, leM_f, ltM_t, ltM_f, leO_t, leO_f, cond_true, cond_false, Option.bind_some, Option.bind_none, if_false, if_true, nI_1, aL1, aL2, mL1, mL2, nI_add, pk_mul, pk_m1, sL1, dL1, pk_sub, m1p1, gIs_eq, gIs_k, gIs_i, gIs_n, gIs_e, gIJ, gIR, gJI, gJR, gJs_eq, gJs_k, gJs_n, gJs_e, gRI, gRJ, gRs_eq, gRs_k, gRs_i, gRs_n, gZI, gZJ, gZR, pI_s, pJ_s, pV_s, pR_s, pR_n, oR_n, oR_s, decide_true, decide_false, not_true_eq_false, not_false_eq_true, decT, decF, Bool.true_eq_false, Bool.false_eq_true, z01, o01, z1f, z1f', zz, oo, b2i_0, b2i_n, b2i_t, b2i_f, Bool.not_true, Bool.not_false]
    · have : ¬ bys t.2 s n = x := fun z => by
        have := hW.2.2.1
        rw [← z, bys_len] at this
        omega
      rw [decF this, e_X12_isWord_56, e0, cond_false, e_X12_isWord_61]
      simp (disch := omega) only [e_X12_isWord_78, e_X12_isWord_79, true_and, and_true, false_and, and_false, beq_t, beq_f, eqN_t, eqN_f, eqL_t, eqL_f, nm1, nm2, nm1', nm2', m1z, m2z, zm1, zm2, m12, m21, lg_cmp_ge, lg_cmp_le, lg_cmp_gt, lg_cmp_lt, lg_cmp_eq, oob, oobL, neg0, negL0, natle_f, or_false, false_or, true_or, or_true, or_self, cl, clL, le_t, le_f, lt_t, lt_f, leL_t, leL_f, ltL_t, ltL_f, leM_t, leM_f, ltM_t, ltM_f, leO_t, leO_f, cond_true, cond_false, Option.bind_some, Option.bind_none, if_false, if_true, nI_1, aL1, aL2, mL1, mL2, nI_add, pk_mul, pk_m1, sL1, dL1, pk_sub, m1p1, gIs_eq, gIs_k, gIs_i, gIs_n, gIs_e, gIJ, gIR, gJI, gJR, gJs_eq, gJs_k, gJs_n, gJs_e, gRI, gRJ, gRs_eq, gRs_k, gRs_i, gRs_n, gZI, gZJ, gZR, pI_s, pJ_s, pV_s, pR_s, pR_n, oR_n, oR_s, decide_true, decide_false, not_true_eq_false, not_false_eq_true, decT, decF, Bool.true_eq_false, Bool.false_eq_true, z01, o01, z1f, z1f', zz, oo, b2i_0, b2i_n, b2i_t, b2i_f, Bool.not_true, Bool.not_false]
theorem m_passWord {w : XW} {t : Tp} (hT : TOk2 t) {p : Nat} (h : MTp w t p) : ∃ w', F_X12_passWord [.inr (11, 0)] w = some w' ∧ MTp w' t (le t p) ∧ Fr PM8 w w' := by
  have h4 := hT.1
  have key : ∀ m p (w : XW), p + m = t.1 → MTp w t p → ∃ w', q_X12_passWord_0 w = some (none, w') ∧ MTp w' t (rnN (fun i => isL (t.2 i)) m p) ∧ Fr PM8 w w' := by
    intro m
    induction m with
    | zero =>
      intro p w hm h
      have hx := m_isLetter hT h.1 (p := p) (by omega)
      rw [decF (by omega), Bool.false_and] at hx
      have g2 := h.2.1
      refine ⟨w, ?_, h, Fr.refl _ _⟩
      ((try dsimp only); rw [e_X12_passWord_0]; simp (disch := omega) only [g2, hx, e_X12_passWord_24, true_and, and_true, false_and, and_false, beq_t, beq_f, eqN_t, eqN_f, eqL_t, eqL_f, nm1, nm2, nm1', nm2', m1z, m2z, zm1, zm2, m12, m21, lg_cmp_ge, lg_cmp_le, lg_cmp_gt, lg_cmp_lt, lg_cmp_eq, oob, oobL, neg0, negL0, natle_f, or_false, false_or, true_or, or_true, or_self, cl, clL, le_t, le_f, lt_t, lt_f, leL_t, leL_f, ltL_t, ltL_f, leM_t, leM_f, ltM_t, ltM_f, leO_t, leO_f, cond_true, cond_false, Option.bind_some, Option.bind_none, if_false, if_true, nI_1, aL1, aL2, mL1, mL2, nI_add, pk_mul, pk_m1, sL1, dL1, pk_sub, m1p1, gIs_eq, gIs_k, gIs_i, gIs_n, gIs_e, gIJ, gIR, gJI, gJR, gJs_eq, gJs_k, gJs_n, gJs_e, gRI, gRJ, gRs_eq, gRs_k, gRs_i, gRs_n, gZI, gZJ, gZR, pI_s, pJ_s, pV_s, pR_s, pR_n, oR_n, oR_s, decide_true, decide_false, not_true_eq_false, not_false_eq_true, decT, decF, Bool.true_eq_false, Bool.false_eq_true, z01, o01, z1f, z1f', zz, oo, b2i_0, b2i_n, b2i_t, b2i_f, Bool.not_true, Bool.not_false])
    | succ m ih =>
      intro p w hm h
      have hx := m_isLetter hT h.1 (p := p) (by omega)
      rw [decT (by omega), Bool.true_and] at hx
      have g2 := h.2.1
      have er : rnN (fun i => isL (t.2 i)) (m + 1) p = if isL (t.2 p) = true then rnN (fun i => isL (t.2 i)) m (p + 1) else p := rfl
      rw [er]
      cases hq : isL (t.2 p) with
      | false =>
        rw [hq] at hx
        rw [if_neg Bool.false_ne_true]
        refine ⟨w, ?_, h, Fr.refl _ _⟩
        ((try dsimp only); rw [e_X12_passWord_0]; simp (disch := omega) only [g2, hx, e_X12_passWord_24, true_and, and_true, false_and, and_false, beq_t, beq_f, eqN_t, eqN_f, eqL_t, eqL_f, nm1, nm2, nm1', nm2', m1z, m2z, zm1, zm2, m12, m21, lg_cmp_ge, lg_cmp_le, lg_cmp_gt, lg_cmp_lt, lg_cmp_eq, oob, oobL, neg0, negL0, natle_f, or_false, false_or, true_or, or_true, or_self, cl, clL, le_t, le_f, lt_t, lt_f, leL_t, leL_f, ltL_t, ltL_f, leM_t, leM_f, ltM_t, ltM_f, leO_t, leO_f, cond_true, cond_false, Option.bind_some, Option.bind_none, if_false, if_true, nI_1, aL1, aL2, mL1, mL2, nI_add, pk_mul, pk_m1, sL1, dL1, pk_sub, m1p1, gIs_eq, gIs_k, gIs_i, gIs_n, gIs_e, gIJ, gIR, gJI, gJR, gJs_eq, gJs_k, gJs_n, gJs_e, gRI, gRJ, gRs_eq, gRs_k, gRs_i, gRs_n, gZI, gZJ, gZR, pI_s, pJ_s, pV_s, pR_s, pR_n, oR_n, oR_s, decide_true, decide_false, not_true_eq_false, not_false_eq_true, decT, decF, Bool.true_eq_false, Bool.false_eq_true, z01, o01, z1f, z1f', zz, oo, b2i_0, b2i_n, b2i_t, b2i_f, Bool.not_true, Bool.not_false])
      | true =>
        rw [hq] at hx
        rw [if_pos rfl]
        obtain ⟨w', k1, k2, k3⟩ := ih (p + 1) (sI w 11 0 8 (nI (p + 1))) (by omega) (h.to (by omega))
        refine ⟨w', ?_, k2, ((Fr.refl _ _).sI ⟨rfl, rfl⟩).trans k3⟩
        rw [← k1]
        ((try dsimp only); rw [e_X12_passWord_0]; simp (disch := omega) only [g2, hx, e_X12_passWord_11, true_and, and_true, false_and, and_false, beq_t, beq_f, eqN_t, eqN_f, eqL_t, eqL_f, nm1, nm2, nm1', nm2', m1z, m2z, zm1, zm2, m12, m21, lg_cmp_ge, lg_cmp_le, lg_cmp_gt, lg_cmp_lt, lg_cmp_eq, oob, oobL, neg0, negL0, natle_f, or_false, false_or, true_or, or_true, or_self, cl, clL, le_t, le_f, lt_t, lt_f, leL_t, leL_f, ltL_t, ltL_f, leM_t, leM_f, ltM_t, ltM_f, leO_t, leO_f, cond_true, cond_false, Option.bind_some, Option.bind_none, if_false, if_true, nI_1, aL1, aL2, mL1, mL2, nI_add, pk_mul, pk_m1, sL1, dL1, pk_sub, m1p1, gIs_eq, gIs_k, gIs_i, gIs_n, gIs_e, gIJ, gIR, gJI, gJR, gJs_eq, gJs_k, gJs_n, gJs_e, gRI, gRJ, gRs_eq, gRs_k, gRs_i, gRs_n, gZI, gZJ, gZR, pI_s, pJ_s, pV_s, pR_s, pR_n, oR_n, oR_s, decide_true, decide_false, not_true_eq_false, not_false_eq_true, decT, decF, Bool.true_eq_false, Bool.false_eq_true, z01, o01, z1f, z1f', zz, oo, b2i_0, b2i_n, b2i_t, b2i_f, Bool.not_true, Bool.not_false])
  have h3 := h.2.2.2
  obtain ⟨w', k1, k2, k3⟩ := key (t.1 - p) p w (by omega) h
  refine ⟨w', ?_, k2, k3⟩
  rw [f_X12_passWord, k1]
  rfl
/-- the words -/
def kDale : List Nat := [100, 97, 108, 101]
def kKeep : List Nat := [107, 101, 101, 112]
def kPerson : List Nat := [112, 101, 114, 115, 111, 110]
def kField : List Nat := [102, 105, 101, 108, 100]
def kBeside : List Nat := [98, 101, 115, 105, 100, 101]
theorem W_dale : WOk kDale 1684106341 := ⟨by decide, by decide, by decide, by decide, by decide⟩
theorem W_keep : WOk kKeep 1801807216 := ⟨by decide, by decide, by decide, by decide, by decide⟩
theorem W_person : WOk kPerson 123581014175598 := ⟨by decide, by decide, by decide, by decide, by decide⟩
theorem W_field : WOk kField 439854918756 := ⟨by decide, by decide, by decide, by decide, by decide⟩
theorem W_beside : WOk kBeside 108187867505765 := ⟨by decide, by decide, by decide, by decide, by decide⟩
theorem W_tell : WOk [116, 101, 108, 108] 1952803948 := ⟨by decide, by decide, by decide, by decide, by decide⟩
theorem W_tells : WOk [116, 101, 108, 108, 115] 499917810803 := ⟨by decide, by decide, by decide, by decide, by decide⟩
theorem W_full : WOk [102, 117, 108, 108] 1718971500 := ⟨by decide, by decide, by decide, by decide, by decide⟩
theorem W_room : WOk [114, 111, 111, 109] 1919905645 := ⟨by decide, by decide, by decide, by decide, by decide⟩
theorem W_heat : WOk [104, 101, 97, 116] 1751474548 := ⟨by decide, by decide, by decide, by decide, by decide⟩
theorem W_cools : WOk [99, 111, 111, 108, 115] 427071335539 := ⟨by decide, by decide, by decide, by decide, by decide⟩
theorem W_others : WOk [111, 116, 104, 101, 114, 115] 122545758368371 := ⟨by decide, by decide, by decide, by decide, by decide⟩
theorem W_burnt : WOk [98, 117, 114, 110, 116] 422877228660 := ⟨by decide, by decide, by decide, by decide, by decide⟩
theorem W_night : WOk [110, 105, 103, 104, 116] 474214787188 := ⟨by decide, by decide, by decide, by decide, by decide⟩
