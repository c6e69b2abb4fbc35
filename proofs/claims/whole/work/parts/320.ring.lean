/-! ===== rings of nights ===== -/
theorem l_or {y a k : Nat} (s : Int64) (hs : (s.toBitVec.smod 64).toNat = k) (hk : k < 64) (ha : a < 2 ^ k) (h : y * 2 ^ k + a < 2 ^ 63) : (lN y <<< s) ||| lN a = lN (y * 2 ^ k + a) := by
  apply Int64.toBitVec_inj.mp
  apply BitVec.eq_of_toNat_eq
  have h1 : (lN y).toBitVec.toNat = y := Nat.mod_eq_of_lt (by
    have : y ≤ y * 2 ^ k := Nat.le_mul_of_pos_right _ (Nat.pow_pos (by omega))
    show y < 2 ^ 64
    omega)
  have h2 : (lN a).toBitVec.toNat = a := Nat.mod_eq_of_lt (show a < 2 ^ 64 by omega)
  have h3 : (lN (y * 2 ^ k + a)).toBitVec.toNat = y * 2 ^ k + a := Nat.mod_eq_of_lt (show _ < 2 ^ 64 by omega)
  have h4 : (lN y <<< s).toBitVec.toNat = y * 2 ^ k := by
    show ((lN y).toBitVec <<< (s.toBitVec.smod 64)).toNat = _
    rw [BitVec.shiftLeft_eq', BitVec.toNat_shiftLeft, h1, hs, Nat.shiftLeft_eq]
    exact Nat.mod_eq_of_lt (by omega)
  show ((lN y <<< s).toBitVec ||| (lN a).toBitVec).toNat = _
  rw [BitVec.toNat_or, h4, h2, h3, ← Nat.shiftLeft_eq]
  exact (Nat.shiftLeft_add_eq_or_of_lt ha y).symm
/-- one keep's three numbers -/
def k3 (s : Sc) (k : Nat) : Nat := (s.2.1 k).toNatClampNeg * 4096 + (s.2.2.1 k).toNatClampNeg * 16 + (s.2.2.2.1 k + 2).toNatClampNeg
theorem pl2 {d : Dl} {s : Sc} (hS : SOk d s) {k : Nat} (hk : k < 6) : ∃ p, p < 6 ∧ s.2.2.2.1 k + 2 = nI p ∧ s.2.2.2.1 k = nI p - 2 := by
  rcases (hS k hk).2.2.2.1 with h | h | ⟨f, h1, _, h3⟩
  · exact ⟨0, by omega, by rw [h]; decide, by rw [h]; decide⟩
  · exact ⟨1, by omega, by rw [h]; decide, by rw [h]; decide⟩
  · refine ⟨f + 2, by omega, by rw [h3]; exact aL1, ?_⟩
    rw [h3]
    exact (pk_sub (a := f + 2) (b := 2) (by omega)).symm
theorem k3_eq {d : Dl} {s : Sc} (hS : SOk d s) {k : Nat} (hk : k < 6) : ∃ a h p, a ≤ 60 ∧ h ≤ 98 ∧ p < 6 ∧ s.2.1 k = nI a ∧ s.2.2.1 k = nI h ∧ s.2.2.2.1 k + 2 = nI p ∧ s.2.2.2.1 k = nI p - 2 ∧ k3 s k = a * 4096 + h * 16 + p := by
  obtain ⟨⟨a, ha, ea⟩, ⟨h, hh, eh⟩, _⟩ := hS k hk
  obtain ⟨p, hp, ep, ep2⟩ := pl2 hS hk
  refine ⟨a, h, p, ha, hh, hp, ea, eh, ep, ep2, ?_⟩
  unfold k3
  rw [ea, eh, ep, cl (by omega), cl (by omega), cl (by omega)]
theorem k3_inj {d : Dl} {s s' : Sc} (hS : SOk d s) (hS' : SOk d s') {k : Nat} (hk : k < 6) : k3 s k = k3 s' k ↔ (s.2.1 k = s'.2.1 k ∧ s.2.2.1 k = s'.2.2.1 k ∧ s.2.2.2.1 k = s'.2.2.2.1 k) := by
  obtain ⟨a, h, p, ha, hh, hp, ea, eh, ep, ep2, e⟩ := k3_eq hS hk
  obtain ⟨a', h', p', ha', hh', hp', ea', eh', ep', ep2', e'⟩ := k3_eq hS' hk
  constructor
  · intro q
    rw [e, e'] at q
    have q1 : p = p' := by omega
    have q2 : h = h' := by omega
    have q3 : a = a' := by omega
    rw [ea, ea', eh, eh', ep2, ep2', q1, q2, q3]
    exact ⟨rfl, rfl, rfl⟩
  · intro ⟨q1, q2, q3⟩
    unfold k3
    rw [q1, q2, q3]
/-- three keeps in one number -/
def p3 (s : Sc) (k : Nat) : Nat := (k3 s k * 1048576 + k3 s (k + 1)) * 1048576 + k3 s (k + 2)
theorem k3_lt {d : Dl} {s : Sc} (hS : SOk d s) {k : Nat} (hk : k < 6) : k3 s k < 1048576 := by
  obtain ⟨a, h, p, ha, hh, hp, ea, eh, ep, ep2, e⟩ := k3_eq hS hk
  omega
theorem p3_inj {d : Dl} {s s' : Sc} (hS : SOk d s) (hS' : SOk d s') {k : Nat} (hk : k ≤ 3) : p3 s k = p3 s' k ↔ (k3 s k = k3 s' k ∧ k3 s (k + 1) = k3 s' (k + 1) ∧ k3 s (k + 2) = k3 s' (k + 2)) := by
  have a1 := k3_lt hS (k := k) (by omega)
  have a2 := k3_lt hS (k := k + 1) (by omega)
  have a3 := k3_lt hS (k := k + 2) (by omega)
  have b1 := k3_lt hS' (k := k) (by omega)
  have b2 := k3_lt hS' (k := k + 1) (by omega)
  have b3 := k3_lt hS' (k := k + 2) (by omega)
  unfold p3
  omega
theorem pack_step {d : Dl} {s : Sc} (hS : SOk d s) {k : Nat} (hk : k < 6) (y : Nat) (hy : y < 2 ^ 42) : ((((((lN y <<< ((8 : Int32).toInt64 &&& 63)) ||| (s.2.1 k).toInt64) <<< ((8 : Int32).toInt64 &&& 63)) ||| (s.2.2.1 k).toInt64) <<< ((4 : Int32).toInt64 &&& 63)) ||| (s.2.2.2.1 k + 2).toInt64) = lN (y * 1048576 + k3 s k) := by
  obtain ⟨a, h, p, ha, hh, hp, ea, eh, ep, ep2, e⟩ := k3_eq hS hk
  rw [ea, eh, ep, e, nI_l (by omega), nI_l (by omega), nI_l (by omega), l_or (k := 8) _ (by decide) (by omega) (by omega) (by omega), l_or (k := 8) _ (by decide) (by omega) (by omega) (by omega), l_or (k := 4) _ (by decide) (by omega) (by omega) (by omega)]
  congr 1
  omega
theorem c_packed {w : XW} {d : Dl} {s : Sc} {i : Nat} (hs : ScAt w i s) (hS : SOk d s) {q : Nat} (hq : q = 0 ∨ q = 3) : F_X9_packed [.inr (8, i), .inl (.int (nI q))] w = some (lN (p3 s q), w) := by
  have a1 := k3_lt hS (k := q) (by omega)
  have a2 := k3_lt hS (k := q + 1) (by omega)
  have a3 := k3_lt hS (k := q + 2) (by omega)
  have step : ∀ j y, y < 2 ^ 42 → j < 3 → q_X9_packed_5 i (nI q) (lN y) (nI (q + j)) w = q_X9_packed_5 i (nI q) (lN (y * 1048576 + k3 s (q + j))) (nI (q + j + 1)) w := fun j y hy hj => by
    have x := hs.2 (q + j) (by omega)
    rw [e_X9_packed_5]
    simp (disch := omega) only [e_X9_packed_13, e_X9_packed_20, x, true_and, and_true, false_and, and_false, beq_t, beq_f, eqN_t, eqN_f, eqL_t, eqL_f, nm1, nm2, nm1', nm2', m1z, m2z, zm1, zm2, m12, m21, lg_cmp_ge, lg_cmp_le, lg_cmp_gt, lg_cmp_lt, lg_cmp_eq, oob, oobL, neg0, negL0, natle_f, or_false, false_or, true_or, or_true, or_self, cl, clL, le_t, le_f, lt_t, lt_f, leL_t, leL_f, ltL_t, ltL_f, leM_t, leM_f, ltM_t, ltM_f, leO_t, leO_f, cond_true, cond_false, Option.bind_some, Option.bind_none, if_false, if_true, nI_1, aL1, aL2, mL1, mL2, nI_add, pk_mul, pk_m1, sL1, dL1, pk_sub, m1p1, gIs_eq, gIs_k, gIs_i, gIs_n, gIs_e, gIJ, gIR, gJI, gJR, gJs_eq, gJs_k, gJs_n, gJs_e, gRI, gRJ, gRs_eq, gRs_k, gRs_i, gRs_n, gZI, gZJ, gZR, pI_s, pJ_s, pV_s, pR_s, pR_n, oR_n, oR_s, decide_true, decide_false, not_true_eq_false, not_false_eq_true, decT, decF, Bool.true_eq_false, Bool.false_eq_true, z01, o01, z1f, z1f', zz, oo, b2i_0, b2i_n, b2i_t, b2i_f, Bool.not_true, Bool.not_false]
    rw [pack_step hS (by omega) y hy]
  have s1 := step 0 0 (by omega) (by omega)
  have s2 := step 1 (k3 s q) (by omega) (by omega)
  have s3 := step 2 (k3 s q * 1048576 + k3 s (q + 1)) (by omega) (by omega)
  rw [Nat.zero_mul, Nat.zero_add, Nat.add_zero] at s1
  have e : q_X9_packed_5 i (nI q) 0 (nI q) w = some (some (.inl (.long (lN (p3 s q)))), w) := by
    show q_X9_packed_5 i (nI q) (lN 0) (nI q) w = _
    rw [s1, s2, s3, e_X9_packed_5]
    simp (disch := omega) only [e_X9_packed_69, true_and, and_true, false_and, and_false, beq_t, beq_f, eqN_t, eqN_f, eqL_t, eqL_f, nm1, nm2, nm1', nm2', m1z, m2z, zm1, zm2, m12, m21, lg_cmp_ge, lg_cmp_le, lg_cmp_gt, lg_cmp_lt, lg_cmp_eq, oob, oobL, neg0, negL0, natle_f, or_false, false_or, true_or, or_true, or_self, cl, clL, le_t, le_f, lt_t, lt_f, leL_t, leL_f, ltL_t, ltL_f, leM_t, leM_f, ltM_t, ltM_f, leO_t, leO_f, cond_true, cond_false, Option.bind_some, Option.bind_none, if_false, if_true, nI_1, aL1, aL2, mL1, mL2, nI_add, pk_mul, pk_m1, sL1, dL1, pk_sub, m1p1, gIs_eq, gIs_k, gIs_i, gIs_n, gIs_e, gIJ, gIR, gJI, gJR, gJs_eq, gJs_k, gJs_n, gJs_e, gRI, gRJ, gRs_eq, gRs_k, gRs_i, gRs_n, gZI, gZJ, gZR, pI_s, pJ_s, pV_s, pR_s, pR_n, oR_n, oR_s, decide_true, decide_false, not_true_eq_false, not_false_eq_true, decT, decF, Bool.true_eq_false, Bool.false_eq_true, z01, o01, z1f, z1f', zz, oo, b2i_0, b2i_n, b2i_t, b2i_f, Bool.not_true, Bool.not_false]
    rfl
  rw [f_X9_packed, e_X9_packed_0, e]
  rfl
/-- do two scenes stand alike -/
def alS (s s' : Sc) : Prop := ∀ k, k < 6 → (s.2.1 k = s'.2.1 k ∧ s.2.2.1 k = s'.2.2.1 k ∧ s.2.2.2.1 k = s'.2.2.2.1 k)
theorem p3_al {d : Dl} {s s' : Sc} (hS : SOk d s) (hS' : SOk d s') : (p3 s 0 = p3 s' 0 ∧ p3 s 3 = p3 s' 3) ↔ alS s s' := by
  rw [p3_inj hS hS' (by omega), p3_inj hS hS' (by omega)]
  have e := fun k (hk : k < 6) => k3_inj hS hS' hk
  rw [e 0 (by omega), e (0 + 1) (by omega), e (0 + 2) (by omega), e 3 (by omega), e (3 + 1) (by omega), e (3 + 2) (by omega)]
  constructor
  · intro ⟨⟨h0, h1, h2⟩, h3, h4, h5⟩ k hk
    have : k = 0 ∨ k = 1 ∨ k = 2 ∨ k = 3 ∨ k = 4 ∨ k = 5 := by omega
    rcases this with rfl | rfl | rfl | rfl | rfl | rfl
    · exact h0
    · exact h1
    · exact h2
    · exact h3
    · exact h4
    · exact h5
  · intro h
    exact ⟨⟨h 0 (by omega), h 1 (by omega), h 2 (by omega)⟩, h 3 (by omega), h 4 (by omega), h 5 (by omega)⟩
/-- a cell of the model's rows -/
def c18 (s : Sc) (c : Nat) : Int32 := if c % 3 = 0 then s.2.1 (c / 3) else if c % 3 = 1 then s.2.2.1 (c / 3) else s.2.2.2.1 (c / 3)
theorem c18_al {s s' : Sc} : (∀ c, c < 18 → c18 s c = c18 s' c) ↔ alS s s' := by
  constructor
  · intro h k hk
    have h0 := h (3 * k) (by omega)
    have h1 := h (3 * k + 1) (by omega)
    have h2 := h (3 * k + 2) (by omega)
    unfold c18 at h0 h1 h2
    rw [if_pos (by omega), if_pos (by omega), show 3 * k / 3 = k by omega] at h0
    rw [if_neg (by omega), if_pos (by omega), if_neg (by omega), if_pos (by omega), show (3 * k + 1) / 3 = k by omega] at h1
    rw [if_neg (by omega), if_neg (by omega), if_neg (by omega), if_neg (by omega), show (3 * k + 2) / 3 = k by omega] at h2
    exact ⟨h0, h1, h2⟩
  · intro h c hc
    obtain ⟨h0, h1, h2⟩ := h (c / 3) (by omega)
    unfold c18
    rw [h0, h1, h2]
theorem m_areAlike {w : XW} (S : Nat → Sc) (h58 : ∀ n, n ≤ 60 → ∀ c, c < 18 → gI w 58 0 (18 * n + c) = c18 (S n) c) {a b : Nat} (ha : a ≤ 60) (hb : b ≤ 60) : ∃ q, F_X12_areAlike [.inr (11, 0), .inl (.int (nI a)), .inl (.int (nI b))] w = some (b2i q, w) ∧ (q = true ↔ alS (S a) (S b)) := by
  have key : ∀ m c, c + m = 18 → ∃ q, q_X12_areAlike_2 (nI a) (nI b) (nI c) w = some (some (.inl (.int (b2i q))), w) ∧ (q = true ↔ ∀ c', c ≤ c' → c' < 18 → c18 (S a) c' = c18 (S b) c') := by
    intro m
    induction m with
    | zero =>
      intro c hc
      refine ⟨true, ?_, ⟨fun _ c' h1 h2 => absurd h2 (by omega), fun _ => rfl⟩⟩
      ((try dsimp only); rw [e_X12_areAlike_2]; simp (disch := omega) only [e_X12_areAlike_41, true_and, and_true, false_and, and_false, beq_t, beq_f, eqN_t, eqN_f, eqL_t, eqL_f, nm1, nm2, nm1', nm2', m1z, m2z, zm1, zm2, m12, m21, lg_cmp_ge, lg_cmp_le, lg_cmp_gt, lg_cmp_lt, lg_cmp_eq, oob, oobL, neg0, negL0, natle_f, or_false, false_or, true_or, or_true, or_self, cl, clL, le_t, le_f, lt_t, lt_f, leL_t, leL_f, ltL_t, ltL_f, leM_t, leM_f, ltM_t, ltM_f, leO_t, leO_f, cond_true, cond_false, Option.bind_some, Option.bind_none, if_false, if_true, nI_1, aL1, aL2, mL1, mL2, nI_add, pk_mul, pk_m1, sL1, dL1, pk_sub, m1p1, gIs_eq, gIs_k, gIs_i, gIs_n, gIs_e, gIJ, gIR, gJI, gJR, gJs_eq, gJs_k, gJs_n, gJs_e, gRI, gRJ, gRs_eq, gRs_k, gRs_i, gRs_n, gZI, gZJ, gZR, pI_s, pJ_s, pV_s, pR_s, pR_n, oR_n, oR_s, decide_true, decide_false, not_true_eq_false, not_false_eq_true, decT, decF, Bool.true_eq_false, Bool.false_eq_true, z01, o01, z1f, z1f', zz, oo, b2i_0, b2i_n, b2i_t, b2i_f, Bool.not_true, Bool.not_false])
    | succ m ih =>
      intro c hc
      have x1 := h58 a ha c (by omega)
      have x2 := h58 b hb c (by omega)
      rw [e_X12_areAlike_2]
      by_cases hq : c18 (S a) c = c18 (S b) c
      · obtain ⟨q, i1, i2⟩ := ih (c + 1) (by omega)
        refine ⟨q, ?_, ?_⟩
        · simp (disch := omega) only [e_X12_areAlike_8, x1, x2, hq, e_X12_areAlike_35, true_and, and_true, false_and, and_false, beq_t, beq_f, eqN_t, eqN_f, eqL_t, eqL_f, nm1, nm2, nm1', nm2', m1z, m2z, zm1, zm2, m12, m21, lg_cmp_ge, lg_cmp_le, lg_cmp_gt, lg_cmp_lt, lg_cmp_eq, oob, oobL, neg0, negL0, natle_f, or_false, false_or, true_or, or_true, or_self, cl, clL, le_t, le_f, lt_t, lt_f, leL_t, leL_f, ltL_t, ltL_f, leM_t, leM_f, ltM_t, ltM_f, leO_t, leO_f, cond_true, cond_false, Option.bind_some, Option.bind_none, if_false, if_true, nI_1, aL1, aL2, mL1, mL2, nI_add, pk_mul, pk_m1, sL1, dL1, pk_sub, m1p1, gIs_eq, gIs_k, gIs_i, gIs_n, gIs_e, gIJ, gIR, gJI, gJR, gJs_eq, gJs_k, gJs_n, gJs_e, gRI, gRJ, gRs_eq, gRs_k, gRs_i, gRs_n, gZI, gZJ, gZR, pI_s, pJ_s, pV_s, pR_s, pR_n, oR_n, oR_s, decide_true, decide_false, not_true_eq_false, not_false_eq_true, decT, decF, Bool.true_eq_false, Bool.false_eq_true, z01, o01, z1f, z1f', zz, oo, b2i_0, b2i_n, b2i_t, b2i_f, Bool.not_true, Bool.not_false]
          exact i1
        · rw [i2]
          constructor
          · intro h c' h1 h2
            by_cases e : c' = c
            · rw [e]; exact hq
            · exact h c' (by omega) h2
          · intro h c' h1 h2
            exact h c' (by omega) h2
      · refine ⟨false, ?_, ⟨fun z => Bool.noConfusion z, fun h => absurd (h c (by omega) (by omega)) hq⟩⟩
        simp (disch := omega) only [e_X12_areAlike_8, x1, x2, hq, e_X12_areAlike_33, true_and, and_true, false_and, and_false, beq_t, beq_f, eqN_t, eqN_f, eqL_t, eqL_f, nm1, nm2, nm1', nm2', m1z, m2z, zm1, zm2, m12, m21, lg_cmp_ge, lg_cmp_le, lg_cmp_gt, lg_cmp_lt, lg_cmp_eq, oob, oobL, neg0, negL0, natle_f, or_false, false_or, true_or, or_true, or_self, cl, clL, le_t, le_f, lt_t, lt_f, leL_t, leL_f, ltL_t, ltL_f, leM_t, leM_f, ltM_t, ltM_f, leO_t, leO_f, cond_true, cond_false, Option.bind_some, Option.bind_none, if_false, if_true, nI_1, aL1, aL2, mL1, mL2, nI_add, pk_mul, pk_m1, sL1, dL1, pk_sub, m1p1, gIs_eq, gIs_k, gIs_i, gIs_n, gIs_e, gIJ, gIR, gJI, gJR, gJs_eq, gJs_k, gJs_n, gJs_e, gRI, gRJ, gRs_eq, gRs_k, gRs_i, gRs_n, gZI, gZJ, gZR, pI_s, pJ_s, pV_s, pR_s, pR_n, oR_n, oR_s, decide_true, decide_false, not_true_eq_false, not_false_eq_true, decT, decF, Bool.true_eq_false, Bool.false_eq_true, z01, o01, z1f, z1f', zz, oo, b2i_0, b2i_n, b2i_t, b2i_f, Bool.not_true, Bool.not_false]
  obtain ⟨q, h1, h2⟩ := key 18 0 (by omega)
  refine ⟨q, ?_, ?_⟩
  · rw [nI_0] at h1
    rw [f_X12_areAlike, e_X12_areAlike_0, h1]
    rfl
  · rw [h2, ← c18_al]
    exact ⟨fun h c hc => h c (by omega) hc, fun h c _ hc => h c hc⟩
theorem ms_c18 {w : XW} {s : Sc} (h : MsAt w s) {k q : Nat} (hk : k < 6) (hq : q < 3) : gI w 50 0 (11 + 4 * k + q) = c18 s (3 * k + q) := by
  have x := h.2 k hk
  unfold c18
  have : q = 0 ∨ q = 1 ∨ q = 2 := by omega
  rcases this with rfl | rfl | rfl
  · rw [if_pos (by omega), show (3 * k + 0) / 3 = k by omega]; exact x.1
  · rw [if_neg (by omega), if_pos (by omega), show (3 * k + 1) / 3 = k by omega]; exact x.2.1
  · rw [if_neg (by omega), if_neg (by omega), show (3 * k + 2) / 3 = k by omega]; exact x.2.2.1
def P58 (n κ _j k : Nat) : Prop := κ = 58 ∧ 18 * n ≤ k ∧ k < 18 * n + 18
theorem m_ringrow {w : XW} {s : Sc} (h : MsAt w s) (q : Int32) {n : Nat} (hn : n ≤ 60) : ∃ w', q_X12_ring_31 q (nI n) w = q_X12_ring_90 q (nI n) w' ∧ (∀ c, c < 18 → gI w' 58 0 (18 * n + c) = c18 s c) ∧ Fr (P58 n) w w' := by
  obtain ⟨w', a1, a2, a3⟩ := loop0 6 (fun k v => q_X12_ring_33 q (nI n) (nI k) v) (fun v => q_X12_ring_90 q (nI n) v) (fun k v => Fr (P58 n) w v ∧ ∀ c, c < 3 * k → gI v 58 0 (18 * n + c) = c18 s c) (s := w) ⟨Fr.refl _ _, fun c hc => absurd hc (by omega)⟩ (fun k v hk hi => by
      obtain ⟨i1, i2⟩ := hi
      obtain ⟨u, b1, b2, b3⟩ := loop0 3 (fun j u => q_X12_ring_42 q (nI n) (nI k) (nI j) u) (fun u => q_X12_ring_84 q (nI n) (nI k) u) (fun j u => Fr (P58 n) w u ∧ ∀ c, c < 3 * k + j → gI u 58 0 (18 * n + c) = c18 s c) (s := v) ⟨i1, fun c hc => i2 c (by omega)⟩ (fun j u hj hi => by
          obtain ⟨j1, j2⟩ := hi
          have x := ms_c18 (h.fr j1 (fun k q => by unfold P58; omega)) hk hj
          ((try dsimp only); rw [e_X12_ring_42]; simp (disch := omega) only [e_X12_ring_48, x, true_and, and_true, false_and, and_false, beq_t, beq_f, eqN_t, eqN_f, eqL_t, eqL_f, nm1, nm2, nm1', nm2', m1z, m2z, zm1, zm2, m12, m21, lg_cmp_ge, lg_cmp_le, lg_cmp_gt, lg_cmp_lt, lg_cmp_eq, oob, oobL, neg0, negL0, natle_f, or_false, false_or, true_or, or_true, or_self, cl, clL, le_t, le_f, lt_t, lt_f, leL_t, leL_f, ltL_t, ltL_f, leM_t, leM_f, ltM_t, ltM_f, leO_t, leO_f, cond_true, cond_false, Option.bind_some, Option.bind_none, if_false, if_true, nI_1, aL1, aL2, mL1, mL2, nI_add, pk_mul, pk_m1, sL1, dL1, pk_sub, m1p1, gIs_eq, gIs_k, gIs_i, gIs_n, gIs_e, gIJ, gIR, gJI, gJR, gJs_eq, gJs_k, gJs_n, gJs_e, gRI, gRJ, gRs_eq, gRs_k, gRs_i, gRs_n, gZI, gZJ, gZR, pI_s, pJ_s, pV_s, pR_s, pR_n, oR_n, oR_s, decide_true, decide_false, not_true_eq_false, not_false_eq_true, decT, decF, Bool.true_eq_false, Bool.false_eq_true, z01, o01, z1f, z1f', zz, oo, b2i_0, b2i_n, b2i_t, b2i_f, Bool.not_true, Bool.not_false])
          refine ⟨_, rfl, j1.sI (by unfold P58; omega), fun c hc => ?_⟩
          by_cases e : c = 3 * k + j
          · subst e
            simp (disch := omega) only [true_and, and_true, false_and, and_false, beq_t, beq_f, eqN_t, eqN_f, eqL_t, eqL_f, nm1, nm2, nm1', nm2', m1z, m2z, zm1, zm2, m12, m21, lg_cmp_ge, lg_cmp_le, lg_cmp_gt, lg_cmp_lt, lg_cmp_eq, oob, oobL, neg0, negL0, natle_f, or_false, false_or, true_or, or_true, or_self, cl, clL, le_t, le_f, lt_t, lt_f, leL_t, leL_f, ltL_t, ltL_f, leM_t, leM_f, ltM_t, ltM_f, leO_t, leO_f, cond_true, cond_false, Option.bind_some, Option.bind_none, if_false, if_true, nI_1, aL1, aL2, mL1, mL2, nI_add, pk_mul, pk_m1, sL1, dL1, pk_sub, m1p1, gIs_eq, gIs_k, gIs_i, gIs_n, gIs_e, gIJ, gIR, gJI, gJR, gJs_eq, gJs_k, gJs_n, gJs_e, gRI, gRJ, gRs_eq, gRs_k, gRs_i, gRs_n, gZI, gZJ, gZR, pI_s, pJ_s, pV_s, pR_s, pR_n, oR_n, oR_s, decide_true, decide_false, not_true_eq_false, not_false_eq_true, decT, decF, Bool.true_eq_false, Bool.false_eq_true, z01, o01, z1f, z1f', zz, oo, b2i_0, b2i_n, b2i_t, b2i_f, Bool.not_true, Bool.not_false]
          · simp (disch := omega) only [true_and, and_true, false_and, and_false, beq_t, beq_f, eqN_t, eqN_f, eqL_t, eqL_f, nm1, nm2, nm1', nm2', m1z, m2z, zm1, zm2, m12, m21, lg_cmp_ge, lg_cmp_le, lg_cmp_gt, lg_cmp_lt, lg_cmp_eq, oob, oobL, neg0, negL0, natle_f, or_false, false_or, true_or, or_true, or_self, cl, clL, le_t, le_f, lt_t, lt_f, leL_t, leL_f, ltL_t, ltL_f, leM_t, leM_f, ltM_t, ltM_f, leO_t, leO_f, cond_true, cond_false, Option.bind_some, Option.bind_none, if_false, if_true, nI_1, aL1, aL2, mL1, mL2, nI_add, pk_mul, pk_m1, sL1, dL1, pk_sub, m1p1, gIs_eq, gIs_k, gIs_i, gIs_n, gIs_e, gIJ, gIR, gJI, gJR, gJs_eq, gJs_k, gJs_n, gJs_e, gRI, gRJ, gRs_eq, gRs_k, gRs_i, gRs_n, gZI, gZJ, gZR, pI_s, pJ_s, pV_s, pR_s, pR_n, oR_n, oR_s, decide_true, decide_false, not_true_eq_false, not_false_eq_true, decT, decF, Bool.true_eq_false, Bool.false_eq_true, z01, o01, z1f, z1f', zz, oo, b2i_0, b2i_n, b2i_t, b2i_f, Bool.not_true, Bool.not_false]
            exact j2 c (by omega)) (fun u hi => by ((try dsimp only); rw [e_X12_ring_42]; simp (disch := omega) only [true_and, and_true, false_and, and_false, beq_t, beq_f, eqN_t, eqN_f, eqL_t, eqL_f, nm1, nm2, nm1', nm2', m1z, m2z, zm1, zm2, m12, m21, lg_cmp_ge, lg_cmp_le, lg_cmp_gt, lg_cmp_lt, lg_cmp_eq, oob, oobL, neg0, negL0, natle_f, or_false, false_or, true_or, or_true, or_self, cl, clL, le_t, le_f, lt_t, lt_f, leL_t, leL_f, ltL_t, ltL_f, leM_t, leM_f, ltM_t, ltM_f, leO_t, leO_f, cond_true, cond_false, Option.bind_some, Option.bind_none, if_false, if_true, nI_1, aL1, aL2, mL1, mL2, nI_add, pk_mul, pk_m1, sL1, dL1, pk_sub, m1p1, gIs_eq, gIs_k, gIs_i, gIs_n, gIs_e, gIJ, gIR, gJI, gJR, gJs_eq, gJs_k, gJs_n, gJs_e, gRI, gRJ, gRs_eq, gRs_k, gRs_i, gRs_n, gZI, gZJ, gZR, pI_s, pJ_s, pV_s, pR_s, pR_n, oR_n, oR_s, decide_true, decide_false, not_true_eq_false, not_false_eq_true, decT, decF, Bool.true_eq_false, Bool.false_eq_true, z01, o01, z1f, z1f', zz, oo, b2i_0, b2i_n, b2i_t, b2i_f, Bool.not_true, Bool.not_false]))
      rw [nI_0] at b1
      refine ⟨u, ?_, b2, fun c hc => b3 c (by omega)⟩
      ((try dsimp only); rw [e_X12_ring_33]; simp (disch := omega) only [e_X12_ring_39, b1, e_X12_ring_84, true_and, and_true, false_and, and_false, beq_t, beq_f, eqN_t, eqN_f, eqL_t, eqL_f, nm1, nm2, nm1', nm2', m1z, m2z, zm1, zm2, m12, m21, lg_cmp_ge, lg_cmp_le, lg_cmp_gt, lg_cmp_lt, lg_cmp_eq, oob, oobL, neg0, negL0, natle_f, or_false, false_or, true_or, or_true, or_self, cl, clL, le_t, le_f, lt_t, lt_f, leL_t, leL_f, ltL_t, ltL_f, leM_t, leM_f, ltM_t, ltM_f, leO_t, leO_f, cond_true, cond_false, Option.bind_some, Option.bind_none, if_false, if_true, nI_1, aL1, aL2, mL1, mL2, nI_add, pk_mul, pk_m1, sL1, dL1, pk_sub, m1p1, gIs_eq, gIs_k, gIs_i, gIs_n, gIs_e, gIJ, gIR, gJI, gJR, gJs_eq, gJs_k, gJs_n, gJs_e, gRI, gRJ, gRs_eq, gRs_k, gRs_i, gRs_n, gZI, gZJ, gZR, pI_s, pJ_s, pV_s, pR_s, pR_n, oR_n, oR_s, decide_true, decide_false, not_true_eq_false, not_false_eq_true, decT, decF, Bool.true_eq_false, Bool.false_eq_true, z01, o01, z1f, z1f', zz, oo, b2i_0, b2i_n, b2i_t, b2i_f, Bool.not_true, Bool.not_false])) (fun v hi => by ((try dsimp only); rw [e_X12_ring_33]; simp (disch := omega) only [true_and, and_true, false_and, and_false, beq_t, beq_f, eqN_t, eqN_f, eqL_t, eqL_f, nm1, nm2, nm1', nm2', m1z, m2z, zm1, zm2, m12, m21, lg_cmp_ge, lg_cmp_le, lg_cmp_gt, lg_cmp_lt, lg_cmp_eq, oob, oobL, neg0, negL0, natle_f, or_false, false_or, true_or, or_true, or_self, cl, clL, le_t, le_f, lt_t, lt_f, leL_t, leL_f, ltL_t, ltL_f, leM_t, leM_f, ltM_t, ltM_f, leO_t, leO_f, cond_true, cond_false, Option.bind_some, Option.bind_none, if_false, if_true, nI_1, aL1, aL2, mL1, mL2, nI_add, pk_mul, pk_m1, sL1, dL1, pk_sub, m1p1, gIs_eq, gIs_k, gIs_i, gIs_n, gIs_e, gIJ, gIR, gJI, gJR, gJs_eq, gJs_k, gJs_n, gJs_e, gRI, gRJ, gRs_eq, gRs_k, gRs_i, gRs_n, gZI, gZJ, gZR, pI_s, pJ_s, pV_s, pR_s, pR_n, oR_n, oR_s, decide_true, decide_false, not_true_eq_false, not_false_eq_true, decT, decF, Bool.true_eq_false, Bool.false_eq_true, z01, o01, z1f, z1f', zz, oo, b2i_0, b2i_n, b2i_t, b2i_f, Bool.not_true, Bool.not_false]))
  rw [nI_0] at a1
  refine ⟨w', ?_, fun c hc => a3 c (by omega), a2⟩
  rw [e_X12_ring_31, a1]
theorem q_ring {d : Dl} {s : Sc} {rs : List Rl} {f : Int32} (hO : OX d s rs f) (x : Int32) : QOkk d s rs f (F_X11_ring [.inr (10, 0), .inl (.int x)]) (F_X12_ring [.inr (11, 0), .inl (.int x)]) := by
  have hD := hO.1.1
  have h6 := hD.1.2
  have hS := hO.2.1.1
  have hTs := tl_ok hD
  have hN := hO.2.1.2
  rcases told01 hO.1.2 with ht | ht
  · by_cases c1 : (¬ x < 0 ∧ ¬ 1 < x)
    · obtain ⟨q, _, hq, rfl⟩ := rngL 0 1 (by omega) (by omega) c1
      have hq2 : q = 0 ∨ q = 1 := by omega
      generalize hr : curR rs f = r
      generalize hSS : (fun n => nightsS d r (tlS d) n s) = S
      have hS' : ∀ n, S n = nightsS d r (tlS d) n s := fun n => by rw [← hSS]
      have hSok : ∀ n, SOk d (S n) := fun n => by rw [hS']; exact hS.nights hD hTs n
      have search : ∀ m a, a + m = 60 → ∃ ans, (∀ w, gI w 8 0 1 = s.1 → (∀ n, n ≤ 60 → gJ w 38 0 (2 * n) = lN (p3 (S n) 0) ∧ gJ w 38 0 (2 * n + 1) = lN (p3 (S n) 3)) → q_X11_ring_87 (nI q) (nI a) w = some (some (.inl (.int ans)), w)) ∧ (∀ v, gI v 50 0 10 = s.1 → (∀ n, n ≤ 60 → ∀ c, c < 18 → gI v 58 0 (18 * n + c) = c18 (S n) c) → q_X12_ring_107 (nI q) (nI a) v = some (some (.inl (.int ans)), v)) := by
        intro m
        induction m with
        | zero =>
          intro a ha
          refine ⟨-2, fun w _ _ => ?_, fun v _ _ => ?_⟩
          · ((try dsimp only); rw [e_X11_ring_87]; simp (disch := omega) only [e_X11_ring_179, true_and, and_true, false_and, and_false, beq_t, beq_f, eqN_t, eqN_f, eqL_t, eqL_f, nm1, nm2, nm1', nm2', m1z, m2z, zm1, zm2, m12, m21, lg_cmp_ge, lg_cmp_le, lg_cmp_gt, lg_cmp_lt, lg_cmp_eq, oob, oobL, neg0, negL0, natle_f, or_false, false_or, true_or, or_true, or_self, cl, clL, le_t, le_f, lt_t, lt_f, leL_t, leL_f, ltL_t, ltL_f, leM_t, leM_f, ltM_t, ltM_f, leO_t, leO_f, cond_true, cond_false, Option.bind_some, Option.bind_none, if_false, if_true, nI_1, aL1, aL2, mL1, mL2, nI_add, pk_mul, pk_m1, sL1, dL1, pk_sub, m1p1, gIs_eq, gIs_k, gIs_i, gIs_n, gIs_e, gIJ, gIR, gJI, gJR, gJs_eq, gJs_k, gJs_n, gJs_e, gRI, gRJ, gRs_eq, gRs_k, gRs_i, gRs_n, gZI, gZJ, gZR, pI_s, pJ_s, pV_s, pR_s, pR_n, oR_n, oR_s, decide_true, decide_false, not_true_eq_false, not_false_eq_true, decT, decF, Bool.true_eq_false, Bool.false_eq_true, z01, o01, z1f, z1f', zz, oo, b2i_0, b2i_n, b2i_t, b2i_f, Bool.not_true, Bool.not_false])
          · ((try dsimp only); rw [e_X12_ring_107]; simp (disch := omega) only [e_X12_ring_164, true_and, and_true, false_and, and_false, beq_t, beq_f, eqN_t, eqN_f, eqL_t, eqL_f, nm1, nm2, nm1', nm2', m1z, m2z, zm1, zm2, m12, m21, lg_cmp_ge, lg_cmp_le, lg_cmp_gt, lg_cmp_lt, lg_cmp_eq, oob, oobL, neg0, negL0, natle_f, or_false, false_or, true_or, or_true, or_self, cl, clL, le_t, le_f, lt_t, lt_f, leL_t, leL_f, ltL_t, ltL_f, leM_t, leM_f, ltM_t, ltM_f, leO_t, leO_f, cond_true, cond_false, Option.bind_some, Option.bind_none, if_false, if_true, nI_1, aL1, aL2, mL1, mL2, nI_add, pk_mul, pk_m1, sL1, dL1, pk_sub, m1p1, gIs_eq, gIs_k, gIs_i, gIs_n, gIs_e, gIJ, gIR, gJI, gJR, gJs_eq, gJs_k, gJs_n, gJs_e, gRI, gRJ, gRs_eq, gRs_k, gRs_i, gRs_n, gZI, gZJ, gZR, pI_s, pJ_s, pV_s, pR_s, pR_n, oR_n, oR_s, decide_true, decide_false, not_true_eq_false, not_false_eq_true, decT, decF, Bool.true_eq_false, Bool.false_eq_true, z01, o01, z1f, z1f', zz, oo, b2i_0, b2i_n, b2i_t, b2i_f, Bool.not_true, Bool.not_false])
        | succ m ih =>
          intro a ha
          obtain ⟨ans0, o1, o2⟩ := ih (a + 1) (by omega)
          have inner : ∀ p b, b + p = 61 → a < b → ∃ ans, (∀ w, gI w 8 0 1 = s.1 → (∀ n, n ≤ 60 → gJ w 38 0 (2 * n) = lN (p3 (S n) 0) ∧ gJ w 38 0 (2 * n + 1) = lN (p3 (S n) 3)) → q_X11_ring_97 (nI q) (nI a) (nI b) w = some (some (.inl (.int ans)), w)) ∧ (∀ v, gI v 50 0 10 = s.1 → (∀ n, n ≤ 60 → ∀ c, c < 18 → gI v 58 0 (18 * n + c) = c18 (S n) c) → q_X12_ring_117 (nI q) (nI a) (nI b) v = some (some (.inl (.int ans)), v)) := by
            intro p
            induction p with
            | zero =>
              intro b hb hab
              refine ⟨ans0, fun w h1 h2 => ?_, fun v h1 h2 => ?_⟩
              · ((try dsimp only); rw [e_X11_ring_97]; simp (disch := omega) only [e_X11_ring_173, true_and, and_true, false_and, and_false, beq_t, beq_f, eqN_t, eqN_f, eqL_t, eqL_f, nm1, nm2, nm1', nm2', m1z, m2z, zm1, zm2, m12, m21, lg_cmp_ge, lg_cmp_le, lg_cmp_gt, lg_cmp_lt, lg_cmp_eq, oob, oobL, neg0, negL0, natle_f, or_false, false_or, true_or, or_true, or_self, cl, clL, le_t, le_f, lt_t, lt_f, leL_t, leL_f, ltL_t, ltL_f, leM_t, leM_f, ltM_t, ltM_f, leO_t, leO_f, cond_true, cond_false, Option.bind_some, Option.bind_none, if_false, if_true, nI_1, aL1, aL2, mL1, mL2, nI_add, pk_mul, pk_m1, sL1, dL1, pk_sub, m1p1, gIs_eq, gIs_k, gIs_i, gIs_n, gIs_e, gIJ, gIR, gJI, gJR, gJs_eq, gJs_k, gJs_n, gJs_e, gRI, gRJ, gRs_eq, gRs_k, gRs_i, gRs_n, gZI, gZJ, gZR, pI_s, pJ_s, pV_s, pR_s, pR_n, oR_n, oR_s, decide_true, decide_false, not_true_eq_false, not_false_eq_true, decT, decF, Bool.true_eq_false, Bool.false_eq_true, z01, o01, z1f, z1f', zz, oo, b2i_0, b2i_n, b2i_t, b2i_f, Bool.not_true, Bool.not_false])
                exact o1 w h1 h2
              · ((try dsimp only); rw [e_X12_ring_117]; simp (disch := omega) only [e_X12_ring_158, true_and, and_true, false_and, and_false, beq_t, beq_f, eqN_t, eqN_f, eqL_t, eqL_f, nm1, nm2, nm1', nm2', m1z, m2z, zm1, zm2, m12, m21, lg_cmp_ge, lg_cmp_le, lg_cmp_gt, lg_cmp_lt, lg_cmp_eq, oob, oobL, neg0, negL0, natle_f, or_false, false_or, true_or, or_true, or_self, cl, clL, le_t, le_f, lt_t, lt_f, leL_t, leL_f, ltL_t, ltL_f, leM_t, leM_f, ltM_t, ltM_f, leO_t, leO_f, cond_true, cond_false, Option.bind_some, Option.bind_none, if_false, if_true, nI_1, aL1, aL2, mL1, mL2, nI_add, pk_mul, pk_m1, sL1, dL1, pk_sub, m1p1, gIs_eq, gIs_k, gIs_i, gIs_n, gIs_e, gIJ, gIR, gJI, gJR, gJs_eq, gJs_k, gJs_n, gJs_e, gRI, gRJ, gRs_eq, gRs_k, gRs_i, gRs_n, gZI, gZJ, gZR, pI_s, pJ_s, pV_s, pR_s, pR_n, oR_n, oR_s, decide_true, decide_false, not_true_eq_false, not_false_eq_true, decT, decF, Bool.true_eq_false, Bool.false_eq_true, z01, o01, z1f, z1f', zz, oo, b2i_0, b2i_n, b2i_t, b2i_f, Bool.not_true, Bool.not_false])
                exact o2 v h1 h2
            | succ p ihp =>
              intro b hb hab
              obtain ⟨ans1, i1, i2⟩ := ihp (b + 1) (by omega) (by omega)
              have lt0 : ∀ k n, k ≤ 3 → p3 (S n) k < 2 ^ 63 := fun k n hk => by
                have a1 := k3_lt (hSok n) (k := k) (by omega)
                have a2 := k3_lt (hSok n) (k := k + 1) (by omega)
                have a3 := k3_lt (hSok n) (k := k + 2) (by omega)
                unfold p3
                omega
              have e0 := pk_lEQ (lt0 0 a (by omega)) (lt0 0 b (by omega))
              have e3 := pk_lEQ (lt0 3 a (by omega)) (lt0 3 b (by omega))
              have eal := p3_al (hSok a) (hSok b)
              by_cases al : alS (S a) (S b)
              · obtain ⟨n0, hn0, en0⟩ := in999 hN a (by omega)
                have ⟨z0, z3⟩ := eal.mpr al
                refine ⟨if q = 0 then nI n0 else nI (b - a), fun w h1 h2 => ?_, fun v h1 h2 => ?_⟩
                · have x1 := h2 a (by omega)
                  have x2 := h2 b (by omega)
                  rw [z0, z3] at x1
                  rw [e_X11_ring_97]
                  rcases hq2 with rfl | rfl
                  · simp (disch := omega) only [e_X11_ring_103, x1, x2, e_X11_ring_123, e_X11_ring_147, e_X11_ring_151, h1, en0, e_X11_ring_166, true_and, and_true, false_and, and_false, beq_t, beq_f, eqN_t, eqN_f, eqL_t, eqL_f, nm1, nm2, nm1', nm2', m1z, m2z, zm1, zm2, m12, m21, lg_cmp_ge, lg_cmp_le, lg_cmp_gt, lg_cmp_lt, lg_cmp_eq, oob, oobL, neg0, negL0, natle_f, or_false, false_or, true_or, or_true, or_self, cl, clL, le_t, le_f, lt_t, lt_f, leL_t, leL_f, ltL_t, ltL_f, leM_t, leM_f, ltM_t, ltM_f, leO_t, leO_f, cond_true, cond_false, Option.bind_some, Option.bind_none, if_false, if_true, nI_1, aL1, aL2, mL1, mL2, nI_add, pk_mul, pk_m1, sL1, dL1, pk_sub, m1p1, gIs_eq, gIs_k, gIs_i, gIs_n, gIs_e, gIJ, gIR, gJI, gJR, gJs_eq, gJs_k, gJs_n, gJs_e, gRI, gRJ, gRs_eq, gRs_k, gRs_i, gRs_n, gZI, gZJ, gZR, pI_s, pJ_s, pV_s, pR_s, pR_n, oR_n, oR_s, decide_true, decide_false, not_true_eq_false, not_false_eq_true, decT, decF, Bool.true_eq_false, Bool.false_eq_true, z01, o01, z1f, z1f', zz, oo, b2i_0, b2i_n, b2i_t, b2i_f, Bool.not_true, Bool.not_false]
                  · simp (disch := omega) only [e_X11_ring_103, x1, x2, e_X11_ring_123, e_X11_ring_147, e_X11_ring_163, e_X11_ring_166, true_and, and_true, false_and, and_false, beq_t, beq_f, eqN_t, eqN_f, eqL_t, eqL_f, nm1, nm2, nm1', nm2', m1z, m2z, zm1, zm2, m12, m21, lg_cmp_ge, lg_cmp_le, lg_cmp_gt, lg_cmp_lt, lg_cmp_eq, oob, oobL, neg0, negL0, natle_f, or_false, false_or, true_or, or_true, or_self, cl, clL, le_t, le_f, lt_t, lt_f, leL_t, leL_f, ltL_t, ltL_f, leM_t, leM_f, ltM_t, ltM_f, leO_t, leO_f, cond_true, cond_false, Option.bind_some, Option.bind_none, if_false, if_true, nI_1, aL1, aL2, mL1, mL2, nI_add, pk_mul, pk_m1, sL1, dL1, pk_sub, m1p1, gIs_eq, gIs_k, gIs_i, gIs_n, gIs_e, gIJ, gIR, gJI, gJR, gJs_eq, gJs_k, gJs_n, gJs_e, gRI, gRJ, gRs_eq, gRs_k, gRs_i, gRs_n, gZI, gZJ, gZR, pI_s, pJ_s, pV_s, pR_s, pR_n, oR_n, oR_s, decide_true, decide_false, not_true_eq_false, not_false_eq_true, decT, decF, Bool.true_eq_false, Bool.false_eq_true, z01, o01, z1f, z1f', zz, oo, b2i_0, b2i_n, b2i_t, b2i_f, Bool.not_true, Bool.not_false]
                    rfl
                · obtain ⟨t, y1, y2⟩ := m_areAlike S h2 (a := a) (b := b) (by omega) (by omega)
                  rw [y2.mpr al] at y1
                  rw [e_X12_ring_117]
                  rcases hq2 with rfl | rfl
                  · simp (disch := omega) only [e_X12_ring_123, y1, e_X12_ring_132, e_X12_ring_136, h1, en0, e_X12_ring_151, true_and, and_true, false_and, and_false, beq_t, beq_f, eqN_t, eqN_f, eqL_t, eqL_f, nm1, nm2, nm1', nm2', m1z, m2z, zm1, zm2, m12, m21, lg_cmp_ge, lg_cmp_le, lg_cmp_gt, lg_cmp_lt, lg_cmp_eq, oob, oobL, neg0, negL0, natle_f, or_false, false_or, true_or, or_true, or_self, cl, clL, le_t, le_f, lt_t, lt_f, leL_t, leL_f, ltL_t, ltL_f, leM_t, leM_f, ltM_t, ltM_f, leO_t, leO_f, cond_true, cond_false, Option.bind_some, Option.bind_none, if_false, if_true, nI_1, aL1, aL2, mL1, mL2, nI_add, pk_mul, pk_m1, sL1, dL1, pk_sub, m1p1, gIs_eq, gIs_k, gIs_i, gIs_n, gIs_e, gIJ, gIR, gJI, gJR, gJs_eq, gJs_k, gJs_n, gJs_e, gRI, gRJ, gRs_eq, gRs_k, gRs_i, gRs_n, gZI, gZJ, gZR, pI_s, pJ_s, pV_s, pR_s, pR_n, oR_n, oR_s, decide_true, decide_false, not_true_eq_false, not_false_eq_true, decT, decF, Bool.true_eq_false, Bool.false_eq_true, z01, o01, z1f, z1f', zz, oo, b2i_0, b2i_n, b2i_t, b2i_f, Bool.not_true, Bool.not_false]
                  · simp (disch := omega) only [e_X12_ring_123, y1, e_X12_ring_132, e_X12_ring_148, e_X12_ring_151, true_and, and_true, false_and, and_false, beq_t, beq_f, eqN_t, eqN_f, eqL_t, eqL_f, nm1, nm2, nm1', nm2', m1z, m2z, zm1, zm2, m12, m21, lg_cmp_ge, lg_cmp_le, lg_cmp_gt, lg_cmp_lt, lg_cmp_eq, oob, oobL, neg0, negL0, natle_f, or_false, false_or, true_or, or_true, or_self, cl, clL, le_t, le_f, lt_t, lt_f, leL_t, leL_f, ltL_t, ltL_f, leM_t, leM_f, ltM_t, ltM_f, leO_t, leO_f, cond_true, cond_false, Option.bind_some, Option.bind_none, if_false, if_true, nI_1, aL1, aL2, mL1, mL2, nI_add, pk_mul, pk_m1, sL1, dL1, pk_sub, m1p1, gIs_eq, gIs_k, gIs_i, gIs_n, gIs_e, gIJ, gIR, gJI, gJR, gJs_eq, gJs_k, gJs_n, gJs_e, gRI, gRJ, gRs_eq, gRs_k, gRs_i, gRs_n, gZI, gZJ, gZR, pI_s, pJ_s, pV_s, pR_s, pR_n, oR_n, oR_s, decide_true, decide_false, not_true_eq_false, not_false_eq_true, decT, decF, Bool.true_eq_false, Bool.false_eq_true, z01, o01, z1f, z1f', zz, oo, b2i_0, b2i_n, b2i_t, b2i_f, Bool.not_true, Bool.not_false]
                    rfl
              · refine ⟨ans1, fun w h1 h2 => ?_, fun v h1 h2 => ?_⟩
                · have x1 := h2 a (by omega)
                  have x2 := h2 b (by omega)
                  rw [e_X11_ring_97]
                  by_cases z0 : lN (p3 (S a) 0) = lN (p3 (S b) 0)
                  · have z3 : ¬ lN (p3 (S a) 3) = lN (p3 (S b) 3) := fun z => al (eal.mp ⟨e0.mp z0, e3.mp z⟩)
                    simp (disch := omega) only [e_X11_ring_103, x1, x2, z0, e_X11_ring_123, z3, e_X11_ring_167, true_and, and_true, false_and, and_false, beq_t, beq_f, eqN_t, eqN_f, eqL_t, eqL_f, nm1, nm2, nm1', nm2', m1z, m2z, zm1, zm2, m12, m21, lg_cmp_ge, lg_cmp_le, lg_cmp_gt, lg_cmp_lt, lg_cmp_eq, oob, oobL, neg0, negL0, natle_f, or_false, false_or, true_or, or_true, or_self, cl, clL, le_t, le_f, lt_t, lt_f, leL_t, leL_f, ltL_t, ltL_f, leM_t, leM_f, ltM_t, ltM_f, leO_t, leO_f, cond_true, cond_false, Option.bind_some, Option.bind_none, if_false, if_true, nI_1, aL1, aL2, mL1, mL2, nI_add, pk_mul, pk_m1, sL1, dL1, pk_sub, m1p1, gIs_eq, gIs_k, gIs_i, gIs_n, gIs_e, gIJ, gIR, gJI, gJR, gJs_eq, gJs_k, gJs_n, gJs_e, gRI, gRJ, gRs_eq, gRs_k, gRs_i, gRs_n, gZI, gZJ, gZR, pI_s, pJ_s, pV_s, pR_s, pR_n, oR_n, oR_s, decide_true, decide_false, not_true_eq_false, not_false_eq_true, decT, decF, Bool.true_eq_false, Bool.false_eq_true, z01, o01, z1f, z1f', zz, oo, b2i_0, b2i_n, b2i_t, b2i_f, Bool.not_true, Bool.not_false]
                    exact i1 w h1 h2
                  · simp (disch := omega) only [e_X11_ring_103, x1, x2, z0, e_X11_ring_167, true_and, and_true, false_and, and_false, beq_t, beq_f, eqN_t, eqN_f, eqL_t, eqL_f, nm1, nm2, nm1', nm2', m1z, m2z, zm1, zm2, m12, m21, lg_cmp_ge, lg_cmp_le, lg_cmp_gt, lg_cmp_lt, lg_cmp_eq, oob, oobL, neg0, negL0, natle_f, or_false, false_or, true_or, or_true, or_self, cl, clL, le_t, le_f, lt_t, lt_f, leL_t, leL_f, ltL_t, ltL_f, leM_t, leM_f, ltM_t, ltM_f, leO_t, leO_f, cond_true, cond_false, Option.bind_some, Option.bind_none, if_false, if_true, nI_1, aL1, aL2, mL1, mL2, nI_add, pk_mul, pk_m1, sL1, dL1, pk_sub, m1p1, gIs_eq, gIs_k, gIs_i, gIs_n, gIs_e, gIJ, gIR, gJI, gJR, gJs_eq, gJs_k, gJs_n, gJs_e, gRI, gRJ, gRs_eq, gRs_k, gRs_i, gRs_n, gZI, gZJ, gZR, pI_s, pJ_s, pV_s, pR_s, pR_n, oR_n, oR_s, decide_true, decide_false, not_true_eq_false, not_false_eq_true, decT, decF, Bool.true_eq_false, Bool.false_eq_true, z01, o01, z1f, z1f', zz, oo, b2i_0, b2i_n, b2i_t, b2i_f, Bool.not_true, Bool.not_false]
                    exact i1 w h1 h2
                · obtain ⟨t, y1, y2⟩ := m_areAlike S h2 (a := a) (b := b) (by omega) (by omega)
                  have tf : t = false := by
                    cases t with
                    | false => rfl
                    | true => exact absurd (y2.mp rfl) al
                  rw [tf] at y1
                  rw [e_X12_ring_117]
                  simp (disch := omega) only [e_X12_ring_123, y1, e_X12_ring_152, true_and, and_true, false_and, and_false, beq_t, beq_f, eqN_t, eqN_f, eqL_t, eqL_f, nm1, nm2, nm1', nm2', m1z, m2z, zm1, zm2, m12, m21, lg_cmp_ge, lg_cmp_le, lg_cmp_gt, lg_cmp_lt, lg_cmp_eq, oob, oobL, neg0, negL0, natle_f, or_false, false_or, true_or, or_true, or_self, cl, clL, le_t, le_f, lt_t, lt_f, leL_t, leL_f, ltL_t, ltL_f, leM_t, leM_f, ltM_t, ltM_f, leO_t, leO_f, cond_true, cond_false, Option.bind_some, Option.bind_none, if_false, if_true, nI_1, aL1, aL2, mL1, mL2, nI_add, pk_mul, pk_m1, sL1, dL1, pk_sub, m1p1, gIs_eq, gIs_k, gIs_i, gIs_n, gIs_e, gIJ, gIR, gJI, gJR, gJs_eq, gJs_k, gJs_n, gJs_e, gRI, gRJ, gRs_eq, gRs_k, gRs_i, gRs_n, gZI, gZJ, gZR, pI_s, pJ_s, pV_s, pR_s, pR_n, oR_n, oR_s, decide_true, decide_false, not_true_eq_false, not_false_eq_true, decT, decF, Bool.true_eq_false, Bool.false_eq_true, z01, o01, z1f, z1f', zz, oo, b2i_0, b2i_n, b2i_t, b2i_f, Bool.not_true, Bool.not_false]
                  exact i2 v h1 h2
          obtain ⟨ans1, i1, i2⟩ := inner (61 - (a + 1)) (a + 1) (by omega) (by omega)
          refine ⟨ans1, fun w h1 h2 => ?_, fun v h1 h2 => ?_⟩
          · ((try dsimp only); rw [e_X11_ring_87]; simp (disch := omega) only [e_X11_ring_93, true_and, and_true, false_and, and_false, beq_t, beq_f, eqN_t, eqN_f, eqL_t, eqL_f, nm1, nm2, nm1', nm2', m1z, m2z, zm1, zm2, m12, m21, lg_cmp_ge, lg_cmp_le, lg_cmp_gt, lg_cmp_lt, lg_cmp_eq, oob, oobL, neg0, negL0, natle_f, or_false, false_or, true_or, or_true, or_self, cl, clL, le_t, le_f, lt_t, lt_f, leL_t, leL_f, ltL_t, ltL_f, leM_t, leM_f, ltM_t, ltM_f, leO_t, leO_f, cond_true, cond_false, Option.bind_some, Option.bind_none, if_false, if_true, nI_1, aL1, aL2, mL1, mL2, nI_add, pk_mul, pk_m1, sL1, dL1, pk_sub, m1p1, gIs_eq, gIs_k, gIs_i, gIs_n, gIs_e, gIJ, gIR, gJI, gJR, gJs_eq, gJs_k, gJs_n, gJs_e, gRI, gRJ, gRs_eq, gRs_k, gRs_i, gRs_n, gZI, gZJ, gZR, pI_s, pJ_s, pV_s, pR_s, pR_n, oR_n, oR_s, decide_true, decide_false, not_true_eq_false, not_false_eq_true, decT, decF, Bool.true_eq_false, Bool.false_eq_true, z01, o01, z1f, z1f', zz, oo, b2i_0, b2i_n, b2i_t, b2i_f, Bool.not_true, Bool.not_false])
            exact i1 w h1 h2
          · ((try dsimp only); rw [e_X12_ring_107]; simp (disch := omega) only [e_X12_ring_113, true_and, and_true, false_and, and_false, beq_t, beq_f, eqN_t, eqN_f, eqL_t, eqL_f, nm1, nm2, nm1', nm2', m1z, m2z, zm1, zm2, m12, m21, lg_cmp_ge, lg_cmp_le, lg_cmp_gt, lg_cmp_lt, lg_cmp_eq, oob, oobL, neg0, negL0, natle_f, or_false, false_or, true_or, or_true, or_self, cl, clL, le_t, le_f, lt_t, lt_f, leL_t, leL_f, ltL_t, ltL_f, leM_t, leM_f, ltM_t, ltM_f, leO_t, leO_f, cond_true, cond_false, Option.bind_some, Option.bind_none, if_false, if_true, nI_1, aL1, aL2, mL1, mL2, nI_add, pk_mul, pk_m1, sL1, dL1, pk_sub, m1p1, gIs_eq, gIs_k, gIs_i, gIs_n, gIs_e, gIJ, gIR, gJI, gJR, gJs_eq, gJs_k, gJs_n, gJs_e, gRI, gRJ, gRs_eq, gRs_k, gRs_i, gRs_n, gZI, gZJ, gZR, pI_s, pJ_s, pV_s, pR_s, pR_n, oR_n, oR_s, decide_true, decide_false, not_true_eq_false, not_false_eq_true, decT, decF, Bool.true_eq_false, Bool.false_eq_true, z01, o01, z1f, z1f', zz, oo, b2i_0, b2i_n, b2i_t, b2i_f, Bool.not_true, Bool.not_false])
            exact i2 v h1 h2
      obtain ⟨ans, s1, s2⟩ := search 60 0 (by omega)
      rw [nI_0] at s1 s2
      refine ⟨ans, fun w hC => ?_, fun w hM => ?_⟩
      · obtain ⟨w1, a1, a2, a3⟩ := c_start hC hO
        rw [hr] at a2
        obtain ⟨w2, b1, b2, b3, b4⟩ := loop0 61 (fun k v => q_X11_ring_27 (nI q) (nI k) v) (fun v => q_X11_ring_85 (nI q) v) (fun k v => RunC v d (S k) r (tlS d) ∧ Fr PQk w v ∧ ∀ n, n < k → gJ v 38 0 (2 * n) = lN (p3 (S n) 0) ∧ gJ v 38 0 (2 * n + 1) = lN (p3 (S n) 3)) (s := w1) ⟨by rw [hS']; exact a2, a3.k, fun n hn => absurd hn (by omega)⟩ (fun k v hk hi => by
            obtain ⟨i1, i2, i3⟩ := hi
            obtain ⟨jd, jr, y1, y2, y3, y4, y5, y6⟩ := i1
            have k0 := c_packed y4 (hSok k) (q := 0) (Or.inl rfl)
            have F1 : Fr (fun κ _ _ => κ = 38) v (sJ v 38 0 (2 * k) (lN (p3 (S k) 0))) := (Fr.refl _ _).sJ rfl
            have k3 := c_packed (y4.fr F1 (fun κ k q => by omega)) (hSok k) (q := 3) (Or.inr rfl)
            have F2 : Fr (fun κ _ _ => κ = 38) v (sJ (sJ v 38 0 (2 * k) (lN (p3 (S k) 0))) 38 0 (2 * k + 1) (lN (p3 (S k) 3))) := F1.sJ rfl
            have hrun : RunC (sJ (sJ v 38 0 (2 * k) (lN (p3 (S k) 0))) 38 0 (2 * k + 1) (lN (p3 (S k) 3))) d (S k) r (tlS d) := ⟨jd, jr, y1, y2.fr F2 (fun κ k q => by omega), y3.fr F2 (fun κ k q => by omega), y4.fr F2 (fun κ k q => by omega), y5, y6.fr F2 (fun κ j k q => by omega)⟩
            obtain ⟨u, u1, u2, u3⟩ := c_pass1 hrun hD (hSok k) hTs
            rw [nI_0] at k0
            have k3 : F_X9_packed [.inr (8, 1), .inl (.int 3)] _ = _ := k3
            refine ⟨u, ?_, ?_, (i2.trans (F2.mono (fun κ i k q => by unfold PQk; omega))).trans u3.k, fun n hn => ?_⟩
            · ((try dsimp only); rw [e_X11_ring_27]; simp (disch := omega) only [e_X11_ring_33, k0, k3, u1, true_and, and_true, false_and, and_false, beq_t, beq_f, eqN_t, eqN_f, eqL_t, eqL_f, nm1, nm2, nm1', nm2', m1z, m2z, zm1, zm2, m12, m21, lg_cmp_ge, lg_cmp_le, lg_cmp_gt, lg_cmp_lt, lg_cmp_eq, oob, oobL, neg0, negL0, natle_f, or_false, false_or, true_or, or_true, or_self, cl, clL, le_t, le_f, lt_t, lt_f, leL_t, leL_f, ltL_t, ltL_f, leM_t, leM_f, ltM_t, ltM_f, leO_t, leO_f, cond_true, cond_false, Option.bind_some, Option.bind_none, if_false, if_true, nI_1, aL1, aL2, mL1, mL2, nI_add, pk_mul, pk_m1, sL1, dL1, pk_sub, m1p1, gIs_eq, gIs_k, gIs_i, gIs_n, gIs_e, gIJ, gIR, gJI, gJR, gJs_eq, gJs_k, gJs_n, gJs_e, gRI, gRJ, gRs_eq, gRs_k, gRs_i, gRs_n, gZI, gZJ, gZR, pI_s, pJ_s, pV_s, pR_s, pR_n, oR_n, oR_s, decide_true, decide_false, not_true_eq_false, not_false_eq_true, decT, decF, Bool.true_eq_false, Bool.false_eq_true, z01, o01, z1f, z1f', zz, oo, b2i_0, b2i_n, b2i_t, b2i_f, Bool.not_true, Bool.not_false])
            · rw [hS' (k + 1), nights_succ, ← hS']
              exact u2
            · rw [(u3 38 0 _ (by unfold PQc; omega)).2.1, (u3 38 0 _ (by unfold PQc; omega)).2.1]
              by_cases e : n = k
              · subst e
                simp (disch := omega) only [true_and, and_true, false_and, and_false, beq_t, beq_f, eqN_t, eqN_f, eqL_t, eqL_f, nm1, nm2, nm1', nm2', m1z, m2z, zm1, zm2, m12, m21, lg_cmp_ge, lg_cmp_le, lg_cmp_gt, lg_cmp_lt, lg_cmp_eq, oob, oobL, neg0, negL0, natle_f, or_false, false_or, true_or, or_true, or_self, cl, clL, le_t, le_f, lt_t, lt_f, leL_t, leL_f, ltL_t, ltL_f, leM_t, leM_f, ltM_t, ltM_f, leO_t, leO_f, cond_true, cond_false, Option.bind_some, Option.bind_none, if_false, if_true, nI_1, aL1, aL2, mL1, mL2, nI_add, pk_mul, pk_m1, sL1, dL1, pk_sub, m1p1, gIs_eq, gIs_k, gIs_i, gIs_n, gIs_e, gIJ, gIR, gJI, gJR, gJs_eq, gJs_k, gJs_n, gJs_e, gRI, gRJ, gRs_eq, gRs_k, gRs_i, gRs_n, gZI, gZJ, gZR, pI_s, pJ_s, pV_s, pR_s, pR_n, oR_n, oR_s, decide_true, decide_false, not_true_eq_false, not_false_eq_true, decT, decF, Bool.true_eq_false, Bool.false_eq_true, z01, o01, z1f, z1f', zz, oo, b2i_0, b2i_n, b2i_t, b2i_f, Bool.not_true, Bool.not_false]
              · simp (disch := omega) only [true_and, and_true, false_and, and_false, beq_t, beq_f, eqN_t, eqN_f, eqL_t, eqL_f, nm1, nm2, nm1', nm2', m1z, m2z, zm1, zm2, m12, m21, lg_cmp_ge, lg_cmp_le, lg_cmp_gt, lg_cmp_lt, lg_cmp_eq, oob, oobL, neg0, negL0, natle_f, or_false, false_or, true_or, or_true, or_self, cl, clL, le_t, le_f, lt_t, lt_f, leL_t, leL_f, ltL_t, ltL_f, leM_t, leM_f, ltM_t, ltM_f, leO_t, leO_f, cond_true, cond_false, Option.bind_some, Option.bind_none, if_false, if_true, nI_1, aL1, aL2, mL1, mL2, nI_add, pk_mul, pk_m1, sL1, dL1, pk_sub, m1p1, gIs_eq, gIs_k, gIs_i, gIs_n, gIs_e, gIJ, gIR, gJI, gJR, gJs_eq, gJs_k, gJs_n, gJs_e, gRI, gRJ, gRs_eq, gRs_k, gRs_i, gRs_n, gZI, gZJ, gZR, pI_s, pJ_s, pV_s, pR_s, pR_n, oR_n, oR_s, decide_true, decide_false, not_true_eq_false, not_false_eq_true, decT, decF, Bool.true_eq_false, Bool.false_eq_true, z01, o01, z1f, z1f', zz, oo, b2i_0, b2i_n, b2i_t, b2i_f, Bool.not_true, Bool.not_false]
                exact i3 n (by omega)) (fun v hi => by ((try dsimp only); rw [e_X11_ring_27]; simp (disch := omega) only [true_and, and_true, false_and, and_false, beq_t, beq_f, eqN_t, eqN_f, eqL_t, eqL_f, nm1, nm2, nm1', nm2', m1z, m2z, zm1, zm2, m12, m21, lg_cmp_ge, lg_cmp_le, lg_cmp_gt, lg_cmp_lt, lg_cmp_eq, oob, oobL, neg0, negL0, natle_f, or_false, false_or, true_or, or_true, or_self, cl, clL, le_t, le_f, lt_t, lt_f, leL_t, leL_f, ltL_t, ltL_f, leM_t, leM_f, ltM_t, ltM_f, leO_t, leO_f, cond_true, cond_false, Option.bind_some, Option.bind_none, if_false, if_true, nI_1, aL1, aL2, mL1, mL2, nI_add, pk_mul, pk_m1, sL1, dL1, pk_sub, m1p1, gIs_eq, gIs_k, gIs_i, gIs_n, gIs_e, gIJ, gIR, gJI, gJR, gJs_eq, gJs_k, gJs_n, gJs_e, gRI, gRJ, gRs_eq, gRs_k, gRs_i, gRs_n, gZI, gZJ, gZR, pI_s, pJ_s, pV_s, pR_s, pR_n, oR_n, oR_s, decide_true, decide_false, not_true_eq_false, not_false_eq_true, decT, decF, Bool.true_eq_false, Bool.false_eq_true, z01, o01, z1f, z1f', zz, oo, b2i_0, b2i_n, b2i_t, b2i_f, Bool.not_true, Bool.not_false]))
        have hC2 := hC.frk b3
        have k1 := s1 w2 hC2.2.1.1.1 (fun n hn => b4 n (by omega))
        obtain ⟨⟨jd, x1, x2⟩, _⟩ := hC
        have t0 := x2.1 0 (by omega)
        rw [nI_0] at b1
        refine ⟨w2, ?_, b3⟩
        rw [f_X11_ring, e_X11_ring_0]
        simp (disch := omega) only [x1, t0, ht, e_X11_ring_10, p_within, c1, e_X11_ring_21, a1, b1, e_X11_ring_85, k1, true_and, and_true, false_and, and_false, beq_t, beq_f, eqN_t, eqN_f, eqL_t, eqL_f, nm1, nm2, nm1', nm2', m1z, m2z, zm1, zm2, m12, m21, lg_cmp_ge, lg_cmp_le, lg_cmp_gt, lg_cmp_lt, lg_cmp_eq, oob, oobL, neg0, negL0, natle_f, or_false, false_or, true_or, or_true, or_self, cl, clL, le_t, le_f, lt_t, lt_f, leL_t, leL_f, ltL_t, ltL_f, leM_t, leM_f, ltM_t, ltM_f, leO_t, leO_f, cond_true, cond_false, Option.bind_some, Option.bind_none, if_false, if_true, nI_1, aL1, aL2, mL1, mL2, nI_add, pk_mul, pk_m1, sL1, dL1, pk_sub, m1p1, gIs_eq, gIs_k, gIs_i, gIs_n, gIs_e, gIJ, gIR, gJI, gJR, gJs_eq, gJs_k, gJs_n, gJs_e, gRI, gRJ, gRs_eq, gRs_k, gRs_i, gRs_n, gZI, gZJ, gZR, pI_s, pJ_s, pV_s, pR_s, pR_n, oR_n, oR_s, decide_true, decide_false, not_true_eq_false, not_false_eq_true, decT, decF, Bool.true_eq_false, Bool.false_eq_true, z01, o01, z1f, z1f', zz, oo, b2i_0, b2i_n, b2i_t, b2i_f, Bool.not_true, Bool.not_false]
      · obtain ⟨w0, a1, a2, a3, a4⟩ := m_keeps (hM.run hO) hM.2.2.2.2.1
        rw [hr] at a2
        obtain ⟨w2, b1, b2, b3, b4, b5⟩ := loop0 61 (fun k v => q_X12_ring_25 (nI q) (nI k) v) (fun v => q_X12_ring_101 (nI q) v) (fun k v => RunM v d (S k) r (tlS d) ∧ KeptM v s f ∧ Fr PQM w v ∧ ∀ n, n < k → ∀ c, c < 18 → gI v 58 0 (18 * n + c) = c18 (S n) c) (s := w0) ⟨by rw [hS']; exact a2, a3, a4.M, fun n hn => absurd hn (by omega)⟩ (fun k v hk hi => by
            obtain ⟨i1, i2, i3, i4⟩ := hi
            obtain ⟨v1, x1, x2, x3⟩ := m_ringrow i1.2.2.1 (nI q) (n := k) (by omega)
            obtain ⟨u, u1, u2, u3, u4⟩ := m_pass1 (i1.fr x3 (fun κ k q => by unfold P58; omega)) (i2.fr x3 (fun k => by unfold P58; omega) (by unfold P58; omega)) hD (hSok k) hTs
            refine ⟨u, ?_, ?_, u3, (i3.trans (x3.mono (fun κ i k q => by unfold P58 at q; unfold PQM; omega))).trans (u4.mono (fun κ i k q => by unfold PMn at q; unfold  PQM; omega)), fun n hn c hc => ?_⟩
            · ((try dsimp only); rw [e_X12_ring_25]; simp (disch := omega) only [x1, e_X12_ring_90, u1, true_and, and_true, false_and, and_false, beq_t, beq_f, eqN_t, eqN_f, eqL_t, eqL_f, nm1, nm2, nm1', nm2', m1z, m2z, zm1, zm2, m12, m21, lg_cmp_ge, lg_cmp_le, lg_cmp_gt, lg_cmp_lt, lg_cmp_eq, oob, oobL, neg0, negL0, natle_f, or_false, false_or, true_or, or_true, or_self, cl, clL, le_t, le_f, lt_t, lt_f, leL_t, leL_f, ltL_t, ltL_f, leM_t, leM_f, ltM_t, ltM_f, leO_t, leO_f, cond_true, cond_false, Option.bind_some, Option.bind_none, if_false, if_true, nI_1, aL1, aL2, mL1, mL2, nI_add, pk_mul, pk_m1, sL1, dL1, pk_sub, m1p1, gIs_eq, gIs_k, gIs_i, gIs_n, gIs_e, gIJ, gIR, gJI, gJR, gJs_eq, gJs_k, gJs_n, gJs_e, gRI, gRJ, gRs_eq, gRs_k, gRs_i, gRs_n, gZI, gZJ, gZR, pI_s, pJ_s, pV_s, pR_s, pR_n, oR_n, oR_s, decide_true, decide_false, not_true_eq_false, not_false_eq_true, decT, decF, Bool.true_eq_false, Bool.false_eq_true, z01, o01, z1f, z1f', zz, oo, b2i_0, b2i_n, b2i_t, b2i_f, Bool.not_true, Bool.not_false])
            · rw [hS' (k + 1), nights_succ, ← hS']
              exact u2
            · rw [(u4 58 0 _ (by unfold PMn; omega)).1]
              by_cases e : n = k
              · subst e
                exact x2 c hc
              · rw [(x3 58 0 _ (by unfold P58; omega)).1]
                exact i4 n (by omega) c hc) (fun v hi => by ((try dsimp only); rw [e_X12_ring_25]; simp (disch := omega) only [true_and, and_true, false_and, and_false, beq_t, beq_f, eqN_t, eqN_f, eqL_t, eqL_f, nm1, nm2, nm1', nm2', m1z, m2z, zm1, zm2, m12, m21, lg_cmp_ge, lg_cmp_le, lg_cmp_gt, lg_cmp_lt, lg_cmp_eq, oob, oobL, neg0, negL0, natle_f, or_false, false_or, true_or, or_true, or_self, cl, clL, le_t, le_f, lt_t, lt_f, leL_t, leL_f, ltL_t, ltL_f, leM_t, leM_f, ltM_t, ltM_f, leO_t, leO_f, cond_true, cond_false, Option.bind_some, Option.bind_none, if_false, if_true, nI_1, aL1, aL2, mL1, mL2, nI_add, pk_mul, pk_m1, sL1, dL1, pk_sub, m1p1, gIs_eq, gIs_k, gIs_i, gIs_n, gIs_e, gIJ, gIR, gJI, gJR, gJs_eq, gJs_k, gJs_n, gJs_e, gRI, gRJ, gRs_eq, gRs_k, gRs_i, gRs_n, gZI, gZJ, gZR, pI_s, pJ_s, pV_s, pR_s, pR_n, oR_n, oR_s, decide_true, decide_false, not_true_eq_false, not_false_eq_true, decT, decF, Bool.true_eq_false, Bool.false_eq_true, z01, o01, z1f, z1f', zz, oo, b2i_0, b2i_n, b2i_t, b2i_f, Bool.not_true, Bool.not_false]))
        obtain ⟨w3, c3, c4, c5, c6⟩ := m_laysBack b2 b3
        have hF := b4.trans (c6.mono (fun κ i k q => by unfold P50s at q; unfold  PQM; omega))
        have k1 := s2 w3 c4.2.2.1.1 (fun n hn c hc => by rw [(c6 58 0 _ (by unfold P50s; omega)).1]; exact b5 n (by omega) c hc)
        rw [nI_0] at b1
        refine ⟨w3, ?_, hM.of_runM hF c4 c5, hF⟩
        rw [f_X12_ring, e_X12_ring_0]
        simp (disch := omega) only [m_isDale hM.1, ht, e_X12_ring_7, p_in_0_1, c1, e_X12_ring_19, a1, b1, e_X12_ring_101, c3, k1, true_and, and_true, false_and, and_false, beq_t, beq_f, eqN_t, eqN_f, eqL_t, eqL_f, nm1, nm2, nm1', nm2', m1z, m2z, zm1, zm2, m12, m21, lg_cmp_ge, lg_cmp_le, lg_cmp_gt, lg_cmp_lt, lg_cmp_eq, oob, oobL, neg0, negL0, natle_f, or_false, false_or, true_or, or_true, or_self, cl, clL, le_t, le_f, lt_t, lt_f, leL_t, leL_f, ltL_t, ltL_f, leM_t, leM_f, ltM_t, ltM_f, leO_t, leO_f, cond_true, cond_false, Option.bind_some, Option.bind_none, if_false, if_true, nI_1, aL1, aL2, mL1, mL2, nI_add, pk_mul, pk_m1, sL1, dL1, pk_sub, m1p1, gIs_eq, gIs_k, gIs_i, gIs_n, gIs_e, gIJ, gIR, gJI, gJR, gJs_eq, gJs_k, gJs_n, gJs_e, gRI, gRJ, gRs_eq, gRs_k, gRs_i, gRs_n, gZI, gZJ, gZR, pI_s, pJ_s, pV_s, pR_s, pR_n, oR_n, oR_s, decide_true, decide_false, not_true_eq_false, not_false_eq_true, decT, decF, Bool.true_eq_false, Bool.false_eq_true, z01, o01, z1f, z1f', zz, oo, b2i_0, b2i_n, b2i_t, b2i_f, Bool.not_true, Bool.not_false]
    · refine ⟨-1, fun w hC => ⟨w, ?_, Fr.refl _ _⟩, fun w hM => ⟨w, ?_, hM, Fr.refl _ _⟩⟩
      · obtain ⟨⟨jd, x1, x2⟩, _⟩ := hC
        have t0 := x2.1 0 (by omega)
        rw [f_X11_ring, e_X11_ring_0]
        simp (disch := omega) only [x1, t0, ht, e_X11_ring_10, p_within, c1, e_X11_ring_19, true_and, and_true, false_and, and_false, beq_t, beq_f, eqN_t, eqN_f, eqL_t, eqL_f, nm1, nm2, nm1', nm2', m1z, m2z, zm1, zm2, m12, m21, lg_cmp_ge, lg_cmp_le, lg_cmp_gt, lg_cmp_lt, lg_cmp_eq, oob, oobL, neg0, negL0, natle_f, or_false, false_or, true_or, or_true, or_self, cl, clL, le_t, le_f, lt_t, lt_f, leL_t, leL_f, ltL_t, ltL_f, leM_t, leM_f, ltM_t, ltM_f, leO_t, leO_f, cond_true, cond_false, Option.bind_some, Option.bind_none, if_false, if_true, nI_1, aL1, aL2, mL1, mL2, nI_add, pk_mul, pk_m1, sL1, dL1, pk_sub, m1p1, gIs_eq, gIs_k, gIs_i, gIs_n, gIs_e, gIJ, gIR, gJI, gJR, gJs_eq, gJs_k, gJs_n, gJs_e, gRI, gRJ, gRs_eq, gRs_k, gRs_i, gRs_n, gZI, gZJ, gZR, pI_s, pJ_s, pV_s, pR_s, pR_n, oR_n, oR_s, decide_true, decide_false, not_true_eq_false, not_false_eq_true, decT, decF, Bool.true_eq_false, Bool.false_eq_true, z01, o01, z1f, z1f', zz, oo, b2i_0, b2i_n, b2i_t, b2i_f, Bool.not_true, Bool.not_false]
      · rw [f_X12_ring, e_X12_ring_0]
        simp (disch := omega) only [m_isDale hM.1, ht, e_X12_ring_7, p_in_0_1, c1, e_X12_ring_17, true_and, and_true, false_and, and_false, beq_t, beq_f, eqN_t, eqN_f, eqL_t, eqL_f, nm1, nm2, nm1', nm2', m1z, m2z, zm1, zm2, m12, m21, lg_cmp_ge, lg_cmp_le, lg_cmp_gt, lg_cmp_lt, lg_cmp_eq, oob, oobL, neg0, negL0, natle_f, or_false, false_or, true_or, or_true, or_self, cl, clL, le_t, le_f, lt_t, lt_f, leL_t, leL_f, ltL_t, ltL_f, leM_t, leM_f, ltM_t, ltM_f, leO_t, leO_f, cond_true, cond_false, Option.bind_some, Option.bind_none, if_false, if_true, nI_1, aL1, aL2, mL1, mL2, nI_add, pk_mul, pk_m1, sL1, dL1, pk_sub, m1p1, gIs_eq, gIs_k, gIs_i, gIs_n, gIs_e, gIJ, gIR, gJI, gJR, gJs_eq, gJs_k, gJs_n, gJs_e, gRI, gRJ, gRs_eq, gRs_k, gRs_i, gRs_n, gZI, gZJ, gZR, pI_s, pJ_s, pV_s, pR_s, pR_n, oR_n, oR_s, decide_true, decide_false, not_true_eq_false, not_false_eq_true, decT, decF, Bool.true_eq_false, Bool.false_eq_true, z01, o01, z1f, z1f', zz, oo, b2i_0, b2i_n, b2i_t, b2i_f, Bool.not_true, Bool.not_false]
  · refine ⟨-1, fun w hC => ⟨w, ?_, Fr.refl _ _⟩, fun w hM => ⟨w, ?_, hM, Fr.refl _ _⟩⟩
    · obtain ⟨⟨jd, x1, x2⟩, _⟩ := hC
      have t0 := x2.1 0 (by omega)
      rw [f_X11_ring, e_X11_ring_0]
      simp (disch := omega) only [x1, t0, ht, e_X11_ring_19, true_and, and_true, false_and, and_false, beq_t, beq_f, eqN_t, eqN_f, eqL_t, eqL_f, nm1, nm2, nm1', nm2', m1z, m2z, zm1, zm2, m12, m21, lg_cmp_ge, lg_cmp_le, lg_cmp_gt, lg_cmp_lt, lg_cmp_eq, oob, oobL, neg0, negL0, natle_f, or_false, false_or, true_or, or_true, or_self, cl, clL, le_t, le_f, lt_t, lt_f, leL_t, leL_f, ltL_t, ltL_f, leM_t, leM_f, ltM_t, ltM_f, leO_t, leO_f, cond_true, cond_false, Option.bind_some, Option.bind_none, if_false, if_true, nI_1, aL1, aL2, mL1, mL2, nI_add, pk_mul, pk_m1, sL1, dL1, pk_sub, m1p1, gIs_eq, gIs_k, gIs_i, gIs_n, gIs_e, gIJ, gIR, gJI, gJR, gJs_eq, gJs_k, gJs_n, gJs_e, gRI, gRJ, gRs_eq, gRs_k, gRs_i, gRs_n, gZI, gZJ, gZR, pI_s, pJ_s, pV_s, pR_s, pR_n, oR_n, oR_s, decide_true, decide_false, not_true_eq_false, not_false_eq_true, decT, decF, Bool.true_eq_false, Bool.false_eq_true, z01, o01, z1f, z1f', zz, oo, b2i_0, b2i_n, b2i_t, b2i_f, Bool.not_true, Bool.not_false]
    · rw [f_X12_ring, e_X12_ring_0]
      simp (disch := omega) only [m_isDale hM.1, ht, e_X12_ring_17, true_and, and_true, false_and, and_false, beq_t, beq_f, eqN_t, eqN_f, eqL_t, eqL_f, nm1, nm2, nm1', nm2', m1z, m2z, zm1, zm2, m12, m21, lg_cmp_ge, lg_cmp_le, lg_cmp_gt, lg_cmp_lt, lg_cmp_eq, oob, oobL, neg0, negL0, natle_f, or_false, false_or, true_or, or_true, or_self, cl, clL, le_t, le_f, lt_t, lt_f, leL_t, leL_f, ltL_t, ltL_f, leM_t, leM_f, ltM_t, ltM_f, leO_t, leO_f, cond_true, cond_false, Option.bind_some, Option.bind_none, if_false, if_true, nI_1, aL1, aL2, mL1, mL2, nI_add, pk_mul, pk_m1, sL1, dL1, pk_sub, m1p1, gIs_eq, gIs_k, gIs_i, gIs_n, gIs_e, gIJ, gIR, gJI, gJR, gJs_eq, gJs_k, gJs_n, gJs_e, gRI, gRJ, gRs_eq, gRs_k, gRs_i, gRs_n, gZI, gZJ, gZR, pI_s, pJ_s, pV_s, pR_s, pR_n, oR_n, oR_s, decide_true, decide_false, not_true_eq_false, not_false_eq_true, decT, decF, Bool.true_eq_false, Bool.false_eq_true, z01, o01, z1f, z1f', zz, oo, b2i_0, b2i_n, b2i_t, b2i_f, Bool.not_true, Bool.not_false]
