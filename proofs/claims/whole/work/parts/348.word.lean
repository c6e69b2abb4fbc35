/-! ===== the class: words ===== -/
def bys (tb : Nat → Nat) (s : Nat) : Nat → List Nat
  | 0 => []
  | n + 1 => tb s :: bys tb (s + 1) n
theorem bys_len {tb : Nat → Nat} : ∀ n s, (bys tb s n).length = n := by
  intro n
  induction n with
  | zero => intro s; rfl
  | succ n ih => intro s; show (bys tb (s + 1) n).length + 1 = n + 1; rw [ih]
/-- the word that stands at p (blanks are behind) -/
def wrd (t : Tp) (p : Nat) : List Nat := bys t.2 p (le t p - p)
def strW (ws : List (List Nat)) : List Nat := ws.flatMap (fun x => x ++ [32])
def fdW : List (List Nat) → List Nat → Option Nat
  | [], _ => none
  | a :: r, x => if x = a then some 0 else (fdW r x).map (· + 1)
def lW (i : Nat) : List (List Nat) := match i with
  | 0 => [[100, 97, 108, 101], [107, 101, 101, 112], [112, 101, 114, 115, 111, 110], [102, 105, 101, 108, 100], [98, 101, 115, 105, 100, 101]]
  | 1 => [[112, 101, 114, 115, 111, 110], [107, 101, 101, 112], [116, 101, 108, 108, 115], [102, 117, 108, 108], [114, 111, 111, 109], [104, 101, 97, 116], [99, 111, 111, 108, 115], [98, 101, 115, 105, 100, 101], [111, 116, 104, 101, 114, 115], [98, 117, 114, 110, 116], [110, 105, 103, 104, 116]]
  | 2 => [[116, 101, 108, 108]]
  | 3 => [[105, 102]]
  | 4 => [[111, 114], [97, 110, 100]]
  | _ => [[110, 111, 116]]
theorem lW_ok : ∀ i : Fin 6, xsby.getD i.val [] = (strW (lW i.val)).map nI ∧ xsln.getD i.val 0 = (strW (lW i.val)).length ∧ ∀ x ∈ lW i.val, ∀ b ∈ x, 97 ≤ b ∧ b ≤ 122 := by decide +kernel
theorem c_strlen {i : Nat} (hi : i < 6) (w : XW) : F_J0_length_8abf5 [.inr (65, i)] w = some (nI (strW (lW i)).length, w) := by
  have h := (lW_ok ⟨i, hi⟩).2.1
  rw [f_J0_length_8abf5, e_J0_length_8abf5_0]
  have hc : F_J0_coder_7d493 [.inr (65, i)] w = some (0, w) := by
    rw [f_J0_coder_7d493, e_J0_coder_7d493_0]
    simp (disch := omega) only [e_J0_coder_7d493_6, e_J0_coder_7d493_14, true_and, and_true, false_and, and_false, beq_t, beq_f, eqN_t, eqN_f, eqL_t, eqL_f, nm1, nm2, nm1', nm2', m1z, m2z, zm1, zm2, m12, m21, lg_cmp_ge, lg_cmp_le, lg_cmp_gt, lg_cmp_lt, lg_cmp_eq, oob, oobL, neg0, negL0, natle_f, or_false, false_or, true_or, or_true, or_self, cl, clL, le_t, le_f, lt_t, lt_f, leL_t, leL_f, ltL_t, ltL_f, leM_t, leM_f, ltM_t, ltM_f, leO_t, leO_f, cond_true, cond_false, Option.bind_some, Option.bind_none, if_false, if_true, nI_1, aL1, aL2, mL1, mL2, nI_add, pk_mul, pk_m1, sL1, dL1, pk_sub, m1p1, gIs_eq, gIs_k, gIs_i, gIs_n, gIs_e, gIJ, gIR, gJI, gJR, gJs_eq, gJs_k, gJs_n, gJs_e, gRI, gRJ, gRs_eq, gRs_k, gRs_i, gRs_n, gZI, gZJ, gZR, pI_s, pJ_s, pV_s, pR_s, pR_n, oR_n, oR_s, decide_true, decide_false, not_true_eq_false, not_false_eq_true, decT, decF, Bool.true_eq_false, Bool.false_eq_true, z01, o01, z1f, z1f', zz, oo, b2i_0, b2i_n, b2i_t, b2i_f, Bool.not_true, Bool.not_false]
    rw [if_pos (by rfl)]
    rfl
  rw [hc, Option.bind_some]
  dsimp only
  rw [h]
  have : ∀ x : Int32, x >>> ((0 : Int32) &&& 31) = x := by
    intro x
    rw [show ((0 : Int32) &&& 31) = 0 by decide]
    apply Int32.toBitVec_inj.mp
    simp
  rw [this]
  rfl
theorem c_chk {i : Nat} (x : Nat) (n : Nat) (h : x < n) (hn : n < 60000) (w : XW) : F_J0_checkIndex_df160 [.inl (.int (nI x)), .inl (.int (nI n))] w = some w := by
  rw [f_J0_checkIndex_df160, e_J0_checkIndex_df160_0, f_J3_checkIndex_8e157a, e_J3_checkIndex_8e157_0a]
  have e0 : decide (nI x < 0) = false := decF (nI_pos (by omega))
  rw [e0, cond_false, e_J3_checkIndex_8e157_4, lt_t h (by omega), cond_true, e_J3_checkIndex_8e157_16]
  rfl
theorem nar_c : ∀ b : Fin 256, narrow .char (.int (((nI b.val &&& 255).toUInt32 % 65536).toInt32)) = .int (((nI b.val &&& 255).toUInt32 % 65536).toInt32) ∧ ((nI b.val &&& 255).toUInt32 % 65536).toInt32 = nI b.val := by
  intro b
  have h : ((nI b.val &&& 255).toUInt32 % 65536).toInt32 = nI b.val := by
    revert b
    decide +kernel
  rw [h]
  refine ⟨?_, rfl⟩
  have : ∀ b : Fin 256, ((nI b.val).toUInt32 % 65536).toInt32 = nI b.val := by decide +kernel
  exact congrArg Value.int (this b)
theorem c_charAt {i : Nat} (hi : i < 6) {k : Nat} {b : Nat} (hb : (strW (lW i))[k]? = some b) (h256 : b < 256) (w : XW) : F_J0_charAt_5068e [.inr (65, i), .inl (.int (nI k))] w = some (nI b, w) := by
  obtain ⟨h1, h2, h3⟩ := lW_ok ⟨i, hi⟩
  have hk : k < (strW (lW i)).length := by
    rcases Nat.lt_or_ge k (strW (lW i)).length with q | q
    · exact q
    · rw [List.getElem?_eq_none q] at hb; cases hb
  have hl : ∀ i : Fin 6, (strW (lW i.val)).length ≤ 65 := by decide +kernel
  have hl := hl ⟨i, hi⟩
  dsimp only at h1 h2 hl
  have hg : (xsby.getD i []).getD k 0 = nI b := by
    rw [h1, List.getD_eq_getElem?_getD, List.getElem?_map, hb]
    rfl
  have hlat : F_J0_isLatin1_aae02 [.inr (65, i)] w = some (1, w) := by
    rw [f_J0_isLatin1_aae02, e_J0_isLatin1_aae02_0]
    simp (disch := omega) only [e_J0_isLatin1_aae02_6, e_J0_isLatin1_aae02_13, e_J0_isLatin1_aae02_18, true_and, and_true, false_and, and_false, beq_t, beq_f, eqN_t, eqN_f, eqL_t, eqL_f, nm1, nm2, nm1', nm2', m1z, m2z, zm1, zm2, m12, m21, lg_cmp_ge, lg_cmp_le, lg_cmp_gt, lg_cmp_lt, lg_cmp_eq, oob, oobL, neg0, negL0, natle_f, or_false, false_or, true_or, or_true, or_self, cl, clL, le_t, le_f, lt_t, lt_f, leL_t, leL_f, ltL_t, ltL_f, leM_t, leM_f, ltM_t, ltM_f, leO_t, leO_f, cond_true, cond_false, Option.bind_some, Option.bind_none, if_false, if_true, nI_1, aL1, aL2, mL1, mL2, nI_add, pk_mul, pk_m1, sL1, dL1, pk_sub, m1p1, gIs_eq, gIs_k, gIs_i, gIs_n, gIs_e, gIJ, gIR, gJI, gJR, gJs_eq, gJs_k, gJs_n, gJs_e, gRI, gRJ, gRs_eq, gRs_k, gRs_i, gRs_n, gZI, gZJ, gZR, pI_s, pJ_s, pV_s, pR_s, pR_n, oR_n, oR_s, decide_true, decide_false, not_true_eq_false, not_false_eq_true, decT, decF, Bool.true_eq_false, Bool.false_eq_true, z01, o01, z1f, z1f', zz, oo, b2i_0, b2i_n, b2i_t, b2i_f, Bool.not_true, Bool.not_false]
  have hchk := c_chk (i := 0) k (strW (lW i)).length hk (by omega) w
  have n1 := nar_c ⟨b, h256⟩
  dsimp only at n1
  have n2 := n1.1
  rw [n1.2] at n2
  have hch : F_J1_charAt_3b067 [.inr (66, i), .inl (.int (nI k))] w = some (nI b, w) := by
    rw [f_J1_charAt_3b067, e_J1_charAt_3b067_0, h2]
    have e : Int32.ofNat (strW (lW i)).length = nI (strW (lW i)).length := rfl
    rw [e, hchk, Option.bind_some]
    rw [if_neg (by rw [oob hk (by omega)]; exact id), cl (by omega), hg, n1.2, if_pos n2]
    rfl
  rw [f_J0_charAt_5068e, e_J0_charAt_5068e_0, hlat, Option.bind_some]
  dsimp only
  simp (disch := omega) only [e_J0_charAt_5068e_7, hch, true_and, and_true, false_and, and_false, beq_t, beq_f, eqN_t, eqN_f, eqL_t, eqL_f, nm1, nm2, nm1', nm2', m1z, m2z, zm1, zm2, m12, m21, lg_cmp_ge, lg_cmp_le, lg_cmp_gt, lg_cmp_lt, lg_cmp_eq, oob, oobL, neg0, negL0, natle_f, or_false, false_or, true_or, or_true, or_self, cl, clL, le_t, le_f, lt_t, lt_f, leL_t, leL_f, ltL_t, ltL_f, leM_t, leM_f, ltM_t, ltM_f, leO_t, leO_f, cond_true, cond_false, Option.bind_some, Option.bind_none, if_false, if_true, nI_1, aL1, aL2, mL1, mL2, nI_add, pk_mul, pk_m1, sL1, dL1, pk_sub, m1p1, gIs_eq, gIs_k, gIs_i, gIs_n, gIs_e, gIJ, gIR, gJI, gJR, gJs_eq, gJs_k, gJs_n, gJs_e, gRI, gRJ, gRs_eq, gRs_k, gRs_i, gRs_n, gZI, gZJ, gZR, pI_s, pJ_s, pV_s, pR_s, pR_n, oR_n, oR_s, decide_true, decide_false, not_true_eq_false, not_false_eq_true, decT, decF, Bool.true_eq_false, Bool.false_eq_true, z01, o01, z1f, z1f', zz, oo, b2i_0, b2i_n, b2i_t, b2i_f, Bool.not_true, Bool.not_false]
  rw [if_pos n2]
  rfl
theorem bys_get {tb : Nat → Nat} : ∀ n s i, i < n → (bys tb s n)[i]? = some (tb (s + i)) := by
  intro n
  induction n with
  | zero => intro s i h; omega
  | succ n ih =>
    intro s i h
    cases i with
    | zero => rfl
    | succ i =>
      show (bys tb (s + 1) n)[i]? = _
      rw [ih (s + 1) i (by omega), show s + 1 + i = s + (i + 1) by omega]
/-- the word of the tape from s to e, held against word x of a list, from a on -/
theorem c_isWord {w : XW} {t : Tp} (hT : TOk2 t) {i : Nat} (hi : i < 6) {s e a : Nat} (hct : CT w t.1 t.2) (hs : gI w 9 0 3 = nI s) (hse : s ≤ e) (he : e ≤ t.1) {x : List Nat} (ha : a + x.length < 65) (hx : ∀ j b, x[j]? = some b → (strW (lW i))[a + j]? = some b ∧ b < 256) :
    F_X10_isWord [.inr (9, 0), .inr (65, i), .inl (.int (nI a)), .inl (.int (nI (a + x.length))), .inl (.int (nI e))] w = some (b2i (decide (bys t.2 s (e - s) = x)), w) := by
  have h4 := hT.1
  have e1 : nI e - nI s = nI (e - s) := pk_sub hse
  have e2 : nI (a + x.length) - nI a = nI x.length := by rw [pk_sub (by omega)]; congr 1; omega
  rw [f_X10_isWord, e_X10_isWord_0]
  by_cases hl : e - s = x.length
  · have key : ∀ m j, j + m = x.length → (∀ q, q < j → x[q]? = some (t.2 (s + q))) → q_X10_isWord_18 i (nI a) (nI (a + x.length)) (nI (a + j)) w = some (some (.inl (.int (b2i (decide (bys t.2 s (e - s) = x))))), w) := by
      intro m
      induction m with
      | zero =>
        intro j hj hq
        have : bys t.2 s (e - s) = x := by
          apply List.ext_getElem?
          intro q
          by_cases c : q < x.length
          · rw [hq q (by omega), bys_get _ _ _ (by omega)]
          · rw [List.getElem?_eq_none (by rw [bys_len]; omega), List.getElem?_eq_none (by omega)]
        rw [decT this]
        ((try dsimp only); rw [e_X10_isWord_18]; simp (disch := omega) only [e_X10_isWord_54, true_and, and_true, false_and, and_false, beq_t, beq_f, eqN_t, eqN_f, eqL_t, eqL_f, nm1, nm2, nm1', nm2', m1z, m2z, zm1, zm2, m12, m21, lg_cmp_ge, lg_cmp_le, lg_cmp_gt, lg_cmp_lt, lg_cmp_eq, oob, oobL, neg0, negL0, natle_f, or_false, false_or, true_or, or_true, or_self, cl, clL, le_t, le_f, lt_t, lt_f, leL_t, leL_f, ltL_t, ltL_f, leM_t, leM_f, ltM_t, ltM_f, leO_t, leO_f, cond_true, cond_false, Option.bind_some, Option.bind_none, if_false, if_true, nI_1, aL1, aL2, mL1, mL2, nI_add, pk_mul, pk_m1, sL1, dL1, pk_sub, m1p1, gIs_eq, gIs_k, gIs_i, gIs_n, gIs_e, gIJ, gIR, gJI, gJR, gJs_eq, gJs_k, gJs_n, gJs_e, gRI, gRJ, gRs_eq, gRs_k, gRs_i, gRs_n, gZI, gZJ, gZR, pI_s, pJ_s, pV_s, pR_s, pR_n, oR_n, oR_s, decide_true, decide_false, not_true_eq_false, not_false_eq_true, decT, decF, Bool.true_eq_false, Bool.false_eq_true, z01, o01, z1f, z1f', zz, oo, b2i_0, b2i_n, b2i_t, b2i_f, Bool.not_true, Bool.not_false])
      | succ m ih =>
        intro j hj hq
        have hxj : x[j]? = some x[j] := List.getElem?_eq_getElem (by omega)
        obtain ⟨y1, y2⟩ := hx j _ hxj
        have k1 := c_charAt hi y1 y2 w
        have k2 := c_byteAt hct hT (p := s + j) (by omega)
        have hb : chS t (s + j) = nI (t.2 (s + j)) := if_pos (by omega)
        have h256 := hT.2 (s + j) (by omega)
        rw [hb] at k2
        have e3 : nI s + nI (a + j) - nI a = nI (s + j) := by rw [nI_add, pk_sub (by omega)]; congr 1; omega
        rw [e_X10_isWord_18, le_f (by omega) (by omega), cond_false, e_X10_isWord_24, k1, Option.bind_some]
        dsimp only
        rw [hs, e3, k2, Option.bind_some]
        dsimp only
        by_cases c : x[j] = t.2 (s + j)
        · have ih := ih (j + 1) (by omega) (fun q hq2 => by
            by_cases z : q = j
            · rw [z, hxj, c]
            · exact hq q (by omega))
          rw [c]
          simp (disch := omega) only [e_X10_isWord_48, true_and, and_true, false_and, and_false, beq_t, beq_f, eqN_t, eqN_f, eqL_t, eqL_f, nm1, nm2, nm1', nm2', m1z, m2z, zm1, zm2, m12, m21, lg_cmp_ge, lg_cmp_le, lg_cmp_gt, lg_cmp_lt, lg_cmp_eq, oob, oobL, neg0, negL0, natle_f, or_false, false_or, true_or, or_true, or_self, cl, clL, le_t, le_f, lt_t, lt_f, leL_t, leL_f, ltL_t, ltL_f, leM_t, leM_f, ltM_t, ltM_f, leO_t, leO_f, cond_true, cond_false, Option.bind_some, Option.bind_none, if_false, if_true, nI_1, aL1, aL2, mL1, mL2, nI_add, pk_mul, pk_m1, sL1, dL1, pk_sub, m1p1, gIs_eq, gIs_k, gIs_i, gIs_n, gIs_e, gIJ, gIR, gJI, gJR, gJs_eq, gJs_k, gJs_n, gJs_e, gRI, gRJ, gRs_eq, gRs_k, gRs_i, gRs_n, gZI, gZJ, gZR, pI_s, pJ_s, pV_s, pR_s, pR_n, oR_n, oR_s, decide_true, decide_false, not_true_eq_false, not_false_eq_true, decT, decF, Bool.true_eq_false, Bool.false_eq_true, z01, o01, z1f, z1f', zz, oo, b2i_0, b2i_n, b2i_t, b2i_f, Bool.not_true, Bool.not_false]
          rw [← Nat.add_assoc] at ih
          exact ih
        · have : ¬ bys t.2 s (e - s) = x := fun z => by
            have q1 := bys_get (tb := t.2) (e - s) s j (by omega)
            rw [z, hxj] at q1
            injection q1 with q
            exact c q
          rw [decF this]
          simp (disch := omega) only [c, e_X10_isWord_46, true_and, and_true, false_and, and_false, beq_t, beq_f, eqN_t, eqN_f, eqL_t, eqL_f, nm1, nm2, nm1', nm2', m1z, m2z, zm1, zm2, m12, m21, lg_cmp_ge, lg_cmp_le, lg_cmp_gt, lg_cmp_lt, lg_cmp_eq, oob, oobL, neg0, negL0, natle_f, or_false, false_or, true_or, or_true, or_self, cl, clL, le_t, le_f, lt_t, lt_f, leL_t, leL_f, ltL_t, ltL_f, leM_t, leM_f, ltM_t, ltM_f, leO_t, leO_f, cond_true, cond_false, Option.bind_some, Option.bind_none, if_false, if_true, nI_1, aL1, aL2, mL1, mL2, nI_add, pk_mul, pk_m1, sL1, dL1, pk_sub, m1p1, gIs_eq, gIs_k, gIs_i, gIs_n, gIs_e, gIJ, gIR, gJI, gJR, gJs_eq, gJs_k, gJs_n, gJs_e, gRI, gRJ, gRs_eq, gRs_k, gRs_i, gRs_n, gZI, gZJ, gZR, pI_s, pJ_s, pV_s, pR_s, pR_n, oR_n, oR_s, decide_true, decide_false, not_true_eq_false, not_false_eq_true, decT, decF, Bool.true_eq_false, Bool.false_eq_true, z01, o01, z1f, z1f', zz, oo, b2i_0, b2i_n, b2i_t, b2i_f, Bool.not_true, Bool.not_false]
    have := key x.length 0 (by omega) (fun q hq => absurd hq (by omega))
    rw [Nat.add_zero] at this
    simp (disch := omega) only [hs, e1, e2, hl, e_X10_isWord_15, true_and, and_true, false_and, and_false, beq_t, beq_f, eqN_t, eqN_f, eqL_t, eqL_f, nm1, nm2, nm1', nm2', m1z, m2z, zm1, zm2, m12, m21, lg_cmp_ge, lg_cmp_le, lg_cmp_gt, lg_cmp_lt, lg_cmp_eq, oob, oobL, neg0, negL0, natle_f, or_false, false_or, true_or, or_true, or_self, cl, clL, le_t, le_f, lt_t, lt_f, leL_t, leL_f, ltL_t, ltL_f, leM_t, leM_f, ltM_t, ltM_f, leO_t, leO_f, cond_true, cond_false, Option.bind_some, Option.bind_none, if_false, if_true, nI_1, aL1, aL2, mL1, mL2, nI_add, pk_mul, pk_m1, sL1, dL1, pk_sub, m1p1, gIs_eq, gIs_k, gIs_i, gIs_n, gIs_e, gIJ, gIR, gJI, gJR, gJs_eq, gJs_k, gJs_n, gJs_e, gRI, gRJ, gRs_eq, gRs_k, gRs_i, gRs_n, gZI, gZJ, gZR, pI_s, pJ_s, pV_s, pR_s, pR_n, oR_n, oR_s, decide_true, decide_false, not_true_eq_false, not_false_eq_true, decT, decF, Bool.true_eq_false, Bool.false_eq_true, z01, o01, z1f, z1f', zz, oo, b2i_0, b2i_n, b2i_t, b2i_f, Bool.not_true, Bool.not_false]
    rw [hl] at this
    rw [this]
    rfl
  · have : ¬ bys t.2 s (e - s) = x := fun z => hl (by rw [← z, bys_len])
    have e3 : decide (nI (e - s) = nI x.length) = false := decF (fun z => hl ((nI_eq (by omega) (by omega)).mp z))
    rw [decF this, hs, e1, e2, e3, cond_false, e_X10_isWord_13]
    rfl
