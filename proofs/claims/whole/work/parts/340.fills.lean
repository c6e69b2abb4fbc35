/-! ===== the model fills its fits ===== -/
def PFf (κ _j k : Nat) : Prop := κ = 48 ∨ κ = 49 ∨ κ = 51 ∨ κ = 53 ∨ κ = 59 ∨ κ = 60 ∨ (κ = 11 ∧ (k = 18 ∨ k = 21)) ∨ (κ = 50 ∧ 10 ≤ k ∧ k < 35)
theorem alB_up {P : Nat → Bool} {m : Nat} : alB P 0 (m + 1) = (alB P 0 m && P m) := by
  rw [Bool.eq_iff_iff, Bool.and_eq_true, alB_all, alB_all]
  constructor
  · intro h
    exact ⟨fun j h1 h2 => h j h1 (by omega), h m (by omega) (by omega)⟩
  · intro ⟨a, b⟩ j h1 h2
    by_cases e : j = m
    · rw [e]; exact b
    · exact a j h1 (by omega)
theorem fo_of {w : XW} {rs : List Rl} {f : Int32} (h4 : MR w rs) (hR : ∀ rl ∈ rs, ROk rl) (h6 : rs.length ≤ 6) (hf : fOk rs f) (h5 : gI w 11 0 21 = f) : FoAt w (curR rs f) := by
  rcases hf with rfl | ⟨t, ht, rfl⟩
  · exact h5
  · unfold curR
    rw [decF (nI_pos (by omega)), cl (by omega)]
    show FoAt w rs[t]?
    rw [List.getElem?_eq_getElem ht]
    exact ⟨t, h5, h4.2 t _ (List.getElem?_eq_getElem ht), hR _ (List.getElem_mem ht)⟩
theorem dn_ok {rs : List Rl} {t : Nat} (h : t ≤ rs.length) : fOk rs (dn t) := by
  cases t with
  | zero => exact Or.inl rfl
  | succ t => exact Or.inr ⟨t, by omega, rfl⟩
theorem nar_b (b : Bool) : vp_nar .boolean (b2i b) = b2i b := by cases b <;> decide
/-- one row of what was full then -/
theorem row_loop {w : XW} {d : Dl} {s : Sc} (hD : DOk d) (hd : MdAt w d) (hs : MsAt w s) (x2 x4 : Int32) {L t : Nat} (ht : t ≤ 6) (hL : L ≤ 60) : ∃ w', q_X12_fillsFits_67 (nI L) x2 (nI t) x4 (nI L) 0 w = q_X12_fillsFits_108 (nI L) x2 (nI t) x4 (nI L) w' ∧ (∀ j, j < kn d → gI w' 60 0 (6 * t + j) = s.2.1 j) ∧ Fr (fun κ _ k => κ = 60 ∧ 6 * t ≤ k ∧ k < 6 * t + 6) w w' := by
  have h6 := hD.1.2
  obtain ⟨w', h1, h2, h3⟩ := loop0 (kn d) (fun k v => q_X12_fillsFits_67 (nI L) x2 (nI t) x4 (nI L) (nI k) v) (fun v => q_X12_fillsFits_108 (nI L) x2 (nI t) x4 (nI L) v) (fun k v => Fr (fun κ _ k => κ = 60 ∧ 6 * t ≤ k ∧ k < 6 * t + 6) w v ∧ ∀ j, j < k → gI v 60 0 (6 * t + j) = s.2.1 j) (s := w) ⟨Fr.refl _ _, fun j hj => absurd hj (by omega)⟩ (fun k v hk hi => by
      obtain ⟨b1, b2⟩ := hi
      have hdv := hd.fr b1 (fun k q => by omega)
      have g3 : gI v 50 0 3 = nI (kn d) := by rw [hdv.1 3 (by omega)]; exact hD.1.1
      have g := m_fullOf (hs.fr b1 (fun k q => by omega)) (k := k) (by omega)
      ((try dsimp only); rw [e_X12_fillsFits_67]; simp (disch := omega) only [g3, e_X12_fillsFits_78, e_X12_fillsFits_84, g, true_and, and_true, false_and, and_false, beq_t, beq_f, eqN_t, eqN_f, eqL_t, eqL_f, nm1, nm2, nm1', nm2', m1z, m2z, zm1, zm2, m12, m21, lg_cmp_ge, lg_cmp_le, lg_cmp_gt, lg_cmp_lt, lg_cmp_eq, oob, oobL, neg0, negL0, natle_f, or_false, false_or, true_or, or_true, or_self, cl, clL, le_t, le_f, lt_t, lt_f, leL_t, leL_f, ltL_t, ltL_f, leM_t, leM_f, ltM_t, ltM_f, leO_t, leO_f, cond_true, cond_false, Option.bind_some, Option.bind_none, if_false, if_true, nI_1, aL1, aL2, mL1, mL2, nI_add, pk_mul, pk_m1, sL1, dL1, pk_sub, m1p1, gIs_eq, gIs_k, gIs_i, gIs_n, gIs_e, gIJ, gIR, gJI, gJR, gJs_eq, gJs_k, gJs_n, gJs_e, gRI, gRJ, gRs_eq, gRs_k, gRs_i, gRs_n, gZI, gZJ, gZR, pI_s, pJ_s, pV_s, pR_s, pR_n, oR_n, oR_s, decide_true, decide_false, not_true_eq_false, not_false_eq_true, decT, decF, Bool.true_eq_false, Bool.false_eq_true, z01, o01, z1f, z1f', zz, oo, b2i_0, b2i_n, b2i_t, b2i_f, Bool.not_true, Bool.not_false])
      refine ⟨_, rfl, b1.sI (by omega), fun j hj => ?_⟩
      by_cases e : j = k
      · subst e; exact gIs_eq
      · rw [gIs_k (by omega)]
        exact b2 j (by omega)) (fun v hi => by
      have hdv := hd.fr hi.1 (fun k q => by omega)
      have g3 : gI v 50 0 3 = nI (kn d) := by rw [hdv.1 3 (by omega)]; exact hD.1.1
      ((try dsimp only); rw [e_X12_fillsFits_67]; simp (disch := omega) only [g3, true_and, and_true, false_and, and_false, beq_t, beq_f, eqN_t, eqN_f, eqL_t, eqL_f, nm1, nm2, nm1', nm2', m1z, m2z, zm1, zm2, m12, m21, lg_cmp_ge, lg_cmp_le, lg_cmp_gt, lg_cmp_lt, lg_cmp_eq, oob, oobL, neg0, negL0, natle_f, or_false, false_or, true_or, or_true, or_self, cl, clL, le_t, le_f, lt_t, lt_f, leL_t, leL_f, ltL_t, ltL_f, leM_t, leM_f, ltM_t, ltM_f, leO_t, leO_f, cond_true, cond_false, Option.bind_some, Option.bind_none, if_false, if_true, nI_1, aL1, aL2, mL1, mL2, nI_add, pk_mul, pk_m1, sL1, dL1, pk_sub, m1p1, gIs_eq, gIs_k, gIs_i, gIs_n, gIs_e, gIJ, gIR, gJI, gJR, gJs_eq, gJs_k, gJs_n, gJs_e, gRI, gRJ, gRs_eq, gRs_k, gRs_i, gRs_n, gZI, gZJ, gZR, pI_s, pJ_s, pV_s, pR_s, pR_n, oR_n, oR_s, decide_true, decide_false, not_true_eq_false, not_false_eq_true, decT, decF, Bool.true_eq_false, Bool.false_eq_true, z01, o01, z1f, z1f', zz, oo, b2i_0, b2i_n, b2i_t, b2i_f, Bool.not_true, Bool.not_false]))
  rw [nI_0] at h1
  exact ⟨w', h1, h3, h2⟩
theorem row_skip {w : XW} {d : Dl} (hD : DOk d) (hd : MdAt w d) (x2 x4 : Int32) {L k t : Nat} (hL : L ≤ 60) (hk : k ≤ 60) (hne : k ≠ L) : q_X12_fillsFits_67 (nI L) x2 (nI t) x4 (nI k) 0 w = q_X12_fillsFits_108 (nI L) x2 (nI t) x4 (nI k) w := by
  have h6 := hD.1.2
  have g3 : gI w 50 0 3 = nI (kn d) := by rw [hd.1 3 (by omega)]; exact hD.1.1
  by_cases h0 : kn d = 0
  · rw [h0] at g3
    ((try dsimp only); rw [e_X12_fillsFits_67]; simp (disch := omega) only [g3, true_and, and_true, false_and, and_false, beq_t, beq_f, eqN_t, eqN_f, eqL_t, eqL_f, nm1, nm2, nm1', nm2', m1z, m2z, zm1, zm2, m12, m21, lg_cmp_ge, lg_cmp_le, lg_cmp_gt, lg_cmp_lt, lg_cmp_eq, oob, oobL, neg0, negL0, natle_f, or_false, false_or, true_or, or_true, or_self, cl, clL, le_t, le_f, lt_t, lt_f, leL_t, leL_f, ltL_t, ltL_f, leM_t, leM_f, ltM_t, ltM_f, leO_t, leO_f, cond_true, cond_false, Option.bind_some, Option.bind_none, if_false, if_true, nI_1, aL1, aL2, mL1, mL2, nI_add, pk_mul, pk_m1, sL1, dL1, pk_sub, m1p1, gIs_eq, gIs_k, gIs_i, gIs_n, gIs_e, gIJ, gIR, gJI, gJR, gJs_eq, gJs_k, gJs_n, gJs_e, gRI, gRJ, gRs_eq, gRs_k, gRs_i, gRs_n, gZI, gZJ, gZR, pI_s, pJ_s, pV_s, pR_s, pR_n, oR_n, oR_s, decide_true, decide_false, not_true_eq_false, not_false_eq_true, decT, decF, Bool.true_eq_false, Bool.false_eq_true, z01, o01, z1f, z1f', zz, oo, b2i_0, b2i_n, b2i_t, b2i_f, Bool.not_true, Bool.not_false])
  · have e : decide (nI (kn d) ≤ 0) = false := leM_f (c := 0) (show 0 < kn d by omega) (by omega)
    ((try dsimp only); rw [e_X12_fillsFits_67]; simp (disch := omega) only [g3, e, e_X12_fillsFits_78, true_and, and_true, false_and, and_false, beq_t, beq_f, eqN_t, eqN_f, eqL_t, eqL_f, nm1, nm2, nm1', nm2', m1z, m2z, zm1, zm2, m12, m21, lg_cmp_ge, lg_cmp_le, lg_cmp_gt, lg_cmp_lt, lg_cmp_eq, oob, oobL, neg0, negL0, natle_f, or_false, false_or, true_or, or_true, or_self, cl, clL, le_t, le_f, lt_t, lt_f, leL_t, leL_f, ltL_t, ltL_f, leM_t, leM_f, ltM_t, ltM_f, leO_t, leO_f, cond_true, cond_false, Option.bind_some, Option.bind_none, if_false, if_true, nI_1, aL1, aL2, mL1, mL2, nI_add, pk_mul, pk_m1, sL1, dL1, pk_sub, m1p1, gIs_eq, gIs_k, gIs_i, gIs_n, gIs_e, gIJ, gIR, gJI, gJR, gJs_eq, gJs_k, gJs_n, gJs_e, gRI, gRJ, gRs_eq, gRs_k, gRs_i, gRs_n, gZI, gZJ, gZR, pI_s, pJ_s, pV_s, pR_s, pR_n, oR_n, oR_s, decide_true, decide_false, not_true_eq_false, not_false_eq_true, decT, decF, Bool.true_eq_false, Bool.false_eq_true, z01, o01, z1f, z1f', zz, oo, b2i_0, b2i_n, b2i_t, b2i_f, Bool.not_true, Bool.not_false])
/-- one rule's run in the model -/
theorem fit_run {w : XW} {d : Dl} {rs : List Rl} {no : No} (hD : DOk d) (hO : NoOk d no) (hR : ∀ rl ∈ rs, ROk rl) (h6r : rs.length ≤ 6) (hd : MdAt w d) (ht : MtAt w (tlS d)) (hm : MR w rs) (hn : NoM w no) (h23 : gI w 11 0 23 = -1) {t : Nat} (htl : t ≤ rs.length) (h21 : gI w 11 0 21 = dn t) (hs : MsAt w (bgS d (curR rs (dn t)) 0)) (x2 : Int32) {L : Nat} (hL : L ≤ 60) :
    ∃ w', q_X12_fillsFits_36 (nI L) x2 (nI t) 1 0 w = q_X12_fillsFits_119 (nI L) x2 (nI t) (b2i (fitS d no (curR rs (dn t)))) w' ∧ (∀ j, j < kn d → gI w' 60 0 (6 * t + j) = (bgS d (curR rs (dn t)) L).2.1 j) ∧ Fr (fun κ j k => PMn κ j k ∨ (κ = 60 ∧ 6 * t ≤ k ∧ k < 6 * t + 6)) w w' := by
  have h6 := hD.1.2
  obtain ⟨a, w', h1, h2, h3, h4, h5⟩ := loopA 61 (fun k a v => q_X12_fillsFits_36 (nI L) x2 (nI t) a (nI k) v) (fun a v => q_X12_fillsFits_119 (nI L) x2 (nI t) a v) (fun k a v => a = b2i (alB (fun k => noS no (bgS d (curR rs (dn t)) k)) 0 k) ∧ MsAt v (bgS d (curR rs (dn t)) k) ∧ (L < k → ∀ j, j < kn d → gI v 60 0 (6 * t + j) = (bgS d (curR rs (dn t)) L).2.1 j) ∧ Fr (fun κ j k => PMn κ j k ∨ (κ = 60 ∧ 6 * t ≤ k ∧ k < 6 * t + 6)) w v) (a := 1) (s := w) ⟨rfl, hs, fun z => absurd z (by omega), Fr.refl _ _⟩ (fun k a v hk hi => by
      obtain ⟨b1, b2, b3, b4⟩ := hi
      have hdv := hd.fr b4 (fun k q => by unfold PMn; omega)
      have hnv := hn.fr hO.1 b4 (fun k q => by unfold PMn; omega)
      have ka := m_areSo hnv hO h6 b2
      rw [bg_1] at ka
      -- the flag
      have flag : q_X12_fillsFits_36 (nI L) x2 (nI t) a (nI k) v = q_X12_fillsFits_67 (nI L) x2 (nI t) (b2i (alB (fun k => noS no (bgS d (curR rs (dn t)) k)) 0 (k + 1))) (nI k) 0 v := by
        rw [alB_up, b1]
        rw [e_X12_fillsFits_36, ltL_f (c := 60) (show k ≤ 60 by omega) (by decide), cond_false, e_X12_fillsFits_43]
        cases alB (fun k => noS no (bgS d (curR rs (dn t)) k)) 0 k with
        | false =>
          rw [Bool.false_and]
          simp (disch := omega) only [e_X12_fillsFits_61, e_X12_fillsFits_62, true_and, and_true, false_and, and_false, beq_t, beq_f, eqN_t, eqN_f, eqL_t, eqL_f, nm1, nm2, nm1', nm2', m1z, m2z, zm1, zm2, m12, m21, lg_cmp_ge, lg_cmp_le, lg_cmp_gt, lg_cmp_lt, lg_cmp_eq, oob, oobL, neg0, negL0, natle_f, or_false, false_or, true_or, or_true, or_self, cl, clL, le_t, le_f, lt_t, lt_f, leL_t, leL_f, ltL_t, ltL_f, leM_t, leM_f, ltM_t, ltM_f, leO_t, leO_f, cond_true, cond_false, Option.bind_some, Option.bind_none, if_false, if_true, nI_1, aL1, aL2, mL1, mL2, nI_add, pk_mul, pk_m1, sL1, dL1, pk_sub, m1p1, gIs_eq, gIs_k, gIs_i, gIs_n, gIs_e, gIJ, gIR, gJI, gJR, gJs_eq, gJs_k, gJs_n, gJs_e, gRI, gRJ, gRs_eq, gRs_k, gRs_i, gRs_n, gZI, gZJ, gZR, pI_s, pJ_s, pV_s, pR_s, pR_n, oR_n, oR_s, decide_true, decide_false, not_true_eq_false, not_false_eq_true, decT, decF, Bool.true_eq_false, Bool.false_eq_true, z01, o01, z1f, z1f', zz, oo, b2i_0, b2i_n, b2i_t, b2i_f, Bool.not_true, Bool.not_false]
        | true =>
          rw [Bool.true_and]
          cases hso : noS no (bgS d (curR rs (dn t)) k) with
          | false =>
            rw [hso] at ka
            simp (disch := omega) only [e_X12_fillsFits_48, ka, e_X12_fillsFits_61, e_X12_fillsFits_62, true_and, and_true, false_and, and_false, beq_t, beq_f, eqN_t, eqN_f, eqL_t, eqL_f, nm1, nm2, nm1', nm2', m1z, m2z, zm1, zm2, m12, m21, lg_cmp_ge, lg_cmp_le, lg_cmp_gt, lg_cmp_lt, lg_cmp_eq, oob, oobL, neg0, negL0, natle_f, or_false, false_or, true_or, or_true, or_self, cl, clL, le_t, le_f, lt_t, lt_f, leL_t, leL_f, ltL_t, ltL_f, leM_t, leM_f, ltM_t, ltM_f, leO_t, leO_f, cond_true, cond_false, Option.bind_some, Option.bind_none, if_false, if_true, nI_1, aL1, aL2, mL1, mL2, nI_add, pk_mul, pk_m1, sL1, dL1, pk_sub, m1p1, gIs_eq, gIs_k, gIs_i, gIs_n, gIs_e, gIJ, gIR, gJI, gJR, gJs_eq, gJs_k, gJs_n, gJs_e, gRI, gRJ, gRs_eq, gRs_k, gRs_i, gRs_n, gZI, gZJ, gZR, pI_s, pJ_s, pV_s, pR_s, pR_n, oR_n, oR_s, decide_true, decide_false, not_true_eq_false, not_false_eq_true, decT, decF, Bool.true_eq_false, Bool.false_eq_true, z01, o01, z1f, z1f', zz, oo, b2i_0, b2i_n, b2i_t, b2i_f, Bool.not_true, Bool.not_false]
          | true =>
            rw [hso] at ka
            simp (disch := omega) only [e_X12_fillsFits_48, ka, e_X12_fillsFits_57, e_X12_fillsFits_62, true_and, and_true, false_and, and_false, beq_t, beq_f, eqN_t, eqN_f, eqL_t, eqL_f, nm1, nm2, nm1', nm2', m1z, m2z, zm1, zm2, m12, m21, lg_cmp_ge, lg_cmp_le, lg_cmp_gt, lg_cmp_lt, lg_cmp_eq, oob, oobL, neg0, negL0, natle_f, or_false, false_or, true_or, or_true, or_self, cl, clL, le_t, le_f, lt_t, lt_f, leL_t, leL_f, ltL_t, ltL_f, leM_t, leM_f, ltM_t, ltM_f, leO_t, leO_f, cond_true, cond_false, Option.bind_some, Option.bind_none, if_false, if_true, nI_1, aL1, aL2, mL1, mL2, nI_add, pk_mul, pk_m1, sL1, dL1, pk_sub, m1p1, gIs_eq, gIs_k, gIs_i, gIs_n, gIs_e, gIJ, gIR, gJI, gJR, gJs_eq, gJs_k, gJs_n, gJs_e, gRI, gRJ, gRs_eq, gRs_k, gRs_i, gRs_n, gZI, gZJ, gZR, pI_s, pJ_s, pV_s, pR_s, pR_n, oR_n, oR_s, decide_true, decide_false, not_true_eq_false, not_false_eq_true, decT, decF, Bool.true_eq_false, Bool.false_eq_true, z01, o01, z1f, z1f', zz, oo, b2i_0, b2i_n, b2i_t, b2i_f, Bool.not_true, Bool.not_false]
      -- the row
      have row : ∃ v1, q_X12_fillsFits_67 (nI L) x2 (nI t) (b2i (alB (fun k => noS no (bgS d (curR rs (dn t)) k)) 0 (k + 1))) (nI k) 0 v = q_X12_fillsFits_108 (nI L) x2 (nI t) (b2i (alB (fun k => noS no (bgS d (curR rs (dn t)) k)) 0 (k + 1))) (nI k) v1 ∧ (L < k + 1 → ∀ j, j < kn d → gI v1 60 0 (6 * t + j) = (bgS d (curR rs (dn t)) L).2.1 j) ∧ Fr (fun κ _ k => κ = 60 ∧ 6 * t ≤ k ∧ k < 6 * t + 6) v v1 := by
        by_cases e : k = L
        · subst e
          obtain ⟨v1, c1, c2, c3⟩ := row_loop hD hdv b2 x2 (b2i (alB (fun k => noS no (bgS d (curR rs (dn t)) k)) 0 (k + 1))) (L := k) (t := t) (by omega) hL
          exact ⟨v1, c1, fun _ => c2, c3⟩
        · exact ⟨v, row_skip hD hdv _ _ hL (by omega) e, fun z => b3 (by omega), Fr.refl _ _⟩
      obtain ⟨v1, c1, c2, c3⟩ := row
      have F1 := b4.trans (c3.mono (Q := fun κ j k => PMn κ j k ∨ (κ = 60 ∧ 6 * t ≤ k ∧ k < 6 * t + 6)) (fun κ j k q => Or.inr q))
      have hm1 : MR v1 rs := hm.fr F1 (fun κ k q => by unfold PMn; omega)
      obtain ⟨v2, d1, d2, d3⟩ := p_X12_passes d hD (curR rs (dn t)) (tlS d) (tlS d) (-1) _ (bg_ok hD k) (tl_ok hD) (Or.inl ⟨rfl, rfl⟩) v1 (hd.fr F1 (fun k q => by unfold PMn; omega)) (ht.fr F1 (fun k q => by unfold PMn; omega)) (b2.fr c3 (fun k q => by omega)) (fo_of hm1 hR h6r (dn_ok htl) (by rw [(F1 11 0 21 (by unfold PMn; omega)).1]; exact h21)) (by rw [(F1 11 0 23 (by unfold PMn; omega)).1]; exact h23)
      rw [← bg_succ] at d2
      refine ⟨_, v2, ?_, rfl, d2, fun z j hj => by rw [(d3 60 0 _ (by unfold PMn; omega)).1]; exact c2 z j hj, F1.trans (d3.mono (fun κ j k q => Or.inl q))⟩
      rw [flag, c1, e_X12_fillsFits_108, d1]
      simp (disch := omega) only [true_and, and_true, false_and, and_false, beq_t, beq_f, eqN_t, eqN_f, eqL_t, eqL_f, nm1, nm2, nm1', nm2', m1z, m2z, zm1, zm2, m12, m21, lg_cmp_ge, lg_cmp_le, lg_cmp_gt, lg_cmp_lt, lg_cmp_eq, oob, oobL, neg0, negL0, natle_f, or_false, false_or, true_or, or_true, or_self, cl, clL, le_t, le_f, lt_t, lt_f, leL_t, leL_f, ltL_t, ltL_f, leM_t, leM_f, ltM_t, ltM_f, leO_t, leO_f, cond_true, cond_false, Option.bind_some, Option.bind_none, if_false, if_true, nI_1, aL1, aL2, mL1, mL2, nI_add, pk_mul, pk_m1, sL1, dL1, pk_sub, m1p1, gIs_eq, gIs_k, gIs_i, gIs_n, gIs_e, gIJ, gIR, gJI, gJR, gJs_eq, gJs_k, gJs_n, gJs_e, gRI, gRJ, gRs_eq, gRs_k, gRs_i, gRs_n, gZI, gZJ, gZR, pI_s, pJ_s, pV_s, pR_s, pR_n, oR_n, oR_s, decide_true, decide_false, not_true_eq_false, not_false_eq_true, decT, decF, Bool.true_eq_false, Bool.false_eq_true, z01, o01, z1f, z1f', zz, oo, b2i_0, b2i_n, b2i_t, b2i_f, Bool.not_true, Bool.not_false]) (fun a v hi => by ((try dsimp only); rw [e_X12_fillsFits_36]; simp (disch := omega) only [true_and, and_true, false_and, and_false, beq_t, beq_f, eqN_t, eqN_f, eqL_t, eqL_f, nm1, nm2, nm1', nm2', m1z, m2z, zm1, zm2, m12, m21, lg_cmp_ge, lg_cmp_le, lg_cmp_gt, lg_cmp_lt, lg_cmp_eq, oob, oobL, neg0, negL0, natle_f, or_false, false_or, true_or, or_true, or_self, cl, clL, le_t, le_f, lt_t, lt_f, leL_t, leL_f, ltL_t, ltL_f, leM_t, leM_f, ltM_t, ltM_f, leO_t, leO_f, cond_true, cond_false, Option.bind_some, Option.bind_none, if_false, if_true, nI_1, aL1, aL2, mL1, mL2, nI_add, pk_mul, pk_m1, sL1, dL1, pk_sub, m1p1, gIs_eq, gIs_k, gIs_i, gIs_n, gIs_e, gIJ, gIR, gJI, gJR, gJs_eq, gJs_k, gJs_n, gJs_e, gRI, gRJ, gRs_eq, gRs_k, gRs_i, gRs_n, gZI, gZJ, gZR, pI_s, pJ_s, pV_s, pR_s, pR_n, oR_n, oR_s, decide_true, decide_false, not_true_eq_false, not_false_eq_true, decT, decF, Bool.true_eq_false, Bool.false_eq_true, z01, o01, z1f, z1f', zz, oo, b2i_0, b2i_n, b2i_t, b2i_f, Bool.not_true, Bool.not_false]))
  have h1 : q_X12_fillsFits_36 (nI L) x2 (nI t) 1 0 w = q_X12_fillsFits_119 (nI L) x2 (nI t) a w' := h1
  rw [h2] at h1
  exact ⟨w', h1, h4 (by omega), h5⟩
