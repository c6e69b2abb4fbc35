/-! ===== image and back, both sides ===== -/
theorem pin03 (x : Int32) (w : XW) : F_X12_in [.inl (.long x.toInt64), .inl (.long 0), .inl (.long 3)] w = some (b2i (decide (¬ x < 0 ∧ ¬ (3 : Int32) < x)), w) := p_in x 0 3 w
theorem st_image {w : XW} (hR : Rel w) (x : Int32) : StepOk (F_X11_image [.inr (10, 0), .inl (.int x)]) (F_X12_image [.inr (11, 0), .inl (.int x)]) w := by
  obtain ⟨g, hc, hm, ho⟩ := hR
  obtain ⟨⟨d, s, rs, f⟩, hs, no, sx, im, tn, tb⟩ := g
  have h10 : no.1 ≤ 10 := ho.2.2.1.1
  by_cases hx : (¬ x < 0 ∧ ¬ (3 : Int32) < x)
  · obtain ⟨k, _, hk, rfl⟩ := rngL 0 3 (by omega) (by omega) hx
    obtain ⟨w1, x1, x2, x3⟩ := c_image (show CX w d s rs f from hc.1) (show NoAt w 0 no from hc.2.2.1) h10 (show gI w 10 0 12 = sx from hc.2.2.2.1) (show CI w im from hc.2.2.2.2.1) (k := k) (by omega)
    have hc1 : CS w1 ((d, s, rs, f), hs, no, sx, upI im k (some (d, s, f, no, sx)), tn, tb) :=
      ⟨hc.1.frx x3 (fun κ j q z => by unfold PIm PSc PNo; omega), hc.2.1.fr x3 (fun κ j q z => by unfold PIm PSc PNo; omega), hc.2.2.1.fr x3 (fun κ q z => by unfold PIm PSc PNo; omega), by rw [(x3 10 0 12 (by unfold PIm PSc PNo; omega)).1]; exact hc.2.2.2.1, x2, hc.2.2.2.2.2.fr x3 (fun κ q z => by unfold PIm PSc PNo; omega)⟩
    have hm1 := hm.frc ho (x3.mono (fun κ i q z => by unfold PIm PSc PNo at z; unfold PCl; omega))
    obtain ⟨w2, y1, y2, y3⟩ := m_image (show MX w1 d s rs f from hm1.1) (show NoM w1 no from hm1.2.2.1) (show gI w1 11 0 22 = sx from hm1.2.2.2.1) (show MI w1 im from hm1.2.2.2.2.1) (k := k) (by omega)
    refine ⟨s.1, w1, w2, x1, y1, _, hc1.frm (y3.mono (fun κ i q z => by unfold PIM at z; unfold PMo; omega)), ⟨hm1.1.fr y3 (fun κ q z => by unfold PIM; omega), hm1.2.1.fr y3 (fun κ q z => by unfold PIM; omega), hm1.2.2.1.fr h10 y3 (fun q z => by unfold PIM; omega), by rw [(y3 11 0 22 (by unfold PIM; omega)).1]; exact hm1.2.2.2.1, y2, hm1.2.2.2.2.2.fr y3 (fun κ q z => by unfold PIM; omega)⟩, ?_⟩
    refine ⟨ho.1, ho.2.1, ho.2.2.1, ho.2.2.2.1, fun q i hq => ?_, ho.2.2.2.2.2⟩
    have hq : upI im k (some (d, s, f, no, sx)) q = some i := hq
    by_cases e : q = k
    · subst e
      rw [upI_s] at hq
      cases hq
      exact ⟨ho.1, ho.2.2.1, ho.2.2.2.1⟩
    · rw [upI_n e] at hq
      exact ho.2.2.2.2.1 q i hq
  · refine ⟨-1, w, w, ?_, ?_, _, hc, hm, ho⟩
    · rw [f_X11_image, e_X11_image_0]
      simp (disch := omega) only [p_within, hx, e_X11_image_9, true_and, and_true, false_and, and_false, beq_t, beq_f, eqN_t, eqN_f, eqL_t, eqL_f, nm1, nm2, nm1', nm2', m1z, m2z, zm1, zm2, m12, m21, lg_cmp_ge, lg_cmp_le, lg_cmp_gt, lg_cmp_lt, lg_cmp_eq, oob, oobL, neg0, negL0, natle_f, or_false, false_or, true_or, or_true, or_self, cl, clL, le_t, le_f, lt_t, lt_f, leL_t, leL_f, ltL_t, ltL_f, leM_t, leM_f, ltM_t, ltM_f, leO_t, leO_f, cond_true, cond_false, Option.bind_some, Option.bind_none, if_false, if_true, nI_1, aL1, aL2, mL1, mL2, nI_add, pk_mul, pk_m1, sL1, dL1, pk_sub, m1p1, gIs_eq, gIs_k, gIs_i, gIs_n, gIs_e, gIJ, gIR, gJI, gJR, gJs_eq, gJs_k, gJs_n, gJs_e, gRI, gRJ, gRs_eq, gRs_k, gRs_i, gRs_n, gZI, gZJ, gZR, pI_s, pJ_s, pV_s, pR_s, pR_n, oR_n, oR_s, decide_true, decide_false, not_true_eq_false, not_false_eq_true, decT, decF, Bool.true_eq_false, Bool.false_eq_true, z01, o01, z1f, z1f', zz, oo, b2i_0, b2i_n, b2i_t, b2i_f, Bool.not_true, Bool.not_false]
    · rw [f_X12_image, e_X12_image_0]
      simp (disch := omega) only [pin03, hx, e_X12_image_12, true_and, and_true, false_and, and_false, beq_t, beq_f, eqN_t, eqN_f, eqL_t, eqL_f, nm1, nm2, nm1', nm2', m1z, m2z, zm1, zm2, m12, m21, lg_cmp_ge, lg_cmp_le, lg_cmp_gt, lg_cmp_lt, lg_cmp_eq, oob, oobL, neg0, negL0, natle_f, or_false, false_or, true_or, or_true, or_self, cl, clL, le_t, le_f, lt_t, lt_f, leL_t, leL_f, ltL_t, ltL_f, leM_t, leM_f, ltM_t, ltM_f, leO_t, leO_f, cond_true, cond_false, Option.bind_some, Option.bind_none, if_false, if_true, nI_1, aL1, aL2, mL1, mL2, nI_add, pk_mul, pk_m1, sL1, dL1, pk_sub, m1p1, gIs_eq, gIs_k, gIs_i, gIs_n, gIs_e, gIJ, gIR, gJI, gJR, gJs_eq, gJs_k, gJs_n, gJs_e, gRI, gRJ, gRs_eq, gRs_k, gRs_i, gRs_n, gZI, gZJ, gZR, pI_s, pJ_s, pV_s, pR_s, pR_n, oR_n, oR_s, decide_true, decide_false, not_true_eq_false, not_false_eq_true, decT, decF, Bool.true_eq_false, Bool.false_eq_true, z01, o01, z1f, z1f', zz, oo, b2i_0, b2i_n, b2i_t, b2i_f, Bool.not_true, Bool.not_false]
def PBk (κ j k : Nat) : Prop := (κ = 10 ∧ (k = 4 ∨ k = 5 ∨ k = 12 ∨ k = 16)) ∨ PSc 0 κ j k ∨ PNo 0 κ j k
theorem c_back {w : XW} {d : Dl} {s : Sc} {rs : List Rl} {f : Int32} {hs : List Sc} {im : Nat → Option Im} {i : Im} (hX : CX w d s rs f) (hA : CA w d hs) (hI : CI w im) {k : Nat} (hk : k < 4) (hi : im k = some i) (h10 : i.2.2.2.1.1 ≤ 10) :
    ∃ w', F_X11_back [.inr (10, 0), .inl (.int (nI k))] w = some (i.2.1.1, w') ∧ CX w' i.1 i.2.1 rs i.2.2.1 ∧ CA w' i.1 [] ∧ NoAt w' 0 i.2.2.2.1 ∧ gI w' 10 0 12 = i.2.2.2.2 ∧ Fr PBk w w' := by
  obtain ⟨g36, hk1⟩ := hI k hk
  rw [hi] at hk1
  obtain ⟨h1, ⟨j, h2, h3⟩, h4, h5, h6, h7, h8⟩ := hk1
  obtain ⟨⟨jd, a1, a2⟩, ⟨a3, a4⟩, a5, a6⟩ := id hX
  have F1 : Fr PBk w (sR w 10 0 5 (some j)) := (Fr.refl _ _).sR (by unfold PBk; omega)
  obtain ⟨w1, y1, y2, y3, y4⟩ := p_X9_copy 0 (22 + k) (by omega) _ i.2.1 (h4.fr F1 (fun κ q z => by unfold PBk PSc PNo; omega))
  have F1' := F1.trans (y4.mono (fun κ j q z => Or.inr (Or.inl z)))
  have F2 : Fr PBk w (sI w1 10 0 4 i.2.2.1) := F1'.sI (by unfold PBk; omega)
  obtain ⟨w2, z1, z2, z3⟩ := p_X5_copy 0 (1 + k) (by omega) (sI w1 10 0 4 i.2.2.1) i.2.2.2.1 h10 (h7.fr F2 (fun κ q z => by unfold PBk PSc PNo; omega))
  have F2' := F2.trans (z3.mono (fun κ j q z => Or.inr (Or.inr z)))
  have F3 : Fr PBk w (sI (sI w2 10 0 12 i.2.2.2.2) 10 0 16 0) := (F2'.sI (by unfold PBk; omega)).sI (by unfold PBk; omega)
  have g3 : gI w1 2 k 3 = i.2.2.1 := by rw [(F1' 2 k 3 (by unfold PBk PSc PNo; omega)).1]; exact h6
  have g5 : gI w2 2 k 5 = i.2.2.2.2 := by rw [(F2' 2 k 5 (by unfold PBk PSc PNo; omega)).1]; exact h8
  have Fs : Fr (fun κ j z => (κ = 10 ∧ (z = 4 ∨ z = 12 ∨ z = 16)) ∨ PNo 0 κ j z) w1 (sI (sI w2 10 0 12 i.2.2.2.2) 10 0 16 0) := ((((Fr.refl _ _).sI (Or.inl (by omega))).trans (z3.mono (fun κ j q z => Or.inr z))).sI (Or.inl (by omega))).sI (Or.inl (by omega))
  have g81 : gI (sI (sI w2 10 0 12 i.2.2.2.2) 10 0 16 0) 8 0 1 = i.2.1.1 := by
    rw [(Fs 8 0 1 (by unfold PNo; omega)).1]; exact y2.1
  have g81' : gI w2 8 0 1 = i.2.1.1 := g81
  have hw : (¬ nI k < 0 ∧ ¬ (3 : Int32) < nI k) := ⟨nI_pos (by omega), of_decide_eq_false (ltL_f (c := 3) (show k ≤ 3 by omega) (by decide))⟩
  refine ⟨sI (sI w2 10 0 12 i.2.2.2.2) 10 0 16 0, ?_, ⟨⟨j, ?_, h3.fr F3 (fun κ q z => by unfold PBk PSc PNo; omega)⟩, ⟨y2.fr Fs (fun κ q z => by unfold PNo; omega), ?_⟩, ⟨?_, fun t rl ht => ?_⟩, ?_⟩, ?_, z2.fr (P := fun κ _ _ => κ = 10) (((Fr.refl _ _).sI rfl).sI rfl) (fun κ q z => by omega), ?_, F3⟩
  · rw [f_X11_back, e_X11_back_0]
    simp (disch := omega) only [p_within, hw, e_X11_back_11, g36, h1, e_X11_back_25, h2, Option.isNone_some, e_X11_back_34, y1, g3, z1, g5, g81', true_and, and_true, false_and, and_false, beq_t, beq_f, eqN_t, eqN_f, eqL_t, eqL_f, nm1, nm2, nm1', nm2', m1z, m2z, zm1, zm2, m12, m21, lg_cmp_ge, lg_cmp_le, lg_cmp_gt, lg_cmp_lt, lg_cmp_eq, oob, oobL, neg0, negL0, natle_f, or_false, false_or, true_or, or_true, or_self, cl, clL, le_t, le_f, lt_t, lt_f, leL_t, leL_f, ltL_t, ltL_f, leM_t, leM_f, ltM_t, ltM_f, leO_t, leO_f, cond_true, cond_false, Option.bind_some, Option.bind_none, if_false, if_true, nI_1, aL1, aL2, mL1, mL2, nI_add, pk_mul, pk_m1, sL1, dL1, pk_sub, m1p1, gIs_eq, gIs_k, gIs_i, gIs_n, gIs_e, gIJ, gIR, gJI, gJR, gJs_eq, gJs_k, gJs_n, gJs_e, gRI, gRJ, gRs_eq, gRs_k, gRs_i, gRs_n, gZI, gZJ, gZR, pI_s, pJ_s, pV_s, pR_s, pR_n, oR_n, oR_s, decide_true, decide_false, not_true_eq_false, not_false_eq_true, decT, decF, Bool.true_eq_false, Bool.false_eq_true, z01, o01, z1f, z1f', zz, oo, b2i_0, b2i_n, b2i_t, b2i_f, Bool.not_true, Bool.not_false]
  · rw [(Fs 10 0 5 (by unfold PNo; omega)).2.2.1, (y4 10 0 5 (by unfold PSc; omega)).2.2.1]
    exact gRs_eq
  · rw [(Fs 8 0 0 (by unfold PNo; omega)).1, y3]
    exact h5
  · rw [(F3 10 0 3 (by unfold PBk PSc PNo; omega)).1]; exact a5.1
  · obtain ⟨jr, x1, x2⟩ := a5.2 t rl ht
    exact ⟨jr, by rw [(F3 35 0 t (by unfold PBk PSc PNo; omega)).2.2.1]; exact x1, x2.fr F3 (fun κ q z => by unfold PBk PSc PNo; omega)⟩
  · rw [gIs_k (by omega), gIs_k (by omega), (z3 10 0 4 (by unfold PNo; omega)).1]
    exact gIs_eq
  · obtain ⟨_, b2, an, b3, b4, _⟩ := hA
    exact ⟨gIs_eq, fun q hq => by rw [(F3 37 0 q (by unfold PBk PSc PNo; omega)).2.2.1]; exact b2 q hq, an, b3, by rw [(F3 10 0 15 (by unfold PBk PSc PNo; omega)).1]; exact b4, fun q h hq => by cases hq⟩
  · rw [gIs_k (by omega)]; exact gIs_eq
theorem md_cong {v w : XW} (h : ∀ c, c < 98 → gI w 50 0 c = gI v 50 0 c) {d : Dl} (hd : MdAt v d) : MdAt w d :=
  ⟨fun k hk => by rw [h _ (by omega)]; exact hd.1 k hk, fun k hk => by rw [h _ (by omega), h _ (by omega), h _ (by omega)]; exact hd.2.1 k hk, fun k hk => by rw [h _ (by omega)]; exact hd.2.2.1 k hk, fun k hk => by rw [h _ (by omega)]; exact hd.2.2.2 k hk⟩
theorem mt_cong {v w : XW} (h : ∀ c, c < 98 → gI w 50 0 c = gI v 50 0 c) {ts : Ar} (hd : MtAt v ts) : MtAt w ts := fun k hk => by rw [h _ (by omega)]; exact hd k hk
theorem ms_cong {v w : XW} (h : ∀ c, c < 98 → gI w 50 0 c = gI v 50 0 c) {s : Sc} (hd : MsAt v s) : MsAt w s :=
  ⟨by rw [h _ (by omega)]; exact hd.1, fun k hk => by rw [h _ (by omega), h _ (by omega), h _ (by omega), h _ (by omega)]; exact hd.2 k hk⟩
theorem no_cong {v w : XW} (h : ∀ c, c < 98 → gI w 50 0 c = gI v 50 0 c) {no : No} (h10 : no.1 ≤ 10) (hd : NoM v no) : NoM w no :=
  ⟨by rw [h _ (by omega)]; exact hd.1, fun q hq => by rw [h _ (by omega), h _ (by omega), h _ (by omega)]; exact hd.2 q hq⟩
def PBM (κ _j k : Nat) : Prop := (κ = 11 ∧ (k = 21 ∨ k = 22 ∨ k = 26)) ∨ κ = 50
theorem m_back {w : XW} {d : Dl} {s : Sc} {rs : List Rl} {f : Int32} {im : Nat → Option Im} {i : Im} (hX : MX w d s rs f) (hI : MI w im) {k : Nat} (hk : k < 4) (hi : im k = some i) (h10 : i.2.2.2.1.1 ≤ 10) :
    ∃ w', F_X12_back [.inr (11, 0), .inl (.int (nI k))] w = some (i.2.1.1, w') ∧ MX w' i.1 i.2.1 rs i.2.2.1 ∧ MA w' [] ∧ NoM w' i.2.2.2.1 ∧ gI w' 11 0 22 = i.2.2.2.2 ∧ Fr PBM w w' := by
  have hk1 := hI k hk
  rw [hi] at hk1
  obtain ⟨h1, h2, h3, v, h4, h5, h6, h7, h8⟩ := hk1
  have F1 : Fr PBM w (sI (sI (sI w 11 0 21 i.2.2.1) 11 0 22 i.2.2.2.2) 11 0 26 0) := by (repeat' (first | exact hk | exact Fr.refl _ _ | refine Fr.sI ?_ ?_ | refine Fr.sR ?_ ?_ | refine Fr.sJ ?_ ?_ | (unfold PBM; omega)))
  obtain ⟨w1, b1, b2, b3⟩ := loop0 98 (fun c v => q_X12_back_50 (nI k) (nI c) v) (fun v => q_X12_back_79 v) (fun c u => Fr (fun κ _ _ => κ = 50) (sI (sI (sI w 11 0 21 i.2.2.1) 11 0 22 i.2.2.2.2) 11 0 26 0) u ∧ ∀ i, i < c → gI u 50 0 i = gI v 50 0 i) (s := sI (sI (sI w 11 0 21 i.2.2.1) 11 0 22 i.2.2.2.2) 11 0 26 0) ⟨Fr.refl _ _, fun i hi => absurd hi (by omega)⟩ (fun c u hc hi => by
      obtain ⟨b1, b2⟩ := hi
      have g : gI u 61 0 (98 * k + c) = gI v 50 0 c := by rw [(b1 61 0 _ (by omega)).1]; exact h8 c hc
      ((try dsimp only); rw [e_X12_back_50]; simp (disch := omega) only [e_X12_back_56, g, true_and, and_true, false_and, and_false, beq_t, beq_f, eqN_t, eqN_f, eqL_t, eqL_f, nm1, nm2, nm1', nm2', m1z, m2z, zm1, zm2, m12, m21, lg_cmp_ge, lg_cmp_le, lg_cmp_gt, lg_cmp_lt, lg_cmp_eq, oob, oobL, neg0, negL0, natle_f, or_false, false_or, true_or, or_true, or_self, cl, clL, le_t, le_f, lt_t, lt_f, leL_t, leL_f, ltL_t, ltL_f, leM_t, leM_f, ltM_t, ltM_f, leO_t, leO_f, cond_true, cond_false, Option.bind_some, Option.bind_none, if_false, if_true, nI_1, aL1, aL2, mL1, mL2, nI_add, pk_mul, pk_m1, sL1, dL1, pk_sub, m1p1, gIs_eq, gIs_k, gIs_i, gIs_n, gIs_e, gIJ, gIR, gJI, gJR, gJs_eq, gJs_k, gJs_n, gJs_e, gRI, gRJ, gRs_eq, gRs_k, gRs_i, gRs_n, gZI, gZJ, gZR, pI_s, pJ_s, pV_s, pR_s, pR_n, oR_n, oR_s, decide_true, decide_false, not_true_eq_false, not_false_eq_true, decT, decF, Bool.true_eq_false, Bool.false_eq_true, z01, o01, z1f, z1f', zz, oo, b2i_0, b2i_n, b2i_t, b2i_f, Bool.not_true, Bool.not_false])
      refine ⟨_, rfl, b1.sI rfl, fun i hi => ?_⟩
      by_cases q : i = c
      · subst q; exact gIs_eq
      · rw [gIs_k (by omega)]
        exact b2 i (by omega)) (fun v hi => by ((try dsimp only); rw [e_X12_back_50]; simp (disch := omega) only [true_and, and_true, false_and, and_false, beq_t, beq_f, eqN_t, eqN_f, eqL_t, eqL_f, nm1, nm2, nm1', nm2', m1z, m2z, zm1, zm2, m12, m21, lg_cmp_ge, lg_cmp_le, lg_cmp_gt, lg_cmp_lt, lg_cmp_eq, oob, oobL, neg0, negL0, natle_f, or_false, false_or, true_or, or_true, or_self, cl, clL, le_t, le_f, lt_t, lt_f, leL_t, leL_f, ltL_t, ltL_f, leM_t, leM_f, ltM_t, ltM_f, leO_t, leO_f, cond_true, cond_false, Option.bind_some, Option.bind_none, if_false, if_true, nI_1, aL1, aL2, mL1, mL2, nI_add, pk_mul, pk_m1, sL1, dL1, pk_sub, m1p1, gIs_eq, gIs_k, gIs_i, gIs_n, gIs_e, gIJ, gIR, gJI, gJR, gJs_eq, gJs_k, gJs_n, gJs_e, gRI, gRJ, gRs_eq, gRs_k, gRs_i, gRs_n, gZI, gZJ, gZR, pI_s, pJ_s, pV_s, pR_s, pR_n, oR_n, oR_s, decide_true, decide_false, not_true_eq_false, not_false_eq_true, decT, decF, Bool.true_eq_false, Bool.false_eq_true, z01, o01, z1f, z1f', zz, oo, b2i_0, b2i_n, b2i_t, b2i_f, Bool.not_true, Bool.not_false]))
  have b1 : q_X12_back_50 (nI k) 0 _ = q_X12_back_79 w1 := b1
  have hF : Fr PBM w w1 := F1.trans (b2.mono (fun κ i q z => Or.inr z))
  have hw : (¬ nI k < 0 ∧ ¬ (3 : Int32) < nI k) := ⟨nI_pos (by omega), of_decide_eq_false (ltL_f (c := 3) (show k ≤ 3 by omega) (by decide))⟩
  have g10 : gI w1 50 0 10 = i.2.1.1 := (b3 10 (by omega)).trans h6.1
  refine ⟨w1, ?_, ⟨md_cong b3 h4, mt_cong b3 h5, ms_cong b3 h6, hX.2.2.2.1.fr hF (fun κ q z => by unfold PBM; omega), ?_, ?_⟩, ⟨?_, fun q h hq => by cases hq⟩, no_cong b3 h10 h7, ?_, hF⟩
  · rw [f_X12_back, e_X12_back_0]
    simp (disch := omega) only [pin03, hw, e_X12_back_12, h1, e_X12_back_23, h2, h3, b1, e_X12_back_79, g10, true_and, and_true, false_and, and_false, beq_t, beq_f, eqN_t, eqN_f, eqL_t, eqL_f, nm1, nm2, nm1', nm2', m1z, m2z, zm1, zm2, m12, m21, lg_cmp_ge, lg_cmp_le, lg_cmp_gt, lg_cmp_lt, lg_cmp_eq, oob, oobL, neg0, negL0, natle_f, or_false, false_or, true_or, or_true, or_self, cl, clL, le_t, le_f, lt_t, lt_f, leL_t, leL_f, ltL_t, ltL_f, leM_t, leM_f, ltM_t, ltM_f, leO_t, leO_f, cond_true, cond_false, Option.bind_some, Option.bind_none, if_false, if_true, nI_1, aL1, aL2, mL1, mL2, nI_add, pk_mul, pk_m1, sL1, dL1, pk_sub, m1p1, gIs_eq, gIs_k, gIs_i, gIs_n, gIs_e, gIJ, gIR, gJI, gJR, gJs_eq, gJs_k, gJs_n, gJs_e, gRI, gRJ, gRs_eq, gRs_k, gRs_i, gRs_n, gZI, gZJ, gZR, pI_s, pJ_s, pV_s, pR_s, pR_n, oR_n, oR_s, decide_true, decide_false, not_true_eq_false, not_false_eq_true, decT, decF, Bool.true_eq_false, Bool.false_eq_true, z01, o01, z1f, z1f', zz, oo, b2i_0, b2i_n, b2i_t, b2i_f, Bool.not_true, Bool.not_false]
  · rw [(b2 11 0 21 (by omega)).1]
    simp (disch := omega) only [true_and, and_true, false_and, and_false, beq_t, beq_f, eqN_t, eqN_f, eqL_t, eqL_f, nm1, nm2, nm1', nm2', m1z, m2z, zm1, zm2, m12, m21, lg_cmp_ge, lg_cmp_le, lg_cmp_gt, lg_cmp_lt, lg_cmp_eq, oob, oobL, neg0, negL0, natle_f, or_false, false_or, true_or, or_true, or_self, cl, clL, le_t, le_f, lt_t, lt_f, leL_t, leL_f, ltL_t, ltL_f, leM_t, leM_f, ltM_t, ltM_f, leO_t, leO_f, cond_true, cond_false, Option.bind_some, Option.bind_none, if_false, if_true, nI_1, aL1, aL2, mL1, mL2, nI_add, pk_mul, pk_m1, sL1, dL1, pk_sub, m1p1, gIs_eq, gIs_k, gIs_i, gIs_n, gIs_e, gIJ, gIR, gJI, gJR, gJs_eq, gJs_k, gJs_n, gJs_e, gRI, gRJ, gRs_eq, gRs_k, gRs_i, gRs_n, gZI, gZJ, gZR, pI_s, pJ_s, pV_s, pR_s, pR_n, oR_n, oR_s, decide_true, decide_false, not_true_eq_false, not_false_eq_true, decT, decF, Bool.true_eq_false, Bool.false_eq_true, z01, o01, z1f, z1f', zz, oo, b2i_0, b2i_n, b2i_t, b2i_f, Bool.not_true, Bool.not_false]
  · rw [(hF 11 0 23 (by unfold PBM; omega)).1]; exact hX.2.2.2.2.2
  · rw [(b2 11 0 26 (by omega)).1]
    exact gIs_eq
  · rw [(b2 11 0 22 (by omega)).1]
    simp (disch := omega) only [true_and, and_true, false_and, and_false, beq_t, beq_f, eqN_t, eqN_f, eqL_t, eqL_f, nm1, nm2, nm1', nm2', m1z, m2z, zm1, zm2, m12, m21, lg_cmp_ge, lg_cmp_le, lg_cmp_gt, lg_cmp_lt, lg_cmp_eq, oob, oobL, neg0, negL0, natle_f, or_false, false_or, true_or, or_true, or_self, cl, clL, le_t, le_f, lt_t, lt_f, leL_t, leL_f, ltL_t, ltL_f, leM_t, leM_f, ltM_t, ltM_f, leO_t, leO_f, cond_true, cond_false, Option.bind_some, Option.bind_none, if_false, if_true, nI_1, aL1, aL2, mL1, mL2, nI_add, pk_mul, pk_m1, sL1, dL1, pk_sub, m1p1, gIs_eq, gIs_k, gIs_i, gIs_n, gIs_e, gIJ, gIR, gJI, gJR, gJs_eq, gJs_k, gJs_n, gJs_e, gRI, gRJ, gRs_eq, gRs_k, gRs_i, gRs_n, gZI, gZJ, gZR, pI_s, pJ_s, pV_s, pR_s, pR_n, oR_n, oR_s, decide_true, decide_false, not_true_eq_false, not_false_eq_true, decT, decF, Bool.true_eq_false, Bool.false_eq_true, z01, o01, z1f, z1f', zz, oo, b2i_0, b2i_n, b2i_t, b2i_f, Bool.not_true, Bool.not_false]
theorem st_back {w : XW} (hR : Rel w) (x : Int32) : StepOk (F_X11_back [.inr (10, 0), .inl (.int x)]) (F_X12_back [.inr (11, 0), .inl (.int x)]) w := by
  obtain ⟨g, hc, hm, ho⟩ := hR
  obtain ⟨⟨d, s, rs, f⟩, hs, no, sx, im, tn, tb⟩ := g
  by_cases hx : (¬ x < 0 ∧ ¬ (3 : Int32) < x)
  · obtain ⟨k, _, hk, rfl⟩ := rngL 0 3 (by omega) (by omega) hx
    have hCI : CI w im := hc.2.2.2.2.1
    have hMI : MI w im := hm.2.2.2.2.1
    have g36 := (hCI k (by omega)).1
    have hCk := (hCI k (by omega)).2
    have hMk := hMI k (by omega)
    cases e : im k with
    | none =>
      rw [e] at hCk hMk
      have hCk : gI w 2 k 0 = 0 := hCk
      have hMk : gI w 64 0 k = 0 := hMk
      refine ⟨-1, w, w, ?_, ?_, _, hc, hm, ho⟩
      · rw [f_X11_back, e_X11_back_0]
        simp (disch := omega) only [p_within, hx, e_X11_back_11, g36, hCk, e_X11_back_32, true_and, and_true, false_and, and_false, beq_t, beq_f, eqN_t, eqN_f, eqL_t, eqL_f, nm1, nm2, nm1', nm2', m1z, m2z, zm1, zm2, m12, m21, lg_cmp_ge, lg_cmp_le, lg_cmp_gt, lg_cmp_lt, lg_cmp_eq, oob, oobL, neg0, negL0, natle_f, or_false, false_or, true_or, or_true, or_self, cl, clL, le_t, le_f, lt_t, lt_f, leL_t, leL_f, ltL_t, ltL_f, leM_t, leM_f, ltM_t, ltM_f, leO_t, leO_f, cond_true, cond_false, Option.bind_some, Option.bind_none, if_false, if_true, nI_1, aL1, aL2, mL1, mL2, nI_add, pk_mul, pk_m1, sL1, dL1, pk_sub, m1p1, gIs_eq, gIs_k, gIs_i, gIs_n, gIs_e, gIJ, gIR, gJI, gJR, gJs_eq, gJs_k, gJs_n, gJs_e, gRI, gRJ, gRs_eq, gRs_k, gRs_i, gRs_n, gZI, gZJ, gZR, pI_s, pJ_s, pV_s, pR_s, pR_n, oR_n, oR_s, decide_true, decide_false, not_true_eq_false, not_false_eq_true, decT, decF, Bool.true_eq_false, Bool.false_eq_true, z01, o01, z1f, z1f', zz, oo, b2i_0, b2i_n, b2i_t, b2i_f, Bool.not_true, Bool.not_false]
      · rw [f_X12_back, e_X12_back_0]
        simp (disch := omega) only [pin03, hx, e_X12_back_12, hMk, e_X12_back_21, true_and, and_true, false_and, and_false, beq_t, beq_f, eqN_t, eqN_f, eqL_t, eqL_f, nm1, nm2, nm1', nm2', m1z, m2z, zm1, zm2, m12, m21, lg_cmp_ge, lg_cmp_le, lg_cmp_gt, lg_cmp_lt, lg_cmp_eq, oob, oobL, neg0, negL0, natle_f, or_false, false_or, true_or, or_true, or_self, cl, clL, le_t, le_f, lt_t, lt_f, leL_t, leL_f, ltL_t, ltL_f, leM_t, leM_f, ltM_t, ltM_f, leO_t, leO_f, cond_true, cond_false, Option.bind_some, Option.bind_none, if_false, if_true, nI_1, aL1, aL2, mL1, mL2, nI_add, pk_mul, pk_m1, sL1, dL1, pk_sub, m1p1, gIs_eq, gIs_k, gIs_i, gIs_n, gIs_e, gIJ, gIR, gJI, gJR, gJs_eq, gJs_k, gJs_n, gJs_e, gRI, gRJ, gRs_eq, gRs_k, gRs_i, gRs_n, gZI, gZJ, gZR, pI_s, pJ_s, pV_s, pR_s, pR_n, oR_n, oR_s, decide_true, decide_false, not_true_eq_false, not_false_eq_true, decT, decF, Bool.true_eq_false, Bool.false_eq_true, z01, o01, z1f, z1f', zz, oo, b2i_0, b2i_n, b2i_t, b2i_f, Bool.not_true, Bool.not_false]
    | some i =>
      have hOI : OI rs i := ho.2.2.2.2.1 k i e
      have h10 : i.2.2.2.1.1 ≤ 10 := hOI.2.1.1
      obtain ⟨w1, x1, x2, x3, x4, x5, x6⟩ := c_back (show CX w d s rs f from hc.1) (show CA w d hs from hc.2.1) hCI (k := k) (by omega) e h10
      have hc1 : CS w1 ((i.1, i.2.1, rs, i.2.2.1), [], i.2.2.2.1, i.2.2.2.2, im, tn, tb) :=
        ⟨x2, x3, x4, x5, hCI.fr x6 (fun κ j q z => by unfold PBk PSc PNo; omega), hc.2.2.2.2.2.fr x6 (fun κ q z => by unfold PBk PSc PNo; omega)⟩
      have hm1 := hm.frc ho (x6.mono (fun κ i q z => by unfold PBk PSc PNo at z; unfold PCl; omega))
      obtain ⟨w2, y1, y2, y3, y4, y5, y6⟩ := m_back (show MX w1 d s rs f from hm1.1) (show MI w1 im from hm1.2.2.2.2.1) (k := k) (by omega) e h10
      refine ⟨i.2.1.1, w1, w2, x1, y1, _, hc1.frm (y6.mono (fun κ i q z => by unfold PBM at z; unfold PMo; omega)), ⟨y2, y3, y4, y5, hm1.2.2.2.2.1.fr y6 (fun κ q z => by unfold PBM; omega), hm1.2.2.2.2.2.fr y6 (fun κ q z => by unfold PBM; omega)⟩, ?_⟩
      exact ⟨hOI.1, ⟨by show ([] : List Sc).length ≤ 20; decide, fun h hh => by cases hh⟩, hOI.2.1, hOI.2.2, ho.2.2.2.2⟩
  · refine ⟨-1, w, w, ?_, ?_, _, hc, hm, ho⟩
    · rw [f_X11_back, e_X11_back_0]
      simp (disch := omega) only [p_within, hx, e_X11_back_9, true_and, and_true, false_and, and_false, beq_t, beq_f, eqN_t, eqN_f, eqL_t, eqL_f, nm1, nm2, nm1', nm2', m1z, m2z, zm1, zm2, m12, m21, lg_cmp_ge, lg_cmp_le, lg_cmp_gt, lg_cmp_lt, lg_cmp_eq, oob, oobL, neg0, negL0, natle_f, or_false, false_or, true_or, or_true, or_self, cl, clL, le_t, le_f, lt_t, lt_f, leL_t, leL_f, ltL_t, ltL_f, leM_t, leM_f, ltM_t, ltM_f, leO_t, leO_f, cond_true, cond_false, Option.bind_some, Option.bind_none, if_false, if_true, nI_1, aL1, aL2, mL1, mL2, nI_add, pk_mul, pk_m1, sL1, dL1, pk_sub, m1p1, gIs_eq, gIs_k, gIs_i, gIs_n, gIs_e, gIJ, gIR, gJI, gJR, gJs_eq, gJs_k, gJs_n, gJs_e, gRI, gRJ, gRs_eq, gRs_k, gRs_i, gRs_n, gZI, gZJ, gZR, pI_s, pJ_s, pV_s, pR_s, pR_n, oR_n, oR_s, decide_true, decide_false, not_true_eq_false, not_false_eq_true, decT, decF, Bool.true_eq_false, Bool.false_eq_true, z01, o01, z1f, z1f', zz, oo, b2i_0, b2i_n, b2i_t, b2i_f, Bool.not_true, Bool.not_false]
    · rw [f_X12_back, e_X12_back_0]
      simp (disch := omega) only [pin03, hx, e_X12_back_21, true_and, and_true, false_and, and_false, beq_t, beq_f, eqN_t, eqN_f, eqL_t, eqL_f, nm1, nm2, nm1', nm2', m1z, m2z, zm1, zm2, m12, m21, lg_cmp_ge, lg_cmp_le, lg_cmp_gt, lg_cmp_lt, lg_cmp_eq, oob, oobL, neg0, negL0, natle_f, or_false, false_or, true_or, or_true, or_self, cl, clL, le_t, le_f, lt_t, lt_f, leL_t, leL_f, ltL_t, ltL_f, leM_t, leM_f, ltM_t, ltM_f, leO_t, leO_f, cond_true, cond_false, Option.bind_some, Option.bind_none, if_false, if_true, nI_1, aL1, aL2, mL1, mL2, nI_add, pk_mul, pk_m1, sL1, dL1, pk_sub, m1p1, gIs_eq, gIs_k, gIs_i, gIs_n, gIs_e, gIJ, gIR, gJI, gJR, gJs_eq, gJs_k, gJs_n, gJs_e, gRI, gRJ, gRs_eq, gRs_k, gRs_i, gRs_n, gZI, gZJ, gZR, pI_s, pJ_s, pV_s, pR_s, pR_n, oR_n, oR_s, decide_true, decide_false, not_true_eq_false, not_false_eq_true, decT, decF, Bool.true_eq_false, Bool.false_eq_true, z01, o01, z1f, z1f', zz, oo, b2i_0, b2i_n, b2i_t, b2i_f, Bool.not_true, Bool.not_false]
