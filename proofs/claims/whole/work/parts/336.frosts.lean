/-! ===== frosts: loops ===== -/
theorem m_frost1 {w : XW} {d : Dl} {s s0 : Sc} {r : Option Rl} {ts : Ar} {f : Int32} {n1 n2 : Nat} (x1 x2 x4 x5 x6 x7 : Int32) {c i : Nat} (hc : c ≤ 100) (h : RunM w d s r ts) (hK : KeptM w s0 f) (hD : DOk d) (hS : SOk d s) (ht : TsOk d ts)
    (k1 : F_X12_draw [.inr (11, 0), .inl (.int 100)] w = some (nI (nv n1 % 100), sJ w 11 0 38 (lN n1)))
    (k2 : ¬ kn d = 0 → F_X12_draw [.inr (11, 0), .inl (.int (nI (kn d)))] (sJ w 11 0 38 (lN n1)) = some (nI (nv n2 % kn d), sJ (sJ w 11 0 38 (lN n1)) 11 0 38 (lN n2))) (hi : i < 1000) :
    ∃ w', q_X12_frosts_93 x1 x2 (nI c) x4 x5 x6 x7 (nI i) w = q_X12_frosts_87 x1 x2 (nI c) x4 x5 x6 x7 (nI (i + 1)) w' ∧ RunM w' d (frz d r ts c s n1 n2).1 r ts ∧ KeptM w' s0 f ∧ gJ w' 11 0 38 = lN (frz d r ts c s n1 n2).2 ∧ Fr PQM w w' := by
  have h6 := hD.1.2
  have F1 : Fr (fun κ _ k => κ = 11 ∧ k = 38) w (sJ w 11 0 38 (lN n1)) := (Fr.refl _ _).sJ ⟨rfl, rfl⟩
  have h1 : RunM (sJ w 11 0 38 (lN n1)) d s r ts := h.fr F1 (fun κ k q => by omega)
  have hK1 : KeptM (sJ w 11 0 38 (lN n1)) s0 f := hK.fr F1 (fun k => by omega) (by omega)
  have hlt : nv n1 % 100 < 100 := Nat.mod_lt _ (by omega)
  have g3 : gI w 50 0 3 = nI (kn d) := by rw [h.1.1 3 (by omega)]; exact hD.1.1
  by_cases hcold : c ≤ nv n1 % 100 ∨ kn d = 0
  · obtain ⟨w2, a1, a2, a3, a4⟩ := m_pass1 h1 hK1 hD hS ht
    rw [frz_t hcold]
    refine ⟨w2, ?_, a2, a3, ?_, (F1.mono (fun κ j k q => by unfold PQM; omega)).trans (a4.mono (fun κ i k q => by unfold PMn at q; unfold  PQM; omega))⟩
    · rw [e_X12_frosts_93, k1]
      generalize nv n1 % 100 = v at *
      by_cases hle : c ≤ v
      · simp (disch := omega) only [e_X12_frosts_135, a1, true_and, and_true, false_and, and_false, beq_t, beq_f, eqN_t, eqN_f, eqL_t, eqL_f, nm1, nm2, nm1', nm2', m1z, m2z, zm1, zm2, m12, m21, lg_cmp_ge, lg_cmp_le, lg_cmp_gt, lg_cmp_lt, lg_cmp_eq, oob, oobL, neg0, negL0, natle_f, or_false, false_or, true_or, or_true, or_self, cl, clL, le_t, le_f, lt_t, lt_f, leL_t, leL_f, ltL_t, ltL_f, leM_t, leM_f, ltM_t, ltM_f, leO_t, leO_f, cond_true, cond_false, Option.bind_some, Option.bind_none, if_false, if_true, nI_1, aL1, aL2, mL1, mL2, nI_add, pk_mul, pk_m1, sL1, dL1, pk_sub, m1p1, gIs_eq, gIs_k, gIs_i, gIs_n, gIs_e, gIJ, gIR, gJI, gJR, gJs_eq, gJs_k, gJs_n, gJs_e, gRI, gRJ, gRs_eq, gRs_k, gRs_i, gRs_n, gZI, gZJ, gZR, pI_s, pJ_s, pV_s, pR_s, pR_n, oR_n, oR_s, decide_true, decide_false, not_true_eq_false, not_false_eq_true, decT, decF, Bool.true_eq_false, Bool.false_eq_true, z01, o01, z1f, z1f', zz, oo, b2i_0, b2i_n, b2i_t, b2i_f, Bool.not_true, Bool.not_false]
      · have hk0 : kn d = 0 := by omega
        simp (disch := omega) only [e_X12_frosts_103, g3, hk0, e_X12_frosts_135, a1, true_and, and_true, false_and, and_false, beq_t, beq_f, eqN_t, eqN_f, eqL_t, eqL_f, nm1, nm2, nm1', nm2', m1z, m2z, zm1, zm2, m12, m21, lg_cmp_ge, lg_cmp_le, lg_cmp_gt, lg_cmp_lt, lg_cmp_eq, oob, oobL, neg0, negL0, natle_f, or_false, false_or, true_or, or_true, or_self, cl, clL, le_t, le_f, lt_t, lt_f, leL_t, leL_f, ltL_t, ltL_f, leM_t, leM_f, ltM_t, ltM_f, leO_t, leO_f, cond_true, cond_false, Option.bind_some, Option.bind_none, if_false, if_true, nI_1, aL1, aL2, mL1, mL2, nI_add, pk_mul, pk_m1, sL1, dL1, pk_sub, m1p1, gIs_eq, gIs_k, gIs_i, gIs_n, gIs_e, gIJ, gIR, gJI, gJR, gJs_eq, gJs_k, gJs_n, gJs_e, gRI, gRJ, gRs_eq, gRs_k, gRs_i, gRs_n, gZI, gZJ, gZR, pI_s, pJ_s, pV_s, pR_s, pR_n, oR_n, oR_s, decide_true, decide_false, not_true_eq_false, not_false_eq_true, decT, decF, Bool.true_eq_false, Bool.false_eq_true, z01, o01, z1f, z1f', zz, oo, b2i_0, b2i_n, b2i_t, b2i_f, Bool.not_true, Bool.not_false]
    · rw [(a4 11 0 38 (by unfold PMn; omega)).2.1]
      exact gJs_eq
  · have hcn : ¬ c ≤ nv n1 % 100 := fun z => hcold (Or.inl z)
    have hkn : ¬ kn d = 0 := fun z => hcold (Or.inr z)
    have k2 := k2 hkn
    have F2 : Fr (fun κ _ k => κ = 11 ∧ k = 38) w (sJ (sJ w 11 0 38 (lN n1)) 11 0 38 (lN n2)) := F1.sJ ⟨rfl, rfl⟩
    have h2 : RunM (sJ (sJ w 11 0 38 (lN n1)) 11 0 38 (lN n2)) d s r ts := h.fr F2 (fun κ k q => by omega)
    have hK2 : KeptM (sJ (sJ w 11 0 38 (lN n1)) 11 0 38 (lN n2)) s0 f := hK.fr F2 (fun k => by omega) (by omega)
    have hq : nv n2 % kn d < kn d := Nat.mod_lt _ (by omega)
    rw [frz_f hcn hkn]
    generalize nv n2 % kn d = q at *
    obtain ⟨b1, b2, b3⟩ := m_setH h2 hK2 (k := q) (by omega) 0
    obtain ⟨w2, a1, a2, a3, a4⟩ := m_pass1 b1 b2 hD (hS.setH q) ht
    refine ⟨w2, ?_, a2, a3, ?_, ((F2.mono (fun κ j k q => by unfold PQM; omega)).trans (b3.mono (fun κ i k q => by unfold PMn at q; unfold  PQM; omega))).trans (a4.mono (fun κ i k q => by unfold PMn at q; unfold  PQM; omega))⟩
    · rw [e_X12_frosts_93, k1]
      generalize nv n1 % 100 = v at *
      simp (disch := omega) only [e_X12_frosts_103, g3, e_X12_frosts_112, k2, e_X12_frosts_135, a1, true_and, and_true, false_and, and_false, beq_t, beq_f, eqN_t, eqN_f, eqL_t, eqL_f, nm1, nm2, nm1', nm2', m1z, m2z, zm1, zm2, m12, m21, lg_cmp_ge, lg_cmp_le, lg_cmp_gt, lg_cmp_lt, lg_cmp_eq, oob, oobL, neg0, negL0, natle_f, or_false, false_or, true_or, or_true, or_self, cl, clL, le_t, le_f, lt_t, lt_f, leL_t, leL_f, ltL_t, ltL_f, leM_t, leM_f, ltM_t, ltM_f, leO_t, leO_f, cond_true, cond_false, Option.bind_some, Option.bind_none, if_false, if_true, nI_1, aL1, aL2, mL1, mL2, nI_add, pk_mul, pk_m1, sL1, dL1, pk_sub, m1p1, gIs_eq, gIs_k, gIs_i, gIs_n, gIs_e, gIJ, gIR, gJI, gJR, gJs_eq, gJs_k, gJs_n, gJs_e, gRI, gRJ, gRs_eq, gRs_k, gRs_i, gRs_n, gZI, gZJ, gZR, pI_s, pJ_s, pV_s, pR_s, pR_n, oR_n, oR_s, decide_true, decide_false, not_true_eq_false, not_false_eq_true, decT, decF, Bool.true_eq_false, Bool.false_eq_true, z01, o01, z1f, z1f', zz, oo, b2i_0, b2i_n, b2i_t, b2i_f, Bool.not_true, Bool.not_false]
    · rw [(a4 11 0 38 (by unfold PMn; omega)).2.1]
      exact gJs_eq
/-- the whole frost -/
def runF (d : Dl) (r : Option Rl) (ts : Ar) (c N : Nat) (q : Sc × Nat) : Sc × Nat := itr (fun _ q => frzS d r ts c q) 0 N q
theorem runF_s {d : Dl} {r : Option Rl} {ts : Ar} {c N : Nat} {q : Sc × Nat} : runF d r ts c (N + 1) q = frz d r ts c (runF d r ts c N q).1 (nx (runF d r ts c N q).2) (nx (nx (runF d r ts c N q).2)) := itr_succ _ _ _ _
theorem frz_ok {d : Dl} (hD : DOk d) {r : Option Rl} {ts : Ar} (ht : TsOk d ts) {c : Nat} {s : Sc} (hS : SOk d s) {n1 n2 : Nat} (h1 : n1 < 2147483648) (h2 : n2 < 2147483648) : SOk d (frz d r ts c s n1 n2).1 ∧ (frz d r ts c s n1 n2).2 < 2147483648 := by
  by_cases h : c ≤ nv n1 % 100 ∨ kn d = 0
  · rw [frz_t h]
    exact ⟨hS.night hD ht, h1⟩
  · rw [frz_f (fun z => h (Or.inl z)) (fun z => h (Or.inr z))]
    exact ⟨(hS.setH _).night hD ht, h2⟩
theorem runF_ok {d : Dl} (hD : DOk d) {r : Option Rl} {ts : Ar} (ht : TsOk d ts) {c N : Nat} {s : Sc} (hS : SOk d s) {n : Nat} (hn : n < 2147483648) : SOk d (runF d r ts c N (s, n)).1 ∧ (runF d r ts c N (s, n)).2 < 2147483648 := by
  induction N with
  | zero => exact ⟨hS, hn⟩
  | succ N ih => rw [runF_s]; exact frz_ok hD ht ih.1 (nx_lt _) (nx_lt _)
theorem c_frost {w : XW} {d : Dl} {s : Sc} {r : Option Rl} {ts : Ar} {n c N : Nat} (hc : c ≤ 100) (hN : N ≤ 60) (h : RunC w d s r ts) (hD : DOk d) (hS : SOk d s) (ht : TsOk d ts) (hx : gI w 10 0 12 = nI n) (hn : n < 2147483648) :
    ∃ w', F_X11_goOnInFrost [.inr (10, 0), .inl (.int (nI N)), .inl (.int (nI c))] w = some w' ∧ RunC w' d (runF d r ts c N (s, n)).1 r ts ∧ gI w' 10 0 12 = nI (runF d r ts c N (s, n)).2 ∧ Fr PQf w w' := by
  obtain ⟨w', h1, h2, h3, h4⟩ := loop0 N (fun k v => q_X11_goOnInFrost_2 (nI N) (nI c) (nI k) v) (fun v => some (none, v)) (fun k v => RunC v d (runF d r ts c k (s, n)).1 r ts ∧ gI v 10 0 12 = nI (runF d r ts c k (s, n)).2 ∧ Fr PQf w v) (s := w) ⟨h, hx, Fr.refl _ _⟩ (fun k v hk hi => by
      obtain ⟨b1, b2, b3⟩ := hi
      obtain ⟨o1, o2⟩ := runF_ok (r := r) (c := c) (N := k) hD ht hS hn
      rw [runF_s]
      generalize runF d r ts c k (s, n) = st at *
      obtain ⟨v', a1, a2, a3, a4⟩ := c_frost1 (nI N) (i := k) hc b1 hD o1 ht (c_draw b2 o2) (nv_lt (nx_lt _)) (c_draw gIs_eq (nx_lt _)) (nv_lt (nx_lt _)) (by omega)
      refine ⟨v', ?_, a2, a3, b3.trans a4⟩
      rw [← a1]
      rw [e_X11_goOnInFrost_2, le_f hk (by omega), cond_false]) (fun v hi => by
      ((try dsimp only); rw [e_X11_goOnInFrost_2]; simp (disch := omega) only [e_X11_goOnInFrost_67, true_and, and_true, false_and, and_false, beq_t, beq_f, eqN_t, eqN_f, eqL_t, eqL_f, nm1, nm2, nm1', nm2', m1z, m2z, zm1, zm2, m12, m21, lg_cmp_ge, lg_cmp_le, lg_cmp_gt, lg_cmp_lt, lg_cmp_eq, oob, oobL, neg0, negL0, natle_f, or_false, false_or, true_or, or_true, or_self, cl, clL, le_t, le_f, lt_t, lt_f, leL_t, leL_f, ltL_t, ltL_f, leM_t, leM_f, ltM_t, ltM_f, leO_t, leO_f, cond_true, cond_false, Option.bind_some, Option.bind_none, if_false, if_true, nI_1, aL1, aL2, mL1, mL2, nI_add, pk_mul, pk_m1, sL1, dL1, pk_sub, m1p1, gIs_eq, gIs_k, gIs_i, gIs_n, gIs_e, gIJ, gIR, gJI, gJR, gJs_eq, gJs_k, gJs_n, gJs_e, gRI, gRJ, gRs_eq, gRs_k, gRs_i, gRs_n, gZI, gZJ, gZR, pI_s, pJ_s, pV_s, pR_s, pR_n, oR_n, oR_s, decide_true, decide_false, not_true_eq_false, not_false_eq_true, decT, decF, Bool.true_eq_false, Bool.false_eq_true, z01, o01, z1f, z1f', zz, oo, b2i_0, b2i_n, b2i_t, b2i_f, Bool.not_true, Bool.not_false]))
  rw [nI_0] at h1
  refine ⟨w', ?_, h2, h3, h4⟩
  rw [f_X11_goOnInFrost, e_X11_goOnInFrost_0, h1]
  rfl
theorem m_frost {w : XW} {d : Dl} {s s0 : Sc} {r : Option Rl} {ts : Ar} {f : Int32} {n c N : Nat} (x1 x4 x5 x6 x7 : Int32) (hc : c ≤ 100) (hN : N ≤ 60) (h : RunM w d s r ts) (hK : KeptM w s0 f) (hD : DOk d) (hS : SOk d s) (ht : TsOk d ts) (hx : gJ w 11 0 38 = lN n) (hn : n < 2147483648) :
    ∃ w', q_X12_frosts_87 x1 (nI N) (nI c) x4 x5 x6 x7 0 w = q_X12_frosts_146 x1 (nI N) (nI c) x4 x5 x6 x7 w' ∧ RunM w' d (runF d r ts c N (s, n)).1 r ts ∧ KeptM w' s0 f ∧ gJ w' 11 0 38 = lN (runF d r ts c N (s, n)).2 ∧ Fr PQM w w' := by
  obtain ⟨w', h1, h2, h3, h4, h5⟩ := loop0 N (fun k v => q_X12_frosts_87 x1 (nI N) (nI c) x4 x5 x6 x7 (nI k) v) (fun v => q_X12_frosts_146 x1 (nI N) (nI c) x4 x5 x6 x7 v) (fun k v => RunM v d (runF d r ts c k (s, n)).1 r ts ∧ KeptM v s0 f ∧ gJ v 11 0 38 = lN (runF d r ts c k (s, n)).2 ∧ Fr PQM w v) (s := w) ⟨h, hK, hx, Fr.refl _ _⟩ (fun k v hk hi => by
      obtain ⟨b1, b2, b3, b4⟩ := hi
      obtain ⟨o1, o2⟩ := runF_ok (r := r) (c := c) (N := k) hD ht hS hn
      rw [runF_s]
      generalize runF d r ts c k (s, n) = st at *
      have h6 := hD.1.2
      obtain ⟨v', a1, a2, a3, a4, a5⟩ := m_frost1 x1 (nI N) x4 x5 x6 x7 (i := k) hc b1 b2 hD o1 ht (m_draw (m := 100) b3 o2 (by omega) (by omega)) (fun hk0 => m_draw (m := kn d) gJs_eq (nx_lt _) (by omega) (by omega)) (by omega)
      refine ⟨v', ?_, a2, a3, a4, b4.trans a5⟩
      rw [← a1]
      rw [e_X12_frosts_87, le_f hk (by omega), cond_false]) (fun v hi => by
      ((try dsimp only); rw [e_X12_frosts_87]; simp (disch := omega) only [true_and, and_true, false_and, and_false, beq_t, beq_f, eqN_t, eqN_f, eqL_t, eqL_f, nm1, nm2, nm1', nm2', m1z, m2z, zm1, zm2, m12, m21, lg_cmp_ge, lg_cmp_le, lg_cmp_gt, lg_cmp_lt, lg_cmp_eq, oob, oobL, neg0, negL0, natle_f, or_false, false_or, true_or, or_true, or_self, cl, clL, le_t, le_f, lt_t, lt_f, leL_t, leL_f, ltL_t, ltL_f, leM_t, leM_f, ltM_t, ltM_f, leO_t, leO_f, cond_true, cond_false, Option.bind_some, Option.bind_none, if_false, if_true, nI_1, aL1, aL2, mL1, mL2, nI_add, pk_mul, pk_m1, sL1, dL1, pk_sub, m1p1, gIs_eq, gIs_k, gIs_i, gIs_n, gIs_e, gIJ, gIR, gJI, gJR, gJs_eq, gJs_k, gJs_n, gJs_e, gRI, gRJ, gRs_eq, gRs_k, gRs_i, gRs_n, gZI, gZJ, gZR, pI_s, pJ_s, pV_s, pR_s, pR_n, oR_n, oR_s, decide_true, decide_false, not_true_eq_false, not_false_eq_true, decT, decF, Bool.true_eq_false, Bool.false_eq_true, z01, o01, z1f, z1f', zz, oo, b2i_0, b2i_n, b2i_t, b2i_f, Bool.not_true, Bool.not_false]))
  exact ⟨w', h1, h2, h3, h4, h5⟩
/-- all frosts: burnt, full, the seed -/
def frsF (d : Dl) (r : Option Rl) (ts : Ar) (c N : Nat) (s : Sc) (p : (Int32 × Int32) × Nat) : (Int32 × Int32) × Nat := ((p.1.1 + pcS (brS d (runF d r ts c N (s, p.2)).1.2.2.2.1), p.1.2 + faS d (runF d r ts c N (s, p.2)).1), (runF d r ts c N (s, p.2)).2)
def allF (d : Dl) (r : Option Rl) (ts : Ar) (c N : Nat) (s : Sc) (n k : Nat) : (Int32 × Int32) × Nat := itr (fun _ p => frsF d r ts c N s p) 0 k ((0, 0), n)
theorem allF_s {d : Dl} {r : Option Rl} {ts : Ar} {c N : Nat} {s : Sc} {n k : Nat} : allF d r ts c N s n (k + 1) = frsF d r ts c N s (allF d r ts c N s n k) := itr_succ _ _ _ _
theorem allF_lt {d : Dl} (hD : DOk d) {r : Option Rl} {ts : Ar} (ht : TsOk d ts) {c N : Nat} {s : Sc} (hS : SOk d s) {n k : Nat} (hn : n < 2147483648) : (allF d r ts c N s n k).2 < 2147483648 := by
  induction k with
  | zero => exact hn
  | succ k ih => rw [allF_s]; exact (runF_ok hD ht hS ih).2
def PQg (κ j k : Nat) : Prop := PQk κ j k ∨ (κ = 10 ∧ k = 12)
def pick (q : Nat) (p : Int32 × Int32) : Int32 := if q = 0 then p.1 else p.2
theorem c_frosts {w : XW} {d : Dl} {s : Sc} {rs : List Rl} {f : Int32} (hX : CX w d s rs f) (hO : OX d s rs f) (ht : d.1 0 = 1) {n : Nat} (hx : gI w 10 0 12 = nI n) (hn : n < 2147483648) {m N c q : Nat} (hm1 : 1 ≤ m) (hm : m ≤ 10) (hN1 : 1 ≤ N) (hN : N ≤ 60) (hc : c ≤ 100) (hq : q ≤ 1) :
    ∃ w', F_X11_frosts [.inr (10, 0), .inl (.int (nI m)), .inl (.int (nI N)), .inl (.int (nI c)), .inl (.int (nI q))] w = some (pick q (allF d (curR rs f) (tlS d) c N s n m).1, w') ∧ gI w' 10 0 12 = nI n ∧ Fr PQg w w' := by
  have hD := hO.1.1
  have hS := hO.2.1.1
  have hTs := tl_ok hD
  obtain ⟨a, w1, h1, h2, h3, h4, h5⟩ := loopA m (fun k a v => q_X11_frosts_66 (nI m) (nI N) (nI c) (nI q) (nI n) a (nI k) v) (fun a v => q_X11_frosts_118 (nI n) a v) (fun k a v => CX v d s rs f ∧ gI v 10 0 12 = nI (allF d (curR rs f) (tlS d) c N s n k).2 ∧ a = pick q (allF d (curR rs f) (tlS d) c N s n k).1 ∧ Fr PQf w v) (a := 0) (s := w) ⟨hX, hx, by unfold pick; by_cases z : q = 0 <;> simp only [z, if_true, if_false] <;> rfl, Fr.refl _ _⟩ (fun k a v hk hi => by
      obtain ⟨b1, b2, b3, b4⟩ := hi
      have o2 := allF_lt (k := k) (c := c) (N := N) hD hTs hS hn (r := curR rs f)
      rw [allF_s]
      generalize allF d (curR rs f) (tlS d) c N s n k = st at *
      obtain ⟨v1, y1, y2, y3⟩ := c_start b1 hO
      obtain ⟨v2, z1, z2, z3, z4⟩ := c_frost hc hN y2 hD hS hTs (show gI v1 10 0 12 = nI st.2 by rw [(y3 10 0 12 (by unfold PQc; omega)).1]; exact b2) o2
      have hF : Fr PQf v v2 := (y3.mono (fun κ j k q => Or.inl q)).trans z4
      have hX2 : CX v2 d s rs f := b1.frx hF (fun κ j k q => by unfold PQf PQc; omega)
      obtain ⟨jd, jr, _, _, _, u4, u5, _⟩ := id z2
      have kf := c_fullAll u4 u5 hD
      have kb := c_burntBits u4 u5 hD
      have hst : frsF d (curR rs f) (tlS d) c N s st = ((st.1.1 + pcS (brS d (runF d (curR rs f) (tlS d) c N (s, st.2)).1.2.2.2.1), st.1.2 + faS d (runF d (curR rs f) (tlS d) c N (s, st.2)).1), (runF d (curR rs f) (tlS d) c N (s, st.2)).2) := rfl
      rw [hst]
      generalize runF d (curR rs f) (tlS d) c N (s, st.2) = e at *
      refine ⟨pick q (st.1.1 + pcS (brS d e.1.2.2.2.1), st.1.2 + faS d e.1), v2, ?_, hX2, z3, rfl, b4.trans hF⟩
      rw [e_X11_frosts_66, le_f hk (by omega), cond_false, e_X11_frosts_72, y1, Option.bind_some, z1, Option.bind_some, b3]
      have hq2 : q = 0 ∨ q = 1 := by omega
      rcases hq2 with rfl | rfl
      · simp (disch := omega) only [e_X11_frosts_89, kb, p_bitCount, e_X11_frosts_109, true_and, and_true, false_and, and_false, beq_t, beq_f, eqN_t, eqN_f, eqL_t, eqL_f, nm1, nm2, nm1', nm2', m1z, m2z, zm1, zm2, m12, m21, lg_cmp_ge, lg_cmp_le, lg_cmp_gt, lg_cmp_lt, lg_cmp_eq, oob, oobL, neg0, negL0, natle_f, or_false, false_or, true_or, or_true, or_self, cl, clL, le_t, le_f, lt_t, lt_f, leL_t, leL_f, ltL_t, ltL_f, leM_t, leM_f, ltM_t, ltM_f, leO_t, leO_f, cond_true, cond_false, Option.bind_some, Option.bind_none, if_false, if_true, nI_1, aL1, aL2, mL1, mL2, nI_add, pk_mul, pk_m1, sL1, dL1, pk_sub, m1p1, gIs_eq, gIs_k, gIs_i, gIs_n, gIs_e, gIJ, gIR, gJI, gJR, gJs_eq, gJs_k, gJs_n, gJs_e, gRI, gRJ, gRs_eq, gRs_k, gRs_i, gRs_n, gZI, gZJ, gZR, pI_s, pJ_s, pV_s, pR_s, pR_n, oR_n, oR_s, decide_true, decide_false, not_true_eq_false, not_false_eq_true, decT, decF, Bool.true_eq_false, Bool.false_eq_true, z01, o01, z1f, z1f', zz, oo, b2i_0, b2i_n, b2i_t, b2i_f, Bool.not_true, Bool.not_false]
        rfl
      · simp (disch := omega) only [e_X11_frosts_102, kf, e_X11_frosts_109, true_and, and_true, false_and, and_false, beq_t, beq_f, eqN_t, eqN_f, eqL_t, eqL_f, nm1, nm2, nm1', nm2', m1z, m2z, zm1, zm2, m12, m21, lg_cmp_ge, lg_cmp_le, lg_cmp_gt, lg_cmp_lt, lg_cmp_eq, oob, oobL, neg0, negL0, natle_f, or_false, false_or, true_or, or_true, or_self, cl, clL, le_t, le_f, lt_t, lt_f, leL_t, leL_f, ltL_t, ltL_f, leM_t, leM_f, ltM_t, ltM_f, leO_t, leO_f, cond_true, cond_false, Option.bind_some, Option.bind_none, if_false, if_true, nI_1, aL1, aL2, mL1, mL2, nI_add, pk_mul, pk_m1, sL1, dL1, pk_sub, m1p1, gIs_eq, gIs_k, gIs_i, gIs_n, gIs_e, gIJ, gIR, gJI, gJR, gJs_eq, gJs_k, gJs_n, gJs_e, gRI, gRJ, gRs_eq, gRs_k, gRs_i, gRs_n, gZI, gZJ, gZR, pI_s, pJ_s, pV_s, pR_s, pR_n, oR_n, oR_s, decide_true, decide_false, not_true_eq_false, not_false_eq_true, decT, decF, Bool.true_eq_false, Bool.false_eq_true, z01, o01, z1f, z1f', zz, oo, b2i_0, b2i_n, b2i_t, b2i_f, Bool.not_true, Bool.not_false]
        rfl) (fun a v hi => by ((try dsimp only); rw [e_X11_frosts_66]; simp (disch := omega) only [true_and, and_true, false_and, and_false, beq_t, beq_f, eqN_t, eqN_f, eqL_t, eqL_f, nm1, nm2, nm1', nm2', m1z, m2z, zm1, zm2, m12, m21, lg_cmp_ge, lg_cmp_le, lg_cmp_gt, lg_cmp_lt, lg_cmp_eq, oob, oobL, neg0, negL0, natle_f, or_false, false_or, true_or, or_true, or_self, cl, clL, le_t, le_f, lt_t, lt_f, leL_t, leL_f, ltL_t, ltL_f, leM_t, leM_f, ltM_t, ltM_f, leO_t, leO_f, cond_true, cond_false, Option.bind_some, Option.bind_none, if_false, if_true, nI_1, aL1, aL2, mL1, mL2, nI_add, pk_mul, pk_m1, sL1, dL1, pk_sub, m1p1, gIs_eq, gIs_k, gIs_i, gIs_n, gIs_e, gIJ, gIR, gJI, gJR, gJs_eq, gJs_k, gJs_n, gJs_e, gRI, gRJ, gRs_eq, gRs_k, gRs_i, gRs_n, gZI, gZJ, gZR, pI_s, pJ_s, pV_s, pR_s, pR_n, oR_n, oR_s, decide_true, decide_false, not_true_eq_false, not_false_eq_true, decT, decF, Bool.true_eq_false, Bool.false_eq_true, z01, o01, z1f, z1f', zz, oo, b2i_0, b2i_n, b2i_t, b2i_f, Bool.not_true, Bool.not_false]))
  rw [nI_0] at h1
  have hF : Fr PQg w (sI w1 10 0 12 (nI n)) := (h5.mono (fun κ j k q => by unfold PQf PQc at q; unfold PQg PQk; omega)).sI (by unfold PQg; omega)
  obtain ⟨jd, x1, x2⟩ := hX.1
  have t0 := x2.1 0 (by omega)
  have w1' : (¬ nI m < 1 ∧ ¬ (10 : Int32) < nI m) := ⟨of_decide_eq_false (ltM_f (c := 1) (show 1 ≤ m from hm1) (by omega)), of_decide_eq_false (ltL_f (c := 10) (show m ≤ 10 from hm) (by decide))⟩
  have w2' : (¬ nI N < 1 ∧ ¬ (60 : Int32) < nI N) := ⟨of_decide_eq_false (ltM_f (c := 1) (show 1 ≤ N from hN1) (by omega)), of_decide_eq_false (ltL_f (c := 60) (show N ≤ 60 from hN) (by decide))⟩
  have w3' : (¬ nI c < 0 ∧ ¬ (100 : Int32) < nI c) := ⟨nI_pos (by omega), of_decide_eq_false (ltL_f (c := 100) (show c ≤ 100 from hc) (by decide))⟩
  have w4' : (¬ nI q < 0 ∧ ¬ (1 : Int32) < nI q) := ⟨nI_pos (by omega), of_decide_eq_false (ltL_f (c := 1) (show q ≤ 1 from hq) (by decide))⟩
  refine ⟨sI w1 10 0 12 (nI n), ?_, gIs_eq, hF⟩
  rw [f_X11_frosts, e_X11_frosts_0]
  simp (disch := omega) only [x1, t0, ht, e_X11_frosts_10, p_within, w1', e_X11_frosts_20, w2', e_X11_frosts_32, w3', e_X11_frosts_42, w4', e_X11_frosts_54, hx, h1, e_X11_frosts_118, h4, true_and, and_true, false_and, and_false, beq_t, beq_f, eqN_t, eqN_f, eqL_t, eqL_f, nm1, nm2, nm1', nm2', m1z, m2z, zm1, zm2, m12, m21, lg_cmp_ge, lg_cmp_le, lg_cmp_gt, lg_cmp_lt, lg_cmp_eq, oob, oobL, neg0, negL0, natle_f, or_false, false_or, true_or, or_true, or_self, cl, clL, le_t, le_f, lt_t, lt_f, leL_t, leL_f, ltL_t, ltL_f, leM_t, leM_f, ltM_t, ltM_f, leO_t, leO_f, cond_true, cond_false, Option.bind_some, Option.bind_none, if_false, if_true, nI_1, aL1, aL2, mL1, mL2, nI_add, pk_mul, pk_m1, sL1, dL1, pk_sub, m1p1, gIs_eq, gIs_k, gIs_i, gIs_n, gIs_e, gIJ, gIR, gJI, gJR, gJs_eq, gJs_k, gJs_n, gJs_e, gRI, gRJ, gRs_eq, gRs_k, gRs_i, gRs_n, gZI, gZJ, gZR, pI_s, pJ_s, pV_s, pR_s, pR_n, oR_n, oR_s, decide_true, decide_false, not_true_eq_false, not_false_eq_true, decT, decF, Bool.true_eq_false, Bool.false_eq_true, z01, o01, z1f, z1f', zz, oo, b2i_0, b2i_n, b2i_t, b2i_f, Bool.not_true, Bool.not_false]
