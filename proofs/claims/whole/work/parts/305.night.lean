/-! ===== a night ===== -/
def fillS (r v : Int32) : Int32 := if v < r then v else r
def setF (s : Sc) (k : Nat) (v : Int32) : Sc := (s.1, upd s.2.1 k v, s.2.2)
def toldS (d : Dl) (r : Option Rl) (ts : Ar) (s : Sc) (p : Nat) : Bool := match r with
  | none => true
  | some rl => decide (0 < sumS (wdS d ts s p) rl)
def tellS (d : Dl) (r : Option Rl) (ts : Ar) (p : Nat) (s : Sc) : Sc := bif decide (s.2.2.2.1 (own d p) = -1) && toldS d r ts s p then setF s (own d p) (fillS (d.2.1 (own d p)) (s.2.1 (own d p) + ts p)) else s
def tellsS (d : Dl) (r : Option Rl) (ts : Ar) (s : Sc) : Sc := itr (tellS d r ts) 0 (pn d) s
/-- the first n of the one, behind them the other -/
def onN (n : Nat) (f g : Ar) : Ar := fun k => if k < n then g k else f k
theorem onN_ne {n k : Nat} {f g : Ar} (h : ¬ k = n) : onN (n + 1) f g k = onN n f g k := by
  unfold onN
  by_cases q : k < n
  · rw [if_pos q, if_pos (by omega)]
  · rw [if_neg q, if_neg (by omega)]
theorem onN_at {n : Nat} {f g : Ar} : onN (n + 1) f g n = g n := if_pos (by omega)
theorem onN_hd {n : Nat} {f g : Ar} : onN n f g n = f n := if_neg (by omega)
theorem onN_0 {f g : Ar} : onN 0 f g = f := funext (fun _ => if_neg (by omega))
theorem onN_lt {n k : Nat} {f g : Ar} (h : k < n) : onN n f g k = g k := if_pos h
theorem onN_ge {n k : Nat} {f g : Ar} (h : n ≤ k) : onN n f g k = f k := if_neg (by omega)
def hearS (d : Dl) (s : Sc) (k j : Nat) : Bool := (decide (s.2.2.2.1 k = -1) && decide (s.2.2.2.1 j = -1)) && (decide (((s.2.2.2.2 k >>> (nI j &&& 31)) &&& 1) = 1) && decide (¬ s.2.1 j - s.2.1 k ≤ d.1 1))
def heardS (d : Dl) (s : Sc) (k : Nat) : Int32 := itr (fun j f => bif hearS d s k j then fillS (d.2.1 k) (f + d.1 1) else f) 0 (kn d) (s.2.1 k)
def overN (n : Nat) (d : Dl) (s : Sc) : Sc := (s.1, onN n s.2.1 (heardS d s), s.2.2)
def vS (d : Dl) (s : Sc) (k : Nat) : Int32 := (s.2.2.1 k + s.2.1 k / 4) - (bif decide (s.2.2.2.1 k < 0) then d.2.2.1 k else 2 * d.2.2.1 k)
def burnS (d : Dl) (s : Sc) (k : Nat) : Bool := decide (¬ s.2.2.2.1 k = -2) && decide (d.1 2 ≤ vS d s k)
def wFull (d : Dl) (s : Sc) (k : Nat) : Int32 := bif burnS d s k then 0 else s.2.1 k
def wHeat (d : Dl) (s : Sc) (k : Nat) : Int32 := bif burnS d s k then 0 else bif decide (s.2.2.2.1 k = -2) then s.2.2.1 k else (if 0 < vS d s k then vS d s k else 0)
def wPlace (d : Dl) (s : Sc) (k : Nat) : Int32 := bif burnS d s k then -2 else s.2.2.2.1 k
def warmN (n : Nat) (d : Dl) (s : Sc) : Sc := (s.1, onN n s.2.1 (wFull d s), onN n s.2.2.1 (wHeat d s), onN n s.2.2.2.1 (wPlace d s), s.2.2.2.2)
/-- one night, and which are burnt in it -/
def evenS (d : Dl) (r : Option Rl) (ts : Ar) (s : Sc) : Sc := overN (kn d) d (tellsS d r ts s)
def lateS (s : Sc) : Sc := (s.1 + 1, s.2)
def nightS (d : Dl) (r : Option Rl) (ts : Ar) (s : Sc) : Sc := warmN (kn d) d (lateS (evenS d r ts s))
def bitsS (d : Dl) (r : Option Rl) (ts : Ar) (s : Sc) : Int32 := bts (burnS d (evenS d r ts s)) (kn d)
/-- how it can stand in a scene -/
def SOk (d : Dl) (s : Sc) : Prop := ∀ k, k < 6 → In 60 (s.2.1 k) ∧ In 98 (s.2.2.1 k) ∧ In 63 (s.2.2.2.2 k) ∧ (s.2.2.2.1 k = -2 ∨ s.2.2.2.1 k = -1 ∨ ∃ f, f < 4 ∧ (k < kn d → f < fn d) ∧ s.2.2.2.1 k = nI f) ∧ (s.2.2.2.1 k = -2 → s.2.1 k = 0 ∧ s.2.2.1 k = 0) ∧ (k < kn d → ∃ a b, a ≤ b ∧ b ≤ 60 ∧ s.2.1 k = nI a ∧ d.2.1 k = nI b)
/-! numbers of ints -/
theorem warm_cmp {v t : Int32} (ht : 0 < t) : ((if 0 < v then v else 0) < t) = (¬ t ≤ v) := by
  apply propext
  rw [Int32.lt_iff_toInt_lt, show (0 : Int32).toInt = 0 from by decide] at ht
  rw [Int32.le_iff_toInt_le]
  by_cases h : 0 < v
  · rw [if_pos h, Int32.lt_iff_toInt_lt]; omega
  · rw [if_neg h, Int32.lt_iff_toInt_lt, show (0 : Int32).toInt = 0 from by decide]
    rw [Int32.lt_iff_toInt_lt, show (0 : Int32).toInt = 0 from by decide] at h
    omega
theorem pos_of {t : Int32} {b : Nat} (h : In b t) (hb : b < 65536) (h0 : ¬ t = 0) : 0 < t := by
  obtain ⟨m, hm, rfl⟩ := h
  have : ¬ m = 0 := fun q => h0 (by rw [q]; rfl)
  exact nI_lt (a := 0) (by omega) (by omega)
theorem sh6 : ∀ b : Fin 64, ∀ j : Fin 6, nI b.val >>> (nI j.val &&& 31) = nI (b.val / 2 ^ j.val) := by decide +kernel
theorem an6 : ∀ b : Fin 64, nI b.val &&& 1 = nI (b.val % 2) := by decide +kernel
theorem and6 : ∀ a b : Fin 64, nI a.val &&& nI b.val = nI (a.val &&& b.val) := by decide +kernel
theorem bit6 {b j : Nat} (hb : b < 64) (hj : j < 6) : (nI b >>> (nI j &&& 31)) &&& 1 = nI (b / 2 ^ j % 2) := by
  rw [sh6 ⟨b, hb⟩ ⟨j, hj⟩, an6 ⟨b / 2 ^ j, Nat.lt_of_le_of_lt (Nat.div_le_self _ _) hb⟩]
theorem bitA {a b j : Nat} : (a &&& b) / 2 ^ j % 2 = if a / 2 ^ j % 2 = 1 ∧ b / 2 ^ j % 2 = 1 then 1 else 0 := by
  have h := Nat.testBit_and a b j
  simp only [Nat.testBit_eq_decide_div_mod_eq] at h
  have h2 : (a &&& b) / 2 ^ j % 2 = 0 ∨ (a &&& b) / 2 ^ j % 2 = 1 := by omega
  by_cases q : a / 2 ^ j % 2 = 1 ∧ b / 2 ^ j % 2 = 1
  · rw [if_pos q]
    rw [decT q.1, decT q.2] at h
    exact of_decide_eq_true h
  · rw [if_neg q]
    rcases h2 with h2 | h2
    · exact h2
    · rw [decT h2] at h
      have := (Bool.and_eq_true _ _).mp h.symm
      exact absurd ⟨of_decide_eq_true this.1, of_decide_eq_true this.2⟩ q
theorem itr_id {σ : Type} {g : Nat → σ → σ} : ∀ (m k : Nat) (s : σ), (∀ j, k ≤ j → j < k + m → g j s = s) → itr g k m s = s := by
  intro m
  induction m with
  | zero => intro k s _; rfl
  | succ m ih =>
    intro k s h
    show itr g (k + 1) m (g k s) = s
    rw [h k (Nat.le_refl _) (by omega)]
    exact ih _ _ (fun j h1 h2 => h j (by omega) (by omega))
/-- what a night writes behind its first reckoning, at scene i -/
def PB (i κ j k : Nat) : Prop := κ = 20 ∨ κ = 21 ∨ ((κ = 30 ∨ κ = 31 ∨ κ = 32) ∧ j = i) ∨ (κ = 8 ∧ j = i ∧ k = 1)
def P20 (κ _j _k : Nat) : Prop := κ = 20
def P30 (i κ j _k : Nat) : Prop := κ = 20 ∨ (κ = 30 ∧ j = i)
def PW (i κ j _k : Nat) : Prop := (κ = 30 ∨ κ = 31 ∨ κ = 32) ∧ j = i
theorem p_X4_overhear (d : Dl) (hD : DOk d) (i jd : Nat) (jr : Option Nat) (ts : Ar) (s : Sc) (hS : SOk d s) (w : XW) (hc : Ctx w i jd d jr ts s) :
    ∃ w', F_X4_overhear [.inr (3, 0), .inr (8, i)] w = some w' ∧ ScAt w' i (overN (kn d) d s) ∧ Fr (P30 i) w w' := by
  have h6 := hD.1.2
  have e3 : ∀ v, Fr (P30 i) w v → gI v 1 jd 3 = nI (kn d) ∧ gR v 3 0 0 = some jd ∧ gI v 1 jd 1 = d.1 1 ∧ gI v 3 0 5 = hmS d s.2.2.2.1 := fun v hF => by
    refine ⟨?_, ?_, ?_, ?_⟩
    · rw [(hF 1 jd 3 (by unfold P30; omega)).1, hc.1.1 3 (by omega)]; exact hD.1.1
    · rw [(hF 3 0 0 (by unfold P30; omega)).2.2.1]; exact hc.2.1.1
    · rw [(hF 1 jd 1 (by unfold P30; omega)).1, hc.1.1 1 (by omega)]
    · rw [(hF 3 0 5 (by unfold P30; omega)).1]; exact hc.2.2.2.1
  obtain ⟨w1, a1, a2⟩ := loop0 (kn d) (fun k v => q_X4_overhear_2 i (nI k) v) (fun v => q_X4_overhear_33 i 0 v) (fun k v => Fr P20 w v ∧ ∀ k', k' < k → gI v 20 0 k' = s.2.1 k') (s := w) ⟨Fr.refl _ _, fun k' hk => absurd hk (by omega)⟩ (fun k v hk hi => by
      obtain ⟨b1, b2⟩ := hi
      have g := e3 v (b1.mono (fun κ i k q => by unfold P20 at q; unfold  P30; omega))
      have g2 := (hc.2.2.1.fr b1 (fun κ k q => by unfold P20; omega)).2 k (by omega)
      ((try dsimp only); rw [e_X4_overhear_2]; simp (disch := omega) only [g.1, g.2.1, e_X4_overhear_13, g2.1, true_and, and_true, false_and, and_false, beq_t, beq_f, eqN_t, eqN_f, eqL_t, eqL_f, nm1, nm2, nm1', nm2', m1z, m2z, zm1, zm2, m12, m21, lg_cmp_ge, lg_cmp_le, lg_cmp_gt, lg_cmp_lt, lg_cmp_eq, oob, oobL, neg0, negL0, natle_f, or_false, false_or, true_or, or_true, or_self, cl, clL, le_t, le_f, lt_t, lt_f, leL_t, leL_f, ltL_t, ltL_f, leM_t, leM_f, ltM_t, ltM_f, leO_t, leO_f, cond_true, cond_false, Option.bind_some, Option.bind_none, if_false, if_true, nI_1, aL1, aL2, mL1, mL2, nI_add, pk_mul, pk_m1, sL1, dL1, pk_sub, m1p1, gIs_eq, gIs_k, gIs_i, gIs_n, gIs_e, gIJ, gIR, gJI, gJR, gJs_eq, gJs_k, gJs_n, gJs_e, gRI, gRJ, gRs_eq, gRs_k, gRs_i, gRs_n, gZI, gZJ, gZR, pI_s, pJ_s, pV_s, pR_s, pR_n, oR_n, oR_s, decide_true, decide_false, not_true_eq_false, not_false_eq_true, decT, decF, Bool.true_eq_false, Bool.false_eq_true, z01, o01, z1f, z1f', zz, oo, b2i_0, b2i_n, b2i_t, b2i_f, Bool.not_true, Bool.not_false])
      refine ⟨_, rfl, by (repeat' (first | exact b1 | exact Fr.refl _ _ | refine Fr.sI ?_ ?_ | refine Fr.sR ?_ ?_ | refine Fr.sJ ?_ ?_ | (unfold P20; omega))), fun k' hk' => ?_⟩
      by_cases hq : k' = k
      · subst hq; simp (disch := omega) only [true_and, and_true, false_and, and_false, beq_t, beq_f, eqN_t, eqN_f, eqL_t, eqL_f, nm1, nm2, nm1', nm2', m1z, m2z, zm1, zm2, m12, m21, lg_cmp_ge, lg_cmp_le, lg_cmp_gt, lg_cmp_lt, lg_cmp_eq, oob, oobL, neg0, negL0, natle_f, or_false, false_or, true_or, or_true, or_self, cl, clL, le_t, le_f, lt_t, lt_f, leL_t, leL_f, ltL_t, ltL_f, leM_t, leM_f, ltM_t, ltM_f, leO_t, leO_f, cond_true, cond_false, Option.bind_some, Option.bind_none, if_false, if_true, nI_1, aL1, aL2, mL1, mL2, nI_add, pk_mul, pk_m1, sL1, dL1, pk_sub, m1p1, gIs_eq, gIs_k, gIs_i, gIs_n, gIs_e, gIJ, gIR, gJI, gJR, gJs_eq, gJs_k, gJs_n, gJs_e, gRI, gRJ, gRs_eq, gRs_k, gRs_i, gRs_n, gZI, gZJ, gZR, pI_s, pJ_s, pV_s, pR_s, pR_n, oR_n, oR_s, decide_true, decide_false, not_true_eq_false, not_false_eq_true, decT, decF, Bool.true_eq_false, Bool.false_eq_true, z01, o01, z1f, z1f', zz, oo, b2i_0, b2i_n, b2i_t, b2i_f, Bool.not_true, Bool.not_false]
      · simp (disch := omega) only [true_and, and_true, false_and, and_false, beq_t, beq_f, eqN_t, eqN_f, eqL_t, eqL_f, nm1, nm2, nm1', nm2', m1z, m2z, zm1, zm2, m12, m21, lg_cmp_ge, lg_cmp_le, lg_cmp_gt, lg_cmp_lt, lg_cmp_eq, oob, oobL, neg0, negL0, natle_f, or_false, false_or, true_or, or_true, or_self, cl, clL, le_t, le_f, lt_t, lt_f, leL_t, leL_f, ltL_t, ltL_f, leM_t, leM_f, ltM_t, ltM_f, leO_t, leO_f, cond_true, cond_false, Option.bind_some, Option.bind_none, if_false, if_true, nI_1, aL1, aL2, mL1, mL2, nI_add, pk_mul, pk_m1, sL1, dL1, pk_sub, m1p1, gIs_eq, gIs_k, gIs_i, gIs_n, gIs_e, gIJ, gIR, gJI, gJR, gJs_eq, gJs_k, gJs_n, gJs_e, gRI, gRJ, gRs_eq, gRs_k, gRs_i, gRs_n, gZI, gZJ, gZR, pI_s, pJ_s, pV_s, pR_s, pR_n, oR_n, oR_s, decide_true, decide_false, not_true_eq_false, not_false_eq_true, decT, decF, Bool.true_eq_false, Bool.false_eq_true, z01, o01, z1f, z1f', zz, oo, b2i_0, b2i_n, b2i_t, b2i_f, Bool.not_true, Bool.not_false]
        exact b2 k' (by omega)) (fun v hi => by
      have g := e3 v (hi.1.mono (fun κ i k q => by unfold P20 at q; unfold  P30; omega))
      ((try dsimp only); rw [e_X4_overhear_2]; simp (disch := omega) only [g.1, g.2.1, e_X4_overhear_31, true_and, and_true, false_and, and_false, beq_t, beq_f, eqN_t, eqN_f, eqL_t, eqL_f, nm1, nm2, nm1', nm2', m1z, m2z, zm1, zm2, m12, m21, lg_cmp_ge, lg_cmp_le, lg_cmp_gt, lg_cmp_lt, lg_cmp_eq, oob, oobL, neg0, negL0, natle_f, or_false, false_or, true_or, or_true, or_self, cl, clL, le_t, le_f, lt_t, lt_f, leL_t, leL_f, ltL_t, ltL_f, leM_t, leM_f, ltM_t, ltM_f, leO_t, leO_f, cond_true, cond_false, Option.bind_some, Option.bind_none, if_false, if_true, nI_1, aL1, aL2, mL1, mL2, nI_add, pk_mul, pk_m1, sL1, dL1, pk_sub, m1p1, gIs_eq, gIs_k, gIs_i, gIs_n, gIs_e, gIJ, gIR, gJI, gJR, gJs_eq, gJs_k, gJs_n, gJs_e, gRI, gRJ, gRs_eq, gRs_k, gRs_i, gRs_n, gZI, gZJ, gZR, pI_s, pJ_s, pV_s, pR_s, pR_n, oR_n, oR_s, decide_true, decide_false, not_true_eq_false, not_false_eq_true, decT, decF, Bool.true_eq_false, Bool.false_eq_true, z01, o01, z1f, z1f', zz, oo, b2i_0, b2i_n, b2i_t, b2i_f, Bool.not_true, Bool.not_false]))
  have f1 : Fr (P30 i) w w1 := a2.1.mono (fun κ i k q => by unfold P20 at q; unfold  P30; omega)
  obtain ⟨w2, c1, c2⟩ := loop0 (kn d) (fun k v => q_X4_overhear_33 i (nI k) v) (fun v => some (none, v)) (fun k v => Fr (P30 i) w v ∧ (∀ k', k' < kn d → gI v 20 0 k' = s.2.1 k') ∧ ScAt v i (overN k d s)) (s := w1) ⟨f1, a2.2, by
      unfold overN
      rw [onN_0]
      exact hc.2.2.1.fr a2.1 (fun κ k q => by unfold P20; omega)⟩ (fun k v hk hi => by
      obtain ⟨b1, b2, b3⟩ := hi
      obtain ⟨g1, g2, g3, g4⟩ := e3 v b1
      have hbit := bts_bit (fun k => decide (s.2.2.2.1 k = -1)) h6 hk
      rw [show bts (fun k => decide (s.2.2.2.1 k = -1)) (kn d) = hmS d s.2.2.2.1 from rfl] at hbit
      have hb33 := (b3.2 k (by omega)).2.2.2
      have hrm : d.2.1 k = d.2.1 k := rfl
      -- the inner loop
      have inner : ∀ (near : Int32), (∃ m, m < 64 ∧ near = nI m ∧ ∀ j, j < kn d → (m / 2 ^ j % 2 = 1 ↔ (s.2.2.2.1 k = -1 ∧ s.2.2.2.1 j = -1 ∧ ((s.2.2.2.2 k >>> (nI j &&& 31)) &&& 1) = 1))) → ∀ (m j : Nat) (f : Int32) (u : XW), j + m = kn d → Fr (P30 i) w u → (∀ k', k' < kn d → gI u 20 0 k' = s.2.1 k') → gI u 30 i k = f → (∀ κ k', (κ = 30 → ¬ k' = k) → gI u κ i k' = gI v κ i k') → ∃ u', q_X4_overhear_74 i (nI k) near (nI j) u = q_X4_overhear_164 i (nI k) u' ∧ Fr (P30 i) w u' ∧ (∀ k', k' < kn d → gI u' 20 0 k' = s.2.1 k') ∧ gI u' 30 i k = itr (fun j f => bif hearS d s k j then fillS (d.2.1 k) (f + d.1 1) else f) j m f ∧ (∀ κ k', (κ = 30 → ¬ k' = k) → gI u' κ i k' = gI v κ i k') := by
        intro near hnear m
        obtain ⟨nn, n1, n2, n3⟩ := hnear
        induction m with
        | zero =>
          intro j f u hj hF h20 hf hot
          obtain ⟨x1, x2, x3, x4⟩ := e3 u hF
          refine ⟨u, ?_, hF, h20, hf, hot⟩
          ((try dsimp only); rw [e_X4_overhear_74]; simp (disch := omega) only [x1, x2, true_and, and_true, false_and, and_false, beq_t, beq_f, eqN_t, eqN_f, eqL_t, eqL_f, nm1, nm2, nm1', nm2', m1z, m2z, zm1, zm2, m12, m21, lg_cmp_ge, lg_cmp_le, lg_cmp_gt, lg_cmp_lt, lg_cmp_eq, oob, oobL, neg0, negL0, natle_f, or_false, false_or, true_or, or_true, or_self, cl, clL, le_t, le_f, lt_t, lt_f, leL_t, leL_f, ltL_t, ltL_f, leM_t, leM_f, ltM_t, ltM_f, leO_t, leO_f, cond_true, cond_false, Option.bind_some, Option.bind_none, if_false, if_true, nI_1, aL1, aL2, mL1, mL2, nI_add, pk_mul, pk_m1, sL1, dL1, pk_sub, m1p1, gIs_eq, gIs_k, gIs_i, gIs_n, gIs_e, gIJ, gIR, gJI, gJR, gJs_eq, gJs_k, gJs_n, gJs_e, gRI, gRJ, gRs_eq, gRs_k, gRs_i, gRs_n, gZI, gZJ, gZR, pI_s, pJ_s, pV_s, pR_s, pR_n, oR_n, oR_s, decide_true, decide_false, not_true_eq_false, not_false_eq_true, decT, decF, Bool.true_eq_false, Bool.false_eq_true, z01, o01, z1f, z1f', zz, oo, b2i_0, b2i_n, b2i_t, b2i_f, Bool.not_true, Bool.not_false])
        | succ m ih =>
          intro j f u hj hF h20 hf hot
          obtain ⟨x1, x2, x3, x4⟩ := e3 u hF
          have hj6 : j < 6 := by omega
          rw [e_X4_overhear_74]
          simp (disch := omega) only [x1, x2, e_X4_overhear_86, n2, true_and, and_true, false_and, and_false, beq_t, beq_f, eqN_t, eqN_f, eqL_t, eqL_f, nm1, nm2, nm1', nm2', m1z, m2z, zm1, zm2, m12, m21, lg_cmp_ge, lg_cmp_le, lg_cmp_gt, lg_cmp_lt, lg_cmp_eq, oob, oobL, neg0, negL0, natle_f, or_false, false_or, true_or, or_true, or_self, cl, clL, le_t, le_f, lt_t, lt_f, leL_t, leL_f, ltL_t, ltL_f, leM_t, leM_f, ltM_t, ltM_f, leO_t, leO_f, cond_true, cond_false, Option.bind_some, Option.bind_none, if_false, if_true, nI_1, aL1, aL2, mL1, mL2, nI_add, pk_mul, pk_m1, sL1, dL1, pk_sub, m1p1, gIs_eq, gIs_k, gIs_i, gIs_n, gIs_e, gIJ, gIR, gJI, gJR, gJs_eq, gJs_k, gJs_n, gJs_e, gRI, gRJ, gRs_eq, gRs_k, gRs_i, gRs_n, gZI, gZJ, gZR, pI_s, pJ_s, pV_s, pR_s, pR_n, oR_n, oR_s, decide_true, decide_false, not_true_eq_false, not_false_eq_true, decT, decF, Bool.true_eq_false, Bool.false_eq_true, z01, o01, z1f, z1f', zz, oo, b2i_0, b2i_n, b2i_t, b2i_f, Bool.not_true, Bool.not_false]
          rw [sh6 ⟨nn, n1⟩ ⟨j, hj6⟩]
          have hsm : nn / 2 ^ j < 64 := Nat.lt_of_le_of_lt (Nat.div_le_self _ _) n1
          by_cases hz : nn / 2 ^ j = 0
          · refine ⟨u, ?_, hF, h20, ?_, hot⟩
            · rw [hz]
              rfl
            · rw [itr_id, hf]
              intro j' h1 h2
              have : nn / 2 ^ j' % 2 = 0 := by
                have : nn / 2 ^ j' = 0 := by
                  apply Nat.div_eq_of_lt
                  have h3 : nn < 2 ^ j := by
                    rcases Nat.lt_or_ge nn (2 ^ j) with q | q
                    · exact q
                    · exact absurd hz (by have := Nat.div_pos q (Nat.pow_pos (by omega : 0 < 2)); omega)
                  exact Nat.lt_of_lt_of_le h3 (Nat.pow_le_pow_right (by omega) h1)
                rw [this]
              have hh : hearS d s k j' = false := by
                cases hq : hearS d s k j' with
                | false => rfl
                | true =>
                  unfold hearS at hq
                  simp only [Bool.and_eq_true, decide_eq_true_eq] at hq
                  have := (n3 j' (by omega)).mpr ⟨hq.1.1, hq.1.2, hq.2.1⟩
                  omega
              rw [hh]
              rfl
          · simp (disch := omega) only [e_X4_overhear_93, true_and, and_true, false_and, and_false, beq_t, beq_f, eqN_t, eqN_f, eqL_t, eqL_f, nm1, nm2, nm1', nm2', m1z, m2z, zm1, zm2, m12, m21, lg_cmp_ge, lg_cmp_le, lg_cmp_gt, lg_cmp_lt, lg_cmp_eq, oob, oobL, neg0, negL0, natle_f, or_false, false_or, true_or, or_true, or_self, cl, clL, le_t, le_f, lt_t, lt_f, leL_t, leL_f, ltL_t, ltL_f, leM_t, leM_f, ltM_t, ltM_f, leO_t, leO_f, cond_true, cond_false, Option.bind_some, Option.bind_none, if_false, if_true, nI_1, aL1, aL2, mL1, mL2, nI_add, pk_mul, pk_m1, sL1, dL1, pk_sub, m1p1, gIs_eq, gIs_k, gIs_i, gIs_n, gIs_e, gIJ, gIR, gJI, gJR, gJs_eq, gJs_k, gJs_n, gJs_e, gRI, gRJ, gRs_eq, gRs_k, gRs_i, gRs_n, gZI, gZJ, gZR, pI_s, pJ_s, pV_s, pR_s, pR_n, oR_n, oR_s, decide_true, decide_false, not_true_eq_false, not_false_eq_true, decT, decF, Bool.true_eq_false, Bool.false_eq_true, z01, o01, z1f, z1f', zz, oo, b2i_0, b2i_n, b2i_t, b2i_f, Bool.not_true, Bool.not_false]
            rw [bit6 n1 hj6]
            have n3j := n3 j (by omega)
            have skip : hearS d s k j = false → ∃ u', q_X4_overhear_158 i (nI k) (nI nn) (nI j) u = q_X4_overhear_164 i (nI k) u' ∧ Fr (P30 i) w u' ∧ (∀ k', k' < kn d → gI u' 20 0 k' = s.2.1 k') ∧ gI u' 30 i k = itr (fun j f => bif hearS d s k j then fillS (d.2.1 k) (f + d.1 1) else f) j (m + 1) f ∧ (∀ κ k', (κ = 30 → ¬ k' = k) → gI u' κ i k' = gI v κ i k') := by
              intro hh
              obtain ⟨u', y1, y2⟩ := ih (j + 1) f u (by omega) hF h20 hf hot
              refine ⟨u', ?_, ?_⟩
              · rw [e_X4_overhear_158, nI_1, ← n2, y1]
              · show _ ∧ _ ∧ gI u' 30 i k = itr _ (j + 1) m (bif hearS d s k j then _ else f) ∧ _
                rw [hh]
                exact y2
            by_cases hb : nn / 2 ^ j % 2 = 1
            · obtain ⟨p1, p2, p3⟩ := n3j.mp hb
              have q1 := h20 j (by omega)
              have q2 := h20 k hk
              rw [hb]
              simp (disch := omega) only [e_X4_overhear_102, q1, q2, x2, x3, true_and, and_true, false_and, and_false, beq_t, beq_f, eqN_t, eqN_f, eqL_t, eqL_f, nm1, nm2, nm1', nm2', m1z, m2z, zm1, zm2, m12, m21, lg_cmp_ge, lg_cmp_le, lg_cmp_gt, lg_cmp_lt, lg_cmp_eq, oob, oobL, neg0, negL0, natle_f, or_false, false_or, true_or, or_true, or_self, cl, clL, le_t, le_f, lt_t, lt_f, leL_t, leL_f, ltL_t, ltL_f, leM_t, leM_f, ltM_t, ltM_f, leO_t, leO_f, cond_true, cond_false, Option.bind_some, Option.bind_none, if_false, if_true, nI_1, aL1, aL2, mL1, mL2, nI_add, pk_mul, pk_m1, sL1, dL1, pk_sub, m1p1, gIs_eq, gIs_k, gIs_i, gIs_n, gIs_e, gIJ, gIR, gJI, gJR, gJs_eq, gJs_k, gJs_n, gJs_e, gRI, gRJ, gRs_eq, gRs_k, gRs_i, gRs_n, gZI, gZJ, gZR, pI_s, pJ_s, pV_s, pR_s, pR_n, oR_n, oR_s, decide_true, decide_false, not_true_eq_false, not_false_eq_true, decT, decF, Bool.true_eq_false, Bool.false_eq_true, z01, o01, z1f, z1f', zz, oo, b2i_0, b2i_n, b2i_t, b2i_f, Bool.not_true, Bool.not_false]
              by_cases hle : s.2.1 j - s.2.1 k ≤ d.1 1
              · simp (disch := omega) only [hle, true_and, and_true, false_and, and_false, beq_t, beq_f, eqN_t, eqN_f, eqL_t, eqL_f, nm1, nm2, nm1', nm2', m1z, m2z, zm1, zm2, m12, m21, lg_cmp_ge, lg_cmp_le, lg_cmp_gt, lg_cmp_lt, lg_cmp_eq, oob, oobL, neg0, negL0, natle_f, or_false, false_or, true_or, or_true, or_self, cl, clL, le_t, le_f, lt_t, lt_f, leL_t, leL_f, ltL_t, ltL_f, leM_t, leM_f, ltM_t, ltM_f, leO_t, leO_f, cond_true, cond_false, Option.bind_some, Option.bind_none, if_false, if_true, nI_1, aL1, aL2, mL1, mL2, nI_add, pk_mul, pk_m1, sL1, dL1, pk_sub, m1p1, gIs_eq, gIs_k, gIs_i, gIs_n, gIs_e, gIJ, gIR, gJI, gJR, gJs_eq, gJs_k, gJs_n, gJs_e, gRI, gRJ, gRs_eq, gRs_k, gRs_i, gRs_n, gZI, gZJ, gZR, pI_s, pJ_s, pV_s, pR_s, pR_n, oR_n, oR_s, decide_true, decide_false, not_true_eq_false, not_false_eq_true, decT, decF, Bool.true_eq_false, Bool.false_eq_true, z01, o01, z1f, z1f', zz, oo, b2i_0, b2i_n, b2i_t, b2i_f, Bool.not_true, Bool.not_false]
                apply skip
                unfold hearS
                rw [decF (p := ¬ _) (fun q => q hle)]
                simp
              · have hh : hearS d s k j = true := by
                  unfold hearS
                  rw [decT p1, decT p2, decT p3, decT hle]
                  rfl
                have q3 : gI u 13 jd k = d.2.1 k := by rw [(hF 13 jd k (by unfold P30; omega)).1]; exact (hc.1.2.1 k (by omega)).1
                simp (disch := omega) only [hle, e_X4_overhear_126, x2, x3, hf, q3, true_and, and_true, false_and, and_false, beq_t, beq_f, eqN_t, eqN_f, eqL_t, eqL_f, nm1, nm2, nm1', nm2', m1z, m2z, zm1, zm2, m12, m21, lg_cmp_ge, lg_cmp_le, lg_cmp_gt, lg_cmp_lt, lg_cmp_eq, oob, oobL, neg0, negL0, natle_f, or_false, false_or, true_or, or_true, or_self, cl, clL, le_t, le_f, lt_t, lt_f, leL_t, leL_f, ltL_t, ltL_f, leM_t, leM_f, ltM_t, ltM_f, leO_t, leO_f, cond_true, cond_false, Option.bind_some, Option.bind_none, if_false, if_true, nI_1, aL1, aL2, mL1, mL2, nI_add, pk_mul, pk_m1, sL1, dL1, pk_sub, m1p1, gIs_eq, gIs_k, gIs_i, gIs_n, gIs_e, gIJ, gIR, gJI, gJR, gJs_eq, gJs_k, gJs_n, gJs_e, gRI, gRJ, gRs_eq, gRs_k, gRs_i, gRs_n, gZI, gZJ, gZR, pI_s, pJ_s, pV_s, pR_s, pR_n, oR_n, oR_s, decide_true, decide_false, not_true_eq_false, not_false_eq_true, decT, decF, Bool.true_eq_false, Bool.false_eq_true, z01, o01, z1f, z1f', zz, oo, b2i_0, b2i_n, b2i_t, b2i_f, Bool.not_true, Bool.not_false]
                obtain ⟨u', y1, y2⟩ := ih (j + 1) (fillS (d.2.1 k) (f + d.1 1)) (sI u 30 i k (fillS (d.2.1 k) (f + d.1 1))) (by omega) (hF.sI (by unfold P30; omega)) (fun k' hk' => by simp (disch := omega) only [true_and, and_true, false_and, and_false, beq_t, beq_f, eqN_t, eqN_f, eqL_t, eqL_f, nm1, nm2, nm1', nm2', m1z, m2z, zm1, zm2, m12, m21, lg_cmp_ge, lg_cmp_le, lg_cmp_gt, lg_cmp_lt, lg_cmp_eq, oob, oobL, neg0, negL0, natle_f, or_false, false_or, true_or, or_true, or_self, cl, clL, le_t, le_f, lt_t, lt_f, leL_t, leL_f, ltL_t, ltL_f, leM_t, leM_f, ltM_t, ltM_f, leO_t, leO_f, cond_true, cond_false, Option.bind_some, Option.bind_none, if_false, if_true, nI_1, aL1, aL2, mL1, mL2, nI_add, pk_mul, pk_m1, sL1, dL1, pk_sub, m1p1, gIs_eq, gIs_k, gIs_i, gIs_n, gIs_e, gIJ, gIR, gJI, gJR, gJs_eq, gJs_k, gJs_n, gJs_e, gRI, gRJ, gRs_eq, gRs_k, gRs_i, gRs_n, gZI, gZJ, gZR, pI_s, pJ_s, pV_s, pR_s, pR_n, oR_n, oR_s, decide_true, decide_false, not_true_eq_false, not_false_eq_true, decT, decF, Bool.true_eq_false, Bool.false_eq_true, z01, o01, z1f, z1f', zz, oo, b2i_0, b2i_n, b2i_t, b2i_f, Bool.not_true, Bool.not_false]; exact h20 k' hk') gIs_eq (fun κ k' hκ => by
                  rw [← hot κ k' hκ]
                  by_cases q : κ = 30
                  · subst q
                    exact gIs_k (hκ rfl)
                  · exact gIs_n q)
                refine ⟨u', ?_, ?_⟩
                · rw [e_X4_overhear_158, nI_1, ← n2, ← y1]
                  rfl
                · show _ ∧ _ ∧ gI u' 30 i k = itr _ (j + 1) m (bif hearS d s k j then _ else f) ∧ _
                  rw [hh]
                  exact y2
            · have hb0 : nn / 2 ^ j % 2 = 0 := by omega
              rw [hb0]
              simp (disch := omega) only [true_and, and_true, false_and, and_false, beq_t, beq_f, eqN_t, eqN_f, eqL_t, eqL_f, nm1, nm2, nm1', nm2', m1z, m2z, zm1, zm2, m12, m21, lg_cmp_ge, lg_cmp_le, lg_cmp_gt, lg_cmp_lt, lg_cmp_eq, oob, oobL, neg0, negL0, natle_f, or_false, false_or, true_or, or_true, or_self, cl, clL, le_t, le_f, lt_t, lt_f, leL_t, leL_f, ltL_t, ltL_f, leM_t, leM_f, ltM_t, ltM_f, leO_t, leO_f, cond_true, cond_false, Option.bind_some, Option.bind_none, if_false, if_true, nI_1, aL1, aL2, mL1, mL2, nI_add, pk_mul, pk_m1, sL1, dL1, pk_sub, m1p1, gIs_eq, gIs_k, gIs_i, gIs_n, gIs_e, gIJ, gIR, gJI, gJR, gJs_eq, gJs_k, gJs_n, gJs_e, gRI, gRJ, gRs_eq, gRs_k, gRs_i, gRs_n, gZI, gZJ, gZR, pI_s, pJ_s, pV_s, pR_s, pR_n, oR_n, oR_s, decide_true, decide_false, not_true_eq_false, not_false_eq_true, decT, decF, Bool.true_eq_false, Bool.false_eq_true, z01, o01, z1f, z1f', zz, oo, b2i_0, b2i_n, b2i_t, b2i_f, Bool.not_true, Bool.not_false]
              apply skip
              cases hq : hearS d s k j with
              | false => rfl
              | true =>
                unfold hearS at hq
                simp only [Bool.and_eq_true, decide_eq_true_eq] at hq
                exact absurd (n3j.mpr ⟨hq.1.1, hq.1.2, hq.2.1⟩) hb
      obtain ⟨bb, bb1, bb2⟩ := (hS k (by omega)).2.2.1
      obtain ⟨hm, hm1, hm2⟩ := bts_lt (fun k => decide (s.2.2.2.1 k = -1)) h6
      rw [show bts (fun k => decide (s.2.2.2.1 k = -1)) (kn d) = hmS d s.2.2.2.1 from rfl] at hm2
      have hmj : ∀ j, j < kn d → (hm / 2 ^ j % 2 = 1 ↔ s.2.2.2.1 j = -1) := fun j hj => by
        have h1 := bts_bit (fun k => decide (s.2.2.2.1 k = -1)) h6 hj
        rw [show bts (fun k => decide (s.2.2.2.1 k = -1)) (kn d) = hmS d s.2.2.2.1 from rfl, hm2, bit6 hm1 (by omega)] at h1
        by_cases q : s.2.2.2.1 j = -1
        · rw [if_pos (decT q)] at h1
          have := (nI_eq (a := hm / 2 ^ j % 2) (b := 1) (by omega) (by omega)).mp h1
          exact ⟨fun _ => q, fun _ => this⟩
        · rw [if_neg (by rw [decF q]; exact Bool.false_ne_true)] at h1
          have := (nI_eq (a := hm / 2 ^ j % 2) (b := 0) (by omega) (by omega)).mp h1
          exact ⟨fun z => by omega, fun z => absurd z q⟩
      have fin : ∀ (near : Int32), (∃ m, m < 64 ∧ near = nI m ∧ ∀ j, j < kn d → (m / 2 ^ j % 2 = 1 ↔ (s.2.2.2.1 k = -1 ∧ s.2.2.2.1 j = -1 ∧ ((s.2.2.2.2 k >>> (nI j &&& 31)) &&& 1) = 1))) → ∃ s', q_X4_overhear_70 i (nI k) near v = q_X4_overhear_33 i (nI (k + 1)) s' ∧ Fr (P30 i) w s' ∧ (∀ k', k' < kn d → gI s' 20 0 k' = s.2.1 k') ∧ ScAt s' i (overN (k + 1) d s) := by
        intro near hn
        have hv30 : gI v 30 i k = s.2.1 k := by rw [(b3.2 k (by omega)).1]; exact onN_hd
        obtain ⟨u', y1, y2, y3, y4, y5⟩ := inner near hn (kn d) 0 (s.2.1 k) v (by omega) b1 b2 hv30 (fun _ _ _ => rfl)
        rw [nI_0] at y1
        refine ⟨u', ?_, y2, y3, ?_, fun k' hk' => ⟨?_, ?_, ?_, ?_⟩⟩
        · rw [e_X4_overhear_70, y1, e_X4_overhear_164, nI_1]
        · rw [y5 8 1 (by omega)]; exact b3.1
        · by_cases q : k' = k
          · subst q
            rw [y4]
            show _ = onN (k' + 1) s.2.1 (heardS d s) k'
            rw [onN_at]
            rfl
          · rw [y5 30 k' (fun _ => q), (b3.2 k' hk').1]
            exact (onN_ne q).symm
        · rw [y5 31 k' (by omega)]; exact (b3.2 k' hk').2.1
        · rw [y5 32 k' (by omega)]; exact (b3.2 k' hk').2.2.1
        · rw [y5 33 k' (by omega)]; exact (b3.2 k' hk').2.2.2
      rw [e_X4_overhear_33]
      simp (disch := omega) only [g1, g2, e_X4_overhear_44, g4, true_and, and_true, false_and, and_false, beq_t, beq_f, eqN_t, eqN_f, eqL_t, eqL_f, nm1, nm2, nm1', nm2', m1z, m2z, zm1, zm2, m12, m21, lg_cmp_ge, lg_cmp_le, lg_cmp_gt, lg_cmp_lt, lg_cmp_eq, oob, oobL, neg0, negL0, natle_f, or_false, false_or, true_or, or_true, or_self, cl, clL, le_t, le_f, lt_t, lt_f, leL_t, leL_f, ltL_t, ltL_f, leM_t, leM_f, ltM_t, ltM_f, leO_t, leO_f, cond_true, cond_false, Option.bind_some, Option.bind_none, if_false, if_true, nI_1, aL1, aL2, mL1, mL2, nI_add, pk_mul, pk_m1, sL1, dL1, pk_sub, m1p1, gIs_eq, gIs_k, gIs_i, gIs_n, gIs_e, gIJ, gIR, gJI, gJR, gJs_eq, gJs_k, gJs_n, gJs_e, gRI, gRJ, gRs_eq, gRs_k, gRs_i, gRs_n, gZI, gZJ, gZR, pI_s, pJ_s, pV_s, pR_s, pR_n, oR_n, oR_s, decide_true, decide_false, not_true_eq_false, not_false_eq_true, decT, decF, Bool.true_eq_false, Bool.false_eq_true, z01, o01, z1f, z1f', zz, oo, b2i_0, b2i_n, b2i_t, b2i_f, Bool.not_true, Bool.not_false]
      rw [hbit]
      by_cases hpk : s.2.2.2.1 k = -1
      · simp (disch := omega) only [hpk, e_X4_overhear_55, hb33, g4, true_and, and_true, false_and, and_false, beq_t, beq_f, eqN_t, eqN_f, eqL_t, eqL_f, nm1, nm2, nm1', nm2', m1z, m2z, zm1, zm2, m12, m21, lg_cmp_ge, lg_cmp_le, lg_cmp_gt, lg_cmp_lt, lg_cmp_eq, oob, oobL, neg0, negL0, natle_f, or_false, false_or, true_or, or_true, or_self, cl, clL, le_t, le_f, lt_t, lt_f, leL_t, leL_f, ltL_t, ltL_f, leM_t, leM_f, ltM_t, ltM_f, leO_t, leO_f, cond_true, cond_false, Option.bind_some, Option.bind_none, if_false, if_true, nI_1, aL1, aL2, mL1, mL2, nI_add, pk_mul, pk_m1, sL1, dL1, pk_sub, m1p1, gIs_eq, gIs_k, gIs_i, gIs_n, gIs_e, gIJ, gIR, gJI, gJR, gJs_eq, gJs_k, gJs_n, gJs_e, gRI, gRJ, gRs_eq, gRs_k, gRs_i, gRs_n, gZI, gZJ, gZR, pI_s, pJ_s, pV_s, pR_s, pR_n, oR_n, oR_s, decide_true, decide_false, not_true_eq_false, not_false_eq_true, decT, decF, Bool.true_eq_false, Bool.false_eq_true, z01, o01, z1f, z1f', zz, oo, b2i_0, b2i_n, b2i_t, b2i_f, Bool.not_true, Bool.not_false]
        refine fin _ ⟨bb &&& hm, Nat.lt_of_le_of_lt Nat.and_le_left (by omega), ?_, fun j hj => ?_⟩
        · show s.2.2.2.2 k &&& hmS d s.2.2.2.1 = _
          rw [bb2, hm2, and6 ⟨bb, by omega⟩ ⟨hm, hm1⟩]
        · rw [bitA, bb2, bit6 (by omega) (by omega)]
          have q1 := hmj j hj
          by_cases q : bb / 2 ^ j % 2 = 1 ∧ hm / 2 ^ j % 2 = 1
          · rw [if_pos q, q.1]
            exact ⟨fun _ => ⟨hpk, q1.mp q.2, rfl⟩, fun _ => rfl⟩
          · rw [if_neg q]
            refine ⟨fun z => by omega, fun z => absurd ⟨?_, q1.mpr z.2.1⟩ q⟩
            exact (nI_eq (a := bb / 2 ^ j % 2) (b := 1) (by omega) (by omega)).mp z.2.2
      · simp (disch := omega) only [hpk, e_X4_overhear_69, true_and, and_true, false_and, and_false, beq_t, beq_f, eqN_t, eqN_f, eqL_t, eqL_f, nm1, nm2, nm1', nm2', m1z, m2z, zm1, zm2, m12, m21, lg_cmp_ge, lg_cmp_le, lg_cmp_gt, lg_cmp_lt, lg_cmp_eq, oob, oobL, neg0, negL0, natle_f, or_false, false_or, true_or, or_true, or_self, cl, clL, le_t, le_f, lt_t, lt_f, leL_t, leL_f, ltL_t, ltL_f, leM_t, leM_f, ltM_t, ltM_f, leO_t, leO_f, cond_true, cond_false, Option.bind_some, Option.bind_none, if_false, if_true, nI_1, aL1, aL2, mL1, mL2, nI_add, pk_mul, pk_m1, sL1, dL1, pk_sub, m1p1, gIs_eq, gIs_k, gIs_i, gIs_n, gIs_e, gIJ, gIR, gJI, gJR, gJs_eq, gJs_k, gJs_n, gJs_e, gRI, gRJ, gRs_eq, gRs_k, gRs_i, gRs_n, gZI, gZJ, gZR, pI_s, pJ_s, pV_s, pR_s, pR_n, oR_n, oR_s, decide_true, decide_false, not_true_eq_false, not_false_eq_true, decT, decF, Bool.true_eq_false, Bool.false_eq_true, z01, o01, z1f, z1f', zz, oo, b2i_0, b2i_n, b2i_t, b2i_f, Bool.not_true, Bool.not_false]
        refine fin 0 ⟨0, by omega, rfl, fun j hj => ⟨fun z => ?_, fun z => absurd z.1 hpk⟩⟩
        rw [Nat.zero_div] at z
        omega) (fun v hi => by
      obtain ⟨g1, g2, g3, g4⟩ := e3 v hi.1
      ((try dsimp only); rw [e_X4_overhear_33]; simp (disch := omega) only [g1, g2, e_X4_overhear_170, true_and, and_true, false_and, and_false, beq_t, beq_f, eqN_t, eqN_f, eqL_t, eqL_f, nm1, nm2, nm1', nm2', m1z, m2z, zm1, zm2, m12, m21, lg_cmp_ge, lg_cmp_le, lg_cmp_gt, lg_cmp_lt, lg_cmp_eq, oob, oobL, neg0, negL0, natle_f, or_false, false_or, true_or, or_true, or_self, cl, clL, le_t, le_f, lt_t, lt_f, leL_t, leL_f, ltL_t, ltL_f, leM_t, leM_f, ltM_t, ltM_f, leO_t, leO_f, cond_true, cond_false, Option.bind_some, Option.bind_none, if_false, if_true, nI_1, aL1, aL2, mL1, mL2, nI_add, pk_mul, pk_m1, sL1, dL1, pk_sub, m1p1, gIs_eq, gIs_k, gIs_i, gIs_n, gIs_e, gIJ, gIR, gJI, gJR, gJs_eq, gJs_k, gJs_n, gJs_e, gRI, gRJ, gRs_eq, gRs_k, gRs_i, gRs_n, gZI, gZJ, gZR, pI_s, pJ_s, pV_s, pR_s, pR_n, oR_n, oR_s, decide_true, decide_false, not_true_eq_false, not_false_eq_true, decT, decF, Bool.true_eq_false, Bool.false_eq_true, z01, o01, z1f, z1f', zz, oo, b2i_0, b2i_n, b2i_t, b2i_f, Bool.not_true, Bool.not_false]))
  refine ⟨w2, ?_, c2.2.2, c2.1⟩
  rw [nI_0] at a1 c1
  rw [f_X4_overhear, e_X4_overhear_0, a1, c1]
  rfl
