/-! ===== a night kept within bounds ===== -/
theorem itr_inv {σ : Type} {g : Nat → σ → σ} {I : σ → Prop} : ∀ (m k : Nat) (s : σ), (∀ j s, k ≤ j → j < k + m → I s → I (g j s)) → I s → I (itr g k m s) := by
  intro m
  induction m with
  | zero => intro k s _ h; exact h
  | succ m ih =>
    intro k s hs h
    exact ih (k + 1) (g k s) (fun j s h1 h2 => hs j s (by omega) (by omega)) (hs k s (Nat.le_refl _) (by omega) h)
theorem fill_nI {b v : Nat} (hb : b < 60000) (hv : v < 60000) : fillS (nI b) (nI v) = nI (min b v) := by
  unfold fillS
  by_cases h : v < b
  · rw [if_pos (nI_lt h (by omega)), Nat.min_eq_right (by omega)]
  · rw [if_neg (nI_nlt (by omega) (by omega)), Nat.min_eq_left (by omega)]
theorem SOk.setF {d : Dl} {s : Sc} (h : SOk d s) {k : Nat} {v : Int32} (hp : ¬ s.2.2.2.1 k = -2) (hv : ∃ a b, a ≤ b ∧ b ≤ 60 ∧ v = nI a ∧ d.2.1 k = nI b) : SOk d (setF s k v) := by
  intro k' hk'
  obtain ⟨h1, h2, h3, h4, h5, h6⟩ := h k' hk'
  show In 60 (upd s.2.1 k v k') ∧ _ ∧ _ ∧ _ ∧ (_ → upd s.2.1 k v k' = 0 ∧ _) ∧ (_ → ∃ a b, a ≤ b ∧ b ≤ 60 ∧ upd s.2.1 k v k' = nI a ∧ _)
  by_cases q : k' = k
  · subst q
    rw [pk_us]
    obtain ⟨a, b, ha, hb, hv, hr⟩ := hv
    exact ⟨⟨a, by omega, hv⟩, h2, h3, h4, fun z => absurd z hp, fun _ => ⟨a, b, ha, hb, hv, hr⟩⟩
  · rw [pk_un q]
    exact ⟨h1, h2, h3, h4, h5, h6⟩
theorem SOk.tell {d : Dl} (hD : DOk d) {r : Option Rl} {ts : Ar} {p : Nat} (hp : p < pn d) (ht : In 9 (ts p)) {s : Sc} (h : SOk d s) : SOk d (tellS d r ts p s) := by
  unfold tellS
  cases hq : decide (s.2.2.2.1 (own d p) = -1) && toldS d r ts s p with
  | false => exact h
  | true =>
    have h1 := of_decide_eq_true ((Bool.and_eq_true _ _).mp hq).1
    obtain ⟨_, o2, _⟩ := hD.2.2.2.1 p hp
    have h6 := hD.1.2
    obtain ⟨a, b, ha, hb, e1, e2⟩ := (h (own d p) (by omega)).2.2.2.2.2 o2
    obtain ⟨t, ht, e3⟩ := ht
    refine h.setF (by rw [h1]; decide) ⟨min b (a + t), b, by omega, hb, ?_, e2⟩
    rw [e1, e2, e3, nI_add, fill_nI (by omega) (by omega)]
theorem SOk.tells {d : Dl} (hD : DOk d) {r : Option Rl} {ts : Ar} (ht : ∀ p, p < pn d → In 9 (ts p)) {s : Sc} (h : SOk d s) (n : Nat) (hn : n ≤ pn d) : SOk d (itr (tellS d r ts) 0 n s) :=
  itr_inv n 0 s (fun j s _ h2 hs => hs.tell hD (by omega) (ht j (by omega))) h
theorem heard_ok {d : Dl} (hD : DOk d) {s : Sc} (h : SOk d s) {k : Nat} (hk : k < kn d) : ∃ a b, a ≤ b ∧ b ≤ 60 ∧ heardS d s k = nI a ∧ d.2.1 k = nI b := by
  have h6 := hD.1.2
  obtain ⟨a, b, ha, hb, e1, e2⟩ := (h k (by omega)).2.2.2.2.2 hk
  obtain ⟨l, hl, e3⟩ := hD.2.2.2.2.1
  have : ∃ a', a' ≤ b ∧ heardS d s k = nI a' := by
    unfold heardS
    refine itr_inv (I := fun f => ∃ a', a' ≤ b ∧ f = nI a') _ _ _ (fun j f _ _ hf => ?_) ⟨a, ha, e1⟩
    obtain ⟨a', h1, h2⟩ := hf
    cases hearS d s k j with
    | false => exact ⟨a', h1, h2⟩
    | true =>
      refine ⟨min b (a' + l), by omega, ?_⟩
      show fillS (d.2.1 k) (f + d.1 1) = _
      rw [h2, e2, e3, nI_add, fill_nI (by omega) (by omega)]
  obtain ⟨a', h1, h2⟩ := this
  exact ⟨a', b, h1, hb, h2, e2⟩
theorem heard_off {d : Dl} {s : Sc} {k : Nat} (hk : ¬ s.2.2.2.1 k = -1) : heardS d s k = s.2.1 k := by
  unfold heardS
  apply itr_id
  intro j _ _
  have : hearS d s k j = false := by
    unfold hearS
    rw [decF hk]
    rfl
  rw [this]
  rfl
theorem SOk.over {d : Dl} (hD : DOk d) {s : Sc} (h : SOk d s) (n : Nat) (hn : n ≤ kn d) : SOk d (overN n d s) := by
  intro k hk
  obtain ⟨h1, h2, h3, h4, h5, h6⟩ := h k hk
  show In 60 (onN n s.2.1 (heardS d s) k) ∧ _ ∧ _ ∧ _ ∧ (_ → onN n s.2.1 (heardS d s) k = 0 ∧ _) ∧ (_ → ∃ a b, a ≤ b ∧ b ≤ 60 ∧ onN n s.2.1 (heardS d s) k = nI a ∧ _)
  by_cases q : k < n
  · rw [onN_lt q]
    obtain ⟨a, b, ha, hb, e1, e2⟩ := heard_ok hD h (k := k) (by omega)
    refine ⟨⟨a, by omega, e1⟩, h2, h3, h4, fun z => ?_, fun _ => ⟨a, b, ha, hb, e1, e2⟩⟩
    rw [heard_off (fun q => by rw [show s.2.2.2.1 k = -2 from z] at q; exact absurd q (by decide))]
    exact h5 z
  · rw [onN_ge (by omega)]
    exact ⟨h1, h2, h3, h4, h5, h6⟩
theorem nI_in60 {v : Int32} {t : Nat} (h0 : 0 < v) (h : v < nI t) (ht : t < 65536) : ∃ m, m < t ∧ v = nI m := by
  have hn : ¬ v < 0 := fun q => by
    rw [Int32.lt_iff_toInt_lt] at q h0
    omega
  obtain ⟨j, hj, rfl⟩ := nI_of hn
  exact ⟨j, (nI_ltI hj (by omega)).mp h, rfl⟩
theorem SOk.warm {d : Dl} (hD : DOk d) {s : Sc} (h : SOk d s) (n : Nat) (hn : n ≤ kn d) : SOk d (warmN n d s) := by
  intro k hk
  obtain ⟨h1, h2, h3, h4, h5, h6⟩ := h k hk
  show In 60 (onN n s.2.1 (wFull d s) k) ∧ In 98 (onN n s.2.2.1 (wHeat d s) k) ∧ _ ∧ (onN n s.2.2.2.1 (wPlace d s) k = -2 ∨ onN n s.2.2.2.1 (wPlace d s) k = -1 ∨ ∃ f, f < 4 ∧ _ ∧ onN n s.2.2.2.1 (wPlace d s) k = nI f) ∧ (onN n s.2.2.2.1 (wPlace d s) k = -2 → onN n s.2.1 (wFull d s) k = 0 ∧ onN n s.2.2.1 (wHeat d s) k = 0) ∧ (_ → ∃ a b, a ≤ b ∧ b ≤ 60 ∧ onN n s.2.1 (wFull d s) k = nI a ∧ _)
  by_cases q : k < n
  · rw [onN_lt q, onN_lt q, onN_lt q]
    unfold wFull wHeat wPlace
    cases hb : burnS d s k with
    | true =>
      obtain ⟨a, b, ha, hb, e1, e2⟩ := h6 (by omega)
      exact ⟨⟨0, by omega, rfl⟩, ⟨0, by omega, rfl⟩, h3, Or.inl rfl, fun _ => ⟨rfl, rfl⟩, fun _ => ⟨0, b, by omega, hb, rfl, e2⟩⟩
    | false =>
      show In 60 (s.2.1 k) ∧ In 98 (bif decide (s.2.2.2.1 k = -2) then s.2.2.1 k else (if 0 < vS d s k then vS d s k else 0)) ∧ _ ∧ _ ∧ (s.2.2.2.1 k = -2 → s.2.1 k = 0 ∧ (bif decide (s.2.2.2.1 k = -2) then s.2.2.1 k else (if 0 < vS d s k then vS d s k else 0)) = 0) ∧ _
      by_cases hq : s.2.2.2.1 k = -2
      · rw [decT hq]
        exact ⟨h1, h2, h3, h4, h5, h6⟩
      · rw [decF hq]
        refine ⟨h1, ?_, h3, h4, fun z => absurd z hq, h6⟩
        show In 98 (if 0 < vS d s k then vS d s k else 0)
        obtain ⟨t, ht, e⟩ := hD.2.2.2.2.2.1
        have hlt : ¬ d.1 2 ≤ vS d s k := fun z => by
          unfold burnS at hb
          rw [decT hq, decT z] at hb
          cases hb
        by_cases hv : 0 < vS d s k
        · rw [if_pos hv]
          rw [e] at hlt
          obtain ⟨m, hm, e2⟩ := nI_in60 hv (Int32.not_le.mp hlt) (by omega)
          exact ⟨m, by omega, e2⟩
        · rw [if_neg hv]
          exact ⟨0, by omega, rfl⟩
  · rw [onN_ge (by omega), onN_ge (by omega), onN_ge (by omega)]
    exact ⟨h1, h2, h3, h4, h5, h6⟩
theorem SOk.even {d : Dl} (hD : DOk d) {r : Option Rl} {ts : Ar} (ht : ∀ p, p < pn d → In 9 (ts p)) {s : Sc} (h : SOk d s) : SOk d (evenS d r ts s) := (h.tells hD ht _ (Nat.le_refl _)).over hD _ (Nat.le_refl _)
theorem SOk.night {d : Dl} (hD : DOk d) {r : Option Rl} {ts : Ar} (ht : ∀ p, p < pn d → In 9 (ts p)) {s : Sc} (h : SOk d s) : SOk d (nightS d r ts s) := SOk.warm hD (s := lateS (evenS d r ts s)) (SOk.even hD ht h) _ (Nat.le_refl _)
theorem tell_rest {d : Dl} {r : Option Rl} {ts : Ar} {p : Nat} {s : Sc} : (tellS d r ts p s).1 = s.1 ∧ (tellS d r ts p s).2.2 = s.2.2 := by
  unfold tellS
  cases decide (s.2.2.2.1 (own d p) = -1) && toldS d r ts s p <;> exact ⟨rfl, rfl⟩
theorem tells_rest {d : Dl} {r : Option Rl} {ts : Ar} {s : Sc} (n : Nat) : (itr (tellS d r ts) 0 n s).1 = s.1 ∧ (itr (tellS d r ts) 0 n s).2.2 = s.2.2 :=
  itr_inv (I := fun s' : Sc => s'.1 = s.1 ∧ s'.2.2 = s.2.2) n 0 s (fun j s' _ _ hs => ⟨tell_rest.1.trans hs.1, tell_rest.2.trans hs.2⟩) ⟨rfl, rfl⟩
theorem burnt_v {d : Dl} (hD : DOk d) {s : Sc} (h : SOk d s) {k : Nat} (hk : k < kn d) (hb : s.2.2.2.1 k = -2) : ¬ 0 < vS d s k := by
  have h6 := hD.1.2
  obtain ⟨e1, e2⟩ := (h k (by omega)).2.2.2.2.1 hb
  obtain ⟨c, hc, e3⟩ := (hD.2.2.2.2.2.2.2.1 k hk).2
  unfold vS
  rw [e1, e2, hb, show decide ((-2 : Int32) < 0) = true from by decide, show (0 : Int32) + 0 / 4 = nI 0 from by decide]
  show ¬ 0 < nI 0 - d.2.2.1 k
  rw [e3, Int32.lt_iff_toInt_lt, pk_sub_toInt (by omega) (by omega), show (0 : Int32).toInt = 0 from by decide]
  omega
theorem p_X4_warm (d : Dl) (hD : DOk d) (i jd : Nat) (s : Sc) (hS : SOk d s) (w : XW) (hd : DlAt w jd d) (hn : gR w 3 0 0 = some jd) (hs : ScAt w i s) :
    ∃ w', F_X4_warm [.inr (3, 0), .inr (8, i)] w = some (bts (burnS d s) (kn d), w') ∧ ScAt w' i (warmN (kn d) d s) ∧ Fr (PW i) w w' := by
  have h6 := hD.1.2
  obtain ⟨bt, w1, a1, a2, a3, a4⟩ := loopA (kn d) (fun k b v => q_X4_warm_4 i b (nI k) v) (fun b v => some (some (.inl (.int b)), v)) (fun k b v => Fr (PW i) w v ∧ b = bts (burnS d s) k ∧ ScAt v i (warmN k d s)) (a := 0) (s := w) ⟨Fr.refl _ _, rfl, by
      unfold warmN
      rw [onN_0, onN_0, onN_0]
      exact hs⟩ (fun k bits v hk hi => by
      obtain ⟨b1, b2, b3⟩ := hi
      have g1 : gI v 1 jd 3 = nI (kn d) := by rw [(b1 1 jd 3 (by unfold PW; omega)).1, hd.1 3 (by omega)]; exact hD.1.1
      have g5 : gI v 1 jd 2 = d.1 2 := by rw [(b1 1 jd 2 (by unfold PW; omega)).1, hd.1 2 (by omega)]
      have g2 : gR v 3 0 0 = some jd := by rw [(b1 3 0 0 (by unfold PW; omega)).2.2.1]; exact hn
      have g3 : gI v 14 jd k = d.2.2.1 k := by rw [(b1 14 jd k (by unfold PW; omega)).1]; exact (hd.2.1 k (by omega)).2.1
      obtain ⟨c1, c2, c3, c4⟩ := b3.2 k (by omega)
      have c1 : gI v 30 i k = s.2.1 k := c1.trans onN_hd
      have c2 : gI v 31 i k = s.2.2.1 k := c2.trans onN_hd
      have c3 : gI v 32 i k = s.2.2.2.1 k := c3.trans onN_hd
      have t0 : 0 < d.1 2 := pos_of hD.2.2.2.2.2.1 (by omega) (hD.2.2.2.2.2.2.1 (by omega))
      have step : ∃ b' v', q_X4_warm_47 i bits (nI k) (bif decide (s.2.2.2.1 k < 0) then d.2.2.1 k else 2 * d.2.2.1 k) v = q_X4_warm_4 i b' (nI (k + 1)) v' ∧ Fr (PW i) w v' ∧ b' = bts (burnS d s) (k + 1) ∧ ScAt v' i (warmN (k + 1) d s) := by
        have hv : (s.2.2.1 k + s.2.1 k / 4) - (bif decide (s.2.2.2.1 k < 0) then d.2.2.1 k else 2 * d.2.2.1 k) = vS d s k := rfl
        rw [e_X4_warm_47]
        simp (disch := omega) only [c1, c2, hv, g2, g5, warm_cmp t0, e_X4_warm_121, e_X4_warm_93, true_and, and_true, false_and, and_false, beq_t, beq_f, eqN_t, eqN_f, eqL_t, eqL_f, nm1, nm2, nm1', nm2', m1z, m2z, zm1, zm2, m12, m21, lg_cmp_ge, lg_cmp_le, lg_cmp_gt, lg_cmp_lt, lg_cmp_eq, oob, oobL, neg0, negL0, natle_f, or_false, false_or, true_or, or_true, or_self, cl, clL, le_t, le_f, lt_t, lt_f, leL_t, leL_f, ltL_t, ltL_f, leM_t, leM_f, ltM_t, ltM_f, leO_t, leO_f, cond_true, cond_false, Option.bind_some, Option.bind_none, if_false, if_true, nI_1, aL1, aL2, mL1, mL2, nI_add, pk_mul, pk_m1, sL1, dL1, pk_sub, m1p1, gIs_eq, gIs_k, gIs_i, gIs_n, gIs_e, gIJ, gIR, gJI, gJR, gJs_eq, gJs_k, gJs_n, gJs_e, gRI, gRJ, gRs_eq, gRs_k, gRs_i, gRs_n, gZI, gZJ, gZR, pI_s, pJ_s, pV_s, pR_s, pR_n, oR_n, oR_s, decide_true, decide_false, not_true_eq_false, not_false_eq_true, decT, decF, Bool.true_eq_false, Bool.false_eq_true, z01, o01, z1f, z1f', zz, oo, b2i_0, b2i_n, b2i_t, b2i_f, Bool.not_true, Bool.not_false]
        have hbt : bts (burnS d s) (k + 1) = if burnS d s k = true then bts (burnS d s) k ||| ((1 : Int32) <<< (nI k &&& 31)) else bts (burnS d s) k := by
          unfold bts
          rw [itr_succ, Nat.zero_add]
        by_cases hl : d.1 2 ≤ vS d s k
        · have hnb : ¬ s.2.2.2.1 k = -2 := fun q => by
            have := burnt_v hD hS hk q
            rw [Int32.lt_iff_toInt_lt] at t0 this
            rw [Int32.le_iff_toInt_le] at hl
            omega
          have hb : burnS d s k = true := by
            unfold burnS
            rw [decT hnb, decT hl]
            rfl
          simp (disch := omega) only [hl, true_and, and_true, false_and, and_false, beq_t, beq_f, eqN_t, eqN_f, eqL_t, eqL_f, nm1, nm2, nm1', nm2', m1z, m2z, zm1, zm2, m12, m21, lg_cmp_ge, lg_cmp_le, lg_cmp_gt, lg_cmp_lt, lg_cmp_eq, oob, oobL, neg0, negL0, natle_f, or_false, false_or, true_or, or_true, or_self, cl, clL, le_t, le_f, lt_t, lt_f, leL_t, leL_f, ltL_t, ltL_f, leM_t, leM_f, ltM_t, ltM_f, leO_t, leO_f, cond_true, cond_false, Option.bind_some, Option.bind_none, if_false, if_true, nI_1, aL1, aL2, mL1, mL2, nI_add, pk_mul, pk_m1, sL1, dL1, pk_sub, m1p1, gIs_eq, gIs_k, gIs_i, gIs_n, gIs_e, gIJ, gIR, gJI, gJR, gJs_eq, gJs_k, gJs_n, gJs_e, gRI, gRJ, gRs_eq, gRs_k, gRs_i, gRs_n, gZI, gZJ, gZR, pI_s, pJ_s, pV_s, pR_s, pR_n, oR_n, oR_s, decide_true, decide_false, not_true_eq_false, not_false_eq_true, decT, decF, Bool.true_eq_false, Bool.false_eq_true, z01, o01, z1f, z1f', zz, oo, b2i_0, b2i_n, b2i_t, b2i_f, Bool.not_true, Bool.not_false]
          refine ⟨_, _, rfl, by (repeat' (first | exact b1 | exact Fr.refl _ _ | refine Fr.sI ?_ ?_ | refine Fr.sR ?_ ?_ | refine Fr.sJ ?_ ?_ | (unfold PW; omega))), ?_, ?_, fun k' hk' => ?_⟩
          · rw [hbt, if_pos hb, b2]
          · simp (disch := omega) only [true_and, and_true, false_and, and_false, beq_t, beq_f, eqN_t, eqN_f, eqL_t, eqL_f, nm1, nm2, nm1', nm2', m1z, m2z, zm1, zm2, m12, m21, lg_cmp_ge, lg_cmp_le, lg_cmp_gt, lg_cmp_lt, lg_cmp_eq, oob, oobL, neg0, negL0, natle_f, or_false, false_or, true_or, or_true, or_self, cl, clL, le_t, le_f, lt_t, lt_f, leL_t, leL_f, ltL_t, ltL_f, leM_t, leM_f, ltM_t, ltM_f, leO_t, leO_f, cond_true, cond_false, Option.bind_some, Option.bind_none, if_false, if_true, nI_1, aL1, aL2, mL1, mL2, nI_add, pk_mul, pk_m1, sL1, dL1, pk_sub, m1p1, gIs_eq, gIs_k, gIs_i, gIs_n, gIs_e, gIJ, gIR, gJI, gJR, gJs_eq, gJs_k, gJs_n, gJs_e, gRI, gRJ, gRs_eq, gRs_k, gRs_i, gRs_n, gZI, gZJ, gZR, pI_s, pJ_s, pV_s, pR_s, pR_n, oR_n, oR_s, decide_true, decide_false, not_true_eq_false, not_false_eq_true, decT, decF, Bool.true_eq_false, Bool.false_eq_true, z01, o01, z1f, z1f', zz, oo, b2i_0, b2i_n, b2i_t, b2i_f, Bool.not_true, Bool.not_false]
            exact b3.1
          · show _ = onN (k + 1) s.2.1 (wFull d s) k' ∧ _ = onN (k + 1) s.2.2.1 (wHeat d s) k' ∧ _ = onN (k + 1) s.2.2.2.1 (wPlace d s) k' ∧ _
            by_cases q : k' = k
            · subst q
              rw [onN_at, onN_at, onN_at]
              unfold wFull wHeat wPlace
              rw [hb]
              simp (disch := omega) only [true_and, and_true, false_and, and_false, beq_t, beq_f, eqN_t, eqN_f, eqL_t, eqL_f, nm1, nm2, nm1', nm2', m1z, m2z, zm1, zm2, m12, m21, lg_cmp_ge, lg_cmp_le, lg_cmp_gt, lg_cmp_lt, lg_cmp_eq, oob, oobL, neg0, negL0, natle_f, or_false, false_or, true_or, or_true, or_self, cl, clL, le_t, le_f, lt_t, lt_f, leL_t, leL_f, ltL_t, ltL_f, leM_t, leM_f, ltM_t, ltM_f, leO_t, leO_f, cond_true, cond_false, Option.bind_some, Option.bind_none, if_false, if_true, nI_1, aL1, aL2, mL1, mL2, nI_add, pk_mul, pk_m1, sL1, dL1, pk_sub, m1p1, gIs_eq, gIs_k, gIs_i, gIs_n, gIs_e, gIJ, gIR, gJI, gJR, gJs_eq, gJs_k, gJs_n, gJs_e, gRI, gRJ, gRs_eq, gRs_k, gRs_i, gRs_n, gZI, gZJ, gZR, pI_s, pJ_s, pV_s, pR_s, pR_n, oR_n, oR_s, decide_true, decide_false, not_true_eq_false, not_false_eq_true, decT, decF, Bool.true_eq_false, Bool.false_eq_true, z01, o01, z1f, z1f', zz, oo, b2i_0, b2i_n, b2i_t, b2i_f, Bool.not_true, Bool.not_false]
              exact c4
            · rw [onN_ne q, onN_ne q, onN_ne q]
              simp (disch := omega) only [true_and, and_true, false_and, and_false, beq_t, beq_f, eqN_t, eqN_f, eqL_t, eqL_f, nm1, nm2, nm1', nm2', m1z, m2z, zm1, zm2, m12, m21, lg_cmp_ge, lg_cmp_le, lg_cmp_gt, lg_cmp_lt, lg_cmp_eq, oob, oobL, neg0, negL0, natle_f, or_false, false_or, true_or, or_true, or_self, cl, clL, le_t, le_f, lt_t, lt_f, leL_t, leL_f, ltL_t, ltL_f, leM_t, leM_f, ltM_t, ltM_f, leO_t, leO_f, cond_true, cond_false, Option.bind_some, Option.bind_none, if_false, if_true, nI_1, aL1, aL2, mL1, mL2, nI_add, pk_mul, pk_m1, sL1, dL1, pk_sub, m1p1, gIs_eq, gIs_k, gIs_i, gIs_n, gIs_e, gIJ, gIR, gJI, gJR, gJs_eq, gJs_k, gJs_n, gJs_e, gRI, gRJ, gRs_eq, gRs_k, gRs_i, gRs_n, gZI, gZJ, gZR, pI_s, pJ_s, pV_s, pR_s, pR_n, oR_n, oR_s, decide_true, decide_false, not_true_eq_false, not_false_eq_true, decT, decF, Bool.true_eq_false, Bool.false_eq_true, z01, o01, z1f, z1f', zz, oo, b2i_0, b2i_n, b2i_t, b2i_f, Bool.not_true, Bool.not_false]
              exact b3.2 k' hk'
        · have hb : burnS d s k = false := by
            unfold burnS
            rw [decF hl]
            simp
          simp (disch := omega) only [hl, true_and, and_true, false_and, and_false, beq_t, beq_f, eqN_t, eqN_f, eqL_t, eqL_f, nm1, nm2, nm1', nm2', m1z, m2z, zm1, zm2, m12, m21, lg_cmp_ge, lg_cmp_le, lg_cmp_gt, lg_cmp_lt, lg_cmp_eq, oob, oobL, neg0, negL0, natle_f, or_false, false_or, true_or, or_true, or_self, cl, clL, le_t, le_f, lt_t, lt_f, leL_t, leL_f, ltL_t, ltL_f, leM_t, leM_f, ltM_t, ltM_f, leO_t, leO_f, cond_true, cond_false, Option.bind_some, Option.bind_none, if_false, if_true, nI_1, aL1, aL2, mL1, mL2, nI_add, pk_mul, pk_m1, sL1, dL1, pk_sub, m1p1, gIs_eq, gIs_k, gIs_i, gIs_n, gIs_e, gIJ, gIR, gJI, gJR, gJs_eq, gJs_k, gJs_n, gJs_e, gRI, gRJ, gRs_eq, gRs_k, gRs_i, gRs_n, gZI, gZJ, gZR, pI_s, pJ_s, pV_s, pR_s, pR_n, oR_n, oR_s, decide_true, decide_false, not_true_eq_false, not_false_eq_true, decT, decF, Bool.true_eq_false, Bool.false_eq_true, z01, o01, z1f, z1f', zz, oo, b2i_0, b2i_n, b2i_t, b2i_f, Bool.not_true, Bool.not_false]
          refine ⟨_, _, rfl, by (repeat' (first | exact b1 | exact Fr.refl _ _ | refine Fr.sI ?_ ?_ | refine Fr.sR ?_ ?_ | refine Fr.sJ ?_ ?_ | (unfold PW; omega))), ?_, ?_, fun k' hk' => ?_⟩
          · rw [hbt, if_neg (by rw [hb]; exact Bool.false_ne_true), b2]
          · simp (disch := omega) only [true_and, and_true, false_and, and_false, beq_t, beq_f, eqN_t, eqN_f, eqL_t, eqL_f, nm1, nm2, nm1', nm2', m1z, m2z, zm1, zm2, m12, m21, lg_cmp_ge, lg_cmp_le, lg_cmp_gt, lg_cmp_lt, lg_cmp_eq, oob, oobL, neg0, negL0, natle_f, or_false, false_or, true_or, or_true, or_self, cl, clL, le_t, le_f, lt_t, lt_f, leL_t, leL_f, ltL_t, ltL_f, leM_t, leM_f, ltM_t, ltM_f, leO_t, leO_f, cond_true, cond_false, Option.bind_some, Option.bind_none, if_false, if_true, nI_1, aL1, aL2, mL1, mL2, nI_add, pk_mul, pk_m1, sL1, dL1, pk_sub, m1p1, gIs_eq, gIs_k, gIs_i, gIs_n, gIs_e, gIJ, gIR, gJI, gJR, gJs_eq, gJs_k, gJs_n, gJs_e, gRI, gRJ, gRs_eq, gRs_k, gRs_i, gRs_n, gZI, gZJ, gZR, pI_s, pJ_s, pV_s, pR_s, pR_n, oR_n, oR_s, decide_true, decide_false, not_true_eq_false, not_false_eq_true, decT, decF, Bool.true_eq_false, Bool.false_eq_true, z01, o01, z1f, z1f', zz, oo, b2i_0, b2i_n, b2i_t, b2i_f, Bool.not_true, Bool.not_false]
            exact b3.1
          · show _ = onN (k + 1) s.2.1 (wFull d s) k' ∧ _ = onN (k + 1) s.2.2.1 (wHeat d s) k' ∧ _ = onN (k + 1) s.2.2.2.1 (wPlace d s) k' ∧ _
            by_cases q : k' = k
            · subst q
              rw [onN_at, onN_at, onN_at]
              unfold wFull wHeat wPlace
              rw [hb]
              simp (disch := omega) only [c1, c3, true_and, and_true, false_and, and_false, beq_t, beq_f, eqN_t, eqN_f, eqL_t, eqL_f, nm1, nm2, nm1', nm2', m1z, m2z, zm1, zm2, m12, m21, lg_cmp_ge, lg_cmp_le, lg_cmp_gt, lg_cmp_lt, lg_cmp_eq, oob, oobL, neg0, negL0, natle_f, or_false, false_or, true_or, or_true, or_self, cl, clL, le_t, le_f, lt_t, lt_f, leL_t, leL_f, ltL_t, ltL_f, leM_t, leM_f, ltM_t, ltM_f, leO_t, leO_f, cond_true, cond_false, Option.bind_some, Option.bind_none, if_false, if_true, nI_1, aL1, aL2, mL1, mL2, nI_add, pk_mul, pk_m1, sL1, dL1, pk_sub, m1p1, gIs_eq, gIs_k, gIs_i, gIs_n, gIs_e, gIJ, gIR, gJI, gJR, gJs_eq, gJs_k, gJs_n, gJs_e, gRI, gRJ, gRs_eq, gRs_k, gRs_i, gRs_n, gZI, gZJ, gZR, pI_s, pJ_s, pV_s, pR_s, pR_n, oR_n, oR_s, decide_true, decide_false, not_true_eq_false, not_false_eq_true, decT, decF, Bool.true_eq_false, Bool.false_eq_true, z01, o01, z1f, z1f', zz, oo, b2i_0, b2i_n, b2i_t, b2i_f, Bool.not_true, Bool.not_false]
              refine ⟨?_, c4⟩
              by_cases hq : s.2.2.2.1 k' = -2
              · rw [decT hq, if_neg (burnt_v hD hS hk hq)]
                exact ((hS k' hk').2.2.2.2.1 hq).2.symm
              · rw [decF hq]
                rfl
            · rw [onN_ne q, onN_ne q, onN_ne q]
              simp (disch := omega) only [true_and, and_true, false_and, and_false, beq_t, beq_f, eqN_t, eqN_f, eqL_t, eqL_f, nm1, nm2, nm1', nm2', m1z, m2z, zm1, zm2, m12, m21, lg_cmp_ge, lg_cmp_le, lg_cmp_gt, lg_cmp_lt, lg_cmp_eq, oob, oobL, neg0, negL0, natle_f, or_false, false_or, true_or, or_true, or_self, cl, clL, le_t, le_f, lt_t, lt_f, leL_t, leL_f, ltL_t, ltL_f, leM_t, leM_f, ltM_t, ltM_f, leO_t, leO_f, cond_true, cond_false, Option.bind_some, Option.bind_none, if_false, if_true, nI_1, aL1, aL2, mL1, mL2, nI_add, pk_mul, pk_m1, sL1, dL1, pk_sub, m1p1, gIs_eq, gIs_k, gIs_i, gIs_n, gIs_e, gIJ, gIR, gJI, gJR, gJs_eq, gJs_k, gJs_n, gJs_e, gRI, gRJ, gRs_eq, gRs_k, gRs_i, gRs_n, gZI, gZJ, gZR, pI_s, pJ_s, pV_s, pR_s, pR_n, oR_n, oR_s, decide_true, decide_false, not_true_eq_false, not_false_eq_true, decT, decF, Bool.true_eq_false, Bool.false_eq_true, z01, o01, z1f, z1f', zz, oo, b2i_0, b2i_n, b2i_t, b2i_f, Bool.not_true, Bool.not_false]
              exact b3.2 k' hk'
      rw [e_X4_warm_4]
      simp (disch := omega) only [g1, g2, e_X4_warm_15, c3, true_and, and_true, false_and, and_false, beq_t, beq_f, eqN_t, eqN_f, eqL_t, eqL_f, nm1, nm2, nm1', nm2', m1z, m2z, zm1, zm2, m12, m21, lg_cmp_ge, lg_cmp_le, lg_cmp_gt, lg_cmp_lt, lg_cmp_eq, oob, oobL, neg0, negL0, natle_f, or_false, false_or, true_or, or_true, or_self, cl, clL, le_t, le_f, lt_t, lt_f, leL_t, leL_f, ltL_t, ltL_f, leM_t, leM_f, ltM_t, ltM_f, leO_t, leO_f, cond_true, cond_false, Option.bind_some, Option.bind_none, if_false, if_true, nI_1, aL1, aL2, mL1, mL2, nI_add, pk_mul, pk_m1, sL1, dL1, pk_sub, m1p1, gIs_eq, gIs_k, gIs_i, gIs_n, gIs_e, gIJ, gIR, gJI, gJR, gJs_eq, gJs_k, gJs_n, gJs_e, gRI, gRJ, gRs_eq, gRs_k, gRs_i, gRs_n, gZI, gZJ, gZR, pI_s, pJ_s, pV_s, pR_s, pR_n, oR_n, oR_s, decide_true, decide_false, not_true_eq_false, not_false_eq_true, decT, decF, Bool.true_eq_false, Bool.false_eq_true, z01, o01, z1f, z1f', zz, oo, b2i_0, b2i_n, b2i_t, b2i_f, Bool.not_true, Bool.not_false]
      by_cases hp : s.2.2.2.1 k < 0
      · simp (disch := omega) only [hp, e_X4_warm_38, g2, g3, true_and, and_true, false_and, and_false, beq_t, beq_f, eqN_t, eqN_f, eqL_t, eqL_f, nm1, nm2, nm1', nm2', m1z, m2z, zm1, zm2, m12, m21, lg_cmp_ge, lg_cmp_le, lg_cmp_gt, lg_cmp_lt, lg_cmp_eq, oob, oobL, neg0, negL0, natle_f, or_false, false_or, true_or, or_true, or_self, cl, clL, le_t, le_f, lt_t, lt_f, leL_t, leL_f, ltL_t, ltL_f, leM_t, leM_f, ltM_t, ltM_f, leO_t, leO_f, cond_true, cond_false, Option.bind_some, Option.bind_none, if_false, if_true, nI_1, aL1, aL2, mL1, mL2, nI_add, pk_mul, pk_m1, sL1, dL1, pk_sub, m1p1, gIs_eq, gIs_k, gIs_i, gIs_n, gIs_e, gIJ, gIR, gJI, gJR, gJs_eq, gJs_k, gJs_n, gJs_e, gRI, gRJ, gRs_eq, gRs_k, gRs_i, gRs_n, gZI, gZJ, gZR, pI_s, pJ_s, pV_s, pR_s, pR_n, oR_n, oR_s, decide_true, decide_false, not_true_eq_false, not_false_eq_true, decT, decF, Bool.true_eq_false, Bool.false_eq_true, z01, o01, z1f, z1f', zz, oo, b2i_0, b2i_n, b2i_t, b2i_f, Bool.not_true, Bool.not_false]
        rw [decT hp] at step
        exact step
      · simp (disch := omega) only [hp, e_X4_warm_24, g2, g3, true_and, and_true, false_and, and_false, beq_t, beq_f, eqN_t, eqN_f, eqL_t, eqL_f, nm1, nm2, nm1', nm2', m1z, m2z, zm1, zm2, m12, m21, lg_cmp_ge, lg_cmp_le, lg_cmp_gt, lg_cmp_lt, lg_cmp_eq, oob, oobL, neg0, negL0, natle_f, or_false, false_or, true_or, or_true, or_self, cl, clL, le_t, le_f, lt_t, lt_f, leL_t, leL_f, ltL_t, ltL_f, leM_t, leM_f, ltM_t, ltM_f, leO_t, leO_f, cond_true, cond_false, Option.bind_some, Option.bind_none, if_false, if_true, nI_1, aL1, aL2, mL1, mL2, nI_add, pk_mul, pk_m1, sL1, dL1, pk_sub, m1p1, gIs_eq, gIs_k, gIs_i, gIs_n, gIs_e, gIJ, gIR, gJI, gJR, gJs_eq, gJs_k, gJs_n, gJs_e, gRI, gRJ, gRs_eq, gRs_k, gRs_i, gRs_n, gZI, gZJ, gZR, pI_s, pJ_s, pV_s, pR_s, pR_n, oR_n, oR_s, decide_true, decide_false, not_true_eq_false, not_false_eq_true, decT, decF, Bool.true_eq_false, Bool.false_eq_true, z01, o01, z1f, z1f', zz, oo, b2i_0, b2i_n, b2i_t, b2i_f, Bool.not_true, Bool.not_false]
        rw [decF hp] at step
        exact step) (fun b v hi => by
      have g1 : gI v 1 jd 3 = nI (kn d) := by rw [(hi.1 1 jd 3 (by unfold PW; omega)).1, hd.1 3 (by omega)]; exact hD.1.1
      have g2 : gR v 3 0 0 = some jd := by rw [(hi.1 3 0 0 (by unfold PW; omega)).2.2.1]; exact hn
      ((try dsimp only); rw [e_X4_warm_4]; simp (disch := omega) only [g1, g2, e_X4_warm_127, true_and, and_true, false_and, and_false, beq_t, beq_f, eqN_t, eqN_f, eqL_t, eqL_f, nm1, nm2, nm1', nm2', m1z, m2z, zm1, zm2, m12, m21, lg_cmp_ge, lg_cmp_le, lg_cmp_gt, lg_cmp_lt, lg_cmp_eq, oob, oobL, neg0, negL0, natle_f, or_false, false_or, true_or, or_true, or_self, cl, clL, le_t, le_f, lt_t, lt_f, leL_t, leL_f, ltL_t, ltL_f, leM_t, leM_f, ltM_t, ltM_f, leO_t, leO_f, cond_true, cond_false, Option.bind_some, Option.bind_none, if_false, if_true, nI_1, aL1, aL2, mL1, mL2, nI_add, pk_mul, pk_m1, sL1, dL1, pk_sub, m1p1, gIs_eq, gIs_k, gIs_i, gIs_n, gIs_e, gIJ, gIR, gJI, gJR, gJs_eq, gJs_k, gJs_n, gJs_e, gRI, gRJ, gRs_eq, gRs_k, gRs_i, gRs_n, gZI, gZJ, gZR, pI_s, pJ_s, pV_s, pR_s, pR_n, oR_n, oR_s, decide_true, decide_false, not_true_eq_false, not_false_eq_true, decT, decF, Bool.true_eq_false, Bool.false_eq_true, z01, o01, z1f, z1f', zz, oo, b2i_0, b2i_n, b2i_t, b2i_f, Bool.not_true, Bool.not_false]))
  refine ⟨w1, ?_, a4, a2⟩
  rw [nI_0] at a1
  rw [f_X4_warm, e_X4_warm_0, a1, ← a3]
  rfl
def RoAt (w : XW) (jr : Option Nat) (r : Option Rl) : Prop := match jr, r with
  | none, none => True
  | some j, some rl => RlC w j rl ∧ ROk rl
  | _, _ => False
theorem RoAt.fr {P : Nat → Nat → Nat → Prop} {w w' : XW} {jr : Option Nat} {r : Option Rl} (h : RoAt w jr r) (hF : Fr P w w') (hP : ∀ κ j k, κ = 6 ∨ κ = 26 ∨ κ = 27 → ¬ P κ j k) : RoAt w' jr r := by
  match jr, r, h with
  | none, none, h => trivial
  | some j, some rl, h => exact ⟨h.1.fr hF (fun κ k q => hP κ _ k q), h.2⟩
def PP (i κ j k : Nat) : Prop := (κ = 3 ∧ 5 ≤ k) ∨ κ = 20 ∨ κ = 21 ∨ ((κ = 30 ∨ κ = 31 ∨ κ = 32) ∧ j = i) ∨ (κ = 8 ∧ j = i ∧ k = 1)
theorem p_X4_pass (d : Dl) (hD : DOk d) (i jd : Nat) (jr : Option Nat) (r : Option Rl) (ts : Ar) (s : Sc) (hS : SOk d s) (ht : ∀ p, p < pn d → In 9 (ts p)) (w : XW) (hd : DlAt w jd d) (hn : NtAt w jd jr ts) (hs : ScAt w i s) (h0 : gI w 8 i 0 = d.1 3) (hr : RoAt w jr r) :
    ∃ w', F_X4_pass [.inr (3, 0), .inr (8, i)] w = some (bitsS d r ts s, w') ∧ ScAt w' i (nightS d r ts s) ∧ Fr (PP i) w w' := by
  have h6 := hD.1.2
  have h5 := hD.2.1.2
  have hk0 : gI w 8 i 0 = nI (kn d) := h0.trans hD.1.1
  have hb1 := p_X9_homeBits i (kn d) h6 w hk0
  have e1 : bts (fun k => decide (gI w 32 i k = -1)) (kn d) = hmS d s.2.2.2.1 := bts_congr (fun k hk => by rw [(hs.2 k (by omega)).2.2.1])
  rw [e1] at hb1
  have hb2 := p_X9_burntBits i (kn d) h6 (sI w 3 0 5 (hmS d s.2.2.2.1)) (by simp (disch := omega) only [hk0, true_and, and_true, false_and, and_false, beq_t, beq_f, eqN_t, eqN_f, eqL_t, eqL_f, nm1, nm2, nm1', nm2', m1z, m2z, zm1, zm2, m12, m21, lg_cmp_ge, lg_cmp_le, lg_cmp_gt, lg_cmp_lt, lg_cmp_eq, oob, oobL, neg0, negL0, natle_f, or_false, false_or, true_or, or_true, or_self, cl, clL, le_t, le_f, lt_t, lt_f, leL_t, leL_f, ltL_t, ltL_f, leM_t, leM_f, ltM_t, ltM_f, leO_t, leO_f, cond_true, cond_false, Option.bind_some, Option.bind_none, if_false, if_true, nI_1, aL1, aL2, mL1, mL2, nI_add, pk_mul, pk_m1, sL1, dL1, pk_sub, m1p1, gIs_eq, gIs_k, gIs_i, gIs_n, gIs_e, gIJ, gIR, gJI, gJR, gJs_eq, gJs_k, gJs_n, gJs_e, gRI, gRJ, gRs_eq, gRs_k, gRs_i, gRs_n, gZI, gZJ, gZR, pI_s, pJ_s, pV_s, pR_s, pR_n, oR_n, oR_s, decide_true, decide_false, not_true_eq_false, not_false_eq_true, decT, decF, Bool.true_eq_false, Bool.false_eq_true, z01, o01, z1f, z1f', zz, oo, b2i_0, b2i_n, b2i_t, b2i_f, Bool.not_true, Bool.not_false])
  have e2 : bts (fun k => decide (gI (sI w 3 0 5 (hmS d s.2.2.2.1)) 32 i k = -2)) (kn d) = brS d s.2.2.2.1 := bts_congr (fun k hk => by simp (disch := omega) only [true_and, and_true, false_and, and_false, beq_t, beq_f, eqN_t, eqN_f, eqL_t, eqL_f, nm1, nm2, nm1', nm2', m1z, m2z, zm1, zm2, m12, m21, lg_cmp_ge, lg_cmp_le, lg_cmp_gt, lg_cmp_lt, lg_cmp_eq, oob, oobL, neg0, negL0, natle_f, or_false, false_or, true_or, or_true, or_self, cl, clL, le_t, le_f, lt_t, lt_f, leL_t, leL_f, ltL_t, ltL_f, leM_t, leM_f, ltM_t, ltM_f, leO_t, leO_f, cond_true, cond_false, Option.bind_some, Option.bind_none, if_false, if_true, nI_1, aL1, aL2, mL1, mL2, nI_add, pk_mul, pk_m1, sL1, dL1, pk_sub, m1p1, gIs_eq, gIs_k, gIs_i, gIs_n, gIs_e, gIJ, gIR, gJI, gJR, gJs_eq, gJs_k, gJs_n, gJs_e, gRI, gRJ, gRs_eq, gRs_k, gRs_i, gRs_n, gZI, gZJ, gZR, pI_s, pJ_s, pV_s, pR_s, pR_n, oR_n, oR_s, decide_true, decide_false, not_true_eq_false, not_false_eq_true, decT, decF, Bool.true_eq_false, Bool.false_eq_true, z01, o01, z1f, z1f', zz, oo, b2i_0, b2i_n, b2i_t, b2i_f, Bool.not_true, Bool.not_false]; rw [(hs.2 k (by omega)).2.2.1])
  rw [e2] at hb2
  have hw1 : Fr (PP i) w (sI (sI w 3 0 5 (hmS d s.2.2.2.1)) 3 0 6 (pcS (brS d s.2.2.2.1))) := by (repeat' (first | exact hs | exact Fr.refl _ _ | refine Fr.sI ?_ ?_ | refine Fr.sR ?_ ?_ | refine Fr.sJ ?_ ?_ | (unfold PP; omega)))
  have hh : HbAt (sI (sI w 3 0 5 (hmS d s.2.2.2.1)) 3 0 6 (pcS (brS d s.2.2.2.1))) d s.2.2.2.1 := by
    unfold HbAt
    simp (disch := omega) only [true_and, and_true, false_and, and_false, beq_t, beq_f, eqN_t, eqN_f, eqL_t, eqL_f, nm1, nm2, nm1', nm2', m1z, m2z, zm1, zm2, m12, m21, lg_cmp_ge, lg_cmp_le, lg_cmp_gt, lg_cmp_lt, lg_cmp_eq, oob, oobL, neg0, negL0, natle_f, or_false, false_or, true_or, or_true, or_self, cl, clL, le_t, le_f, lt_t, lt_f, leL_t, leL_f, ltL_t, ltL_f, leM_t, leM_f, ltM_t, ltM_f, leO_t, leO_f, cond_true, cond_false, Option.bind_some, Option.bind_none, if_false, if_true, nI_1, aL1, aL2, mL1, mL2, nI_add, pk_mul, pk_m1, sL1, dL1, pk_sub, m1p1, gIs_eq, gIs_k, gIs_i, gIs_n, gIs_e, gIJ, gIR, gJI, gJR, gJs_eq, gJs_k, gJs_n, gJs_e, gRI, gRJ, gRs_eq, gRs_k, gRs_i, gRs_n, gZI, gZJ, gZR, pI_s, pJ_s, pV_s, pR_s, pR_n, oR_n, oR_s, decide_true, decide_false, not_true_eq_false, not_false_eq_true, decT, decF, Bool.true_eq_false, Bool.false_eq_true, z01, o01, z1f, z1f', zz, oo, b2i_0, b2i_n, b2i_t, b2i_f, Bool.not_true, Bool.not_false]
  generalize hv1 : sI (sI w 3 0 5 (hmS d s.2.2.2.1)) 3 0 6 (pcS (brS d s.2.2.2.1)) = w1 at hw1 hh
  have hc1 : Ctx w1 i jd d jr ts s := by
    rw [← hv1]
    have hF : Fr (fun κ j k => κ = 3 ∧ 5 ≤ k) w (sI (sI w 3 0 5 (hmS d s.2.2.2.1)) 3 0 6 (pcS (brS d s.2.2.2.1))) := by
      refine Fr.sI (Fr.sI (Fr.refl _ _) ?_) ?_ <;> exact ⟨rfl, by omega⟩
    exact ⟨hd.fr hF (fun κ k q => by omega), hn.fr hF (fun κ k q => by omega), hs.fr hF (fun κ k q => by omega), by rw [hv1]; exact hh⟩
  have hr1 : RoAt w1 jr r := hr.fr hw1 (fun κ j k q => by unfold PP; omega)
  have ec : ∀ v s', Fr (PB i) w1 v → ScAt v i s' → s'.2.2 = s.2.2 → Ctx v i jd d jr ts s' := fun v s' hF hs' h22 =>
    ⟨hc1.1.fr hF (fun κ k q => by unfold PB; omega), hc1.2.1.fr hF (fun κ k q => by unfold PB; omega), hs', by rw [h22]; exact hc1.2.2.2.fr hF (fun κ k q => by unfold PB; omega)⟩
  obtain ⟨w2, a1, a2, a3⟩ := loop0 (pn d) (fun k v => q_X4_pass_30 i (nI k) v) (fun v => q_X4_pass_117 i v) (fun k v => Fr (PB i) w1 v ∧ ScAt v i (itr (tellS d r ts) 0 k s)) (s := w1) ⟨Fr.refl _ _, hc1.2.2.1⟩ (fun k v hk hi => by
      obtain ⟨b1, b2⟩ := hi
      have hcv := ec v _ b1 b2 (tells_rest k).2
      have hSv := hS.tells hD ht k (r := r) (by omega)
      have hrest := (tells_rest (d := d) (r := r) (ts := ts) (s := s) k).2
      rw [itr_succ, Nat.zero_add]
      generalize itr (tellS d r ts) 0 k s = s' at b2 hcv hSv hrest ⊢
      obtain ⟨o1, o2, _⟩ := hD.2.2.2.1 k hk
      have g1 : gI v 1 jd 4 = nI (pn d) := by rw [hcv.1.1 4 (by omega)]; exact hD.2.1.1
      have g2 := hcv.2.1.1
      have g3 : gI v 16 jd k = nI (own d k) := by rw [(hcv.1.2.2.1 k (by omega)).1]; exact o1
      have g4 := hcv.2.2.2.1
      have hbit := bts_bit (fun k => decide (s'.2.2.2.1 k = -1)) h6 o2
      rw [show bts (fun k => decide (s'.2.2.2.1 k = -1)) (kn d) = hmS d s'.2.2.2.1 from rfl] at hbit
      have pass : ∀ u, Fr (PB i) w1 u → ScAt u i s' → toldS d r ts s' k = true → s'.2.2.2.1 (own d k) = -1 → ∃ x, q_X4_pass_80 i (nI k) (nI (own d k)) u = q_X4_pass_30 i (nI (k + 1)) x ∧ Fr (PB i) w1 x ∧ ScAt x i (tellS d r ts k s') := fun u hFu hsu htl hpl => by
        have hcu := ec u s' hFu hsu hrest
        have x1 := hcu.2.1.1
        have x2 := (hsu.2 (own d k) (by omega)).1
        have x3 := hcu.2.1.2.2 k (by omega)
        have x4 := (hcu.1.2.1 (own d k) (by omega)).1
        rw [e_X4_pass_80]
        simp (disch := omega) only [x1, x2, x3, x4, e_X4_pass_111, true_and, and_true, false_and, and_false, beq_t, beq_f, eqN_t, eqN_f, eqL_t, eqL_f, nm1, nm2, nm1', nm2', m1z, m2z, zm1, zm2, m12, m21, lg_cmp_ge, lg_cmp_le, lg_cmp_gt, lg_cmp_lt, lg_cmp_eq, oob, oobL, neg0, negL0, natle_f, or_false, false_or, true_or, or_true, or_self, cl, clL, le_t, le_f, lt_t, lt_f, leL_t, leL_f, ltL_t, ltL_f, leM_t, leM_f, ltM_t, ltM_f, leO_t, leO_f, cond_true, cond_false, Option.bind_some, Option.bind_none, if_false, if_true, nI_1, aL1, aL2, mL1, mL2, nI_add, pk_mul, pk_m1, sL1, dL1, pk_sub, m1p1, gIs_eq, gIs_k, gIs_i, gIs_n, gIs_e, gIJ, gIR, gJI, gJR, gJs_eq, gJs_k, gJs_n, gJs_e, gRI, gRJ, gRs_eq, gRs_k, gRs_i, gRs_n, gZI, gZJ, gZR, pI_s, pJ_s, pV_s, pR_s, pR_n, oR_n, oR_s, decide_true, decide_false, not_true_eq_false, not_false_eq_true, decT, decF, Bool.true_eq_false, Bool.false_eq_true, z01, o01, z1f, z1f', zz, oo, b2i_0, b2i_n, b2i_t, b2i_f, Bool.not_true, Bool.not_false]
        have et : tellS d r ts k s' = setF s' (own d k) (fillS (d.2.1 (own d k)) (s'.2.1 (own d k) + ts k)) := by
          unfold tellS
          rw [decT hpl, htl]
          rfl
        refine ⟨_, rfl, by (repeat' (first | exact hFu | exact Fr.refl _ _ | refine Fr.sI ?_ ?_ | refine Fr.sR ?_ ?_ | refine Fr.sJ ?_ ?_ | (unfold PB; omega))), ?_⟩
        rw [et]
        refine ⟨?_, fun k' hk' => ?_⟩
        · simp (disch := omega) only [true_and, and_true, false_and, and_false, beq_t, beq_f, eqN_t, eqN_f, eqL_t, eqL_f, nm1, nm2, nm1', nm2', m1z, m2z, zm1, zm2, m12, m21, lg_cmp_ge, lg_cmp_le, lg_cmp_gt, lg_cmp_lt, lg_cmp_eq, oob, oobL, neg0, negL0, natle_f, or_false, false_or, true_or, or_true, or_self, cl, clL, le_t, le_f, lt_t, lt_f, leL_t, leL_f, ltL_t, ltL_f, leM_t, leM_f, ltM_t, ltM_f, leO_t, leO_f, cond_true, cond_false, Option.bind_some, Option.bind_none, if_false, if_true, nI_1, aL1, aL2, mL1, mL2, nI_add, pk_mul, pk_m1, sL1, dL1, pk_sub, m1p1, gIs_eq, gIs_k, gIs_i, gIs_n, gIs_e, gIJ, gIR, gJI, gJR, gJs_eq, gJs_k, gJs_n, gJs_e, gRI, gRJ, gRs_eq, gRs_k, gRs_i, gRs_n, gZI, gZJ, gZR, pI_s, pJ_s, pV_s, pR_s, pR_n, oR_n, oR_s, decide_true, decide_false, not_true_eq_false, not_false_eq_true, decT, decF, Bool.true_eq_false, Bool.false_eq_true, z01, o01, z1f, z1f', zz, oo, b2i_0, b2i_n, b2i_t, b2i_f, Bool.not_true, Bool.not_false]
          exact hsu.1
        · show _ = upd s'.2.1 (own d k) _ k' ∧ _
          by_cases q : k' = own d k
          · subst q
            rw [pk_us]
            simp (disch := omega) only [true_and, and_true, false_and, and_false, beq_t, beq_f, eqN_t, eqN_f, eqL_t, eqL_f, nm1, nm2, nm1', nm2', m1z, m2z, zm1, zm2, m12, m21, lg_cmp_ge, lg_cmp_le, lg_cmp_gt, lg_cmp_lt, lg_cmp_eq, oob, oobL, neg0, negL0, natle_f, or_false, false_or, true_or, or_true, or_self, cl, clL, le_t, le_f, lt_t, lt_f, leL_t, leL_f, ltL_t, ltL_f, leM_t, leM_f, ltM_t, ltM_f, leO_t, leO_f, cond_true, cond_false, Option.bind_some, Option.bind_none, if_false, if_true, nI_1, aL1, aL2, mL1, mL2, nI_add, pk_mul, pk_m1, sL1, dL1, pk_sub, m1p1, gIs_eq, gIs_k, gIs_i, gIs_n, gIs_e, gIJ, gIR, gJI, gJR, gJs_eq, gJs_k, gJs_n, gJs_e, gRI, gRJ, gRs_eq, gRs_k, gRs_i, gRs_n, gZI, gZJ, gZR, pI_s, pJ_s, pV_s, pR_s, pR_n, oR_n, oR_s, decide_true, decide_false, not_true_eq_false, not_false_eq_true, decT, decF, Bool.true_eq_false, Bool.false_eq_true, z01, o01, z1f, z1f', zz, oo, b2i_0, b2i_n, b2i_t, b2i_f, Bool.not_true, Bool.not_false]
            exact ⟨rfl, (hsu.2 (own d k) hk').2⟩
          · rw [pk_un q]
            simp (disch := omega) only [true_and, and_true, false_and, and_false, beq_t, beq_f, eqN_t, eqN_f, eqL_t, eqL_f, nm1, nm2, nm1', nm2', m1z, m2z, zm1, zm2, m12, m21, lg_cmp_ge, lg_cmp_le, lg_cmp_gt, lg_cmp_lt, lg_cmp_eq, oob, oobL, neg0, negL0, natle_f, or_false, false_or, true_or, or_true, or_self, cl, clL, le_t, le_f, lt_t, lt_f, leL_t, leL_f, ltL_t, ltL_f, leM_t, leM_f, ltM_t, ltM_f, leO_t, leO_f, cond_true, cond_false, Option.bind_some, Option.bind_none, if_false, if_true, nI_1, aL1, aL2, mL1, mL2, nI_add, pk_mul, pk_m1, sL1, dL1, pk_sub, m1p1, gIs_eq, gIs_k, gIs_i, gIs_n, gIs_e, gIJ, gIR, gJI, gJR, gJs_eq, gJs_k, gJs_n, gJs_e, gRI, gRJ, gRs_eq, gRs_k, gRs_i, gRs_n, gZI, gZJ, gZR, pI_s, pJ_s, pV_s, pR_s, pR_n, oR_n, oR_s, decide_true, decide_false, not_true_eq_false, not_false_eq_true, decT, decF, Bool.true_eq_false, Bool.false_eq_true, z01, o01, z1f, z1f', zz, oo, b2i_0, b2i_n, b2i_t, b2i_f, Bool.not_true, Bool.not_false]
            exact hsu.2 k' hk'
      have skip : ∀ u, Fr (PB i) w1 u → ScAt u i s' → (decide (s'.2.2.2.1 (own d k) = -1) && toldS d r ts s' k) = false → ∃ x, q_X4_pass_111 i (nI k) u = q_X4_pass_30 i (nI (k + 1)) x ∧ Fr (PB i) w1 x ∧ ScAt x i (tellS d r ts k s') := fun u hFu hsu htl => by
        have et : tellS d r ts k s' = s' := by
          unfold tellS
          rw [htl]
          rfl
        rw [et, e_X4_pass_111, nI_1]
        exact ⟨u, rfl, hFu, hsu⟩
      rw [e_X4_pass_30]
      simp (disch := omega) only [g2, g1, e_X4_pass_41, g3, g4, true_and, and_true, false_and, and_false, beq_t, beq_f, eqN_t, eqN_f, eqL_t, eqL_f, nm1, nm2, nm1', nm2', m1z, m2z, zm1, zm2, m12, m21, lg_cmp_ge, lg_cmp_le, lg_cmp_gt, lg_cmp_lt, lg_cmp_eq, oob, oobL, neg0, negL0, natle_f, or_false, false_or, true_or, or_true, or_self, cl, clL, le_t, le_f, lt_t, lt_f, leL_t, leL_f, ltL_t, ltL_f, leM_t, leM_f, ltM_t, ltM_f, leO_t, leO_f, cond_true, cond_false, Option.bind_some, Option.bind_none, if_false, if_true, nI_1, aL1, aL2, mL1, mL2, nI_add, pk_mul, pk_m1, sL1, dL1, pk_sub, m1p1, gIs_eq, gIs_k, gIs_i, gIs_n, gIs_e, gIJ, gIR, gJI, gJR, gJs_eq, gJs_k, gJs_n, gJs_e, gRI, gRJ, gRs_eq, gRs_k, gRs_i, gRs_n, gZI, gZJ, gZR, pI_s, pJ_s, pV_s, pR_s, pR_n, oR_n, oR_s, decide_true, decide_false, not_true_eq_false, not_false_eq_true, decT, decF, Bool.true_eq_false, Bool.false_eq_true, z01, o01, z1f, z1f', zz, oo, b2i_0, b2i_n, b2i_t, b2i_f, Bool.not_true, Bool.not_false]
      rw [hbit]
      by_cases hpl : s'.2.2.2.1 (own d k) = -1
      · simp (disch := omega) only [hpl, e_X4_pass_62, true_and, and_true, false_and, and_false, beq_t, beq_f, eqN_t, eqN_f, eqL_t, eqL_f, nm1, nm2, nm1', nm2', m1z, m2z, zm1, zm2, m12, m21, lg_cmp_ge, lg_cmp_le, lg_cmp_gt, lg_cmp_lt, lg_cmp_eq, oob, oobL, neg0, negL0, natle_f, or_false, false_or, true_or, or_true, or_self, cl, clL, le_t, le_f, lt_t, lt_f, leL_t, leL_f, ltL_t, ltL_f, leM_t, leM_f, ltM_t, ltM_f, leO_t, leO_f, cond_true, cond_false, Option.bind_some, Option.bind_none, if_false, if_true, nI_1, aL1, aL2, mL1, mL2, nI_add, pk_mul, pk_m1, sL1, dL1, pk_sub, m1p1, gIs_eq, gIs_k, gIs_i, gIs_n, gIs_e, gIJ, gIR, gJI, gJR, gJs_eq, gJs_k, gJs_n, gJs_e, gRI, gRJ, gRs_eq, gRs_k, gRs_i, gRs_n, gZI, gZJ, gZR, pI_s, pJ_s, pV_s, pR_s, pR_n, oR_n, oR_s, decide_true, decide_false, not_true_eq_false, not_false_eq_true, decT, decF, Bool.true_eq_false, Bool.false_eq_true, z01, o01, z1f, z1f', zz, oo, b2i_0, b2i_n, b2i_t, b2i_f, Bool.not_true, Bool.not_false]
        have hrv := hr1.fr b1 (fun κ j k q => by unfold PB; omega)
        match jr, r, hrv, hcv, pass, skip with
        | none, none, hrv, hcv, pass, skip =>
          have x5 := hcv.2.1.2.1
          simp (disch := omega) only [x5, Option.isNone_none, true_and, and_true, false_and, and_false, beq_t, beq_f, eqN_t, eqN_f, eqL_t, eqL_f, nm1, nm2, nm1', nm2', m1z, m2z, zm1, zm2, m12, m21, lg_cmp_ge, lg_cmp_le, lg_cmp_gt, lg_cmp_lt, lg_cmp_eq, oob, oobL, neg0, negL0, natle_f, or_false, false_or, true_or, or_true, or_self, cl, clL, le_t, le_f, lt_t, lt_f, leL_t, leL_f, ltL_t, ltL_f, leM_t, leM_f, ltM_t, ltM_f, leO_t, leO_f, cond_true, cond_false, Option.bind_some, Option.bind_none, if_false, if_true, nI_1, aL1, aL2, mL1, mL2, nI_add, pk_mul, pk_m1, sL1, dL1, pk_sub, m1p1, gIs_eq, gIs_k, gIs_i, gIs_n, gIs_e, gIJ, gIR, gJI, gJR, gJs_eq, gJs_k, gJs_n, gJs_e, gRI, gRJ, gRs_eq, gRs_k, gRs_i, gRs_n, gZI, gZJ, gZR, pI_s, pJ_s, pV_s, pR_s, pR_n, oR_n, oR_s, decide_true, decide_false, not_true_eq_false, not_false_eq_true, decT, decF, Bool.true_eq_false, Bool.false_eq_true, z01, o01, z1f, z1f', zz, oo, b2i_0, b2i_n, b2i_t, b2i_f, Bool.not_true, Bool.not_false]
          exact pass v b1 b2 rfl hpl
        | some j, some rl, hrv, hcv, pass, skip =>
          have x5 := hcv.2.1.2.1
          obtain ⟨u, y1, y2⟩ := p_X4_sumFor d hD i jd k j ts s' hk rl hrv.2 v hcv hrv.1
          have hFu : Fr (PB i) w1 u := b1.trans (y2.mono (fun κ i k q => by unfold P21 at q; unfold  PB; omega))
          have hsu := b2.fr y2 (fun κ k q => by unfold P21; omega)
          simp (disch := omega) only [x5, Option.isNone_some, e_X4_pass_69, y1, true_and, and_true, false_and, and_false, beq_t, beq_f, eqN_t, eqN_f, eqL_t, eqL_f, nm1, nm2, nm1', nm2', m1z, m2z, zm1, zm2, m12, m21, lg_cmp_ge, lg_cmp_le, lg_cmp_gt, lg_cmp_lt, lg_cmp_eq, oob, oobL, neg0, negL0, natle_f, or_false, false_or, true_or, or_true, or_self, cl, clL, le_t, le_f, lt_t, lt_f, leL_t, leL_f, ltL_t, ltL_f, leM_t, leM_f, ltM_t, ltM_f, leO_t, leO_f, cond_true, cond_false, Option.bind_some, Option.bind_none, if_false, if_true, nI_1, aL1, aL2, mL1, mL2, nI_add, pk_mul, pk_m1, sL1, dL1, pk_sub, m1p1, gIs_eq, gIs_k, gIs_i, gIs_n, gIs_e, gIJ, gIR, gJI, gJR, gJs_eq, gJs_k, gJs_n, gJs_e, gRI, gRJ, gRs_eq, gRs_k, gRs_i, gRs_n, gZI, gZJ, gZR, pI_s, pJ_s, pV_s, pR_s, pR_n, oR_n, oR_s, decide_true, decide_false, not_true_eq_false, not_false_eq_true, decT, decF, Bool.true_eq_false, Bool.false_eq_true, z01, o01, z1f, z1f', zz, oo, b2i_0, b2i_n, b2i_t, b2i_f, Bool.not_true, Bool.not_false]
          by_cases hle : sumS (wdS d ts s' k) rl ≤ 0
          · simp (disch := omega) only [hle, true_and, and_true, false_and, and_false, beq_t, beq_f, eqN_t, eqN_f, eqL_t, eqL_f, nm1, nm2, nm1', nm2', m1z, m2z, zm1, zm2, m12, m21, lg_cmp_ge, lg_cmp_le, lg_cmp_gt, lg_cmp_lt, lg_cmp_eq, oob, oobL, neg0, negL0, natle_f, or_false, false_or, true_or, or_true, or_self, cl, clL, le_t, le_f, lt_t, lt_f, leL_t, leL_f, ltL_t, ltL_f, leM_t, leM_f, ltM_t, ltM_f, leO_t, leO_f, cond_true, cond_false, Option.bind_some, Option.bind_none, if_false, if_true, nI_1, aL1, aL2, mL1, mL2, nI_add, pk_mul, pk_m1, sL1, dL1, pk_sub, m1p1, gIs_eq, gIs_k, gIs_i, gIs_n, gIs_e, gIJ, gIR, gJI, gJR, gJs_eq, gJs_k, gJs_n, gJs_e, gRI, gRJ, gRs_eq, gRs_k, gRs_i, gRs_n, gZI, gZJ, gZR, pI_s, pJ_s, pV_s, pR_s, pR_n, oR_n, oR_s, decide_true, decide_false, not_true_eq_false, not_false_eq_true, decT, decF, Bool.true_eq_false, Bool.false_eq_true, z01, o01, z1f, z1f', zz, oo, b2i_0, b2i_n, b2i_t, b2i_f, Bool.not_true, Bool.not_false]
            refine skip u hFu hsu ?_
            show (_ && decide (0 < sumS (wdS d ts s' k) rl)) = false
            rw [decF (lg_le_not_lt hle), Bool.and_false]
          · simp (disch := omega) only [hle, true_and, and_true, false_and, and_false, beq_t, beq_f, eqN_t, eqN_f, eqL_t, eqL_f, nm1, nm2, nm1', nm2', m1z, m2z, zm1, zm2, m12, m21, lg_cmp_ge, lg_cmp_le, lg_cmp_gt, lg_cmp_lt, lg_cmp_eq, oob, oobL, neg0, negL0, natle_f, or_false, false_or, true_or, or_true, or_self, cl, clL, le_t, le_f, lt_t, lt_f, leL_t, leL_f, ltL_t, ltL_f, leM_t, leM_f, ltM_t, ltM_f, leO_t, leO_f, cond_true, cond_false, Option.bind_some, Option.bind_none, if_false, if_true, nI_1, aL1, aL2, mL1, mL2, nI_add, pk_mul, pk_m1, sL1, dL1, pk_sub, m1p1, gIs_eq, gIs_k, gIs_i, gIs_n, gIs_e, gIJ, gIR, gJI, gJR, gJs_eq, gJs_k, gJs_n, gJs_e, gRI, gRJ, gRs_eq, gRs_k, gRs_i, gRs_n, gZI, gZJ, gZR, pI_s, pJ_s, pV_s, pR_s, pR_n, oR_n, oR_s, decide_true, decide_false, not_true_eq_false, not_false_eq_true, decT, decF, Bool.true_eq_false, Bool.false_eq_true, z01, o01, z1f, z1f', zz, oo, b2i_0, b2i_n, b2i_t, b2i_f, Bool.not_true, Bool.not_false]
            refine pass u hFu hsu ?_ hpl
            show decide (0 < sumS (wdS d ts s' k) rl) = true
            rw [le64'] at hle
            exact decT hle
      · simp (disch := omega) only [hpl, true_and, and_true, false_and, and_false, beq_t, beq_f, eqN_t, eqN_f, eqL_t, eqL_f, nm1, nm2, nm1', nm2', m1z, m2z, zm1, zm2, m12, m21, lg_cmp_ge, lg_cmp_le, lg_cmp_gt, lg_cmp_lt, lg_cmp_eq, oob, oobL, neg0, negL0, natle_f, or_false, false_or, true_or, or_true, or_self, cl, clL, le_t, le_f, lt_t, lt_f, leL_t, leL_f, ltL_t, ltL_f, leM_t, leM_f, ltM_t, ltM_f, leO_t, leO_f, cond_true, cond_false, Option.bind_some, Option.bind_none, if_false, if_true, nI_1, aL1, aL2, mL1, mL2, nI_add, pk_mul, pk_m1, sL1, dL1, pk_sub, m1p1, gIs_eq, gIs_k, gIs_i, gIs_n, gIs_e, gIJ, gIR, gJI, gJR, gJs_eq, gJs_k, gJs_n, gJs_e, gRI, gRJ, gRs_eq, gRs_k, gRs_i, gRs_n, gZI, gZJ, gZR, pI_s, pJ_s, pV_s, pR_s, pR_n, oR_n, oR_s, decide_true, decide_false, not_true_eq_false, not_false_eq_true, decT, decF, Bool.true_eq_false, Bool.false_eq_true, z01, o01, z1f, z1f', zz, oo, b2i_0, b2i_n, b2i_t, b2i_f, Bool.not_true, Bool.not_false]
        exact skip v b1 b2 (by rw [decF hpl]; rfl)) (fun v hi => by
      obtain ⟨b1, b2⟩ := hi
      have hcv := ec v _ b1 b2 (tells_rest (pn d)).2
      have g1 : gI v 1 jd 4 = nI (pn d) := by rw [hcv.1.1 4 (by omega)]; exact hD.2.1.1
      have g2 := hcv.2.1.1
      ((try dsimp only); rw [e_X4_pass_30]; simp (disch := omega) only [g2, g1, true_and, and_true, false_and, and_false, beq_t, beq_f, eqN_t, eqN_f, eqL_t, eqL_f, nm1, nm2, nm1', nm2', m1z, m2z, zm1, zm2, m12, m21, lg_cmp_ge, lg_cmp_le, lg_cmp_gt, lg_cmp_lt, lg_cmp_eq, oob, oobL, neg0, negL0, natle_f, or_false, false_or, true_or, or_true, or_self, cl, clL, le_t, le_f, lt_t, lt_f, leL_t, leL_f, ltL_t, ltL_f, leM_t, leM_f, ltM_t, ltM_f, leO_t, leO_f, cond_true, cond_false, Option.bind_some, Option.bind_none, if_false, if_true, nI_1, aL1, aL2, mL1, mL2, nI_add, pk_mul, pk_m1, sL1, dL1, pk_sub, m1p1, gIs_eq, gIs_k, gIs_i, gIs_n, gIs_e, gIJ, gIR, gJI, gJR, gJs_eq, gJs_k, gJs_n, gJs_e, gRI, gRJ, gRs_eq, gRs_k, gRs_i, gRs_n, gZI, gZJ, gZR, pI_s, pJ_s, pV_s, pR_s, pR_n, oR_n, oR_s, decide_true, decide_false, not_true_eq_false, not_false_eq_true, decT, decF, Bool.true_eq_false, Bool.false_eq_true, z01, o01, z1f, z1f', zz, oo, b2i_0, b2i_n, b2i_t, b2i_f, Bool.not_true, Bool.not_false]))
  have hc2 := ec w2 _ a2 a3 (tells_rest (pn d)).2
  obtain ⟨w3, c1, c2, c3⟩ := p_X4_overhear d hD i jd jr ts (tellsS d r ts s) (hS.tells hD ht _ (Nat.le_refl _)) w2 hc2
  have f3 : Fr (PB i) w1 w3 := a2.trans (c3.mono (fun κ j k q => by unfold P30 at q; unfold PB; omega))
  have f4 : Fr (PB i) w1 (sI w3 8 i 1 ((gI w3 8 i 1) + 1)) := by (repeat' (first | exact f3 | exact Fr.refl _ _ | refine Fr.sI ?_ ?_ | refine Fr.sR ?_ ?_ | refine Fr.sJ ?_ ?_ | (unfold PB; omega)))
  have hs4 : ScAt (sI w3 8 i 1 ((gI w3 8 i 1) + 1)) i (lateS (evenS d r ts s)) := by
    refine ⟨?_, fun k hk => ?_⟩
    · simp (disch := omega) only [true_and, and_true, false_and, and_false, beq_t, beq_f, eqN_t, eqN_f, eqL_t, eqL_f, nm1, nm2, nm1', nm2', m1z, m2z, zm1, zm2, m12, m21, lg_cmp_ge, lg_cmp_le, lg_cmp_gt, lg_cmp_lt, lg_cmp_eq, oob, oobL, neg0, negL0, natle_f, or_false, false_or, true_or, or_true, or_self, cl, clL, le_t, le_f, lt_t, lt_f, leL_t, leL_f, ltL_t, ltL_f, leM_t, leM_f, ltM_t, ltM_f, leO_t, leO_f, cond_true, cond_false, Option.bind_some, Option.bind_none, if_false, if_true, nI_1, aL1, aL2, mL1, mL2, nI_add, pk_mul, pk_m1, sL1, dL1, pk_sub, m1p1, gIs_eq, gIs_k, gIs_i, gIs_n, gIs_e, gIJ, gIR, gJI, gJR, gJs_eq, gJs_k, gJs_n, gJs_e, gRI, gRJ, gRs_eq, gRs_k, gRs_i, gRs_n, gZI, gZJ, gZR, pI_s, pJ_s, pV_s, pR_s, pR_n, oR_n, oR_s, decide_true, decide_false, not_true_eq_false, not_false_eq_true, decT, decF, Bool.true_eq_false, Bool.false_eq_true, z01, o01, z1f, z1f', zz, oo, b2i_0, b2i_n, b2i_t, b2i_f, Bool.not_true, Bool.not_false]
      rw [c2.1]
      rfl
    · simp (disch := omega) only [true_and, and_true, false_and, and_false, beq_t, beq_f, eqN_t, eqN_f, eqL_t, eqL_f, nm1, nm2, nm1', nm2', m1z, m2z, zm1, zm2, m12, m21, lg_cmp_ge, lg_cmp_le, lg_cmp_gt, lg_cmp_lt, lg_cmp_eq, oob, oobL, neg0, negL0, natle_f, or_false, false_or, true_or, or_true, or_self, cl, clL, le_t, le_f, lt_t, lt_f, leL_t, leL_f, ltL_t, ltL_f, leM_t, leM_f, ltM_t, ltM_f, leO_t, leO_f, cond_true, cond_false, Option.bind_some, Option.bind_none, if_false, if_true, nI_1, aL1, aL2, mL1, mL2, nI_add, pk_mul, pk_m1, sL1, dL1, pk_sub, m1p1, gIs_eq, gIs_k, gIs_i, gIs_n, gIs_e, gIJ, gIR, gJI, gJR, gJs_eq, gJs_k, gJs_n, gJs_e, gRI, gRJ, gRs_eq, gRs_k, gRs_i, gRs_n, gZI, gZJ, gZR, pI_s, pJ_s, pV_s, pR_s, pR_n, oR_n, oR_s, decide_true, decide_false, not_true_eq_false, not_false_eq_true, decT, decF, Bool.true_eq_false, Bool.false_eq_true, z01, o01, z1f, z1f', zz, oo, b2i_0, b2i_n, b2i_t, b2i_f, Bool.not_true, Bool.not_false]
      exact c2.2 k hk
  obtain ⟨w5, x1, x2, x3⟩ := p_X4_warm d hD i jd (lateS (evenS d r ts s)) (SOk.even hD ht hS) _ (hc1.1.fr f4 (fun κ k q => by unfold PB; omega)) (by rw [(f4 3 0 0 (by unfold PB; omega)).2.2.1]; exact hc1.2.1.1) hs4
  refine ⟨w5, ?_, x2, ?_⟩
  · rw [nI_0] at a1
    rw [f_X4_pass, e_X4_pass_0]
    simp (disch := omega) only [hn.1, Option.isNone_some, e_X4_pass_9, hb1, hb2, p_bitCount, hv1, a1, e_X4_pass_117, c1, x1, true_and, and_true, false_and, and_false, beq_t, beq_f, eqN_t, eqN_f, eqL_t, eqL_f, nm1, nm2, nm1', nm2', m1z, m2z, zm1, zm2, m12, m21, lg_cmp_ge, lg_cmp_le, lg_cmp_gt, lg_cmp_lt, lg_cmp_eq, oob, oobL, neg0, negL0, natle_f, or_false, false_or, true_or, or_true, or_self, cl, clL, le_t, le_f, lt_t, lt_f, leL_t, leL_f, ltL_t, ltL_f, leM_t, leM_f, ltM_t, ltM_f, leO_t, leO_f, cond_true, cond_false, Option.bind_some, Option.bind_none, if_false, if_true, nI_1, aL1, aL2, mL1, mL2, nI_add, pk_mul, pk_m1, sL1, dL1, pk_sub, m1p1, gIs_eq, gIs_k, gIs_i, gIs_n, gIs_e, gIJ, gIR, gJI, gJR, gJs_eq, gJs_k, gJs_n, gJs_e, gRI, gRJ, gRs_eq, gRs_k, gRs_i, gRs_n, gZI, gZJ, gZR, pI_s, pJ_s, pV_s, pR_s, pR_n, oR_n, oR_s, decide_true, decide_false, not_true_eq_false, not_false_eq_true, decT, decF, Bool.true_eq_false, Bool.false_eq_true, z01, o01, z1f, z1f', zz, oo, b2i_0, b2i_n, b2i_t, b2i_f, Bool.not_true, Bool.not_false]
    rfl
  · exact (hw1.trans (f4.mono (fun κ i k q => by unfold PB at q; unfold  PP; omega))).trans (x3.mono (fun κ i k q => by unfold PW at q; unfold  PP; omega))
