/-! ===== look: rows of both, the keep that parts best ===== -/
theorem cnt_mono {P Q : Nat → Bool} (h : ∀ j, P j = true → Q j = true) : ∀ (m : Nat), cnt P 0 m ≤ cnt Q 0 m := by
  intro m
  induction m with
  | zero => exact Nat.le_refl _
  | succ m ih =>
    rw [cnt_up, cnt_up, Nat.zero_add]
    by_cases hp : P m = true
    · rw [if_pos hp, if_pos (h m hp)]; omega
    · rw [if_neg hp]; omega
theorem cnt_pos {P : Nat → Bool} {t : Nat} (ht : P t = true) : ∀ (m : Nat), t < m → 1 ≤ cnt P 0 m := by
  intro m
  induction m with
  | zero => intro h; omega
  | succ m ih =>
    intro h
    rw [cnt_up, Nat.zero_add]
    by_cases e : t = m
    · rw [← e, if_pos ht]; omega
    · have := ih (by omega); omega
theorem cnt_ex {P : Nat → Bool} : ∀ (m : Nat), 1 ≤ cnt P 0 m → ∃ t, t < m ∧ P t = true := by
  intro m
  induction m with
  | zero => intro h; exact absurd h (show ¬ 1 ≤ 0 by omega)
  | succ m ih =>
    intro h
    rw [cnt_up, Nat.zero_add] at h
    by_cases hp : P m = true
    · exact ⟨m, by omega, hp⟩
    · rw [if_neg hp] at h
      obtain ⟨t, h1, h2⟩ := ih (by omega)
      exact ⟨t, by omega, h2⟩
theorem cnt_le2 {F : Nat → Bool} {N : Nat} : ∀ M, M ≤ N → cnt F 0 M ≤ cnt F 0 N := by
  intro M hM
  induction N with
  | zero => have : M = 0 := by omega
            rw [this]; exact Nat.le_refl _
  | succ N ih =>
    by_cases e : M = N + 1
    · rw [e]; exact Nat.le_refl _
    · have := ih (by omega)
      rw [cnt_up]; omega
theorem lik_eq {F : Nat → Bool} {R A : Nat → Ar} {k : Nat} (x : Int32) : ∀ N, (∀ t, t < N → F t = true → A (cnt F 0 t) k = R t k) → cnt (fun j => decide (x = A j k)) 0 (cnt F 0 N) = cnt (fun t => F t && decide (x = R t k)) 0 N := by
  intro N
  induction N with
  | zero => intro _; rfl
  | succ N ih =>
    intro h
    have ih := ih (fun t ht => h t (by omega))
    rw [cnt_up (P := fun t => F t && decide (x = R t k)), ← ih, cnt_up (P := F), Nat.zero_add]
    cases hF : F N with
    | false => simp only [Bool.false_eq_true, if_false, Nat.add_zero, Bool.false_and]
    | true =>
      have e := h N (by omega) hF
      simp only [if_true, Bool.true_and]
      rw [cnt_up, Nat.zero_add, e]
theorem mlk_eq {F : Nat → Bool} {R A : Nat → Ar} {k N : Nat} (h : ∀ t, t < N → F t = true → A (cnt F 0 t) k = R t k) : ∀ M, M ≤ N → mlkS A k (cnt F 0 N) (cnt F 0 M) = mlkM F R k N M := by
  intro M
  induction M with
  | zero => intro _; rfl
  | succ M ih =>
    intro hM
    have ih := ih (by omega)
    have em : mlkM F R k N (M + 1) = if likM F R k N M ≤ mlkM F R k N M then mlkM F R k N M else likM F R k N M := rfl
    rw [em, cnt_up, Nat.zero_add, ← ih]
    cases hF : F M with
    | false =>
      have el : likM F R k N M = 0 := if_neg (by rw [hF]; decide)
      rw [el, if_pos (Nat.zero_le _)]
      rfl
    | true =>
      have el : likM F R k N M = cnt (fun j => F j && decide (R M k = R j k)) 0 N := if_pos hF
      have es : likS A k (cnt F 0 N) (cnt F 0 M) = likM F R k N M := by
        rw [el, ← lik_eq (R M k) N h, ← h M (by omega) hF]
        rfl
      have e2 : mlkS A k (cnt F 0 N) (cnt F 0 M + 1) = if mlkS A k (cnt F 0 N) (cnt F 0 M) < likS A k (cnt F 0 N) (cnt F 0 M) then likS A k (cnt F 0 N) (cnt F 0 M) else mlkS A k (cnt F 0 N) (cnt F 0 M) := rfl
      simp only [if_true]
      rw [e2, es]
      by_cases hl : likM F R k N M ≤ mlkS A k (cnt F 0 N) (cnt F 0 M)
      · rw [if_pos hl, if_neg (by omega)]
      · rw [if_neg hl, if_pos (by omega)]
theorem mlkM_ge {F : Nat → Bool} {R : Nat → Ar} {k N i : Nat} : ∀ M, i < M → likM F R k N i ≤ mlkM F R k N M := by
  intro M
  induction M with
  | zero => intro h; omega
  | succ M ih =>
    intro h
    unfold mlkM
    by_cases e : i = M
    · subst e
      by_cases hl : likM F R k N i ≤ mlkM F R k N i
      · rw [if_pos hl]; exact hl
      · rw [if_neg hl]; exact Nat.le_refl _
    · have := ih (by omega)
      by_cases hl : likM F R k N M ≤ mlkM F R k N M
      · rw [if_pos hl]; exact this
      · rw [if_neg hl]; omega
theorem mlkM_cnt {F : Nat → Bool} {R : Nat → Ar} {k N : Nat} : ∀ M, mlkM F R k N M ≤ cnt F 0 N := by
  intro M
  induction M with
  | zero => exact Nat.zero_le _
  | succ M ih =>
    unfold mlkM
    by_cases hl : likM F R k N M ≤ mlkM F R k N M
    · rw [if_pos hl]; exact ih
    · rw [if_neg hl]
      unfold likM
      by_cases hF : F M = true
      · rw [if_pos hF]; exact cnt_mono (fun j hj => (Bool.and_eq_true _ _ ▸ hj).1) _
      · rw [if_neg hF]; exact Nat.zero_le _
theorem mlkM_pos {F : Nat → Bool} {R : Nat → Ar} {k N : Nat} (h : 1 ≤ cnt F 0 N) : 1 ≤ mlkM F R k N N := by
  obtain ⟨t, h1, h2⟩ := cnt_ex N h
  have h3 := mlkM_ge (F := F) (R := R) (k := k) (N := N) N h1
  have h4 : 1 ≤ likM F R k N t := by
    unfold likM
    rw [if_pos h2]
    exact cnt_pos (t := t) (by rw [h2, Bool.true_and]; exact decT rfl) N h1
  omega
/-- the least of the first n + 1 at which G is least, and G there -/
def lkS (G : Nat → Nat) : Nat → Nat × Nat
  | 0 => (0, G 0)
  | k + 1 => if G (k + 1) < (lkS G k).2 then (k + 1, G (k + 1)) else lkS G k
theorem lkS_le {G : Nat → Nat} {b : Nat} (h : ∀ k, G k ≤ b) : ∀ n, (lkS G n).1 ≤ n ∧ (lkS G n).2 ≤ b := by
  intro n
  induction n with
  | zero => exact ⟨Nat.le_refl _, h 0⟩
  | succ n ih =>
    unfold lkS
    by_cases e : G (n + 1) < (lkS G n).2
    · rw [if_pos e]; exact ⟨Nat.le_refl _, h _⟩
    · rw [if_neg e]; exact ⟨by omega, ih.2⟩
def lkR (d : Dl) (rs : List Rl) (L t : Nat) : Ar := (bgS d (curR rs (dn t)) L).2.1
def lkG (d : Dl) (rs : List Rl) (no : No) (L k : Nat) : Nat := mlkM (fitN d rs no) (lkR d rs L) k (rs.length + 1) (rs.length + 1)
def ansL (d : Dl) (rs : List Rl) (no : No) (L q : Nat) : Int32 :=
  if cnt (fitN d rs no) 0 (rs.length + 1) = 0 ∨ kn d = 0 then -2 else if q = 0 then nI (lkS (lkG d rs no L) (kn d - 1)).1 else nI (lkS (lkG d rs no L) (kn d - 1)).2
def PLo (κ j k : Nat) : Prop := PQc κ j k ∨ κ = 40
theorem c_look {w : XW} {d : Dl} {s : Sc} {rs : List Rl} {f : Int32} {no : No} (hX : CX w d s rs f) (hOX : OX d s rs f) (ht : d.1 0 = 1) (hN : NoAt w 0 no) (hO : NoOk d no) {L q : Nat} (hL : L ≤ 60) (hq : q ≤ 1) :
    ∃ w', F_X11_look [.inr (10, 0), .inl (.int (nI L)), .inl (.int (nI q))] w = some (ansL d rs no L q, w') ∧ Fr PLo w w' := by
  have h6r : rs.length ≤ 6 := hOX.2.2.2.1
  have hD := hOX.1.1
  have h6 := hD.1.2
  obtain ⟨w1, h1, h2, h3⟩ := loop0 (rs.length + 1) (fun t v => q_X11_look_36 (nI L) (nI q) (nI (cnt (fitN d rs no) 0 t)) (dn t) v) (fun v => q_X11_look_69 (nI q) (nI (cnt (fitN d rs no) 0 (rs.length + 1))) v) (fun t v => Fr PLo w v ∧ ∀ t', t' < t → fitN d rs no t' = true → ∀ j, j < 6 → gI v 40 0 (cnt (fitN d rs no) 0 t' * 6 + j) = lkR d rs L t' j) (s := w) ⟨Fr.refl _ _, fun t' h => absurd h (by omega)⟩ (fun t v hk hi => by
      obtain ⟨b1, b2⟩ := hi
      have hXv : CX v d s rs f := hX.frx b1 (fun κ j k q => by unfold PLo PQc; omega)
      have hNv := hN.fr b1 (fun κ k q => by unfold PLo PQc; omega)
      obtain ⟨v1, c1, c2, c3⟩ := c_isSoBy hXv hOX hNv hO (t := dn t) (dn_ok (by omega)) hL
      have gn : gI v 10 0 3 = nI rs.length := hXv.2.2.1.1
      have hle := cnt_le (P := fitN d rs no) t 0
      have hlt : decide (nI rs.length ≤ dn t) = false := by
        cases t with
        | zero => exact decF (fun z => by
            rw [Int32.le_iff_toInt_le, nI_toInt (by omega), show (dn 0).toInt = -1 from by decide] at z
            omega)
        | succ t => exact le_f (show t < rs.length by omega) (by omega)
      have c1 : F_X11_isSoBy [.inr (10, 0), .inl (.int (dn t)), .inl (.int (nI L))] v = some (b2i (fitN d rs no t), v1) := c1
      have c2 : fitN d rs no t = true → ∀ j, j < 6 → gI v1 40 0 (36 + j) = lkR d rs L t j := c2
      have F1 : Fr PLo w v1 := b1.trans (c3.mono (fun κ j k q => by unfold PSo PLk at q; unfold PLo; rcases q with q | q; exact Or.inl q; exact Or.inr q.1))
      have b2' : ∀ t', t' < t → fitN d rs no t' = true → ∀ j, j < 6 → gI v1 40 0 (cnt (fitN d rs no) 0 t' * 6 + j) = lkR d rs L t' j := fun t' h1 h2 j hj => by
        have hx : cnt (fitN d rs no) 0 (t' + 1) ≤ cnt (fitN d rs no) 0 t := cnt_le2 _ (by omega)
        rw [cnt_up, Nat.zero_add, if_pos h2] at hx
        rw [(c3 40 0 _ (by unfold PSo PQc PLk; omega)).1]
        exact b2 t' h1 h2 j hj
      rw [cnt_up, Nat.zero_add, e_X11_look_36, gn, hlt, cond_false, e_X11_look_45, c1, Option.bind_some]
      dsimp only
      cases hf : fitN d rs no t with
      | false =>
        refine ⟨v1, ?_, F1, fun t' h1 h2 => ?_⟩
        · rw [b2i_0]
          simp only [Bool.not_false, cond_true, e_X11_look_63, dn_p1, Bool.false_eq_true, if_false, Nat.add_zero]
          rw [dn_s]
        · have : t' ≠ t := fun e => by rw [e, hf] at h2; cases h2
          exact b2' t' (by omega) h2
      | true =>
        obtain ⟨v2, d1, d2, d3⟩ := c_keepLook (n := cnt (fitN d rs no) 0 t) (by omega) (c2 hf)
        refine ⟨v2, ?_, F1.trans (d3.mono (fun κ j k q => Or.inr q.1)), fun t' h1 h2 j hj => ?_⟩
        · rw [b2i_0]
          simp only [Bool.not_true, cond_false, e_X11_look_55, d1, Option.bind_some, e_X11_look_63, dn_p1, if_true]
          rw [dn_s, nI_1]
        · by_cases e : t' = t
          · rw [e]; exact d2 j hj
          · have hx : cnt (fitN d rs no) 0 (t' + 1) ≤ cnt (fitN d rs no) 0 t := cnt_le2 _ (by omega)
            rw [cnt_up, Nat.zero_add, if_pos h2] at hx
            rw [(d3 40 0 _ (by omega)).1]
            exact b2' t' (by omega) h2 j hj) (fun v hi => by
      have gn : gI v 10 0 3 = nI rs.length := (hX.frx hi.1 (fun κ j k q => by unfold PLo PQc; omega)).2.2.1.1
      have hlt : decide (nI rs.length ≤ dn (rs.length + 1)) = true := le_t (Nat.le_refl _) (by omega)
      rw [e_X11_look_36, gn, hlt, cond_true])
  have h1 : q_X11_look_36 (nI L) (nI q) 0 (-1) w = _ := h1
  refine ⟨w1, ?_, h2⟩
  obtain ⟨jd, x1, x2⟩ := hX.1
  have t0 := x2.1 0 (by omega)
  have w3' : (¬ nI L < 0 ∧ ¬ (60 : Int32) < nI L) := ⟨nI_pos (by omega), of_decide_eq_false (ltL_f (c := 60) (show L ≤ 60 from hL) (by decide))⟩
  have w4' : (¬ nI q < 0 ∧ ¬ (1 : Int32) < nI q) := ⟨nI_pos (by omega), of_decide_eq_false (ltL_f (c := 1) (show q ≤ 1 from hq) (by decide))⟩
  have hXv : CX w1 d s rs f := hX.frx h2 (fun κ j k q => by unfold PLo PQc; omega)
  obtain ⟨jd', y1, y2⟩ := hXv.1
  have y3 : gI w1 1 jd' 3 = nI (kn d) := by rw [y2.1 3 (by omega)]; exact hD.1.1
  have hcl := cnt_le (P := fitN d rs no) (rs.length + 1) 0
  rw [f_X11_look, e_X11_look_0]
  simp (disch := omega) only [x1, t0, ht, e_X11_look_10, p_within, w3', w4', e_X11_look_20, e_X11_look_31, h1, e_X11_look_69, true_and, and_true, false_and, and_false, beq_t, beq_f, eqN_t, eqN_f, eqL_t, eqL_f, nm1, nm2, nm1', nm2', m1z, m2z, zm1, zm2, m12, m21, lg_cmp_ge, lg_cmp_le, lg_cmp_gt, lg_cmp_lt, lg_cmp_eq, oob, oobL, neg0, negL0, natle_f, or_false, false_or, true_or, or_true, or_self, cl, clL, le_t, le_f, lt_t, lt_f, leL_t, leL_f, ltL_t, ltL_f, leM_t, leM_f, ltM_t, ltM_f, leO_t, leO_f, cond_true, cond_false, Option.bind_some, Option.bind_none, if_false, if_true, nI_1, aL1, aL2, mL1, mL2, nI_add, pk_mul, pk_m1, sL1, dL1, pk_sub, m1p1, gIs_eq, gIs_k, gIs_i, gIs_n, gIs_e, gIJ, gIR, gJI, gJR, gJs_eq, gJs_k, gJs_n, gJs_e, gRI, gRJ, gRs_eq, gRs_k, gRs_i, gRs_n, gZI, gZJ, gZR, pI_s, pJ_s, pV_s, pR_s, pR_n, oR_n, oR_s, decide_true, decide_false, not_true_eq_false, not_false_eq_true, decT, decF, Bool.true_eq_false, Bool.false_eq_true, z01, o01, z1f, z1f', zz, oo, b2i_0, b2i_n, b2i_t, b2i_f, Bool.not_true, Bool.not_false]
  unfold ansL
  by_cases hz : cnt (fitN d rs no) 0 (rs.length + 1) = 0
  · rw [if_pos (Or.inl hz)]
    simp (disch := omega) only [hz, e_X11_look_83, true_and, and_true, false_and, and_false, beq_t, beq_f, eqN_t, eqN_f, eqL_t, eqL_f, nm1, nm2, nm1', nm2', m1z, m2z, zm1, zm2, m12, m21, lg_cmp_ge, lg_cmp_le, lg_cmp_gt, lg_cmp_lt, lg_cmp_eq, oob, oobL, neg0, negL0, natle_f, or_false, false_or, true_or, or_true, or_self, cl, clL, le_t, le_f, lt_t, lt_f, leL_t, leL_f, ltL_t, ltL_f, leM_t, leM_f, ltM_t, ltM_f, leO_t, leO_f, cond_true, cond_false, Option.bind_some, Option.bind_none, if_false, if_true, nI_1, aL1, aL2, mL1, mL2, nI_add, pk_mul, pk_m1, sL1, dL1, pk_sub, m1p1, gIs_eq, gIs_k, gIs_i, gIs_n, gIs_e, gIJ, gIR, gJI, gJR, gJs_eq, gJs_k, gJs_n, gJs_e, gRI, gRJ, gRs_eq, gRs_k, gRs_i, gRs_n, gZI, gZJ, gZR, pI_s, pJ_s, pV_s, pR_s, pR_n, oR_n, oR_s, decide_true, decide_false, not_true_eq_false, not_false_eq_true, decT, decF, Bool.true_eq_false, Bool.false_eq_true, z01, o01, z1f, z1f', zz, oo, b2i_0, b2i_n, b2i_t, b2i_f, Bool.not_true, Bool.not_false]
  · by_cases hk : kn d = 0
    · rw [if_pos (Or.inr hk)]
      have y3' : gI w1 1 jd' 3 = nI 0 := by rw [y3, hk]
      simp (disch := omega) only [hz, e_X11_look_73, y1, y3', e_X11_look_83, true_and, and_true, false_and, and_false, beq_t, beq_f, eqN_t, eqN_f, eqL_t, eqL_f, nm1, nm2, nm1', nm2', m1z, m2z, zm1, zm2, m12, m21, lg_cmp_ge, lg_cmp_le, lg_cmp_gt, lg_cmp_lt, lg_cmp_eq, oob, oobL, neg0, negL0, natle_f, or_false, false_or, true_or, or_true, or_self, cl, clL, le_t, le_f, lt_t, lt_f, leL_t, leL_f, ltL_t, ltL_f, leM_t, leM_f, ltM_t, ltM_f, leO_t, leO_f, cond_true, cond_false, Option.bind_some, Option.bind_none, if_false, if_true, nI_1, aL1, aL2, mL1, mL2, nI_add, pk_mul, pk_m1, sL1, dL1, pk_sub, m1p1, gIs_eq, gIs_k, gIs_i, gIs_n, gIs_e, gIJ, gIR, gJI, gJR, gJs_eq, gJs_k, gJs_n, gJs_e, gRI, gRJ, gRs_eq, gRs_k, gRs_i, gRs_n, gZI, gZJ, gZR, pI_s, pJ_s, pV_s, pR_s, pR_n, oR_n, oR_s, decide_true, decide_false, not_true_eq_false, not_false_eq_true, decT, decF, Bool.true_eq_false, Bool.false_eq_true, z01, o01, z1f, z1f', zz, oo, b2i_0, b2i_n, b2i_t, b2i_f, Bool.not_true, Bool.not_false]
    · rw [if_neg (by omega)]
      have hmost : ∀ k, k < 6 → F_X11_mostAlike [.inr (10, 0), .inl (.int (nI k)), .inl (.int (nI (cnt (fitN d rs no) 0 (rs.length + 1))))] w1 = some (nI (lkG d rs no L k), w1) := fun k hk => by
        rw [c_mostAlike (A := fun i j => gI w1 40 0 (i * 6 + j)) (by omega) hk (fun i _ j _ => rfl)]
        unfold lkG
        rw [mlk_eq (F := fitN d rs no) (R := lkR d rs L) (N := rs.length + 1) (fun t ht hF => h3 t ht hF k hk) (rs.length + 1) (Nat.le_refl _)]
      have hGb : ∀ k, lkG d rs no L k ≤ 7 := fun k => Nat.le_trans (mlkM_le _) (by omega)
      generalize hG : lkG d rs no L = G at *
      generalize cnt (fitN d rs no) 0 (rs.length + 1) = c at *
      obtain ⟨w2, u1, u2⟩ := loop0 (kn d - 1) (fun k (v : XW) => q_X11_look_100 (nI q) (nI c) (nI (lkS G k).1) (nI (lkS G k).2) (nI (k + 1)) v) (fun v => q_X11_look_142 (nI q) (nI (lkS G (kn d - 1)).1) (nI (lkS G (kn d - 1)).2) v) (fun _ v => v = w1) (s := w1) rfl (fun k v hk hv => by
        subst hv
        refine ⟨v, ?_, rfl⟩
        obtain ⟨l1, l2⟩ := lkS_le hGb k
        have hm := hmost (k + 1) (by omega)
        have hg := hGb (k + 1)
        have es : lkS G (k + 1) = if G (k + 1) < (lkS G k).2 then (k + 1, G (k + 1)) else lkS G k := rfl
        rw [es]
        generalize lkS G k = p at *
        generalize G (k + 1) = g at *
        by_cases e : g < p.2
        · rw [if_pos e]
          ((try dsimp only); rw [e_X11_look_100]; simp (disch := omega) only [y1, y3, e_X11_look_112, hm, e_X11_look_128, e_X11_look_136, true_and, and_true, false_and, and_false, beq_t, beq_f, eqN_t, eqN_f, eqL_t, eqL_f, nm1, nm2, nm1', nm2', m1z, m2z, zm1, zm2, m12, m21, lg_cmp_ge, lg_cmp_le, lg_cmp_gt, lg_cmp_lt, lg_cmp_eq, oob, oobL, neg0, negL0, natle_f, or_false, false_or, true_or, or_true, or_self, cl, clL, le_t, le_f, lt_t, lt_f, leL_t, leL_f, ltL_t, ltL_f, leM_t, leM_f, ltM_t, ltM_f, leO_t, leO_f, cond_true, cond_false, Option.bind_some, Option.bind_none, if_false, if_true, nI_1, aL1, aL2, mL1, mL2, nI_add, pk_mul, pk_m1, sL1, dL1, pk_sub, m1p1, gIs_eq, gIs_k, gIs_i, gIs_n, gIs_e, gIJ, gIR, gJI, gJR, gJs_eq, gJs_k, gJs_n, gJs_e, gRI, gRJ, gRs_eq, gRs_k, gRs_i, gRs_n, gZI, gZJ, gZR, pI_s, pJ_s, pV_s, pR_s, pR_n, oR_n, oR_s, decide_true, decide_false, not_true_eq_false, not_false_eq_true, decT, decF, Bool.true_eq_false, Bool.false_eq_true, z01, o01, z1f, z1f', zz, oo, b2i_0, b2i_n, b2i_t, b2i_f, Bool.not_true, Bool.not_false])
        · rw [if_neg e]
          ((try dsimp only); rw [e_X11_look_100]; simp (disch := omega) only [y1, y3, e_X11_look_112, hm, e_X11_look_136, true_and, and_true, false_and, and_false, beq_t, beq_f, eqN_t, eqN_f, eqL_t, eqL_f, nm1, nm2, nm1', nm2', m1z, m2z, zm1, zm2, m12, m21, lg_cmp_ge, lg_cmp_le, lg_cmp_gt, lg_cmp_lt, lg_cmp_eq, oob, oobL, neg0, negL0, natle_f, or_false, false_or, true_or, or_true, or_self, cl, clL, le_t, le_f, lt_t, lt_f, leL_t, leL_f, ltL_t, ltL_f, leM_t, leM_f, ltM_t, ltM_f, leO_t, leO_f, cond_true, cond_false, Option.bind_some, Option.bind_none, if_false, if_true, nI_1, aL1, aL2, mL1, mL2, nI_add, pk_mul, pk_m1, sL1, dL1, pk_sub, m1p1, gIs_eq, gIs_k, gIs_i, gIs_n, gIs_e, gIJ, gIR, gJI, gJR, gJs_eq, gJs_k, gJs_n, gJs_e, gRI, gRJ, gRs_eq, gRs_k, gRs_i, gRs_n, gZI, gZJ, gZR, pI_s, pJ_s, pV_s, pR_s, pR_n, oR_n, oR_s, decide_true, decide_false, not_true_eq_false, not_false_eq_true, decT, decF, Bool.true_eq_false, Bool.false_eq_true, z01, o01, z1f, z1f', zz, oo, b2i_0, b2i_n, b2i_t, b2i_f, Bool.not_true, Bool.not_false])) (fun v hv => by
        subst hv
        rw [show kn d - 1 + 1 = kn d by omega]
        ((try dsimp only); rw [e_X11_look_100]; simp (disch := omega) only [y1, y3, true_and, and_true, false_and, and_false, beq_t, beq_f, eqN_t, eqN_f, eqL_t, eqL_f, nm1, nm2, nm1', nm2', m1z, m2z, zm1, zm2, m12, m21, lg_cmp_ge, lg_cmp_le, lg_cmp_gt, lg_cmp_lt, lg_cmp_eq, oob, oobL, neg0, negL0, natle_f, or_false, false_or, true_or, or_true, or_self, cl, clL, le_t, le_f, lt_t, lt_f, leL_t, leL_f, ltL_t, ltL_f, leM_t, leM_f, ltM_t, ltM_f, leO_t, leO_f, cond_true, cond_false, Option.bind_some, Option.bind_none, if_false, if_true, nI_1, aL1, aL2, mL1, mL2, nI_add, pk_mul, pk_m1, sL1, dL1, pk_sub, m1p1, gIs_eq, gIs_k, gIs_i, gIs_n, gIs_e, gIJ, gIR, gJI, gJR, gJs_eq, gJs_k, gJs_n, gJs_e, gRI, gRJ, gRs_eq, gRs_k, gRs_i, gRs_n, gZI, gZJ, gZR, pI_s, pJ_s, pV_s, pR_s, pR_n, oR_n, oR_s, decide_true, decide_false, not_true_eq_false, not_false_eq_true, decT, decF, Bool.true_eq_false, Bool.false_eq_true, z01, o01, z1f, z1f', zz, oo, b2i_0, b2i_n, b2i_t, b2i_f, Bool.not_true, Bool.not_false]))
      subst u2
      have u1 : q_X11_look_100 (nI q) (nI c) 0 (nI (G 0)) 1 w2 = _ := u1
      have h0 := hmost 0 (by omega)
      have h0 : F_X11_mostAlike [.inr (10, 0), .inl (.int 0), .inl (.int (nI c))] w2 = _ := h0
      simp (disch := omega) only [hz, e_X11_look_73, y1, y3, hk, e_X11_look_86, h0, u1, e_X11_look_142, true_and, and_true, false_and, and_false, beq_t, beq_f, eqN_t, eqN_f, eqL_t, eqL_f, nm1, nm2, nm1', nm2', m1z, m2z, zm1, zm2, m12, m21, lg_cmp_ge, lg_cmp_le, lg_cmp_gt, lg_cmp_lt, lg_cmp_eq, oob, oobL, neg0, negL0, natle_f, or_false, false_or, true_or, or_true, or_self, cl, clL, le_t, le_f, lt_t, lt_f, leL_t, leL_f, ltL_t, ltL_f, leM_t, leM_f, ltM_t, ltM_f, leO_t, leO_f, cond_true, cond_false, Option.bind_some, Option.bind_none, if_false, if_true, nI_1, aL1, aL2, mL1, mL2, nI_add, pk_mul, pk_m1, sL1, dL1, pk_sub, m1p1, gIs_eq, gIs_k, gIs_i, gIs_n, gIs_e, gIJ, gIR, gJI, gJR, gJs_eq, gJs_k, gJs_n, gJs_e, gRI, gRJ, gRs_eq, gRs_k, gRs_i, gRs_n, gZI, gZJ, gZR, pI_s, pJ_s, pV_s, pR_s, pR_n, oR_n, oR_s, decide_true, decide_false, not_true_eq_false, not_false_eq_true, decT, decF, Bool.true_eq_false, Bool.false_eq_true, z01, o01, z1f, z1f', zz, oo, b2i_0, b2i_n, b2i_t, b2i_f, Bool.not_true, Bool.not_false]
      have hq2 : q = 0 ∨ q = 1 := by omega
      rcases hq2 with rfl | rfl
      · simp (disch := omega) only [e_X11_look_146, e_X11_look_153, true_and, and_true, false_and, and_false, beq_t, beq_f, eqN_t, eqN_f, eqL_t, eqL_f, nm1, nm2, nm1', nm2', m1z, m2z, zm1, zm2, m12, m21, lg_cmp_ge, lg_cmp_le, lg_cmp_gt, lg_cmp_lt, lg_cmp_eq, oob, oobL, neg0, negL0, natle_f, or_false, false_or, true_or, or_true, or_self, cl, clL, le_t, le_f, lt_t, lt_f, leL_t, leL_f, ltL_t, ltL_f, leM_t, leM_f, ltM_t, ltM_f, leO_t, leO_f, cond_true, cond_false, Option.bind_some, Option.bind_none, if_false, if_true, nI_1, aL1, aL2, mL1, mL2, nI_add, pk_mul, pk_m1, sL1, dL1, pk_sub, m1p1, gIs_eq, gIs_k, gIs_i, gIs_n, gIs_e, gIJ, gIR, gJI, gJR, gJs_eq, gJs_k, gJs_n, gJs_e, gRI, gRJ, gRs_eq, gRs_k, gRs_i, gRs_n, gZI, gZJ, gZR, pI_s, pJ_s, pV_s, pR_s, pR_n, oR_n, oR_s, decide_true, decide_false, not_true_eq_false, not_false_eq_true, decT, decF, Bool.true_eq_false, Bool.false_eq_true, z01, o01, z1f, z1f', zz, oo, b2i_0, b2i_n, b2i_t, b2i_f, Bool.not_true, Bool.not_false]
        all_goals rfl
      · simp (disch := omega) only [e_X11_look_151, e_X11_look_153, true_and, and_true, false_and, and_false, beq_t, beq_f, eqN_t, eqN_f, eqL_t, eqL_f, nm1, nm2, nm1', nm2', m1z, m2z, zm1, zm2, m12, m21, lg_cmp_ge, lg_cmp_le, lg_cmp_gt, lg_cmp_lt, lg_cmp_eq, oob, oobL, neg0, negL0, natle_f, or_false, false_or, true_or, or_true, or_self, cl, clL, le_t, le_f, lt_t, lt_f, leL_t, leL_f, ltL_t, ltL_f, leM_t, leM_f, ltM_t, ltM_f, leO_t, leO_f, cond_true, cond_false, Option.bind_some, Option.bind_none, if_false, if_true, nI_1, aL1, aL2, mL1, mL2, nI_add, pk_mul, pk_m1, sL1, dL1, pk_sub, m1p1, gIs_eq, gIs_k, gIs_i, gIs_n, gIs_e, gIJ, gIR, gJI, gJR, gJs_eq, gJs_k, gJs_n, gJs_e, gRI, gRJ, gRs_eq, gRs_k, gRs_i, gRs_n, gZI, gZJ, gZR, pI_s, pJ_s, pV_s, pR_s, pR_n, oR_n, oR_s, decide_true, decide_false, not_true_eq_false, not_false_eq_true, decT, decF, Bool.true_eq_false, Bool.false_eq_true, z01, o01, z1f, z1f', zz, oo, b2i_0, b2i_n, b2i_t, b2i_f, Bool.not_true, Bool.not_false]
        all_goals rfl
theorem m_look {w : XW} {d : Dl} {s : Sc} {rs : List Rl} {f : Int32} {no : No} (hX : MX w d s rs f) (hOX : OX d s rs f) (ht : d.1 0 = 1) (hn : NoM w no) (hO : NoOk d no) {L q : Nat} (hL : L ≤ 60) (hq : q ≤ 1) :
    ∃ w', F_X12_look [.inr (11, 0), .inl (.int (nI L)), .inl (.int (nI q))] w = some (ansL d rs no L q, w') ∧ MX w' d s rs f ∧ Fr PFf w w' := by
  have h6r : rs.length ≤ 6 := hOX.2.2.2.1
  have hD := hOX.1.1
  have h6 := hD.1.2
  obtain ⟨w1, k1, k2, k3, k4⟩ := m_fills hX hOX hn hO hL
  have gn : gI w1 11 0 2 = nI rs.length := k2.2.2.2.1.1
  have g3 : gI w1 50 0 3 = nI (kn d) := by rw [k2.1.1 3 (by omega)]; exact hD.1.1
  have w3' : (¬ nI L < 0 ∧ ¬ (60 : Int32) < nI L) := ⟨nI_pos (by omega), of_decide_eq_false (ltL_f (c := 60) (show L ≤ 60 from hL) (by decide))⟩
  have w4' : (¬ nI q < 0 ∧ ¬ (1 : Int32) < nI q) := ⟨nI_pos (by omega), of_decide_eq_false (ltL_f (c := 1) (show q ≤ 1 from hq) (by decide))⟩
  have hal : ∀ k, k < kn d → F_X12_alikeAt [.inr (11, 0), .inl (.int (nI k))] w1 = some (nI (lkG d rs no L k), w1) := fun k hk =>
    m_alikeAt (F := fitN d rs no) (R := lkR d rs L) h6r hk h6 gn k3
  have hGb : ∀ k, lkG d rs no L k ≤ 7 := fun k => Nat.le_trans (mlkM_le _) (by omega)
  refine ⟨w1, ?_, k2, k4⟩
  rw [f_X12_look, e_X12_look_0]
  simp (disch := omega) only [m_isDale hX.1, ht, e_X12_look_7, p_in_0_60, p_in_0_1, w3', w4', e_X12_look_19, e_X12_look_31, k1, true_and, and_true, false_and, and_false, beq_t, beq_f, eqN_t, eqN_f, eqL_t, eqL_f, nm1, nm2, nm1', nm2', m1z, m2z, zm1, zm2, m12, m21, lg_cmp_ge, lg_cmp_le, lg_cmp_gt, lg_cmp_lt, lg_cmp_eq, oob, oobL, neg0, negL0, natle_f, or_false, false_or, true_or, or_true, or_self, cl, clL, le_t, le_f, lt_t, lt_f, leL_t, leL_f, ltL_t, ltL_f, leM_t, leM_f, ltM_t, ltM_f, leO_t, leO_f, cond_true, cond_false, Option.bind_some, Option.bind_none, if_false, if_true, nI_1, aL1, aL2, mL1, mL2, nI_add, pk_mul, pk_m1, sL1, dL1, pk_sub, m1p1, gIs_eq, gIs_k, gIs_i, gIs_n, gIs_e, gIJ, gIR, gJI, gJR, gJs_eq, gJs_k, gJs_n, gJs_e, gRI, gRJ, gRs_eq, gRs_k, gRs_i, gRs_n, gZI, gZJ, gZR, pI_s, pJ_s, pV_s, pR_s, pR_n, oR_n, oR_s, decide_true, decide_false, not_true_eq_false, not_false_eq_true, decT, decF, Bool.true_eq_false, Bool.false_eq_true, z01, o01, z1f, z1f', zz, oo, b2i_0, b2i_n, b2i_t, b2i_f, Bool.not_true, Bool.not_false]
  unfold ansL
  by_cases hz : cnt (fitN d rs no) 0 (rs.length + 1) = 0 ∨ kn d = 0
  · rw [if_pos hz]
    obtain ⟨w2, u1, u2⟩ := loop0 (kn d) (fun k (v : XW) => q_X12_look_46 (nI q) (-2) (-2) (nI k) v) (fun v => q_X12_look_97 (nI q) (-2) (-2) v) (fun _ v => v = w1) (s := w1) rfl (fun k v hk hv => by
      subst hv
      refine ⟨v, ?_, rfl⟩
      have ha := hal k hk
      have e0 : lkG d rs no L k = 0 := by
        have := mlkM_cnt (F := fitN d rs no) (R := lkR d rs L) (k := k) (N := rs.length + 1) (rs.length + 1)
        unfold lkG
        omega
      rw [e0] at ha
      ((try dsimp only); rw [e_X12_look_46]; simp (disch := omega) only [g3, e_X12_look_57, ha, e_X12_look_91, true_and, and_true, false_and, and_false, beq_t, beq_f, eqN_t, eqN_f, eqL_t, eqL_f, nm1, nm2, nm1', nm2', m1z, m2z, zm1, zm2, m12, m21, lg_cmp_ge, lg_cmp_le, lg_cmp_gt, lg_cmp_lt, lg_cmp_eq, oob, oobL, neg0, negL0, natle_f, or_false, false_or, true_or, or_true, or_self, cl, clL, le_t, le_f, lt_t, lt_f, leL_t, leL_f, ltL_t, ltL_f, leM_t, leM_f, ltM_t, ltM_f, leO_t, leO_f, cond_true, cond_false, Option.bind_some, Option.bind_none, if_false, if_true, nI_1, aL1, aL2, mL1, mL2, nI_add, pk_mul, pk_m1, sL1, dL1, pk_sub, m1p1, gIs_eq, gIs_k, gIs_i, gIs_n, gIs_e, gIJ, gIR, gJI, gJR, gJs_eq, gJs_k, gJs_n, gJs_e, gRI, gRJ, gRs_eq, gRs_k, gRs_i, gRs_n, gZI, gZJ, gZR, pI_s, pJ_s, pV_s, pR_s, pR_n, oR_n, oR_s, decide_true, decide_false, not_true_eq_false, not_false_eq_true, decT, decF, Bool.true_eq_false, Bool.false_eq_true, z01, o01, z1f, z1f', zz, oo, b2i_0, b2i_n, b2i_t, b2i_f, Bool.not_true, Bool.not_false])) (fun v hv => by
      subst hv
      ((try dsimp only); rw [e_X12_look_46]; simp (disch := omega) only [g3, true_and, and_true, false_and, and_false, beq_t, beq_f, eqN_t, eqN_f, eqL_t, eqL_f, nm1, nm2, nm1', nm2', m1z, m2z, zm1, zm2, m12, m21, lg_cmp_ge, lg_cmp_le, lg_cmp_gt, lg_cmp_lt, lg_cmp_eq, oob, oobL, neg0, negL0, natle_f, or_false, false_or, true_or, or_true, or_self, cl, clL, le_t, le_f, lt_t, lt_f, leL_t, leL_f, ltL_t, ltL_f, leM_t, leM_f, ltM_t, ltM_f, leO_t, leO_f, cond_true, cond_false, Option.bind_some, Option.bind_none, if_false, if_true, nI_1, aL1, aL2, mL1, mL2, nI_add, pk_mul, pk_m1, sL1, dL1, pk_sub, m1p1, gIs_eq, gIs_k, gIs_i, gIs_n, gIs_e, gIJ, gIR, gJI, gJR, gJs_eq, gJs_k, gJs_n, gJs_e, gRI, gRJ, gRs_eq, gRs_k, gRs_i, gRs_n, gZI, gZJ, gZR, pI_s, pJ_s, pV_s, pR_s, pR_n, oR_n, oR_s, decide_true, decide_false, not_true_eq_false, not_false_eq_true, decT, decF, Bool.true_eq_false, Bool.false_eq_true, z01, o01, z1f, z1f', zz, oo, b2i_0, b2i_n, b2i_t, b2i_f, Bool.not_true, Bool.not_false]))
    subst u2
    have u1 : q_X12_look_46 (nI q) (-2) (-2) 0 w2 = _ := u1
    simp (disch := omega) only [u1, e_X12_look_97, true_and, and_true, false_and, and_false, beq_t, beq_f, eqN_t, eqN_f, eqL_t, eqL_f, nm1, nm2, nm1', nm2', m1z, m2z, zm1, zm2, m12, m21, lg_cmp_ge, lg_cmp_le, lg_cmp_gt, lg_cmp_lt, lg_cmp_eq, oob, oobL, neg0, negL0, natle_f, or_false, false_or, true_or, or_true, or_self, cl, clL, le_t, le_f, lt_t, lt_f, leL_t, leL_f, ltL_t, ltL_f, leM_t, leM_f, ltM_t, ltM_f, leO_t, leO_f, cond_true, cond_false, Option.bind_some, Option.bind_none, if_false, if_true, nI_1, aL1, aL2, mL1, mL2, nI_add, pk_mul, pk_m1, sL1, dL1, pk_sub, m1p1, gIs_eq, gIs_k, gIs_i, gIs_n, gIs_e, gIJ, gIR, gJI, gJR, gJs_eq, gJs_k, gJs_n, gJs_e, gRI, gRJ, gRs_eq, gRs_k, gRs_i, gRs_n, gZI, gZJ, gZR, pI_s, pJ_s, pV_s, pR_s, pR_n, oR_n, oR_s, decide_true, decide_false, not_true_eq_false, not_false_eq_true, decT, decF, Bool.true_eq_false, Bool.false_eq_true, z01, o01, z1f, z1f', zz, oo, b2i_0, b2i_n, b2i_t, b2i_f, Bool.not_true, Bool.not_false]
    have hq2 : q = 0 ∨ q = 1 := by omega
    rcases hq2 with rfl | rfl
    · simp (disch := omega) only [e_X12_look_101, e_X12_look_107, true_and, and_true, false_and, and_false, beq_t, beq_f, eqN_t, eqN_f, eqL_t, eqL_f, nm1, nm2, nm1', nm2', m1z, m2z, zm1, zm2, m12, m21, lg_cmp_ge, lg_cmp_le, lg_cmp_gt, lg_cmp_lt, lg_cmp_eq, oob, oobL, neg0, negL0, natle_f, or_false, false_or, true_or, or_true, or_self, cl, clL, le_t, le_f, lt_t, lt_f, leL_t, leL_f, ltL_t, ltL_f, leM_t, leM_f, ltM_t, ltM_f, leO_t, leO_f, cond_true, cond_false, Option.bind_some, Option.bind_none, if_false, if_true, nI_1, aL1, aL2, mL1, mL2, nI_add, pk_mul, pk_m1, sL1, dL1, pk_sub, m1p1, gIs_eq, gIs_k, gIs_i, gIs_n, gIs_e, gIJ, gIR, gJI, gJR, gJs_eq, gJs_k, gJs_n, gJs_e, gRI, gRJ, gRs_eq, gRs_k, gRs_i, gRs_n, gZI, gZJ, gZR, pI_s, pJ_s, pV_s, pR_s, pR_n, oR_n, oR_s, decide_true, decide_false, not_true_eq_false, not_false_eq_true, decT, decF, Bool.true_eq_false, Bool.false_eq_true, z01, o01, z1f, z1f', zz, oo, b2i_0, b2i_n, b2i_t, b2i_f, Bool.not_true, Bool.not_false]
    · simp (disch := omega) only [e_X12_look_105, e_X12_look_107, true_and, and_true, false_and, and_false, beq_t, beq_f, eqN_t, eqN_f, eqL_t, eqL_f, nm1, nm2, nm1', nm2', m1z, m2z, zm1, zm2, m12, m21, lg_cmp_ge, lg_cmp_le, lg_cmp_gt, lg_cmp_lt, lg_cmp_eq, oob, oobL, neg0, negL0, natle_f, or_false, false_or, true_or, or_true, or_self, cl, clL, le_t, le_f, lt_t, lt_f, leL_t, leL_f, ltL_t, ltL_f, leM_t, leM_f, ltM_t, ltM_f, leO_t, leO_f, cond_true, cond_false, Option.bind_some, Option.bind_none, if_false, if_true, nI_1, aL1, aL2, mL1, mL2, nI_add, pk_mul, pk_m1, sL1, dL1, pk_sub, m1p1, gIs_eq, gIs_k, gIs_i, gIs_n, gIs_e, gIJ, gIR, gJI, gJR, gJs_eq, gJs_k, gJs_n, gJs_e, gRI, gRJ, gRs_eq, gRs_k, gRs_i, gRs_n, gZI, gZJ, gZR, pI_s, pJ_s, pV_s, pR_s, pR_n, oR_n, oR_s, decide_true, decide_false, not_true_eq_false, not_false_eq_true, decT, decF, Bool.true_eq_false, Bool.false_eq_true, z01, o01, z1f, z1f', zz, oo, b2i_0, b2i_n, b2i_t, b2i_f, Bool.not_true, Bool.not_false]
  · rw [if_neg hz]
    have hGp : ∀ k, 1 ≤ lkG d rs no L k := fun k => mlkM_pos (by omega)
    generalize hG : lkG d rs no L = G at *
    have a0 := hal 0 (by omega)
    have a0 : F_X12_alikeAt [.inr (11, 0), .inl (.int 0)] w1 = _ := a0
    have st : q_X12_look_46 (nI q) (-2) (-2) 0 w1 = q_X12_look_46 (nI q) 0 (nI (G 0)) (nI 1) w1 := by
      have p0 := hGp 0
      have b0 := hGb 0
      have e3 : decide (nI (kn d) ≤ 0) = false := leM_f (c := 0) (show 0 < kn d by omega) (by omega)
      generalize G 0 = g at *
      rw [e_X12_look_46, g3, e3, cond_false, e_X12_look_57, a0]
      simp (disch := omega) only [e_X12_look_70, e_X12_look_84, e_X12_look_91, true_and, and_true, false_and, and_false, beq_t, beq_f, eqN_t, eqN_f, eqL_t, eqL_f, nm1, nm2, nm1', nm2', m1z, m2z, zm1, zm2, m12, m21, lg_cmp_ge, lg_cmp_le, lg_cmp_gt, lg_cmp_lt, lg_cmp_eq, oob, oobL, neg0, negL0, natle_f, or_false, false_or, true_or, or_true, or_self, cl, clL, le_t, le_f, lt_t, lt_f, leL_t, leL_f, ltL_t, ltL_f, leM_t, leM_f, ltM_t, ltM_f, leO_t, leO_f, cond_true, cond_false, Option.bind_some, Option.bind_none, if_false, if_true, nI_1, aL1, aL2, mL1, mL2, nI_add, pk_mul, pk_m1, sL1, dL1, pk_sub, m1p1, gIs_eq, gIs_k, gIs_i, gIs_n, gIs_e, gIJ, gIR, gJI, gJR, gJs_eq, gJs_k, gJs_n, gJs_e, gRI, gRJ, gRs_eq, gRs_k, gRs_i, gRs_n, gZI, gZJ, gZR, pI_s, pJ_s, pV_s, pR_s, pR_n, oR_n, oR_s, decide_true, decide_false, not_true_eq_false, not_false_eq_true, decT, decF, Bool.true_eq_false, Bool.false_eq_true, z01, o01, z1f, z1f', zz, oo, b2i_0, b2i_n, b2i_t, b2i_f, Bool.not_true, Bool.not_false]
      rfl
    obtain ⟨w2, u1, u2⟩ := loop0 (kn d - 1) (fun k (v : XW) => q_X12_look_46 (nI q) (nI (lkS G k).1) (nI (lkS G k).2) (nI (k + 1)) v) (fun v => q_X12_look_97 (nI q) (nI (lkS G (kn d - 1)).1) (nI (lkS G (kn d - 1)).2) v) (fun _ v => v = w1) (s := w1) rfl (fun k v hk hv => by
        subst hv
        refine ⟨v, ?_, rfl⟩
        obtain ⟨l1, l2⟩ := lkS_le hGb k
        have hm := hal (k + 1) (by omega)
        have hg := hGb (k + 1)
        have hp := hGp (k + 1)
        have es : lkS G (k + 1) = if G (k + 1) < (lkS G k).2 then (k + 1, G (k + 1)) else lkS G k := rfl
        rw [es]
        generalize lkS G k = p at *
        generalize G (k + 1) = g at *
        by_cases e : g < p.2
        · rw [if_pos e]
          ((try dsimp only); rw [e_X12_look_46]; simp (disch := omega) only [g3, e_X12_look_57, hm, e_X12_look_70, e_X12_look_74, e_X12_look_84, e_X12_look_91, true_and, and_true, false_and, and_false, beq_t, beq_f, eqN_t, eqN_f, eqL_t, eqL_f, nm1, nm2, nm1', nm2', m1z, m2z, zm1, zm2, m12, m21, lg_cmp_ge, lg_cmp_le, lg_cmp_gt, lg_cmp_lt, lg_cmp_eq, oob, oobL, neg0, negL0, natle_f, or_false, false_or, true_or, or_true, or_self, cl, clL, le_t, le_f, lt_t, lt_f, leL_t, leL_f, ltL_t, ltL_f, leM_t, leM_f, ltM_t, ltM_f, leO_t, leO_f, cond_true, cond_false, Option.bind_some, Option.bind_none, if_false, if_true, nI_1, aL1, aL2, mL1, mL2, nI_add, pk_mul, pk_m1, sL1, dL1, pk_sub, m1p1, gIs_eq, gIs_k, gIs_i, gIs_n, gIs_e, gIJ, gIR, gJI, gJR, gJs_eq, gJs_k, gJs_n, gJs_e, gRI, gRJ, gRs_eq, gRs_k, gRs_i, gRs_n, gZI, gZJ, gZR, pI_s, pJ_s, pV_s, pR_s, pR_n, oR_n, oR_s, decide_true, decide_false, not_true_eq_false, not_false_eq_true, decT, decF, Bool.true_eq_false, Bool.false_eq_true, z01, o01, z1f, z1f', zz, oo, b2i_0, b2i_n, b2i_t, b2i_f, Bool.not_true, Bool.not_false])
        · rw [if_neg e]
          ((try dsimp only); rw [e_X12_look_46]; simp (disch := omega) only [g3, e_X12_look_57, hm, e_X12_look_70, e_X12_look_74, e_X12_look_81, e_X12_look_91, true_and, and_true, false_and, and_false, beq_t, beq_f, eqN_t, eqN_f, eqL_t, eqL_f, nm1, nm2, nm1', nm2', m1z, m2z, zm1, zm2, m12, m21, lg_cmp_ge, lg_cmp_le, lg_cmp_gt, lg_cmp_lt, lg_cmp_eq, oob, oobL, neg0, negL0, natle_f, or_false, false_or, true_or, or_true, or_self, cl, clL, le_t, le_f, lt_t, lt_f, leL_t, leL_f, ltL_t, ltL_f, leM_t, leM_f, ltM_t, ltM_f, leO_t, leO_f, cond_true, cond_false, Option.bind_some, Option.bind_none, if_false, if_true, nI_1, aL1, aL2, mL1, mL2, nI_add, pk_mul, pk_m1, sL1, dL1, pk_sub, m1p1, gIs_eq, gIs_k, gIs_i, gIs_n, gIs_e, gIJ, gIR, gJI, gJR, gJs_eq, gJs_k, gJs_n, gJs_e, gRI, gRJ, gRs_eq, gRs_k, gRs_i, gRs_n, gZI, gZJ, gZR, pI_s, pJ_s, pV_s, pR_s, pR_n, oR_n, oR_s, decide_true, decide_false, not_true_eq_false, not_false_eq_true, decT, decF, Bool.true_eq_false, Bool.false_eq_true, z01, o01, z1f, z1f', zz, oo, b2i_0, b2i_n, b2i_t, b2i_f, Bool.not_true, Bool.not_false])) (fun v hv => by
        subst hv
        rw [show kn d - 1 + 1 = kn d by omega]
        ((try dsimp only); rw [e_X12_look_46]; simp (disch := omega) only [g3, true_and, and_true, false_and, and_false, beq_t, beq_f, eqN_t, eqN_f, eqL_t, eqL_f, nm1, nm2, nm1', nm2', m1z, m2z, zm1, zm2, m12, m21, lg_cmp_ge, lg_cmp_le, lg_cmp_gt, lg_cmp_lt, lg_cmp_eq, oob, oobL, neg0, negL0, natle_f, or_false, false_or, true_or, or_true, or_self, cl, clL, le_t, le_f, lt_t, lt_f, leL_t, leL_f, ltL_t, ltL_f, leM_t, leM_f, ltM_t, ltM_f, leO_t, leO_f, cond_true, cond_false, Option.bind_some, Option.bind_none, if_false, if_true, nI_1, aL1, aL2, mL1, mL2, nI_add, pk_mul, pk_m1, sL1, dL1, pk_sub, m1p1, gIs_eq, gIs_k, gIs_i, gIs_n, gIs_e, gIJ, gIR, gJI, gJR, gJs_eq, gJs_k, gJs_n, gJs_e, gRI, gRJ, gRs_eq, gRs_k, gRs_i, gRs_n, gZI, gZJ, gZR, pI_s, pJ_s, pV_s, pR_s, pR_n, oR_n, oR_s, decide_true, decide_false, not_true_eq_false, not_false_eq_true, decT, decF, Bool.true_eq_false, Bool.false_eq_true, z01, o01, z1f, z1f', zz, oo, b2i_0, b2i_n, b2i_t, b2i_f, Bool.not_true, Bool.not_false]))
    subst u2
    have u1 : q_X12_look_46 (nI q) 0 (nI (G 0)) (nI 1) w2 = _ := u1
    rw [st, u1]
    simp (disch := omega) only [e_X12_look_97, true_and, and_true, false_and, and_false, beq_t, beq_f, eqN_t, eqN_f, eqL_t, eqL_f, nm1, nm2, nm1', nm2', m1z, m2z, zm1, zm2, m12, m21, lg_cmp_ge, lg_cmp_le, lg_cmp_gt, lg_cmp_lt, lg_cmp_eq, oob, oobL, neg0, negL0, natle_f, or_false, false_or, true_or, or_true, or_self, cl, clL, le_t, le_f, lt_t, lt_f, leL_t, leL_f, ltL_t, ltL_f, leM_t, leM_f, ltM_t, ltM_f, leO_t, leO_f, cond_true, cond_false, Option.bind_some, Option.bind_none, if_false, if_true, nI_1, aL1, aL2, mL1, mL2, nI_add, pk_mul, pk_m1, sL1, dL1, pk_sub, m1p1, gIs_eq, gIs_k, gIs_i, gIs_n, gIs_e, gIJ, gIR, gJI, gJR, gJs_eq, gJs_k, gJs_n, gJs_e, gRI, gRJ, gRs_eq, gRs_k, gRs_i, gRs_n, gZI, gZJ, gZR, pI_s, pJ_s, pV_s, pR_s, pR_n, oR_n, oR_s, decide_true, decide_false, not_true_eq_false, not_false_eq_true, decT, decF, Bool.true_eq_false, Bool.false_eq_true, z01, o01, z1f, z1f', zz, oo, b2i_0, b2i_n, b2i_t, b2i_f, Bool.not_true, Bool.not_false]
    have hq2 : q = 0 ∨ q = 1 := by omega
    rcases hq2 with rfl | rfl
    · simp (disch := omega) only [e_X12_look_101, e_X12_look_107, true_and, and_true, false_and, and_false, beq_t, beq_f, eqN_t, eqN_f, eqL_t, eqL_f, nm1, nm2, nm1', nm2', m1z, m2z, zm1, zm2, m12, m21, lg_cmp_ge, lg_cmp_le, lg_cmp_gt, lg_cmp_lt, lg_cmp_eq, oob, oobL, neg0, negL0, natle_f, or_false, false_or, true_or, or_true, or_self, cl, clL, le_t, le_f, lt_t, lt_f, leL_t, leL_f, ltL_t, ltL_f, leM_t, leM_f, ltM_t, ltM_f, leO_t, leO_f, cond_true, cond_false, Option.bind_some, Option.bind_none, if_false, if_true, nI_1, aL1, aL2, mL1, mL2, nI_add, pk_mul, pk_m1, sL1, dL1, pk_sub, m1p1, gIs_eq, gIs_k, gIs_i, gIs_n, gIs_e, gIJ, gIR, gJI, gJR, gJs_eq, gJs_k, gJs_n, gJs_e, gRI, gRJ, gRs_eq, gRs_k, gRs_i, gRs_n, gZI, gZJ, gZR, pI_s, pJ_s, pV_s, pR_s, pR_n, oR_n, oR_s, decide_true, decide_false, not_true_eq_false, not_false_eq_true, decT, decF, Bool.true_eq_false, Bool.false_eq_true, z01, o01, z1f, z1f', zz, oo, b2i_0, b2i_n, b2i_t, b2i_f, Bool.not_true, Bool.not_false]
      all_goals rfl
    · simp (disch := omega) only [e_X12_look_105, e_X12_look_107, true_and, and_true, false_and, and_false, beq_t, beq_f, eqN_t, eqN_f, eqL_t, eqL_f, nm1, nm2, nm1', nm2', m1z, m2z, zm1, zm2, m12, m21, lg_cmp_ge, lg_cmp_le, lg_cmp_gt, lg_cmp_lt, lg_cmp_eq, oob, oobL, neg0, negL0, natle_f, or_false, false_or, true_or, or_true, or_self, cl, clL, le_t, le_f, lt_t, lt_f, leL_t, leL_f, ltL_t, ltL_f, leM_t, leM_f, ltM_t, ltM_f, leO_t, leO_f, cond_true, cond_false, Option.bind_some, Option.bind_none, if_false, if_true, nI_1, aL1, aL2, mL1, mL2, nI_add, pk_mul, pk_m1, sL1, dL1, pk_sub, m1p1, gIs_eq, gIs_k, gIs_i, gIs_n, gIs_e, gIJ, gIR, gJI, gJR, gJs_eq, gJs_k, gJs_n, gJs_e, gRI, gRJ, gRs_eq, gRs_k, gRs_i, gRs_n, gZI, gZJ, gZR, pI_s, pJ_s, pV_s, pR_s, pR_n, oR_n, oR_s, decide_true, decide_false, not_true_eq_false, not_false_eq_true, decT, decF, Bool.true_eq_false, Bool.false_eq_true, z01, o01, z1f, z1f', zz, oo, b2i_0, b2i_n, b2i_t, b2i_f, Bool.not_true, Bool.not_false]
      all_goals rfl
theorem lo_k {w w' : XW} (h : Fr PLo w w') : Fr PQk w w' := h.mono (fun κ j k q => by unfold PLo PQc at q; unfold PQk; omega)
theorem st_look {w : XW} (hR : Rel w) (x y : Int32) : StepOk (F_X11_look [.inr (10, 0), .inl (.int x), .inl (.int y)]) (F_X12_look [.inr (11, 0), .inl (.int x), .inl (.int y)]) w := by
  refine st_qn hR (fun d s rs f no hOX hO => ?_)
  rcases told01 hOX.1.2 with ht | ht
  · by_cases c0 : (¬ x < 0 ∧ ¬ (60 : Int32) < x)
    · by_cases c1 : (¬ y < 0 ∧ ¬ (1 : Int32) < y)
      · obtain ⟨L, _, hL, rfl⟩ := rngL 0 60 (by omega) (by omega) c0
        obtain ⟨q, _, hq, rfl⟩ := rngL 0 1 (by omega) (by omega) c1
        refine ⟨ansL d rs no L q, fun w hC hN => ?_, fun w hM hN => ?_⟩
        · obtain ⟨w1, a1, a2⟩ := c_look hC hOX ht hN hO hL hq
          exact ⟨w1, a1, lo_k a2⟩
        · obtain ⟨w1, a1, a2, a3⟩ := m_look hM hOX ht hN hO hL hq
          exact ⟨w1, a1, a2, ff_M a3⟩
      · refine ⟨-1, fun w hC _ => ⟨w, ?_, Fr.refl _ _⟩, fun w hM _ => ⟨w, ?_, hM, Fr.refl _ _⟩⟩
        · obtain ⟨⟨jd, x1, x2⟩, _⟩ := hC
          have t0 := x2.1 0 (by omega)
          rw [f_X11_look, e_X11_look_0]
          simp (disch := omega) only [x1, t0, ht, e_X11_look_10, p_within, c0, e_X11_look_20, c1, e_X11_look_29, true_and, and_true, false_and, and_false, beq_t, beq_f, eqN_t, eqN_f, eqL_t, eqL_f, nm1, nm2, nm1', nm2', m1z, m2z, zm1, zm2, m12, m21, lg_cmp_ge, lg_cmp_le, lg_cmp_gt, lg_cmp_lt, lg_cmp_eq, oob, oobL, neg0, negL0, natle_f, or_false, false_or, true_or, or_true, or_self, cl, clL, le_t, le_f, lt_t, lt_f, leL_t, leL_f, ltL_t, ltL_f, leM_t, leM_f, ltM_t, ltM_f, leO_t, leO_f, cond_true, cond_false, Option.bind_some, Option.bind_none, if_false, if_true, nI_1, aL1, aL2, mL1, mL2, nI_add, pk_mul, pk_m1, sL1, dL1, pk_sub, m1p1, gIs_eq, gIs_k, gIs_i, gIs_n, gIs_e, gIJ, gIR, gJI, gJR, gJs_eq, gJs_k, gJs_n, gJs_e, gRI, gRJ, gRs_eq, gRs_k, gRs_i, gRs_n, gZI, gZJ, gZR, pI_s, pJ_s, pV_s, pR_s, pR_n, oR_n, oR_s, decide_true, decide_false, not_true_eq_false, not_false_eq_true, decT, decF, Bool.true_eq_false, Bool.false_eq_true, z01, o01, z1f, z1f', zz, oo, b2i_0, b2i_n, b2i_t, b2i_f, Bool.not_true, Bool.not_false]
        · rw [f_X12_look, e_X12_look_0]
          simp (disch := omega) only [m_isDale hM.1, ht, e_X12_look_7, p_in_0_60, c0, e_X12_look_19, p_in_0_1, c1, e_X12_look_29, true_and, and_true, false_and, and_false, beq_t, beq_f, eqN_t, eqN_f, eqL_t, eqL_f, nm1, nm2, nm1', nm2', m1z, m2z, zm1, zm2, m12, m21, lg_cmp_ge, lg_cmp_le, lg_cmp_gt, lg_cmp_lt, lg_cmp_eq, oob, oobL, neg0, negL0, natle_f, or_false, false_or, true_or, or_true, or_self, cl, clL, le_t, le_f, lt_t, lt_f, leL_t, leL_f, ltL_t, ltL_f, leM_t, leM_f, ltM_t, ltM_f, leO_t, leO_f, cond_true, cond_false, Option.bind_some, Option.bind_none, if_false, if_true, nI_1, aL1, aL2, mL1, mL2, nI_add, pk_mul, pk_m1, sL1, dL1, pk_sub, m1p1, gIs_eq, gIs_k, gIs_i, gIs_n, gIs_e, gIJ, gIR, gJI, gJR, gJs_eq, gJs_k, gJs_n, gJs_e, gRI, gRJ, gRs_eq, gRs_k, gRs_i, gRs_n, gZI, gZJ, gZR, pI_s, pJ_s, pV_s, pR_s, pR_n, oR_n, oR_s, decide_true, decide_false, not_true_eq_false, not_false_eq_true, decT, decF, Bool.true_eq_false, Bool.false_eq_true, z01, o01, z1f, z1f', zz, oo, b2i_0, b2i_n, b2i_t, b2i_f, Bool.not_true, Bool.not_false]
    · refine ⟨-1, fun w hC _ => ⟨w, ?_, Fr.refl _ _⟩, fun w hM _ => ⟨w, ?_, hM, Fr.refl _ _⟩⟩
      · obtain ⟨⟨jd, x1, x2⟩, _⟩ := hC
        have t0 := x2.1 0 (by omega)
        rw [f_X11_look, e_X11_look_0]
        simp (disch := omega) only [x1, t0, ht, e_X11_look_10, p_within, c0, e_X11_look_29, true_and, and_true, false_and, and_false, beq_t, beq_f, eqN_t, eqN_f, eqL_t, eqL_f, nm1, nm2, nm1', nm2', m1z, m2z, zm1, zm2, m12, m21, lg_cmp_ge, lg_cmp_le, lg_cmp_gt, lg_cmp_lt, lg_cmp_eq, oob, oobL, neg0, negL0, natle_f, or_false, false_or, true_or, or_true, or_self, cl, clL, le_t, le_f, lt_t, lt_f, leL_t, leL_f, ltL_t, ltL_f, leM_t, leM_f, ltM_t, ltM_f, leO_t, leO_f, cond_true, cond_false, Option.bind_some, Option.bind_none, if_false, if_true, nI_1, aL1, aL2, mL1, mL2, nI_add, pk_mul, pk_m1, sL1, dL1, pk_sub, m1p1, gIs_eq, gIs_k, gIs_i, gIs_n, gIs_e, gIJ, gIR, gJI, gJR, gJs_eq, gJs_k, gJs_n, gJs_e, gRI, gRJ, gRs_eq, gRs_k, gRs_i, gRs_n, gZI, gZJ, gZR, pI_s, pJ_s, pV_s, pR_s, pR_n, oR_n, oR_s, decide_true, decide_false, not_true_eq_false, not_false_eq_true, decT, decF, Bool.true_eq_false, Bool.false_eq_true, z01, o01, z1f, z1f', zz, oo, b2i_0, b2i_n, b2i_t, b2i_f, Bool.not_true, Bool.not_false]
      · rw [f_X12_look, e_X12_look_0]
        simp (disch := omega) only [m_isDale hM.1, ht, e_X12_look_7, p_in_0_60, c0, e_X12_look_29, true_and, and_true, false_and, and_false, beq_t, beq_f, eqN_t, eqN_f, eqL_t, eqL_f, nm1, nm2, nm1', nm2', m1z, m2z, zm1, zm2, m12, m21, lg_cmp_ge, lg_cmp_le, lg_cmp_gt, lg_cmp_lt, lg_cmp_eq, oob, oobL, neg0, negL0, natle_f, or_false, false_or, true_or, or_true, or_self, cl, clL, le_t, le_f, lt_t, lt_f, leL_t, leL_f, ltL_t, ltL_f, leM_t, leM_f, ltM_t, ltM_f, leO_t, leO_f, cond_true, cond_false, Option.bind_some, Option.bind_none, if_false, if_true, nI_1, aL1, aL2, mL1, mL2, nI_add, pk_mul, pk_m1, sL1, dL1, pk_sub, m1p1, gIs_eq, gIs_k, gIs_i, gIs_n, gIs_e, gIJ, gIR, gJI, gJR, gJs_eq, gJs_k, gJs_n, gJs_e, gRI, gRJ, gRs_eq, gRs_k, gRs_i, gRs_n, gZI, gZJ, gZR, pI_s, pJ_s, pV_s, pR_s, pR_n, oR_n, oR_s, decide_true, decide_false, not_true_eq_false, not_false_eq_true, decT, decF, Bool.true_eq_false, Bool.false_eq_true, z01, o01, z1f, z1f', zz, oo, b2i_0, b2i_n, b2i_t, b2i_f, Bool.not_true, Bool.not_false]
  · refine ⟨-1, fun w hC _ => ⟨w, ?_, Fr.refl _ _⟩, fun w hM _ => ⟨w, ?_, hM, Fr.refl _ _⟩⟩
    · obtain ⟨⟨jd, x1, x2⟩, _⟩ := hC
      have t0 := x2.1 0 (by omega)
      rw [f_X11_look, e_X11_look_0]
      simp (disch := omega) only [x1, t0, ht, e_X11_look_29, true_and, and_true, false_and, and_false, beq_t, beq_f, eqN_t, eqN_f, eqL_t, eqL_f, nm1, nm2, nm1', nm2', m1z, m2z, zm1, zm2, m12, m21, lg_cmp_ge, lg_cmp_le, lg_cmp_gt, lg_cmp_lt, lg_cmp_eq, oob, oobL, neg0, negL0, natle_f, or_false, false_or, true_or, or_true, or_self, cl, clL, le_t, le_f, lt_t, lt_f, leL_t, leL_f, ltL_t, ltL_f, leM_t, leM_f, ltM_t, ltM_f, leO_t, leO_f, cond_true, cond_false, Option.bind_some, Option.bind_none, if_false, if_true, nI_1, aL1, aL2, mL1, mL2, nI_add, pk_mul, pk_m1, sL1, dL1, pk_sub, m1p1, gIs_eq, gIs_k, gIs_i, gIs_n, gIs_e, gIJ, gIR, gJI, gJR, gJs_eq, gJs_k, gJs_n, gJs_e, gRI, gRJ, gRs_eq, gRs_k, gRs_i, gRs_n, gZI, gZJ, gZR, pI_s, pJ_s, pV_s, pR_s, pR_n, oR_n, oR_s, decide_true, decide_false, not_true_eq_false, not_false_eq_true, decT, decF, Bool.true_eq_false, Bool.false_eq_true, z01, o01, z1f, z1f', zz, oo, b2i_0, b2i_n, b2i_t, b2i_f, Bool.not_true, Bool.not_false]
    · rw [f_X12_look, e_X12_look_0]
      simp (disch := omega) only [m_isDale hM.1, ht, e_X12_look_29, true_and, and_true, false_and, and_false, beq_t, beq_f, eqN_t, eqN_f, eqL_t, eqL_f, nm1, nm2, nm1', nm2', m1z, m2z, zm1, zm2, m12, m21, lg_cmp_ge, lg_cmp_le, lg_cmp_gt, lg_cmp_lt, lg_cmp_eq, oob, oobL, neg0, negL0, natle_f, or_false, false_or, true_or, or_true, or_self, cl, clL, le_t, le_f, lt_t, lt_f, leL_t, leL_f, ltL_t, ltL_f, leM_t, leM_f, ltM_t, ltM_f, leO_t, leO_f, cond_true, cond_false, Option.bind_some, Option.bind_none, if_false, if_true, nI_1, aL1, aL2, mL1, mL2, nI_add, pk_mul, pk_m1, sL1, dL1, pk_sub, m1p1, gIs_eq, gIs_k, gIs_i, gIs_n, gIs_e, gIJ, gIR, gJI, gJR, gJs_eq, gJs_k, gJs_n, gJs_e, gRI, gRJ, gRs_eq, gRs_k, gRs_i, gRs_n, gZI, gZJ, gZR, pI_s, pJ_s, pV_s, pR_s, pR_n, oR_n, oR_s, decide_true, decide_false, not_true_eq_false, not_false_eq_true, decT, decF, Bool.true_eq_false, Bool.false_eq_true, z01, o01, z1f, z1f', zz, oo, b2i_0, b2i_n, b2i_t, b2i_f, Bool.not_true, Bool.not_false]
