/-! ===== rules as steps on a stack ===== -/
abbrev Cl : Type := List Int32 × List Int32
abbrev Rl : Type := List Cl
def stpS (wd : Nat → Int64) (st : Int32) (k : List Int64) : List Int64 :=
  bif decide (st ≤ -20) then (bif decide (¬ st = -30) then (match k with
    | y :: x :: r => dnS st x y :: r
    | _ => k) else (match k with
    | a :: r => (1 - a) :: r
    | _ => k)) else (bif decide (st < 0) then wd (-1 - st).toNatClampNeg :: k else st.toInt64 :: k)
def runS (wd : Nat → Int64) (c : List Int32) (k : List Int64) : List Int64 := c.foldl (fun k st => stpS wd st k) k
def valS (wd : Nat → Int64) (c : List Int32) : Int64 := (runS wd c []).headD 0
def sumS (wd : Nat → Int64) : Rl → Int64
  | [] => 0
  | (c, t) :: r => bif (decide (t = []) || decide (¬ valS wd t = 0)) then valS wd c else sumS wd r
def tyS (st : Int32) (t : List Bool) : Option (List Bool) :=
  if st ∈ arL then (match t with
    | false :: false :: r => some (false :: r)
    | _ => none) else if st ∈ cmL then (match t with
    | false :: false :: r => some (true :: r)
    | _ => none) else if st ∈ lgL then (match t with
    | true :: true :: r => some (true :: r)
    | _ => none) else if st = -30 then (match t with
    | true :: r => some (true :: r)
    | _ => none) else some (false :: t)
def tysS (c : List Int32) (t : List Bool) : Option (List Bool) := c.foldl (fun o st => o.bind (tyS st)) (some t)
/-- a step that there is -/
def OkSt (st : Int32) : Prop := (∃ m, m ≤ 99999 ∧ st = nI m) ∨ st ∈ wdL ∨ st = -30 ∨ st ∈ opS
/-- how many lay something on the stack -/
def psh (c : List Int32) : Nat := (c.filter (fun st => decide (-20 < st))).length
theorem tysS_none (c : List Int32) : c.foldl (fun o st => o.bind (tyS st)) (none : Option (List Bool)) = none := by
  induction c with
  | nil => rfl
  | cons st c ih => exact ih
theorem tysS_cons {st : Int32} {c : List Int32} {t r : List Bool} (h : tysS (st :: c) t = some r) : ∃ t', tyS st t = some t' ∧ tysS c t' = some r := by
  unfold tysS at h
  rw [List.foldl_cons, Option.bind_some] at h
  cases hq : tyS st t with
  | none =>
    rw [hq, tysS_none] at h
    cases h
  | some t' =>
    rw [hq] at h
    exact ⟨t', rfl, h⟩
theorem tysS_app {c c2 : List Int32} {t t2 : List Bool} (h : tysS c t = some t2) : tysS (c ++ c2) t = tysS c2 t2 := by
  unfold tysS at h ⊢
  rw [List.foldl_append, h]
theorem runS_app (wd : Nat → Int64) (c c2 : List Int32) (k : List Int64) : runS wd (c ++ c2) k = runS wd c2 (runS wd c k) := by
  unfold runS
  rw [List.foldl_append]
theorem psh_app (c c2 : List Int32) : psh (c ++ c2) = psh c + psh c2 := by
  unfold psh
  rw [List.filter_append, List.length_append]
theorem op_mem {st : Int32} (h : st ∈ opS) : st ∈ arL ∨ st ∈ cmL ∨ st ∈ lgL := by
  unfold opS at h
  simp only [List.mem_cons, List.not_mem_nil, or_false] at h
  unfold arL cmL lgL
  simp only [List.mem_cons, List.not_mem_nil, or_false]
  rcases h with h | h | h | h | h | h | h | h | h | h | h | h <;> simp only [h, true_or, or_true]
theorem ty_op {st : Int32} (h : st ∈ opS) {t t' : List Bool} (ht : tyS st t = some t') : ∃ a b c r, t = a :: b :: r ∧ t' = c :: r := by
  unfold tyS at ht
  split at ht
  · split at ht
    · cases ht; exact ⟨_, _, _, _, rfl, rfl⟩
    · cases ht
  · split at ht
    · split at ht
      · cases ht; exact ⟨_, _, _, _, rfl, rfl⟩
      · cases ht
    · split at ht
      · split at ht
        · cases ht; exact ⟨_, _, _, _, rfl, rfl⟩
        · cases ht
      · rename_i h1 h2 h3
        rcases op_mem h with q | q | q
        · exact absurd q h1
        · exact absurd q h2
        · exact absurd q h3
theorem ty_not {t t' : List Bool} (ht : tyS (-30) t = some t') : ∃ r, t = true :: r ∧ t' = true :: r := by
  unfold tyS at ht
  rw [if_neg (by decide), if_neg (by decide), if_neg (by decide), if_pos rfl] at ht
  split at ht
  · cases ht; exact ⟨_, rfl, rfl⟩
  · cases ht
theorem pg_wd : ∀ st ∈ wdL, (st ∈ arL ↔ False) ∧ (st ∈ cmL ↔ False) ∧ (st ∈ lgL ↔ False) ∧ (st = -30 ↔ False) ∧ st < 0 ∧ -20 < st ∧ ¬ st ≤ -20 ∧ ∃ c : Fin 11, -1 - st = nI c.val := by decide +kernel
theorem nm_toInt {m : Nat} (h : m ≤ 99999) : (nI m).toInt = (m : Int) := nI_toInt (by omega)
theorem nm_ne {m : Nat} (h : m ≤ 99999) {x : Int32} (hx : x.toInt < 0) : ¬ nI m = x := fun q => by
  have := congrArg Int32.toInt q
  rw [nm_toInt h] at this
  omega
theorem nm_nm {m : Nat} (h : m ≤ 99999) {l : List Int32} (hl : ∀ x ∈ l, x.toInt < 0) : ¬ nI m ∈ l := fun q => by
  have := hl _ q
  rw [nm_toInt h] at this
  omega
theorem nm_gt {m : Nat} (h : m ≤ 99999) {x : Int32} (hx : x.toInt < 0) : x < nI m ∧ ¬ nI m ≤ x := by
  rw [Int32.lt_iff_toInt_lt, Int32.le_iff_toInt_le, nm_toInt h]
  omega
theorem nm_nn {m : Nat} (h : m ≤ 99999) : ¬ nI m < 0 := nI_pos (by omega)
theorem ty_wd {st : Int32} (h : st ∈ wdL) (t : List Bool) : tyS st t = some (false :: t) := by
  obtain ⟨h1, h2, h3, h4, _⟩ := pg_wd st h
  unfold tyS
  rw [if_neg (h1.mp), if_neg (h2.mp), if_neg (h3.mp), if_neg (h4.mp)]
theorem ty_nm {m : Nat} (h : m ≤ 99999) (t : List Bool) : tyS (nI m) t = some (false :: t) := by
  unfold tyS
  rw [if_neg (nm_nm h (by decide)), if_neg (nm_nm h (by decide)), if_neg (nm_nm h (by decide)), if_neg (nm_ne h (by decide))]
theorem op_le : ∀ st ∈ opS, st ≤ -20 ∧ ¬ st = -30 ∧ ¬ -20 < st := by decide +kernel
theorem st_op (wd : Nat → Int64) {st : Int32} (h : st ∈ opS) (x y : Int64) (r : List Int64) : stpS wd st (y :: x :: r) = dnS st x y :: r := by
  unfold stpS
  rw [decT (op_le st h).1, decT (op_le st h).2.1]
  rfl
theorem st_not (wd : Nat → Int64) (a : Int64) (r : List Int64) : stpS wd (-30) (a :: r) = (1 - a) :: r := rfl
theorem st_wd (wd : Nat → Int64) {st : Int32} (h : st ∈ wdL) (k : List Int64) : stpS wd st k = wd (-1 - st).toNatClampNeg :: k := by
  unfold stpS
  rw [decF (pg_wd st h).2.2.2.2.2.2.1, decT (pg_wd st h).2.2.2.2.1]
  rfl
theorem st_nm (wd : Nat → Int64) {m : Nat} (h : m ≤ 99999) (k : List Int64) : stpS wd (nI m) k = (nI m).toInt64 :: k := by
  unfold stpS
  rw [decF (nm_gt h (by decide)).2, decF (nm_nn h)]
  rfl
theorem psh_cons {st : Int32} {c : List Int32} : psh (st :: c) = (if -20 < st then 1 else 0) + psh c := by
  unfold psh
  rw [List.filter_cons]
  by_cases h : -20 < st
  · rw [if_pos (decT h), if_pos h, List.length_cons]; omega
  · rw [if_neg (by rw [decF h]; exact Bool.false_ne_true), if_neg h]; omega
/-- what stands on the stack -/
def StkAt (g : Nat → Int64) : List Int64 → Prop
  | [] => True
  | v :: r => g r.length = v ∧ StkAt g r
theorem StkAt.mono {g g' : Nat → Int64} : ∀ {k : List Int64}, (∀ j, j < k.length → g' j = g j) → StkAt g k → StkAt g' k := by
  intro k
  induction k with
  | nil => intro _ _; trivial
  | cons v r ih =>
    intro h hs
    exact ⟨(h _ (by rw [List.length_cons]; omega)).trans hs.1, ih (fun j hj => h j (by rw [List.length_cons]; omega)) hs.2⟩
def CdAt (w : XW) (jr o : Nat) (c : List Int32) : Prop := ∀ i st, c[i]? = some st → gI w 26 jr (o + i) = st ∧ o + i < gZ w 26 jr
def P21 (κ _i _k : Nat) : Prop := κ = 21
theorem CdAt.fr {P : Nat → Nat → Nat → Prop} {w w' : XW} {jr o : Nat} {c : List Int32} (h : CdAt w jr o c) (hF : Fr P w w') (hP : ∀ k, ¬ P 26 jr k) : CdAt w' jr o c := fun i st hi => by
  obtain ⟨h1, h2⟩ := h i st hi
  rw [(hF 26 jr (o + i) (hP _)).1, (hF 26 jr (o + i) (hP _)).2.2.2]
  exact ⟨h1, h2⟩
theorem CdAt.head {w : XW} {jr o : Nat} {st : Int32} {c : List Int32} (h : CdAt w jr o (st :: c)) : gI w 26 jr o = st ∧ o < gZ w 26 jr := h 0 st rfl
theorem CdAt.tail {w : XW} {jr o : Nat} {st : Int32} {c : List Int32} (h : CdAt w jr o (st :: c)) : CdAt w jr (o + 1) c := fun i s hi => by
  rw [show o + 1 + i = o + (i + 1) by omega]
  exact h (i + 1) s hi
theorem CdAt.left {w : XW} {jr o : Nat} {c c2 : List Int32} (h : CdAt w jr o (c ++ c2)) : CdAt w jr o c := fun i s hi => h i s (by
  rw [List.getElem?_append_left ((List.getElem?_eq_some_iff.mp hi).1)]; exact hi)
theorem CdAt.right {w : XW} {jr o : Nat} {c c2 : List Int32} (h : CdAt w jr o (c ++ c2)) : CdAt w jr (o + c.length) c2 := fun i s hi => by
  rw [show o + c.length + i = o + (c.length + i) by omega]
  exact h (c.length + i) s (by rw [List.getElem?_append_right (by omega), Nat.add_sub_cancel_left]; exact hi)
theorem worth_loop (d : Dl) (hD : DOk d) (i jd p jr : Nat) (ts : Ar) (s : Sc) (hp : p < pn d) : ∀ (c : List Int32) (o : Nat) (k : List Int64) (t : List Bool) (b : Bool) (w : XW), Ctx w i jd d (some jr) ts s → CdAt w jr o c → gZ w 26 jr ≤ 400 → o + c.length ≤ 400 → tysS c t = some [b] → t.length = k.length → k.length + psh c ≤ 60 → (∀ st ∈ c, OkSt st) → StkAt (gJ w 21 0) k →
    ∃ w', q_X4_worth_6 i (nI p) (nI (o + c.length)) (nI k.length) (nI o) w = some (some (.inl (.long ((runS (wdS d ts s p) c k).headD 0))), w') ∧ Fr P21 w w' := by
  intro c
  induction c with
  | nil =>
    intro o k t b w hc _ _ ho ht hl hps _ hk
    cases ht
    obtain ⟨v, rfl⟩ : ∃ v, k = [v] := by
      match k, hl with
      | [v], _ => exact ⟨v, rfl⟩
    refine ⟨w, ?_, Fr.refl _ _⟩
    have hv : gJ w 21 0 0 = v := hk.1
    ((try dsimp only); rw [e_X4_worth_6]; simp (disch := omega) only [List.length_nil, Nat.add_zero, e_X4_worth_172, hv, true_and, and_true, false_and, and_false, beq_t, beq_f, eqN_t, eqN_f, eqL_t, eqL_f, nm1, nm2, nm1', nm2', m1z, m2z, zm1, zm2, m12, m21, lg_cmp_ge, lg_cmp_le, lg_cmp_gt, lg_cmp_lt, lg_cmp_eq, oob, oobL, neg0, negL0, natle_f, or_false, false_or, true_or, or_true, or_self, cl, clL, le_t, le_f, lt_t, lt_f, leL_t, leL_f, ltL_t, ltL_f, leM_t, leM_f, ltM_t, ltM_f, leO_t, leO_f, cond_true, cond_false, Option.bind_some, Option.bind_none, if_false, if_true, nI_1, aL1, aL2, mL1, mL2, nI_add, pk_mul, pk_m1, sL1, dL1, pk_sub, m1p1, gIs_eq, gIs_k, gIs_i, gIs_n, gIs_e, gIJ, gIR, gJI, gJR, gJs_eq, gJs_k, gJs_n, gJs_e, gRI, gRJ, gRs_eq, gRs_k, gRs_i, gRs_n, gZI, gZJ, gZR, pI_s, pJ_s, pV_s, pR_s, pR_n, oR_n, oR_s, decide_true, decide_false, not_true_eq_false, not_false_eq_true, decT, decF, Bool.true_eq_false, Bool.false_eq_true, z01, o01, z1f, z1f', zz, oo, b2i_0, b2i_n, b2i_t, b2i_f, Bool.not_true, Bool.not_false])
    rfl
  | cons st c ih =>
    intro o k t b w hc hcd hz ho ht hl hps hok hk
    obtain ⟨t', ht1, ht2⟩ := tysS_cons ht
    obtain ⟨hg, hoz⟩ := hcd.head
    have hr := hc.2.1.2.1
    rw [List.length_cons] at ho ⊢
    have hpc := psh_cons (st := st) (c := c)
    rw [hpc] at hps
    have go : ∀ (k' : List Int64) (w1 : XW), Fr P21 w w1 → t'.length = k'.length → k'.length + psh c ≤ 60 → StkAt (gJ w1 21 0) k' → runS (wdS d ts s p) (st :: c) k = runS (wdS d ts s p) c k' → ∃ w', q_X4_worth_166 i (nI p) (nI (o + (c.length + 1))) (nI k'.length) (nI o) w1 = some (some (.inl (.long ((runS (wdS d ts s p) (st :: c) k).headD 0))), w') ∧ Fr P21 w w' := by
      intro k' w1 hF hl' hps' hk' hrun
      obtain ⟨w', h1, h2⟩ := ih (o + 1) k' t' b w1 (hc.fr hF (fun κ j k q => by unfold P21; omega)) ((hcd.fr hF (fun k => by unfold P21; omega)).tail) (by rw [(hF 26 jr 0 (by unfold P21; omega)).2.2.2]; exact hz) (by omega) ht2 hl' hps' (fun s hs => hok s (List.mem_cons_of_mem _ hs)) hk'
      refine ⟨w', ?_, hF.trans h2⟩
      rw [e_X4_worth_166, nI_1, show o + (c.length + 1) = o + 1 + c.length by omega, h1, hrun]
    rw [e_X4_worth_6]
    simp (disch := omega) only [e_X4_worth_13, hr, e_X4_worth_26, hg, true_and, and_true, false_and, and_false, beq_t, beq_f, eqN_t, eqN_f, eqL_t, eqL_f, nm1, nm2, nm1', nm2', m1z, m2z, zm1, zm2, m12, m21, lg_cmp_ge, lg_cmp_le, lg_cmp_gt, lg_cmp_lt, lg_cmp_eq, oob, oobL, neg0, negL0, natle_f, or_false, false_or, true_or, or_true, or_self, cl, clL, le_t, le_f, lt_t, lt_f, leL_t, leL_f, ltL_t, ltL_f, leM_t, leM_f, ltM_t, ltM_f, leO_t, leO_f, cond_true, cond_false, Option.bind_some, Option.bind_none, if_false, if_true, nI_1, aL1, aL2, mL1, mL2, nI_add, pk_mul, pk_m1, sL1, dL1, pk_sub, m1p1, gIs_eq, gIs_k, gIs_i, gIs_n, gIs_e, gIJ, gIR, gJI, gJR, gJs_eq, gJs_k, gJs_n, gJs_e, gRI, gRJ, gRs_eq, gRs_k, gRs_i, gRs_n, gZI, gZJ, gZR, pI_s, pJ_s, pV_s, pR_s, pR_n, oR_n, oR_s, decide_true, decide_false, not_true_eq_false, not_false_eq_true, decT, decF, Bool.true_eq_false, Bool.false_eq_true, z01, o01, z1f, z1f', zz, oo, b2i_0, b2i_n, b2i_t, b2i_f, Bool.not_true, Bool.not_false]
    rcases hok st (List.mem_cons_self ..) with ⟨m, hm, rfl⟩ | hw | rfl | hop
    · rw [decF (nm_gt hm (by decide)).2]
      rw [if_pos (nm_gt hm (by decide)).1] at hps
      have e5 : decide (nI m < 0) = false := decF (nm_nn hm)
      simp (disch := omega) only [e_X4_worth_45, e_X4_worth_55, e5, e_X4_worth_66, e_X4_worth_82, true_and, and_true, false_and, and_false, beq_t, beq_f, eqN_t, eqN_f, eqL_t, eqL_f, nm1, nm2, nm1', nm2', m1z, m2z, zm1, zm2, m12, m21, lg_cmp_ge, lg_cmp_le, lg_cmp_gt, lg_cmp_lt, lg_cmp_eq, oob, oobL, neg0, negL0, natle_f, or_false, false_or, true_or, or_true, or_self, cl, clL, le_t, le_f, lt_t, lt_f, leL_t, leL_f, ltL_t, ltL_f, leM_t, leM_f, ltM_t, ltM_f, leO_t, leO_f, cond_true, cond_false, Option.bind_some, Option.bind_none, if_false, if_true, nI_1, aL1, aL2, mL1, mL2, nI_add, pk_mul, pk_m1, sL1, dL1, pk_sub, m1p1, gIs_eq, gIs_k, gIs_i, gIs_n, gIs_e, gIJ, gIR, gJI, gJR, gJs_eq, gJs_k, gJs_n, gJs_e, gRI, gRJ, gRs_eq, gRs_k, gRs_i, gRs_n, gZI, gZJ, gZR, pI_s, pJ_s, pV_s, pR_s, pR_n, oR_n, oR_s, decide_true, decide_false, not_true_eq_false, not_false_eq_true, decT, decF, Bool.true_eq_false, Bool.false_eq_true, z01, o01, z1f, z1f', zz, oo, b2i_0, b2i_n, b2i_t, b2i_f, Bool.not_true, Bool.not_false]
      refine go ((nI m).toInt64 :: k) _ ((Fr.refl _ _).sJ rfl) ?_ ?_ ⟨gJs_eq, StkAt.mono (fun j hj => gJs_k (by omega)) hk⟩ ?_
      · rw [ty_nm hm] at ht1
        cases ht1
        simp only [List.length_cons, hl]
      · rw [List.length_cons]; omega
      · show runS _ c (stpS _ _ k) = _
        rw [st_nm _ hm]
    · obtain ⟨_, _, _, _, a1, a2, a3, q, hq⟩ := pg_wd st hw
      rw [if_pos a2] at hps
      have e1 : decide (st ≤ -20) = false := decF a3
      have e2 : decide (st < 0) = true := decT a1
      have hwo := p_X4_wordOf d hD i jd p q.val (some jr) ts s w hc hp (by omega)
      simp (disch := omega) only [e1, e_X4_worth_45, e_X4_worth_55, e2, e_X4_worth_72, hq, hwo, e_X4_worth_82, true_and, and_true, false_and, and_false, beq_t, beq_f, eqN_t, eqN_f, eqL_t, eqL_f, nm1, nm2, nm1', nm2', m1z, m2z, zm1, zm2, m12, m21, lg_cmp_ge, lg_cmp_le, lg_cmp_gt, lg_cmp_lt, lg_cmp_eq, oob, oobL, neg0, negL0, natle_f, or_false, false_or, true_or, or_true, or_self, cl, clL, le_t, le_f, lt_t, lt_f, leL_t, leL_f, ltL_t, ltL_f, leM_t, leM_f, ltM_t, ltM_f, leO_t, leO_f, cond_true, cond_false, Option.bind_some, Option.bind_none, if_false, if_true, nI_1, aL1, aL2, mL1, mL2, nI_add, pk_mul, pk_m1, sL1, dL1, pk_sub, m1p1, gIs_eq, gIs_k, gIs_i, gIs_n, gIs_e, gIJ, gIR, gJI, gJR, gJs_eq, gJs_k, gJs_n, gJs_e, gRI, gRJ, gRs_eq, gRs_k, gRs_i, gRs_n, gZI, gZJ, gZR, pI_s, pJ_s, pV_s, pR_s, pR_n, oR_n, oR_s, decide_true, decide_false, not_true_eq_false, not_false_eq_true, decT, decF, Bool.true_eq_false, Bool.false_eq_true, z01, o01, z1f, z1f', zz, oo, b2i_0, b2i_n, b2i_t, b2i_f, Bool.not_true, Bool.not_false]
      refine go (wdS d ts s p q.val :: k) _ ((Fr.refl _ _).sJ rfl) ?_ ?_ ⟨gJs_eq, StkAt.mono (fun j hj => gJs_k (by omega)) hk⟩ ?_
      · rw [ty_wd hw] at ht1
        cases ht1
        simp only [List.length_cons, hl]
      · rw [List.length_cons]; omega
      · show runS _ c (stpS _ _ k) = _
        rw [st_wd _ hw, hq, cl (by omega)]
    · obtain ⟨r, rfl, rfl⟩ := ty_not ht1
      obtain ⟨v, k, rfl⟩ : ∃ v k', k = v :: k' := by
        match k, hl with
        | v :: k', _ => exact ⟨v, k', rfl⟩
      have hv : gJ w 21 0 k.length = v := hk.1
      rw [List.length_cons] at hps ⊢
      have e1 : decide ((-30 : Int32) ≤ -20) = true := by decide
      have e2 : decide (¬ (-30 : Int32) = -30) = false := by decide
      simp (disch := omega) only [e1, e2, e_X4_worth_89, e_X4_worth_96, e_X4_worth_102, Nat.add_sub_cancel, hv, true_and, and_true, false_and, and_false, beq_t, beq_f, eqN_t, eqN_f, eqL_t, eqL_f, nm1, nm2, nm1', nm2', m1z, m2z, zm1, zm2, m12, m21, lg_cmp_ge, lg_cmp_le, lg_cmp_gt, lg_cmp_lt, lg_cmp_eq, oob, oobL, neg0, negL0, natle_f, or_false, false_or, true_or, or_true, or_self, cl, clL, le_t, le_f, lt_t, lt_f, leL_t, leL_f, ltL_t, ltL_f, leM_t, leM_f, ltM_t, ltM_f, leO_t, leO_f, cond_true, cond_false, Option.bind_some, Option.bind_none, if_false, if_true, nI_1, aL1, aL2, mL1, mL2, nI_add, pk_mul, pk_m1, sL1, dL1, pk_sub, m1p1, gIs_eq, gIs_k, gIs_i, gIs_n, gIs_e, gIJ, gIR, gJI, gJR, gJs_eq, gJs_k, gJs_n, gJs_e, gRI, gRJ, gRs_eq, gRs_k, gRs_i, gRs_n, gZI, gZJ, gZR, pI_s, pJ_s, pV_s, pR_s, pR_n, oR_n, oR_s, decide_true, decide_false, not_true_eq_false, not_false_eq_true, decT, decF, Bool.true_eq_false, Bool.false_eq_true, z01, o01, z1f, z1f', zz, oo, b2i_0, b2i_n, b2i_t, b2i_f, Bool.not_true, Bool.not_false]
      refine go ((1 - v) :: k) _ ((Fr.refl _ _).sJ rfl) ?_ ?_ ⟨gJs_eq, StkAt.mono (fun j hj => gJs_k (by omega)) hk.2⟩ rfl
      · simpa using hl
      · rw [List.length_cons]; omega
    · obtain ⟨a1, a2, a3⟩ := op_le st hop
      obtain ⟨ta, tb, tc, r, rfl, rfl⟩ := ty_op hop ht1
      obtain ⟨y, x, k, rfl⟩ : ∃ y x k', k = y :: x :: k' := by
        match k, hl with
        | y :: x :: k', _ => exact ⟨y, x, k', rfl⟩
      have hy : gJ w 21 0 (k.length + 1) = y := hk.1
      have hx : gJ w 21 0 k.length = x := hk.2.1
      rw [if_neg a3] at hps
      simp only [List.length_cons] at hps hl ⊢
      have e1 : decide (st ≤ -20) = true := decT a1
      have e2 : decide (¬ st = -30) = true := decT a2
      have n1 : k.length + 1 + 1 - 1 = k.length + 1 := by omega
      have n2 : k.length + 1 + 1 - 2 = k.length := by omega
      have hdo := p_X4_done st hop x y w
      simp (disch := omega) only [e1, e2, e_X4_worth_89, e_X4_worth_125, e_X4_worth_131, n1, n2, hx, hy, hdo, true_and, and_true, false_and, and_false, beq_t, beq_f, eqN_t, eqN_f, eqL_t, eqL_f, nm1, nm2, nm1', nm2', m1z, m2z, zm1, zm2, m12, m21, lg_cmp_ge, lg_cmp_le, lg_cmp_gt, lg_cmp_lt, lg_cmp_eq, oob, oobL, neg0, negL0, natle_f, or_false, false_or, true_or, or_true, or_self, cl, clL, le_t, le_f, lt_t, lt_f, leL_t, leL_f, ltL_t, ltL_f, leM_t, leM_f, ltM_t, ltM_f, leO_t, leO_f, cond_true, cond_false, Option.bind_some, Option.bind_none, if_false, if_true, nI_1, aL1, aL2, mL1, mL2, nI_add, pk_mul, pk_m1, sL1, dL1, pk_sub, m1p1, gIs_eq, gIs_k, gIs_i, gIs_n, gIs_e, gIJ, gIR, gJI, gJR, gJs_eq, gJs_k, gJs_n, gJs_e, gRI, gRJ, gRs_eq, gRs_k, gRs_i, gRs_n, gZI, gZJ, gZR, pI_s, pJ_s, pV_s, pR_s, pR_n, oR_n, oR_s, decide_true, decide_false, not_true_eq_false, not_false_eq_true, decT, decF, Bool.true_eq_false, Bool.false_eq_true, z01, o01, z1f, z1f', zz, oo, b2i_0, b2i_n, b2i_t, b2i_f, Bool.not_true, Bool.not_false]
      refine go (dnS st x y :: k) _ ((Fr.refl _ _).sJ rfl) ?_ ?_ ⟨gJs_eq, StkAt.mono (fun j hj => gJs_k (by omega)) hk.2.2⟩ ?_
      · simp only [List.length_cons]; omega
      · rw [List.length_cons]; omega
      · show runS _ c (stpS _ _ (y :: x :: k)) = _
        rw [st_op _ hop]
/-- a sum or a test that is whole -/
def COk (c : List Int32) (b : Bool) : Prop := tysS c [] = some [b] ∧ psh c ≤ 60 ∧ ∀ st ∈ c, OkSt st
theorem p_X4_worth (d : Dl) (hD : DOk d) (i jd p jr : Nat) (ts : Ar) (s : Sc) (hp : p < pn d) (c : List Int32) (b : Bool) (hC : COk c b) (o : Nat) (w : XW) (hc : Ctx w i jd d (some jr) ts s) (hcd : CdAt w jr o c) (hz : gZ w 26 jr ≤ 400) (ho : o + c.length ≤ 400) :
    ∃ w', F_X4_worth [.inr (3, 0), .inr (8, i), .inl (.int (nI p)), .inl (.int (nI o)), .inl (.int (nI (o + c.length)))] w = some (valS (wdS d ts s p) c, w') ∧ Fr P21 w w' := by
  obtain ⟨w', h1, h2⟩ := worth_loop d hD i jd p jr ts s hp c o [] [] b w hc hcd hz ho hC.1 rfl (by rw [List.length_nil]; have := hC.2.1; omega) hC.2.2 trivial
  refine ⟨w', ?_, h2⟩
  rw [List.length_nil, nI_0] at h1
  rw [f_X4_worth, e_X4_worth_0, h1]
  rfl
/-- a rule in the class: clause ci begins at step o -/
def RcAt (w : XW) (jr : Nat) : Nat → Nat → Rl → Prop
  | _, _, [] => True
  | ci, o, (c, t) :: r => (gI w 27 jr (3 * ci) = nI o ∧ gI w 27 jr (3 * ci + 1) = nI (o + c.length) ∧ gI w 27 jr (3 * ci + 2) = nI (o + c.length + t.length) ∧ CdAt w jr o c ∧ CdAt w jr (o + c.length) t ∧ o + c.length + t.length ≤ 400) ∧ RcAt w jr (ci + 1) (o + c.length + t.length) r
theorem RcAt.fr {P : Nat → Nat → Nat → Prop} {w w' : XW} {jr : Nat} (hF : Fr P w w') (hP : ∀ κ k, κ = 26 ∨ κ = 27 → ¬ P κ jr k) : ∀ (rl : Rl) (ci o : Nat), RcAt w jr ci o rl → RcAt w' jr ci o rl := by
  intro rl
  induction rl with
  | nil => intro _ _ _; trivial
  | cons q r ih =>
    intro ci o h
    obtain ⟨⟨h1, h2, h3, h4, h5, h6⟩, h7⟩ := h
    exact ⟨⟨by rw [(hF 27 jr _ (hP 27 _ (by omega))).1]; exact h1, by rw [(hF 27 jr _ (hP 27 _ (by omega))).1]; exact h2, by rw [(hF 27 jr _ (hP 27 _ (by omega))).1]; exact h3, h4.fr hF (fun k => hP 26 k (by omega)), h5.fr hF (fun k => hP 26 k (by omega)), h6⟩, ih _ _ h7⟩
def RlC (w : XW) (jr : Nat) (rl : Rl) : Prop := gI w 6 jr 2 = nI rl.length ∧ rl.length ≤ 12 ∧ gZ w 27 jr = 3 * rl.length ∧ gZ w 26 jr ≤ 400 ∧ RcAt w jr 0 0 rl
theorem RlC.fr {P : Nat → Nat → Nat → Prop} {w w' : XW} {jr : Nat} {rl : Rl} (h : RlC w jr rl) (hF : Fr P w w') (hP : ∀ κ k, κ = 6 ∨ κ = 26 ∨ κ = 27 → ¬ P κ jr k) : RlC w' jr rl := by
  obtain ⟨h1, h2, h3, h4, h5⟩ := h
  exact ⟨by rw [(hF 6 jr 2 (hP 6 _ (by omega))).1]; exact h1, h2, by rw [(hF 27 jr 0 (hP 27 _ (by omega))).2.2.2]; exact h3, by rw [(hF 26 jr 0 (hP 26 _ (by omega))).2.2.2]; exact h4, RcAt.fr hF (fun κ k q => hP κ k (by omega)) _ _ _ h5⟩
def ROk (rl : Rl) : Prop := ∀ q ∈ rl, COk q.1 false ∧ (q.2 = [] ∨ COk q.2 true)
theorem p_X4_sumFor (d : Dl) (hD : DOk d) (i jd p jr : Nat) (ts : Ar) (s : Sc) (hp : p < pn d) (rl : Rl) (hR : ROk rl) (w : XW) (hc : Ctx w i jd d (some jr) ts s) (hrl : RlC w jr rl) :
    ∃ w', F_X4_sumFor [.inr (3, 0), .inr (8, i), .inl (.int (nI p))] w = some (sumS (wdS d ts s p) rl, w') ∧ Fr P21 w w' := by
  obtain ⟨h1, h2, h3, h4, h5⟩ := hrl
  have key : ∀ (r : Rl) (ci o : Nat) (v : XW), ci + r.length = rl.length → ROk r → RcAt w jr ci o r → Fr P21 w v → ∃ w', q_X4_sumFor_2 i (nI p) (nI ci) v = some (some (.inl (.long (sumS (wdS d ts s p) r))), w') ∧ Fr P21 w w' := by
    intro r
    induction r with
    | nil =>
      intro ci o v hl _ _ hF
      have g1 : gI v 6 jr 2 = nI rl.length := by rw [(hF 6 jr 2 (by unfold P21; omega)).1]; exact h1
      have g2 := (hc.fr hF (fun κ j k q => by unfold P21; omega)).2.1.2.1
      rw [List.length_nil] at hl
      refine ⟨v, ?_, hF⟩
      ((try dsimp only); rw [e_X4_sumFor_2]; simp (disch := omega) only [g2, g1, e_X4_sumFor_95, true_and, and_true, false_and, and_false, beq_t, beq_f, eqN_t, eqN_f, eqL_t, eqL_f, nm1, nm2, nm1', nm2', m1z, m2z, zm1, zm2, m12, m21, lg_cmp_ge, lg_cmp_le, lg_cmp_gt, lg_cmp_lt, lg_cmp_eq, oob, oobL, neg0, negL0, natle_f, or_false, false_or, true_or, or_true, or_self, cl, clL, le_t, le_f, lt_t, lt_f, leL_t, leL_f, ltL_t, ltL_f, leM_t, leM_f, ltM_t, ltM_f, leO_t, leO_f, cond_true, cond_false, Option.bind_some, Option.bind_none, if_false, if_true, nI_1, aL1, aL2, mL1, mL2, nI_add, pk_mul, pk_m1, sL1, dL1, pk_sub, m1p1, gIs_eq, gIs_k, gIs_i, gIs_n, gIs_e, gIJ, gIR, gJI, gJR, gJs_eq, gJs_k, gJs_n, gJs_e, gRI, gRJ, gRs_eq, gRs_k, gRs_i, gRs_n, gZI, gZJ, gZR, pI_s, pJ_s, pV_s, pR_s, pR_n, oR_n, oR_s, decide_true, decide_false, not_true_eq_false, not_false_eq_true, decT, decF, Bool.true_eq_false, Bool.false_eq_true, z01, o01, z1f, z1f', zz, oo, b2i_0, b2i_n, b2i_t, b2i_f, Bool.not_true, Bool.not_false])
      rfl
    | cons q r ih =>
      intro ci o v hl hok hrc hF
      obtain ⟨c, t⟩ := q
      rw [List.length_cons] at hl
      have g1 : gI v 6 jr 2 = nI rl.length := by rw [(hF 6 jr 2 (by unfold P21; omega)).1]; exact h1
      have g3 : gZ v 27 jr = 3 * rl.length := by rw [(hF 27 jr 0 (by unfold P21; omega)).2.2.2]; exact h3
      have g4 : gZ v 26 jr ≤ 400 := by rw [(hF 26 jr 0 (by unfold P21; omega)).2.2.2]; exact h4
      have hcv := hc.fr hF (fun κ j k q => by unfold P21; omega)
      have g2 := hcv.2.1.2.1
      obtain ⟨⟨b1, b2, b3, b4, b5, b6⟩, b7⟩ := RcAt.fr hF (fun κ k q => by unfold P21; omega) _ _ _ hrc
      have hq := hok _ (List.mem_cons_self ..)
      have hsum : ∀ u, Fr P21 w u → ∃ w', q_X4_sumFor_78 i (nI p) (nI o) (nI (o + c.length)) u = some (some (.inl (.long (valS (wdS d ts s p) c))), w') ∧ Fr P21 w w' := by
        intro u hFu
        obtain ⟨⟨c1, c2, c3, c4, c5, c6⟩, c7⟩ := RcAt.fr hFu (fun κ k q => by unfold P21; omega) _ _ _ hrc
        obtain ⟨w', x1, x2⟩ := p_X4_worth d hD i jd p jr ts s hp c false hq.1 o u (hc.fr hFu (fun κ j k q => by unfold P21; omega)) c4 (by rw [(hFu 26 jr 0 (by unfold P21; omega)).2.2.2]; exact h4) (by omega)
        refine ⟨w', ?_, hFu.trans x2⟩
        rw [e_X4_sumFor_78, x1]
        rfl
      rw [e_X4_sumFor_2]
      simp (disch := omega) only [g2, g1, e_X4_sumFor_13, g3, b1, b2, b3, true_and, and_true, false_and, and_false, beq_t, beq_f, eqN_t, eqN_f, eqL_t, eqL_f, nm1, nm2, nm1', nm2', m1z, m2z, zm1, zm2, m12, m21, lg_cmp_ge, lg_cmp_le, lg_cmp_gt, lg_cmp_lt, lg_cmp_eq, oob, oobL, neg0, negL0, natle_f, or_false, false_or, true_or, or_true, or_self, cl, clL, le_t, le_f, lt_t, lt_f, leL_t, leL_f, ltL_t, ltL_f, leM_t, leM_f, ltM_t, ltM_f, leO_t, leO_f, cond_true, cond_false, Option.bind_some, Option.bind_none, if_false, if_true, nI_1, aL1, aL2, mL1, mL2, nI_add, pk_mul, pk_m1, sL1, dL1, pk_sub, m1p1, gIs_eq, gIs_k, gIs_i, gIs_n, gIs_e, gIJ, gIR, gJI, gJR, gJs_eq, gJs_k, gJs_n, gJs_e, gRI, gRJ, gRs_eq, gRs_k, gRs_i, gRs_n, gZI, gZJ, gZR, pI_s, pJ_s, pV_s, pR_s, pR_n, oR_n, oR_s, decide_true, decide_false, not_true_eq_false, not_false_eq_true, decT, decF, Bool.true_eq_false, Bool.false_eq_true, z01, o01, z1f, z1f', zz, oo, b2i_0, b2i_n, b2i_t, b2i_f, Bool.not_true, Bool.not_false]
      by_cases ht : t = []
      · subst ht
        obtain ⟨w', x1, x2⟩ := hsum v hF
        refine ⟨w', ?_, x2⟩
        simp (disch := omega) only [List.length_nil, Nat.add_zero, true_and, and_true, false_and, and_false, beq_t, beq_f, eqN_t, eqN_f, eqL_t, eqL_f, nm1, nm2, nm1', nm2', m1z, m2z, zm1, zm2, m12, m21, lg_cmp_ge, lg_cmp_le, lg_cmp_gt, lg_cmp_lt, lg_cmp_eq, oob, oobL, neg0, negL0, natle_f, or_false, false_or, true_or, or_true, or_self, cl, clL, le_t, le_f, lt_t, lt_f, leL_t, leL_f, ltL_t, ltL_f, leM_t, leM_f, ltM_t, ltM_f, leO_t, leO_f, cond_true, cond_false, Option.bind_some, Option.bind_none, if_false, if_true, nI_1, aL1, aL2, mL1, mL2, nI_add, pk_mul, pk_m1, sL1, dL1, pk_sub, m1p1, gIs_eq, gIs_k, gIs_i, gIs_n, gIs_e, gIJ, gIR, gJI, gJR, gJs_eq, gJs_k, gJs_n, gJs_e, gRI, gRJ, gRs_eq, gRs_k, gRs_i, gRs_n, gZI, gZJ, gZR, pI_s, pJ_s, pV_s, pR_s, pR_n, oR_n, oR_s, decide_true, decide_false, not_true_eq_false, not_false_eq_true, decT, decF, Bool.true_eq_false, Bool.false_eq_true, z01, o01, z1f, z1f', zz, oo, b2i_0, b2i_n, b2i_t, b2i_f, Bool.not_true, Bool.not_false]
        simp only [sumS, decide_true, Bool.true_or, cond_true]
        exact x1
      · have e0 : ¬ t.length = 0 := fun q => ht (List.eq_nil_of_length_eq_zero q)
        obtain ⟨u, x1, x2⟩ := p_X4_worth d hD i jd p jr ts s hp t true (hq.2.resolve_left ht) (o + c.length) v hcv b5 g4 (by omega)
        have hFu := hF.trans x2
        simp (disch := omega) only [e_X4_sumFor_63, x1, true_and, and_true, false_and, and_false, beq_t, beq_f, eqN_t, eqN_f, eqL_t, eqL_f, nm1, nm2, nm1', nm2', m1z, m2z, zm1, zm2, m12, m21, lg_cmp_ge, lg_cmp_le, lg_cmp_gt, lg_cmp_lt, lg_cmp_eq, oob, oobL, neg0, negL0, natle_f, or_false, false_or, true_or, or_true, or_self, cl, clL, le_t, le_f, lt_t, lt_f, leL_t, leL_f, ltL_t, ltL_f, leM_t, leM_f, ltM_t, ltM_f, leO_t, leO_f, cond_true, cond_false, Option.bind_some, Option.bind_none, if_false, if_true, nI_1, aL1, aL2, mL1, mL2, nI_add, pk_mul, pk_m1, sL1, dL1, pk_sub, m1p1, gIs_eq, gIs_k, gIs_i, gIs_n, gIs_e, gIJ, gIR, gJI, gJR, gJs_eq, gJs_k, gJs_n, gJs_e, gRI, gRJ, gRs_eq, gRs_k, gRs_i, gRs_n, gZI, gZJ, gZR, pI_s, pJ_s, pV_s, pR_s, pR_n, oR_n, oR_s, decide_true, decide_false, not_true_eq_false, not_false_eq_true, decT, decF, Bool.true_eq_false, Bool.false_eq_true, z01, o01, z1f, z1f', zz, oo, b2i_0, b2i_n, b2i_t, b2i_f, Bool.not_true, Bool.not_false]
        by_cases hv : valS (wdS d ts s p) t = 0
        · obtain ⟨w', y1, y2⟩ := ih (ci + 1) (o + c.length + t.length) u (by omega) (fun q hq => hok q (List.mem_cons_of_mem _ hq)) hrc.2 hFu
          refine ⟨w', ?_, y2⟩
          simp (disch := omega) only [hv, e_X4_sumFor_89, true_and, and_true, false_and, and_false, beq_t, beq_f, eqN_t, eqN_f, eqL_t, eqL_f, nm1, nm2, nm1', nm2', m1z, m2z, zm1, zm2, m12, m21, lg_cmp_ge, lg_cmp_le, lg_cmp_gt, lg_cmp_lt, lg_cmp_eq, oob, oobL, neg0, negL0, natle_f, or_false, false_or, true_or, or_true, or_self, cl, clL, le_t, le_f, lt_t, lt_f, leL_t, leL_f, ltL_t, ltL_f, leM_t, leM_f, ltM_t, ltM_f, leO_t, leO_f, cond_true, cond_false, Option.bind_some, Option.bind_none, if_false, if_true, nI_1, aL1, aL2, mL1, mL2, nI_add, pk_mul, pk_m1, sL1, dL1, pk_sub, m1p1, gIs_eq, gIs_k, gIs_i, gIs_n, gIs_e, gIJ, gIR, gJI, gJR, gJs_eq, gJs_k, gJs_n, gJs_e, gRI, gRJ, gRs_eq, gRs_k, gRs_i, gRs_n, gZI, gZJ, gZR, pI_s, pJ_s, pV_s, pR_s, pR_n, oR_n, oR_s, decide_true, decide_false, not_true_eq_false, not_false_eq_true, decT, decF, Bool.true_eq_false, Bool.false_eq_true, z01, o01, z1f, z1f', zz, oo, b2i_0, b2i_n, b2i_t, b2i_f, Bool.not_true, Bool.not_false]
          simp only [sumS, ht, hv, decide_false, not_true_eq_false, Bool.or_self, cond_false]
          exact y1
        · obtain ⟨w', y1, y2⟩ := hsum u hFu
          refine ⟨w', ?_, y2⟩
          simp (disch := omega) only [hv, true_and, and_true, false_and, and_false, beq_t, beq_f, eqN_t, eqN_f, eqL_t, eqL_f, nm1, nm2, nm1', nm2', m1z, m2z, zm1, zm2, m12, m21, lg_cmp_ge, lg_cmp_le, lg_cmp_gt, lg_cmp_lt, lg_cmp_eq, oob, oobL, neg0, negL0, natle_f, or_false, false_or, true_or, or_true, or_self, cl, clL, le_t, le_f, lt_t, lt_f, leL_t, leL_f, ltL_t, ltL_f, leM_t, leM_f, ltM_t, ltM_f, leO_t, leO_f, cond_true, cond_false, Option.bind_some, Option.bind_none, if_false, if_true, nI_1, aL1, aL2, mL1, mL2, nI_add, pk_mul, pk_m1, sL1, dL1, pk_sub, m1p1, gIs_eq, gIs_k, gIs_i, gIs_n, gIs_e, gIJ, gIR, gJI, gJR, gJs_eq, gJs_k, gJs_n, gJs_e, gRI, gRJ, gRs_eq, gRs_k, gRs_i, gRs_n, gZI, gZJ, gZR, pI_s, pJ_s, pV_s, pR_s, pR_n, oR_n, oR_s, decide_true, decide_false, not_true_eq_false, not_false_eq_true, decT, decF, Bool.true_eq_false, Bool.false_eq_true, z01, o01, z1f, z1f', zz, oo, b2i_0, b2i_n, b2i_t, b2i_f, Bool.not_true, Bool.not_false]
          simp only [sumS, ht, hv, decide_false, not_false_eq_true, decide_true, Bool.or_true, cond_true]
          exact y1
  obtain ⟨w', x1, x2⟩ := key rl 0 0 w (by omega) hR h5 (Fr.refl _ _)
  refine ⟨w', ?_, x2⟩
  rw [nI_0] at x1
  rw [f_X4_sumFor, e_X4_sumFor_0, x1]
  rfl
