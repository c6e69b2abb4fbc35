/-! ===== tools: reads behind writes, what is kept, loops ===== -/
theorem gIs_eq {w : XW} {κ i k : Nat} {v : Int32} : gI (sI w κ i k v) κ i k = v := by rw [gI_sI_eq]; exact if_pos rfl
theorem gIs_n {w : XW} {κ i k κ' i' k' : Nat} {v : Int32} (h : κ' ≠ κ) : gI (sI w κ i k v) κ' i' k' = gI w κ' i' k' := by rw [gI_sI_ne (fun q => h q.1)]
theorem gIs_i {w : XW} {κ i k i' k' : Nat} {v : Int32} (h : i' ≠ i) : gI (sI w κ i k v) κ i' k' = gI w κ i' k' := by rw [gI_sI_ne (fun q => h q.2)]
theorem gIs_k {w : XW} {κ i k k' : Nat} {v : Int32} (h : k' ≠ k) : gI (sI w κ i k v) κ i k' = gI w κ i k' := by rw [gI_sI_eq]; exact if_neg h
theorem gJs_eq {w : XW} {κ i k : Nat} {v : Int64} : gJ (sJ w κ i k v) κ i k = v := by rw [gJ_sJ_eq]; exact if_pos rfl
theorem gJs_n {w : XW} {κ i k κ' i' k' : Nat} {v : Int64} (h : κ' ≠ κ) : gJ (sJ w κ i k v) κ' i' k' = gJ w κ' i' k' := by rw [gJ_sJ_ne (fun q => h q.1)]
theorem gJs_k {w : XW} {κ i k k' : Nat} {v : Int64} (h : k' ≠ k) : gJ (sJ w κ i k v) κ i k' = gJ w κ i k' := by rw [gJ_sJ_eq]; exact if_neg h
theorem gRs_eq {w : XW} {κ i k : Nat} {v : Option Nat} : gR (sR w κ i k v) κ i k = v := by rw [gR_sR_eq, va_up_self]
theorem gRs_n {w : XW} {κ i k κ' i' k' : Nat} {v : Option Nat} (h : κ' ≠ κ) : gR (sR w κ i k v) κ' i' k' = gR w κ' i' k' := by rw [gR_sR_ne (fun q => h q.1)]
theorem gRs_i {w : XW} {κ i k i' k' : Nat} {v : Option Nat} (h : i' ≠ i) : gR (sR w κ i k v) κ i' k' = gR w κ i' k' := by rw [gR_sR_ne (fun q => h q.2)]
theorem gRs_k {w : XW} {κ i k k' : Nat} {v : Option Nat} (h : k' ≠ k) : gR (sR w κ i k v) κ i k' = gR w κ i k' := by rw [gR_sR_eq, va_up_ne _ _ h]
theorem gIJ {w : XW} {κ i k κ' i' k' : Nat} {v : Int64} : gI (sJ w κ i k v) κ' i' k' = gI w κ' i' k' := rfl
theorem gIR {w : XW} {κ i k κ' i' k' : Nat} {v : Option Nat} : gI (sR w κ i k v) κ' i' k' = gI w κ' i' k' := rfl
theorem gJI {w : XW} {κ i k κ' i' k' : Nat} {v : Int32} : gJ (sI w κ i k v) κ' i' k' = gJ w κ' i' k' := rfl
theorem gJR {w : XW} {κ i k κ' i' k' : Nat} {v : Option Nat} : gJ (sR w κ i k v) κ' i' k' = gJ w κ' i' k' := rfl
theorem gRI {w : XW} {κ i k κ' i' k' : Nat} {v : Int32} : gR (sI w κ i k v) κ' i' k' = gR w κ' i' k' := rfl
theorem gRJ {w : XW} {κ i k κ' i' k' : Nat} {v : Int64} : gR (sJ w κ i k v) κ' i' k' = gR w κ' i' k' := rfl
theorem gZI {w : XW} {κ i k κ' i' : Nat} {v : Int32} : gZ (sI w κ i k v) κ' i' = gZ w κ' i' := rfl
theorem gZJ {w : XW} {κ i k κ' i' : Nat} {v : Int64} : gZ (sJ w κ i k v) κ' i' = gZ w κ' i' := rfl
theorem gZR {w : XW} {κ i k κ' i' : Nat} {v : Option Nat} : gZ (sR w κ i k v) κ' i' = gZ w κ' i' := rfl
theorem pI_s {x : Int32} {w : XW} : pI (some (.inl (.int x)), w) = some (x, w) := rfl
theorem pJ_s {x : Int64} {w : XW} : pJ (some (.inl (.long x)), w) = some (x, w) := rfl
theorem pV_s {w : XW} : pV (none, w) = some w := rfl
theorem pR_s {κ i : Nat} {w : XW} : pR κ (some (.inr (κ, i)), w) = some (some i, w) := by
  show (if κ = κ then _ else _) = _
  rw [if_pos rfl]
theorem pR_n {κ : Nat} {w : XW} : pR κ (some (.inl .null), w) = some (none, w) := rfl
theorem decT {p : Prop} [Decidable p] (h : p) : decide p = true := decide_eq_true h
theorem decF {p : Prop} [Decidable p] (h : ¬ p) : decide p = false := decide_eq_false h
theorem leL_t {c b : Nat} (h : (OfNat.ofNat c : Nat) ≤ b) (hb : b < 65536) : decide ((no_index (OfNat.ofNat c : Int32)) ≤ nI b) = true := le_t h hb
theorem leL_f {c b : Nat} (h : b < (OfNat.ofNat c : Nat)) (hb : (OfNat.ofNat c : Nat) < 65536) : decide ((no_index (OfNat.ofNat c : Int32)) ≤ nI b) = false := le_f h hb
theorem ltL_t {c b : Nat} (h : (OfNat.ofNat c : Nat) < b) (hb : b < 65536) : decide ((no_index (OfNat.ofNat c : Int32)) < nI b) = true := lt_t h hb
theorem ltL_f {c b : Nat} (h : b ≤ (OfNat.ofNat c : Nat)) (hb : (OfNat.ofNat c : Nat) < 65536) : decide ((no_index (OfNat.ofNat c : Int32)) < nI b) = false := lt_f h hb
theorem leM_t {c b : Nat} (h : b ≤ (OfNat.ofNat c : Nat)) (hb : (OfNat.ofNat c : Nat) < 65536) : decide (nI b ≤ (no_index (OfNat.ofNat c : Int32))) = true := le_t h hb
theorem leM_f {c b : Nat} (h : (OfNat.ofNat c : Nat) < b) (hb : b < 65536) : decide (nI b ≤ (no_index (OfNat.ofNat c : Int32))) = false := le_f h hb
theorem ltM_t {c b : Nat} (h : b < (OfNat.ofNat c : Nat)) (hb : (OfNat.ofNat c : Nat) < 65536) : decide (nI b < (no_index (OfNat.ofNat c : Int32))) = true := lt_t h hb
theorem ltM_f {c b : Nat} (h : (OfNat.ofNat c : Nat) ≤ b) (hb : b < 65536) : decide (nI b < (no_index (OfNat.ofNat c : Int32))) = false := lt_f h hb
theorem oobL {a N : Nat} (h : (OfNat.ofNat a : Nat) < N) (hN : N ≤ 65536) : ((no_index (OfNat.ofNat a : Int32)) < 0 ∨ N ≤ (no_index (OfNat.ofNat a : Int32)).toNatClampNeg) = False := oob h hN
theorem clL {a : Nat} (h : (OfNat.ofNat a : Nat) < 65536) : (no_index (OfNat.ofNat a : Int32)).toNatClampNeg = (OfNat.ofNat a : Nat) := cl h
theorem neg0 {a : Nat} (h : a < 65536) : (nI a < 0) = False := eq_false (nI_pos (by omega))
theorem negL0 {a : Nat} (h : (OfNat.ofNat a : Nat) < 65536) : ((no_index (OfNat.ofNat a : Int32)) < 0) = False := neg0 h
theorem natle_f {a b : Nat} (h : b < a) : (a ≤ b) = False := eq_false (by omega)
theorem beq_t {a c : Nat} (h : a = (OfNat.ofNat c : Nat)) : (nI a == (no_index (OfNat.ofNat c : Int32))) = true := by rw [h]; exact beq_self_eq_true _
theorem beq_f {a c : Nat} (h : a ≠ (OfNat.ofNat c : Nat)) (ha : a < 65536) (hc : (OfNat.ofNat c : Nat) < 65536) : (nI a == (no_index (OfNat.ofNat c : Int32))) = false := by
  apply beq_eq_false_iff_ne.mpr
  intro q
  exact h ((nI_eq (by omega) (by omega)).mp q)
theorem eqN_t {a b : Nat} (h : a = b) : (nI a = nI b) = True := by rw [h]; exact eq_self _
theorem eqN_f {a b : Nat} (h : a ≠ b) (ha : a < 65536) (hb : b < 65536) : (nI a = nI b) = False := eq_false (fun q => h ((nI_eq (by omega) (by omega)).mp q))
theorem eqL_t {a c : Nat} (h : a = (OfNat.ofNat c : Nat)) : (nI a = (no_index (OfNat.ofNat c : Int32))) = True := eqN_t h
theorem eqL_f {a c : Nat} (h : a ≠ (OfNat.ofNat c : Nat)) (ha : a < 65536) (hb : (OfNat.ofNat c : Nat) < 65536) : (nI a = (no_index (OfNat.ofNat c : Int32))) = False := eqN_f h ha hb
theorem gIs_e {w : XW} {κ i k k' : Nat} {v : Int32} (h : k' = k) : gI (sI w κ i k v) κ i k' = v := by rw [h]; exact gIs_eq
theorem gJs_e {w : XW} {κ i k k' : Nat} {v : Int64} (h : k' = k) : gJ (sJ w κ i k v) κ i k' = v := by rw [h]; exact gJs_eq
theorem gJs_i {w : XW} {κ i k i' k' : Nat} {v : Int64} (h : i' ≠ i) : gJ (sJ w κ i k v) κ i' k' = gJ w κ i' k' := by rw [gJ_sJ_ne (fun q => h q.2)]
theorem aL1 {a c : Nat} : nI a + (no_index (OfNat.ofNat c : Int32)) = nI (a + (OfNat.ofNat c : Nat)) := nI_add a c
theorem aL2 {a c : Nat} : (no_index (OfNat.ofNat c : Int32)) + nI a = nI ((OfNat.ofNat c : Nat) + a) := nI_add c a
theorem mL1 {a c : Nat} : nI a * (no_index (OfNat.ofNat c : Int32)) = nI (a * (OfNat.ofNat c : Nat)) := pk_mul a c
theorem mL2 {a c : Nat} : (no_index (OfNat.ofNat c : Int32)) * nI a = nI ((OfNat.ofNat c : Nat) * a) := pk_mul c a
theorem sL1 {a c : Nat} (h : (OfNat.ofNat c : Nat) ≤ a) : nI a - (no_index (OfNat.ofNat c : Int32)) = nI (a - (OfNat.ofNat c : Nat)) := pk_sub h
theorem leO_t {c b : Nat} (h : c ≤ b) (hb : b < 65536) : decide (Int32.ofNat c ≤ nI b) = true := le_t h hb
theorem leO_f {c b : Nat} (h : b < c) (hb : c < 65536) : decide (Int32.ofNat c ≤ nI b) = false := le_f h hb
theorem nm1 {a : Nat} (h : a < 65536) : (nI a = -1) = False := eq_false (fun q => by
  have := congrArg Int32.toInt q
  rw [nI_toInt (by omega), show (-1 : Int32).toInt = -1 from by decide] at this
  omega)
theorem nm2 {a : Nat} (h : a < 65536) : (nI a = -2) = False := eq_false (fun q => by
  have := congrArg Int32.toInt q
  rw [nI_toInt (by omega), show (-2 : Int32).toInt = -2 from by decide] at this
  omega)
theorem nm1' {a : Nat} (h : a < 65536) : ((-1 : Int32) = nI a) = False := eq_false (fun q => by rw [← nm1 h]; exact q.symm)
theorem nm2' {a : Nat} (h : a < 65536) : ((-2 : Int32) = nI a) = False := eq_false (fun q => by rw [← nm2 h]; exact q.symm)
theorem m1z : ((-1 : Int32) < 0) = True := by decide
theorem m2z : ((-2 : Int32) < 0) = True := by decide
theorem zm1 : ((0 : Int32) ≤ -1) = False := by decide
theorem zm2 : ((0 : Int32) ≤ -2) = False := by decide
theorem m12 : ((-1 : Int32) = -2) = False := by decide
theorem m21 : ((-2 : Int32) = -1) = False := by decide
theorem z01 : ((0 : Int32) = 0 ∨ (0 : Int32) = 1) = True := by decide
theorem o01 : ((1 : Int32) = 0 ∨ (1 : Int32) = 1) = True := by decide
theorem z1f : ((1 : Int32) = 0) = False := by decide
theorem z1f' : ((0 : Int32) = 1) = False := by decide
theorem zz : ((0 : Int32) = 0) = True := by decide
theorem oo : ((1 : Int32) = 1) = True := by decide
theorem oR_n {α : Type} {a : α} {f : Nat → α} : oR none a f = a := rfl
theorem oR_s {α : Type} {p : Nat} {a : α} {f : Nat → α} : oR (some p) a f = f p := rfl
/-- what isn't in P is kept -/
def Fr (P : Nat → Nat → Nat → Prop) (w w' : XW) : Prop := ∀ κ i k, ¬ P κ i k → gI w' κ i k = gI w κ i k ∧ gJ w' κ i k = gJ w κ i k ∧ gR w' κ i k = gR w κ i k ∧ gZ w' κ i = gZ w κ i
theorem Fr.refl (P : Nat → Nat → Nat → Prop) (w : XW) : Fr P w w := fun _ _ _ _ => ⟨rfl, rfl, rfl, rfl⟩
theorem Fr.trans {P : Nat → Nat → Nat → Prop} {w w1 w2 : XW} (h : Fr P w w1) (g : Fr P w1 w2) : Fr P w w2 := fun κ i k hp => ⟨((g κ i k hp).1).trans (h κ i k hp).1, ((g κ i k hp).2.1).trans (h κ i k hp).2.1, ((g κ i k hp).2.2.1).trans (h κ i k hp).2.2.1, ((g κ i k hp).2.2.2).trans (h κ i k hp).2.2.2⟩
theorem Fr.mono {P Q : Nat → Nat → Nat → Prop} {w w1 : XW} (h : Fr P w w1) (g : ∀ κ i k, P κ i k → Q κ i k) : Fr Q w w1 := fun κ i k hq => h κ i k (fun z => hq (g κ i k z))
theorem Fr.sI {P : Nat → Nat → Nat → Prop} {w w1 : XW} (h : Fr P w w1) {κ i k : Nat} {v : Int32} (hp : P κ i k) : Fr P w (sI w1 κ i k v) := fun κ' i' k' hq => by
  refine ⟨?_, (h κ' i' k' hq).2⟩
  rw [← (h κ' i' k' hq).1]
  by_cases h1 : κ' = κ
  · subst h1
    by_cases h2 : i' = i
    · subst h2
      by_cases h3 : k' = k
      · subst h3
        exact absurd hp hq
      · exact gIs_k h3
    · exact gIs_i h2
  · exact gIs_n h1
theorem Fr.sJ {P : Nat → Nat → Nat → Prop} {w w1 : XW} (h : Fr P w w1) {κ i k : Nat} {v : Int64} (hp : P κ i k) : Fr P w (sJ w1 κ i k v) := fun κ' i' k' hq => by
  refine ⟨(h κ' i' k' hq).1, ?_, (h κ' i' k' hq).2.2⟩
  rw [← (h κ' i' k' hq).2.1]
  by_cases h1 : κ' = κ
  · subst h1
    by_cases h2 : i' = i
    · subst h2
      by_cases h3 : k' = k
      · subst h3
        exact absurd hp hq
      · exact gJs_k h3
    · exact gJs_i h2
  · exact gJs_n h1
theorem Fr.sR {P : Nat → Nat → Nat → Prop} {w w1 : XW} (h : Fr P w w1) {κ i k : Nat} {v : Option Nat} (hp : P κ i k) : Fr P w (sR w1 κ i k v) := fun κ' i' k' hq => by
  refine ⟨(h κ' i' k' hq).1, (h κ' i' k' hq).2.1, ?_, (h κ' i' k' hq).2.2.2⟩
  rw [← (h κ' i' k' hq).2.2.1]
  by_cases h1 : κ' = κ
  · subst h1
    by_cases h2 : i' = i
    · subst h2
      by_cases h3 : k' = k
      · subst h3
        exact absurd hp hq
      · exact gRs_k h3
    · exact gRs_i h2
  · exact gRs_n h1
/-- a loop that goes on to n, with what holds at its head -/
theorem loopE {σ R : Type} (n : Nat) (Q : Nat → σ → R) (E : σ → R) (I : Nat → σ → Prop) (hs : ∀ k s, k < n → I k s → ∃ s', Q k s = Q (k + 1) s' ∧ I (k + 1) s') (he : ∀ s, I n s → Q n s = E s) :
    ∀ m k s, k + m = n → I k s → ∃ s', Q k s = E s' ∧ I n s' := by
  intro m
  induction m with
  | zero =>
    intro k s hk hi
    have : k = n := by omega
    subst this
    exact ⟨s, he s hi, hi⟩
  | succ m ih =>
    intro k s hk hi
    obtain ⟨s1, h1, h2⟩ := hs k s (by omega) hi
    obtain ⟨s2, h3, h4⟩ := ih (k + 1) s1 (by omega) h2
    exact ⟨s2, h1.trans h3, h4⟩
/-- all of it, from 0 on -/
theorem loop0 {σ R : Type} (n : Nat) (Q : Nat → σ → R) (E : σ → R) (I : Nat → σ → Prop) {s : σ} (h0 : I 0 s) (hs : ∀ k s, k < n → I k s → ∃ s', Q k s = Q (k + 1) s' ∧ I (k + 1) s') (he : ∀ s, I n s → Q n s = E s) :
    ∃ s', Q 0 s = E s' ∧ I n s' := loopE n Q E I hs he n 0 s (by omega) h0
/-- the same with a number beside the world -/
theorem loopA {α R : Type} (n : Nat) (Q : Nat → α → XW → R) (E : α → XW → R) (I : Nat → α → XW → Prop) {a : α} {s : XW} (h0 : I 0 a s) (hs : ∀ k a s, k < n → I k a s → ∃ a' s', Q k a s = Q (k + 1) a' s' ∧ I (k + 1) a' s') (he : ∀ a s, I n a s → Q n a s = E a s) :
    ∃ a' s', Q 0 a s = E a' s' ∧ I n a' s' := by
  obtain ⟨⟨a', s'⟩, h1, h2⟩ := loop0 n (fun k (q : α × XW) => Q k q.1 q.2) (fun q => E q.1 q.2) (fun k q => I k q.1 q.2) (s := (a, s)) h0 (fun k q hk hi => by
    obtain ⟨a', s', h1, h2⟩ := hs k q.1 q.2 hk hi
    exact ⟨(a', s'), h1, h2⟩) (fun q hi => he q.1 q.2 hi)
  exact ⟨a', s', h1, h2⟩
def b2i (b : Bool) : Int32 := bif b then 1 else 0
theorem b2i_t : b2i true = 1 := rfl
theorem b2i_f : b2i false = 0 := rfl
theorem b2i_0 {b : Bool} : decide (b2i b = 0) = !b := by cases b <;> decide
theorem b2i_n {b : Bool} : decide (¬ b2i b = 0) = b := by cases b <;> decide
theorem dL1 {a c : Nat} (h0 : 0 < (OfNat.ofNat c : Nat)) (ha : a < 65536) (hc : (OfNat.ofNat c : Nat) < 65536) : nI a / (no_index (OfNat.ofNat c : Int32)) = nI (a / (OfNat.ofNat c : Nat)) := pk_div (by omega) h0 (Nat.lt_trans (show c < 65536 from hc) (by omega))
theorem m1p1 : (-1 : Int32) + 1 = nI 0 := by decide
