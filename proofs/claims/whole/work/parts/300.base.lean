/-! ===== plain rows: numbers, loops ===== -/
theorem ni_c (c : Nat) : nI c = Int32.ofNat c := rfl
theorem ni_a {c k : Nat} {x : Int32} (h : x = nI c) : x + nI k = nI (c + k) := by rw [h, nI_add]
theorem ni_m {c k : Nat} {x : Int32} (h : x = nI c) : x * nI k = nI (c * k) := by rw [h, pk_mul]
theorem ni_b {c k : Nat} {x : Int32} (h : x = nI c) : nI k + x = nI (k + c) := by rw [h, nI_add]
/-- a place that lies within -/
theorem oob {a N : Nat} (h : a < N) (hN : N ≤ 65536) : (nI a < 0 ∨ N ≤ (nI a).toNatClampNeg) = False := by
  refine eq_false (fun q => ?_)
  rcases q with q | q
  · exact nI_pos (by omega) q
  · rw [nI_clamp (by omega)] at q
    omega
theorem cl {a : Nat} (h : a < 65536) : (nI a).toNatClampNeg = a := nI_clamp (by omega)
theorem le_t {a b : Nat} (h : a ≤ b) (hb : b < 65536) : decide (nI a ≤ nI b) = true := decide_eq_true (nI_le h (by omega))
theorem le_f {a b : Nat} (h : b < a) (hb : a < 65536) : decide (nI a ≤ nI b) = false := decide_eq_false (nI_ge h (by omega))
theorem lt_t {a b : Nat} (h : a < b) (hb : b < 65536) : decide (nI a < nI b) = true := decide_eq_true (nI_lt h (by omega))
theorem lt_f {a b : Nat} (h : b ≤ a) (hb : a < 65536) : decide (nI a < nI b) = false := decide_eq_false (nI_nlt h (by omega))
/-- m times, from k on -/
def itr {σ : Type} (g : Nat → σ → σ) : Nat → Nat → σ → σ
  | _, 0, s => s
  | k, m + 1, s => itr g (k + 1) m (g k s)
theorem itr_loop {σ R : Type} (n : Nat) (Q : Nat → σ → R) (g : Nat → σ → σ) (E : σ → R) (I : Nat → σ → Prop) (hs : ∀ k s, k < n → I k s → Q k s = Q (k + 1) (g k s) ∧ I (k + 1) (g k s)) (he : ∀ s, I n s → Q n s = E s) :
    ∀ m k s, k + m = n → I k s → Q k s = E (itr g k m s) ∧ I n (itr g k m s) := by
  intro m
  induction m with
  | zero =>
    intro k s hk hi
    have : k = n := by omega
    subst this
    exact ⟨he s hi, hi⟩
  | succ m ih =>
    intro k s hk hi
    obtain ⟨h1, h2⟩ := hs k s (by omega) hi
    obtain ⟨h3, h4⟩ := ih (k + 1) (g k s) (by omega) h2
    exact ⟨h1.trans h3, h4⟩
/-- the same with nothing to keep -/
theorem itr_run {σ R : Type} (n : Nat) (Q : Nat → σ → R) (g : Nat → σ → σ) (E : σ → R) (hs : ∀ k s, k < n → Q k s = Q (k + 1) (g k s)) (he : ∀ s, Q n s = E s) (s : σ) : Q 0 s = E (itr g 0 n s) :=
  (itr_loop n Q g E (fun _ _ => True) (fun k s hk _ => ⟨hs k s hk, trivial⟩) (fun s _ => he s) n 0 s (by omega) trivial).1
theorem itr_succ {σ : Type} (g : Nat → σ → σ) : ∀ (m k : Nat) (s : σ), itr g k (m + 1) s = g (k + m) (itr g k m s) := by
  intro m
  induction m with
  | zero => intro k s; rfl
  | succ m ih =>
    intro k s
    show itr g (k + 1) (m + 1) (g k s) = _
    rw [ih]
    show g (k + 1 + m) (itr g (k + 1) m (g k s)) = g (k + (m + 1)) (itr g (k + 1) m (g k s))
    rw [show k + 1 + m = k + (m + 1) by omega]
/-- ones of 6 that are so, as bits -/
def bts (P : Nat → Bool) (n : Nat) : Int32 := itr (fun k (b : Int32) => if P k then b ||| ((1 : Int32) <<< (nI k &&& 31)) else b) 0 n 0
/-- all of them together -/
def smn (f : Nat → Int32) (n : Nat) : Int32 := itr (fun k (b : Int32) => b + f k) 0 n 0
theorem or0 (x : Int32) : x ||| 0 = x := by
  apply Int32.toBitVec_inj.mp
  simp
-- ===== Scene =====
theorem p_X9_fullAll (i n : Nat) (hn : n ≤ 6) (w : XW) (h : gI w 8 i 0 = nI n) : F_X9_fullAll [.inr (8, i)] w = some (smn (gI w 30 i) n, w) := by
  rw [f_X9_fullAll, e_X9_fullAll_0]
  have := itr_run n (fun k s => q_X9_fullAll_4 i s (nI k) w) (fun k b => b + gI w 30 i k) (fun s => some (some (.inl (.int s)), w)) (fun k s hk => by
    rw [e_X9_fullAll_4, h, le_f hk (by omega)]
    simp only [cond_false]
    rw [e_X9_fullAll_12, if_neg (by rw [oob (by omega) (by omega)]; exact id), cl (by omega), nI_1]) (fun s => by
    rw [e_X9_fullAll_4, h, le_t (Nat.le_refl _) (by omega)]
    simp only [cond_true]
    rw [e_X9_fullAll_27]) 0
  rw [nI_0] at this
  rw [this]
  rfl
theorem p_X9_bitsAt (i n : Nat) (hn : n ≤ 6) (x : Int32) (w : XW) (h : gI w 8 i 0 = nI n) : F_X9_bitsAt [.inr (8, i), .inl (.int x)] w = some (bts (fun k => decide (gI w 32 i k = x)) n, w) := by
  rw [f_X9_bitsAt, e_X9_bitsAt_0]
  have := itr_run n (fun k s => q_X9_bitsAt_4 i x s (nI k) w) (fun k b => if decide (gI w 32 i k = x) = true then b ||| ((1 : Int32) <<< (nI k &&& 31)) else b) (fun s => some (some (.inl (.int s)), w)) (fun k s hk => by
    rw [e_X9_bitsAt_4, h, le_f hk (by omega)]
    simp only [cond_false]
    rw [e_X9_bitsAt_12, if_neg (by rw [oob (by omega) (by omega)]; exact id), cl (by omega)]
    by_cases hq : gI w 32 i k = x
    · simp only [hq, not_true_eq_false, decide_false, cond_false, decide_true, if_true]
      rw [e_X9_bitsAt_22, e_X9_bitsAt_28, nI_1]
    · simp only [hq, not_false_eq_true, decide_true, cond_true, decide_false, Bool.false_eq_true, if_false]
      rw [e_X9_bitsAt_28, nI_1]) (fun s => by
    rw [e_X9_bitsAt_4, h, le_t (Nat.le_refl _) (by omega)]
    simp only [cond_true]
    rw [e_X9_bitsAt_34]) 0
  rw [nI_0] at this
  rw [this]
  rfl
theorem p_X9_burntBits (i n : Nat) (hn : n ≤ 6) (w : XW) (h : gI w 8 i 0 = nI n) : F_X9_burntBits [.inr (8, i)] w = some (bts (fun k => decide (gI w 32 i k = -2)) n, w) := by
  rw [f_X9_burntBits, e_X9_burntBits_0, p_X9_bitsAt i n hn _ w h]
  rfl
theorem p_X9_homeBits (i n : Nat) (hn : n ≤ 6) (w : XW) (h : gI w 8 i 0 = nI n) : F_X9_homeBits [.inr (8, i)] w = some (bts (fun k => decide (gI w 32 i k = -1)) n, w) := by
  rw [f_X9_homeBits, e_X9_homeBits_0, p_X9_bitsAt i n hn _ w h]
  rfl
/-- the first place below n that is so, or none -/
def fst1 (P : Nat → Bool) : Nat → Nat → Int32
  | _, 0 => -1
  | k, m + 1 => if P k then nI k else fst1 P (k + 1) m
theorem p_X9_keepIn (i n : Nat) (hn : n ≤ 6) (x : Int32) (w : XW) (h : gI w 8 i 0 = nI n) : F_X9_keepIn [.inr (8, i), .inl (.int x)] w = some (fst1 (fun k => decide (gI w 32 i k = x)) 0 n, w) := by
  rw [f_X9_keepIn, e_X9_keepIn_0]
  have key : ∀ m k, k + m = n → q_X9_keepIn_2 i x (nI k) w = some (some (.inl (.int (fst1 (fun k => decide (gI w 32 i k = x)) k m))), w) := by
    intro m
    induction m with
    | zero =>
      intro k hk
      rw [e_X9_keepIn_2, h, le_t (by omega) (by omega)]
      simp only [cond_true]
      rw [e_X9_keepIn_28]
      rfl
    | succ m ih =>
      intro k hk
      rw [e_X9_keepIn_2, h, le_f (by omega) (by omega)]
      simp only [cond_false]
      rw [e_X9_keepIn_10, if_neg (by rw [oob (by omega) (by omega)]; exact id), cl (by omega)]
      by_cases hq : gI w 32 i k = x
      · simp only [hq, not_true_eq_false, decide_false, cond_false]
        rw [e_X9_keepIn_20]
        simp only [fst1, hq, decide_true, if_true]
      · simp only [hq, not_false_eq_true, decide_true, cond_true]
        rw [e_X9_keepIn_22, nI_1, ih (k + 1) (by omega)]
        simp only [fst1, hq, decide_false, Bool.false_eq_true, if_false]
  have := key n 0 (by omega)
  rw [nI_0] at this
  rw [this]
  rfl
-- ===== the model's reads =====
theorem n11 : (11 : Int32) = nI 11 := rfl
theorem n4 : (4 : Int32) = nI 4 := rfl
theorem ix11 (k : Nat) : (11 : Int32) + 4 * nI k = nI (11 + 4 * k) := by rw [n11, n4, pk_mul, nI_add]
theorem p_X12_fullOf (k : Nat) (hk : k < 6) (w : XW) : F_X12_fullOf [.inr (11, 0), .inl (.int (nI k))] w = some (gI w 50 0 (11 + 4 * k), w) := by
  rw [f_X12_fullOf, e_X12_fullOf_0, ix11, if_neg (by rw [oob (by omega) (by omega)]; exact id), cl (by omega)]
  rfl
