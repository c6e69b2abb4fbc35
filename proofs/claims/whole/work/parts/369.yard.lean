/-! ===== what waits on the model's stack ===== -/
def stN (x : Nat) : Nat := if x = 13 then 1 else if x = 12 then 2 else if x = 11 then 3 else 0
def cOf (x : Nat) : Int32 := if x = 13 then -32 else if x = 12 then -31 else -30
def dp : List Nat → Nat
  | [] => 0
  | x :: K => (if x = 11 ∨ x = 91 then 1 else 0) + dp K
/-- what is laid down: those from strength l on -/
def ly (l : Nat) : List Nat → St → St × List Nat
  | [], s => (s, [])
  | x :: K, s => if l ≤ stN x then ly l K (adS s (cOf x)) else (s, x :: K)
def WK : List Nat → Prop
  | [] => True
  | x :: K => WK K ∧ (x = 11 ∨ x = 91 ∨ (x = 12 ∧ (K = [] ∨ K.head? = some 91 ∨ K.head? = some 13)) ∨ (x = 13 ∧ (K = [] ∨ K.head? = some 91)))
theorem WK.v {x : Nat} {K : List Nat} (h : WK (x :: K)) : x = 11 ∨ x = 12 ∨ x = 13 ∨ x = 91 := by
  rcases h.2 with z | z | z | z
  · omega
  · omega
  · omega
  · omega
theorem ly_1 {l : Nat} : ∀ (K : List Nat) (s : St), (ly l K s).1.1 = s.1 ∧ (ly l K s).1.2.1 = s.2.1 ∧ (ly l K s).1.2.2.length + (ly l K s).2.length = s.2.2.length + K.length := by
  intro K
  induction K with
  | nil => intro s; exact ⟨rfl, rfl, rfl⟩
  | cons x K ih =>
    intro s
    unfold ly
    by_cases c : l ≤ stN x
    · rw [if_pos c]
      obtain ⟨a, b, d⟩ := ih (adS s (cOf x))
      refine ⟨a, b, ?_⟩
      rw [d, adL, List.length_cons]
      omega
    · rw [if_neg c]; exact ⟨rfl, rfl, rfl⟩
theorem ly_w {l : Nat} : ∀ (K : List Nat) (s : St), WK K → WK (ly l K s).2 := by
  intro K
  induction K with
  | nil => intro s _; trivial
  | cons x K ih =>
    intro s h
    unfold ly
    by_cases c : l ≤ stN x
    · rw [if_pos c]; exact ih _ h.1
    · rw [if_neg c]; exact h
/-- what stops it -/
theorem ly_t {l : Nat} : ∀ (K : List Nat) (s : St), (ly l K s).2 = [] ∨ ∃ x K', (ly l K s).2 = x :: K' ∧ stN x < l := by
  intro K
  induction K with
  | nil => intro s; exact Or.inl rfl
  | cons x K ih =>
    intro s
    unfold ly
    by_cases c : l ≤ stN x
    · rw [if_pos c]; exact ih _
    · rw [if_neg c]; exact Or.inr ⟨x, K, rfl, by omega⟩
theorem ly_in : ∀ (K : List Nat) (s : St), WK K → (91 ∈ K ↔ 91 ∈ (ly 1 K s).2) := by
  intro K
  induction K with
  | nil => intro s _; exact Iff.rfl
  | cons x K ih =>
    intro s h
    have hv := h.v
    unfold ly
    by_cases c : 1 ≤ stN x
    · rw [if_pos c, ← ih _ h.1]
      have : x ≠ 91 := fun z => by rw [z] at c; exact absurd c (by decide)
      rw [List.mem_cons]
      exact ⟨fun z => z.resolve_left (fun q => this q.symm), fun z => Or.inr z⟩
    · rw [if_neg c]
theorem dp_ly {l : Nat} : ∀ (K : List Nat) (s : St), dp (ly l K s).2 ≤ dp K := by
  intro K
  induction K with
  | nil => intro s; exact Nat.le_refl _
  | cons x K ih =>
    intro s
    unfold ly
    by_cases c : l ≤ stN x
    · rw [if_pos c]
      have := ih (adS s (cOf x))
      show _ ≤ (if x = 11 ∨ x = 91 then 1 else 0) + dp K
      omega
    · rw [if_neg c]; exact Nat.le_refl _
theorem sB_r {x : Nat ⊕ St} : sB x Sum.inr = x := by cases x <;> rfl
noncomputable def tlD (t : Tp) (d : Nat) : St → Nat ⊕ St := tlS' t (ftS t d) (tkT t)
noncomputable def slD (t : Tp) (d : Nat) : St → Nat ⊕ St := slS' t (ftS t d) (tkT t)
/-- what is still to come, with K on the stack: behind a fact, behind a test -/
noncomputable def cQ (t : Tp) : Bool → List Nat → St → Nat ⊕ St
  | true, [], s => .inr s
  | true, _ :: K, s => sB (clsS t s) (cQ t false K)
  | false, [], s => sB (sB (tlD t 10 s) (slD t 10)) Sum.inr
  | false, x :: K, s => if x = 11 then cQ t false K (adS s (-30)) else if x = 12 then cQ t false K (adS s (-31)) else if x = 13 then sB (sB (tlD t (10 - dp K) s) (fun s' => slD t (10 - dp K) (adS s' (-32)))) (cQ t true K) else sB (sB (tlD t (10 - dp (x :: K)) s) (slD t (10 - dp (x :: K)))) (fun s' => sB (clsS t s') (cQ t false K))
theorem cQ_11 {t : Tp} {K : List Nat} {s : St} : cQ t false (11 :: K) s = cQ t false K (adS s (-30)) := by
  show (if (11 : Nat) = 11 then _ else _) = _
  rw [if_pos rfl]
theorem cQ_12 {t : Tp} {K : List Nat} {s : St} : cQ t false (12 :: K) s = cQ t false K (adS s (-31)) := by
  show (if (12 : Nat) = 11 then _ else if (12 : Nat) = 12 then _ else _) = _
  rw [if_neg (by decide), if_pos rfl]
theorem cQ_13 {t : Tp} {K : List Nat} {s : St} : cQ t false (13 :: K) s = sB (sB (tlD t (10 - dp K) s) (fun s' => slD t (10 - dp K) (adS s' (-32)))) (cQ t true K) := by
  show (if (13 : Nat) = 11 then _ else if (13 : Nat) = 12 then _ else if (13 : Nat) = 13 then _ else _) = _
  rw [if_neg (by decide), if_neg (by decide), if_pos rfl]
theorem cQ_91 {t : Tp} {K : List Nat} {s : St} : cQ t false (91 :: K) s = sB (sB (tlD t (10 - dp (91 :: K)) s) (slD t (10 - dp (91 :: K)))) (cQ t true (91 :: K)) := by
  show (if (91 : Nat) = 11 then _ else if (91 : Nat) = 12 then _ else if (91 : Nat) = 13 then _ else _) = _
  rw [if_neg (by decide), if_neg (by decide), if_neg (by decide)]
  rfl
theorem cQ_t91 {t : Tp} {K : List Nat} {s : St} : cQ t true (91 :: K) s = sB (clsS t s) (cQ t false K) := rfl
theorem dp13 (K : List Nat) : dp (13 :: K) = dp K := by show (if (13 : Nat) = 11 ∨ (13 : Nat) = 91 then 1 else 0) + dp K = _; rw [if_neg (by decide), Nat.zero_add]
theorem dp12 (K : List Nat) : dp (12 :: K) = dp K := by show (if (12 : Nat) = 11 ∨ (12 : Nat) = 91 then 1 else 0) + dp K = _; rw [if_neg (by decide), Nat.zero_add]
theorem dp11 (K : List Nat) : dp (11 :: K) = dp K + 1 := by show (if (11 : Nat) = 11 ∨ (11 : Nat) = 91 then 1 else 0) + dp K = _; rw [if_pos (by decide)]; omega
theorem dp91 (K : List Nat) : dp (91 :: K) = dp K + 1 := by show (if (91 : Nat) = 11 ∨ (91 : Nat) = 91 then 1 else 0) + dp K = _; rw [if_pos (by decide)]; omega
theorem ly_base {K : List Nat} (h : K = [] ∨ K.head? = some 91) (s : St) : ly 1 K s = (s, K) := by
  rcases h with h | h
  · rw [h]; rfl
  · match K, h with
    | x :: K, h =>
      injection h with h
      have h : x = 91 := h
      subst h
      show (if 1 ≤ stN 91 then _ else _) = _
      rw [if_neg (by decide)]
section
variable {t : Tp} (hT : TOk2 t)
/-- no sign behind it -/
theorem cQ_end (hT : TOk2 t) {p : Nat} (hp : p ≤ t.1) (h0 : (tkT t p).1 = 0) : ∀ (K : List Nat) (s : St), WK K → s.1 = p → cQ t false K s = cQ t true (ly 1 K s).2 (sk t p, (ly 1 K s).1.2) := by
  have ek := sk_sk hp
  have hk := sk_le hp
  have etk := (tkT_ok t p hp).2
  have tl0 : ∀ d s, s.1 = p → tlD t d s = .inr (sk t p, s.2) := fun d s hs => by
    unfold tlD
    rw [tl_0 (by omega) (by rw [hs]; omega), hs]
  have sl0 : ∀ d (s : St), s.1 = sk t p → slD t d s = .inr (sk t p, s.2) := fun d s hs => by
    unfold slD
    rw [sl_0 (by omega) (by rw [hs, etk]; omega), hs, ek]
  intro K
  induction K with
  | nil =>
    intro s _ hs
    show sB (sB (tlD t 10 s) (slD t 10)) Sum.inr = _
    rw [tl0 _ _ hs]
    show sB (slD t 10 (sk t p, s.2)) Sum.inr = _
    rw [sl0 _ (sk t p, s.2) rfl]
    rfl
  | cons x K ih =>
    intro s h hs
    rcases h.v with z | z | z | z
    · subst z
      rw [cQ_11, ih (adS s (-30)) h.1 hs]
      rfl
    · subst z
      rw [cQ_12, ih (adS s (-31)) h.1 hs]
      rfl
    · subst z
      have hb : K = [] ∨ K.head? = some 91 := by
        rcases h.2 with q | q | q | q
        · exact absurd q (by decide)
        · exact absurd q (by decide)
        · exact absurd q.1 (by decide)
        · exact q.2
      have e : ly 1 (13 :: K) s = (adS s (-32), K) := by
        show (if 1 ≤ stN 13 then ly 1 K (adS s (cOf 13)) else _) = _
        rw [if_pos (by decide), ly_base hb]
        rfl
      rw [cQ_13, tl0 _ _ hs, e]
      show sB (slD t (10 - dp K) (adS (sk t p, s.2) (-32))) (cQ t true K) = _
      rw [sl0 _ (adS (sk t p, s.2) (-32)) rfl]
      rfl
    · subst z
      have e : ly 1 (91 :: K) s = (s, 91 :: K) := ly_base (Or.inr rfl) s
      rw [cQ_91, tl0 _ _ hs, e]
      show sB (slD t _ (sk t p, s.2)) _ = _
      rw [sl0 _ (sk t p, s.2) rfl]
      rfl
/-- an 'and' behind it -/
theorem cQ_and (hT : TOk2 t) {p : Nat} (hp : p ≤ t.1) (h1 : tkT t p = (1, le t (sk t p), -31)) : ∀ (K : List Nat) (s : St), WK K → s.1 = p → s.2.1 ≤ 60 → cQ t false K s = sB (ftS t (10 - dp (ly 2 K s).2) (le t (sk t p), (ly 2 K s).1.2)) (cQ t false (12 :: (ly 2 K s).2)) := by
  have tl1 : ∀ d s, s.1 = p → s.2.1 ≤ 60 → tlD t d s = sB (ftS t d (le t (sk t p), s.2)) (fun s' => tlD t d (adS s' (-31))) := fun d s hs hn => by
    unfold tlD
    rw [tl_1 (ft_ok hT d) (tkT_ok t) (by omega) hn (by rw [hs, h1]), hs, h1]
  intro K
  induction K with
  | nil =>
    intro s _ hs hn
    show sB (sB (tlD t 10 s) (slD t 10)) Sum.inr = sB (ftS t 10 (le t (sk t p), s.2)) (cQ t false [12])
    rw [tl1 _ _ hs hn]
    have : cQ t false [12] = fun a => sB (sB (tlD t 10 (adS a (-31))) (slD t 10)) Sum.inr := funext (fun a => cQ_12)
    rw [this]
    simp only [sB_as]
  | cons x K ih =>
    intro s h hs hn
    rcases h.v with z | z | z | z
    · subst z
      have e : ly 2 (11 :: K) s = ly 2 K (adS s (-30)) := rfl
      rw [cQ_11, ih (adS s (-30)) h.1 hs hn, e]
    · subst z
      have e : ly 2 (12 :: K) s = ly 2 K (adS s (-31)) := rfl
      rw [cQ_12, ih (adS s (-31)) h.1 hs hn, e]
    · subst z
      have e : ly 2 (13 :: K) s = (s, 13 :: K) := rfl
      have : cQ t false (12 :: 13 :: K) = fun a => sB (sB (tlD t (10 - dp K) (adS a (-31))) (fun s' => slD t (10 - dp K) (adS s' (-32)))) (cQ t true K) := funext (fun a => by rw [cQ_12, cQ_13])
      rw [cQ_13, e]
      show _ = sB (ftS t (10 - dp (13 :: K)) (le t (sk t p), s.2)) (cQ t false (12 :: 13 :: K))
      rw [this, dp13, tl1 _ _ hs hn]
      simp only [sB_as]
    · subst z
      have e : ly 2 (91 :: K) s = (s, 91 :: K) := rfl
      have : cQ t false (12 :: 91 :: K) = fun a => sB (sB (tlD t (10 - dp (91 :: K)) (adS a (-31))) (slD t (10 - dp (91 :: K)))) (cQ t true (91 :: K)) := funext (fun a => by rw [cQ_12, cQ_91])
      rw [cQ_91, e]
      show _ = sB (ftS t (10 - dp (91 :: K)) (le t (sk t p), s.2)) (cQ t false (12 :: 91 :: K))
      rw [this, tl1 _ _ hs hn]
      simp only [sB_as]
/-- an 'or' behind it -/
theorem cQ_or (hT : TOk2 t) {p : Nat} (hp : p ≤ t.1) (h1 : tkT t p = (2, le t (sk t p), -32)) : ∀ (K : List Nat) (s : St), WK K → s.1 = p → s.2.1 ≤ 60 → cQ t false K s = sB (ftS t (10 - dp (ly 1 K s).2) (le t (sk t p), (ly 1 K s).1.2)) (cQ t false (13 :: (ly 1 K s).2)) := by
  have ek := sk_sk hp
  have hk := sk_le hp
  have etk := (tkT_ok t p hp).2
  have tl0 : ∀ d s, s.1 = p → tlD t d s = .inr (sk t p, s.2) := fun d s hs => by
    unfold tlD
    rw [tl_0 (by omega) (by rw [hs, h1]; exact (by decide : ¬ (2 : Nat) = 1)), hs]
  have sl2 : ∀ d (s : St), s.1 = sk t p → s.2.1 ≤ 60 → slD t d s = sB (ftS t d (le t (sk t p), s.2)) (fun s' => sB (tlD t d s') (fun s'' => slD t d (adS s'' (-32)))) := fun d s hs hn => by
    unfold slD tlD
    rw [sl_2 (ft_ok hT d) (tkT_ok t) (by omega) hn (by rw [hs, etk, h1]), hs, etk, h1, sB_as]
  intro K
  induction K with
  | nil =>
    intro s _ hs hn
    show sB (sB (tlD t 10 s) (slD t 10)) Sum.inr = sB (ftS t 10 (le t (sk t p), s.2)) (cQ t false [13])
    have : cQ t false [13] = fun a => sB (sB (tlD t 10 a) (fun s'' => slD t 10 (adS s'' (-32)))) (cQ t true []) := funext (fun a => cQ_13)
    rw [tl0 _ _ hs, this]
    show sB (slD t 10 (sk t p, s.2)) Sum.inr = _
    rw [sl2 _ (sk t p, s.2) rfl hn, sB_as]
    rfl
  | cons x K ih =>
    intro s h hs hn
    rcases h.v with z | z | z | z
    · subst z
      have e : ly 1 (11 :: K) s = ly 1 K (adS s (-30)) := rfl
      rw [cQ_11, ih (adS s (-30)) h.1 hs hn, e]
    · subst z
      have e : ly 1 (12 :: K) s = ly 1 K (adS s (-31)) := rfl
      rw [cQ_12, ih (adS s (-31)) h.1 hs hn, e]
    · subst z
      have hb : K = [] ∨ K.head? = some 91 := by
        rcases h.2 with q | q | q | q
        · exact absurd q (by decide)
        · exact absurd q (by decide)
        · exact absurd q.1 (by decide)
        · exact q.2
      have e : ly 1 (13 :: K) s = (adS s (-32), K) := by
        show (if 1 ≤ stN 13 then ly 1 K (adS s (cOf 13)) else _) = _
        rw [if_pos (by decide), ly_base hb]
        rfl
      have : cQ t false (13 :: K) = fun a => sB (sB (tlD t (10 - dp K) a) (fun s'' => slD t (10 - dp K) (adS s'' (-32)))) (cQ t true K) := funext (fun a => cQ_13)
      rw [cQ_13, tl0 _ _ hs, e]
      show sB (slD t (10 - dp K) (adS (sk t p, s.2) (-32))) (cQ t true K) = sB (ftS t (10 - dp K) (le t (sk t p), (adS s (-32)).2)) (cQ t false (13 :: K))
      rw [sl2 _ (adS (sk t p, s.2) (-32)) rfl hn, sB_as, this]
      rfl
    · subst z
      have e : ly 1 (91 :: K) s = (s, 91 :: K) := ly_base (Or.inr rfl) s
      have : cQ t false (13 :: 91 :: K) = fun a => sB (sB (tlD t (10 - dp (91 :: K)) a) (fun s'' => slD t (10 - dp (91 :: K)) (adS s'' (-32)))) (cQ t true (91 :: K)) := funext (fun a => cQ_13)
      rw [cQ_91, tl0 _ _ hs, e]
      show sB (slD t (10 - dp (91 :: K)) (sk t p, s.2)) (cQ t true (91 :: K)) = sB (ftS t (10 - dp (91 :: K)) (le t (sk t p), s.2)) (cQ t false (13 :: 91 :: K))
      rw [sl2 _ (sk t p, s.2) rfl hn, sB_as, this]
end
