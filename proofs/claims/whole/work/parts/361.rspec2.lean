/-! ===== signs, comparisons, facts, tests, clauses ===== -/
def tkA (t : Tp) (p : Nat) : Nat × Nat × Int32 :=
  if sk t p < t.1 then (if t.2 (sk t p) = 43 then (2, sk t p + 1, -20) else if t.2 (sk t p) = 45 then (2, sk t p + 1, -21) else if t.2 (sk t p) = 42 then (1, sk t p + 1, -22) else if t.2 (sk t p) = 47 then (1, sk t p + 1, -23) else if t.2 (sk t p) = 37 then (1, sk t p + 1, -24) else (0, 0, 0)) else (0, 0, 0)
theorem tkA_cases (t : Tp) (p : Nat) : tkA t p = (0, 0, 0) ∨ (sk t p < t.1 ∧ ((t.2 (sk t p) = 43 ∧ tkA t p = (2, sk t p + 1, -20)) ∨ (t.2 (sk t p) = 45 ∧ tkA t p = (2, sk t p + 1, -21)) ∨ (t.2 (sk t p) = 42 ∧ tkA t p = (1, sk t p + 1, -22)) ∨ (t.2 (sk t p) = 47 ∧ tkA t p = (1, sk t p + 1, -23)) ∨ (t.2 (sk t p) = 37 ∧ tkA t p = (1, sk t p + 1, -24)))) := by
  unfold tkA
  by_cases c : sk t p < t.1
  · rw [if_pos c]
    by_cases c1 : t.2 (sk t p) = 43
    · rw [if_pos c1]; exact Or.inr ⟨c, Or.inl ⟨c1, rfl⟩⟩
    · rw [if_neg c1]
      by_cases c2 : t.2 (sk t p) = 45
      · rw [if_pos c2]; exact Or.inr ⟨c, Or.inr (Or.inl ⟨c2, rfl⟩)⟩
      · rw [if_neg c2]
        by_cases c3 : t.2 (sk t p) = 42
        · rw [if_pos c3]; exact Or.inr ⟨c, Or.inr (Or.inr (Or.inl ⟨c3, rfl⟩))⟩
        · rw [if_neg c3]
          by_cases c4 : t.2 (sk t p) = 47
          · rw [if_pos c4]; exact Or.inr ⟨c, Or.inr (Or.inr (Or.inr (Or.inl ⟨c4, rfl⟩)))⟩
          · rw [if_neg c4]
            by_cases c5 : t.2 (sk t p) = 37
            · rw [if_pos c5]; exact Or.inr ⟨c, Or.inr (Or.inr (Or.inr (Or.inr ⟨c5, rfl⟩)))⟩
            · rw [if_neg c5]; exact Or.inl rfl
  · rw [if_neg c]; exact Or.inl rfl
theorem ty_ar {st : Int32} (h : st ∈ arL) (ty : List Bool) : tyS st ([false, false] ++ ty) = some ([false] ++ ty) := by
  unfold tyS
  rw [if_pos h]
  rfl
theorem ty_cm {st : Int32} (h : st ∈ cmL) (h2 : ¬ st ∈ arL) (ty : List Bool) : tyS st ([false, false] ++ ty) = some ([true] ++ ty) := by
  unfold tyS
  rw [if_neg h2, if_pos h]
  rfl
theorem ty_lg {st : Int32} (h : st ∈ lgL) (h2 : ¬ st ∈ arL) (h3 : ¬ st ∈ cmL) (ty : List Bool) : tyS st ([true, true] ++ ty) = some ([true] ++ ty) := by
  unfold tyS
  rw [if_neg h2, if_neg h3, if_pos h]
  rfl
theorem ty_nt (ty : List Bool) : tyS (-30) ([true] ++ ty) = some ([true] ++ ty) := by
  unfold tyS
  rw [if_neg (by decide), if_neg (by decide), if_neg (by decide), if_pos rfl]
  rfl
theorem ok_op {st : Int32} (h : st ∈ opS) : OkSt st := Or.inr (Or.inr (Or.inr h))
theorem tkA_ok (t : Tp) : TkOk t false (tkA t) := by
  intro p hp
  have e : tkA t (sk t p) = tkA t p := by unfold tkA; rw [sk_sk hp]
  refine ⟨fun h => ?_, e⟩
  rcases tkA_cases t p with c | ⟨c, c1 | c1 | c1 | c1 | c1⟩
  · rw [c] at h; exact absurd rfl h
  · rw [c1.2]; dsimp only; exact ⟨Nat.lt_succ_self _, c, fun ty => ty_ar (by decide) ty, ok_op (by decide), by decide⟩
  · rw [c1.2]; dsimp only; exact ⟨Nat.lt_succ_self _, c, fun ty => ty_ar (by decide) ty, ok_op (by decide), by decide⟩
  · rw [c1.2]; dsimp only; exact ⟨Nat.lt_succ_self _, c, fun ty => ty_ar (by decide) ty, ok_op (by decide), by decide⟩
  · rw [c1.2]; dsimp only; exact ⟨Nat.lt_succ_self _, c, fun ty => ty_ar (by decide) ty, ok_op (by decide), by decide⟩
  · rw [c1.2]; dsimp only; exact ⟨Nat.lt_succ_self _, c, fun ty => ty_ar (by decide) ty, ok_op (by decide), by decide⟩
def kAnd : List Nat := [97, 110, 100]
def kOr : List Nat := [111, 114]
def kNot : List Nat := [110, 111, 116]
def kTell : List Nat := [116, 101, 108, 108]
def kIf : List Nat := [105, 102]
theorem wrd_len {t : Tp} {q : Nat} (hq : q ≤ t.1) {x : List Nat} (h : wrd t q = x) : le t q = q + x.length := by
  have h1 := le_le hq
  have : (wrd t q).length = le t q - q := bys_len _ _
  rw [h] at this
  omega
def tkT (t : Tp) (p : Nat) : Nat × Nat × Int32 := if wrd t (sk t p) = kAnd then (1, le t (sk t p), -31) else if wrd t (sk t p) = kOr then (2, le t (sk t p), -32) else (0, 0, 0)
theorem kAO : ¬ kOr = kAnd := by decide
theorem tkT_ok (t : Tp) : TkOk t true (tkT t) := by
  intro p hp
  have e : tkT t (sk t p) = tkT t p := by unfold tkT; rw [sk_sk hp]
  have hs := (sk_le hp).2
  have hl := (le_le hs).2
  refine ⟨fun h => ?_, e⟩
  unfold tkT at h ⊢
  by_cases c : wrd t (sk t p) = kAnd
  · have h3 := wrd_len hs c
    have : kAnd.length = 3 := rfl
    rw [if_pos c]
    dsimp only
    exact ⟨by omega, hl, fun ty => ty_lg (by decide) (by decide) (by decide) ty, ok_op (by decide), by decide⟩
  · rw [if_neg c] at h ⊢
    by_cases c2 : wrd t (sk t p) = kOr
    · have h3 := wrd_len hs c2
      have : kOr.length = 2 := rfl
      rw [if_pos c2]
      dsimp only
      exact ⟨by omega, hl, fun ty => ty_lg (by decide) (by decide) (by decide) ty, ok_op (by decide), by decide⟩
    · rw [if_neg c2] at h; exact absurd rfl h
/-- a sum -/
def smS (t : Tp) : St → Nat ⊕ St := suS t (vlS t) (tkA t)
theorem sm_ok {t : Tp} (hT : TOk2 t) : VOk t false (smS t) := su_ok (vl_ok hT) (tkA_ok t)
/-- a sign that compares: what comes behind it, its step -/
def cpS (t : Tp) (q : Nat) : Option (Nat × Int32) :=
  if q < t.1 then (if t.2 q = 61 then some (q + 1, -27) else if t.2 q = 60 then (if q + 1 < t.1 ∧ t.2 (q + 1) = 61 then some (q + 2, -26) else some (q + 1, -25)) else if t.2 q = 62 then (if q + 1 < t.1 ∧ t.2 (q + 1) = 61 then some (q + 2, -28) else some (q + 1, -29)) else none) else none
theorem cp_ok {t : Tp} {q : Nat} {r : Nat × Int32} (h : cpS t q = some r) : q < r.1 ∧ r.1 ≤ t.1 ∧ r.2 ∈ cmL := by
  unfold cpS at h
  by_cases c : q < t.1
  · rw [if_pos c] at h
    by_cases c1 : t.2 q = 61
    · rw [if_pos c1] at h; injection h with h; rw [← h]; exact ⟨Nat.lt_succ_self _, c, by show (-27 : Int32) ∈ cmL; decide⟩
    · rw [if_neg c1] at h
      by_cases c2 : t.2 q = 60
      · rw [if_pos c2] at h
        by_cases c3 : q + 1 < t.1 ∧ t.2 (q + 1) = 61
        · rw [if_pos c3] at h; injection h with h; rw [← h]; exact ⟨by show q < q + 2; omega, c3.1, by show (-26 : Int32) ∈ cmL; decide⟩
        · rw [if_neg c3] at h; injection h with h; rw [← h]; exact ⟨Nat.lt_succ_self _, c, by show (-25 : Int32) ∈ cmL; decide⟩
      · rw [if_neg c2] at h
        by_cases c4 : t.2 q = 62
        · rw [if_pos c4] at h
          by_cases c3 : q + 1 < t.1 ∧ t.2 (q + 1) = 61
          · rw [if_pos c3] at h; injection h with h; rw [← h]; exact ⟨by show q < q + 2; omega, c3.1, by show (-28 : Int32) ∈ cmL; decide⟩
          · rw [if_neg c3] at h; injection h with h; rw [← h]; exact ⟨Nat.lt_succ_self _, c, by show (-29 : Int32) ∈ cmL; decide⟩
        · rw [if_neg c4] at h; cases h
  · rw [if_neg c] at h; cases h
theorem cm_ty : ∀ st ∈ cmL, ¬ st ∈ arL ∧ st ∈ opS ∧ psh [st] = 0 := by decide +kernel
/-- a comparison -/
def cmS (t : Tp) (s : St) : Nat ⊕ St := sB (smS t s) (fun s1 => match cpS t (sk t s1.1) with
  | none => .inl (1 + 8 * sk t s1.1)
  | some r => sB (ctS (sk t s1.1) (r.1, s1.2)) (fun s2 => sB (smS t s2) (fun s3 => .inr (adS s3 r.2))))
theorem cm_ok {t : Tp} (hT : TOk2 t) : VOk t true (cmS t) := by
  have h4 := hT.1
  intro s h1 h2
  have hs := sm_ok hT s h1 h2
  refine ⟨fun s' h => ?_, fun f h => ?_⟩
  · obtain ⟨s1, e1, e2⟩ := sB_inr h
    have g := hs.1 s1 e1
    have hk := sk_le g.1
    cases hc : cpS t (sk t s1.1) with
    | none => rw [hc] at e2; cases e2
    | some r =>
      rw [hc] at e2
      obtain ⟨s2, e3, e4⟩ := sB_inr e2
      obtain ⟨s3, e5, e6⟩ := sB_inr e4
      injection e6 with e6
      obtain ⟨k1, k2, k3⟩ := cp_ok hc
      obtain ⟨c1, c2⟩ := ct_ok e3
      obtain ⟨m1, m2, m3⟩ := cm_ty _ k3
      have c1 : s1.2.1 < 60 := c1
      subst c2
      have g3 := (sm_ok hT _ k2 (by show s1.2.1 + 1 ≤ 60; omega)).1 s3 e5
      rw [← e6]
      have g4 : G t [] [false] (r.1, s1.2) s3 := by
        obtain ⟨a1, a2, c, a3, a4, a5, a6, a7⟩ := g3
        exact ⟨a1, a2, c, a3, a4, a5, by have a6 : psh c + (s1.2.1 + 1) ≤ s3.2.1 := a6; show psh c + s1.2.1 ≤ s3.2.1; omega, a7⟩
      exact g.trans (G.op (by omega) (g4.ext [false]) (fun ty => ty_cm k3 m1 ty) (ok_op m2) m3)
  · rcases sB_inl h with h | ⟨s1, e1, e2⟩
    · exact hs.2 f h
    · have g := hs.1 s1 e1
      have hk := sk_le g.1
      cases hc : cpS t (sk t s1.1) with
      | none => rw [hc] at e2; injection e2 with e2; unfold FB; omega
      | some r =>
        rw [hc] at e2
        obtain ⟨k1, k2, k3⟩ := cp_ok hc
        rcases sB_inl e2 with h | ⟨s2, e3, e4⟩
        · exact ct_fb (by omega) h
        · obtain ⟨c1, c2⟩ := ct_ok e3
          have c1 : s1.2.1 < 60 := c1
          subst c2
          rcases sB_inl e4 with h | ⟨s3, e5, e6⟩
          · exact (sm_ok hT _ k2 (by show s1.2.1 + 1 ≤ 60; omega)).2 f h
          · cases e6
def isOp (t : Tp) (q : Nat) : Prop := q < t.1 ∧ t.2 q = 91
def isCl (t : Tp) (q : Nat) : Prop := q < t.1 ∧ t.2 q = 93
noncomputable def clsS (t : Tp) (s : St) : Nat ⊕ St := by classical exact if isCl t (sk t s.1) then .inr (sk t s.1 + 1, s.2) else .inl (1 + 8 * sk t s.1)
/-- a fact, d more may lie in one another -/
noncomputable def ftS (t : Tp) : Nat → St → Nat ⊕ St
  | 0, s => by classical exact if isOp t (sk t s.1) ∨ wrd t (sk t s.1) = kNot then .inl (1 + 8 * sk t s.1 + 2) else cmS t s
  | d + 1, s => by classical exact if isOp t (sk t s.1) then sB (suS t (ftS t d) (tkT t) (sk t s.1 + 1, s.2)) (clsS t) else if wrd t (sk t s.1) = kNot then sB (ftS t d (le t (sk t s.1), s.2)) (fun s' => .inr (adS s' (-30))) else cmS t s
noncomputable def teS (t : Tp) (d : Nat) : St → Nat ⊕ St := suS t (ftS t d) (tkT t)
theorem cls_ok {t : Tp} (hT : TOk2 t) {s : St} (h1 : s.1 ≤ t.1) (h2 : s.2.1 ≤ 60) : (∀ s', clsS t s = .inr s' → G t [true] [true] s s') ∧ ∀ f, clsS t s = .inl f → FB f := by
  have h4 := hT.1
  have hk := sk_le h1
  unfold clsS
  by_cases c : isCl t (sk t s.1)
  · rw [if_pos c]
    exact ⟨fun s' h => by injection h with h; rw [← h]; exact G.to (by omega) c.1 (Nat.le_refl _) h2, fun f h => by cases h⟩
  · rw [if_neg c]
    exact ⟨fun s' h => (by cases h), fun f h => by injection h with h; unfold FB; omega⟩
theorem ft_ok {t : Tp} (hT : TOk2 t) : ∀ d, VOk t true (ftS t d) := by
  have h4 := hT.1
  intro d
  induction d with
  | zero =>
    intro s h1 h2
    have hk := sk_le h1
    unfold ftS
    by_cases c : isOp t (sk t s.1) ∨ wrd t (sk t s.1) = kNot
    · rw [if_pos c]
      exact ⟨fun s' h => (by cases h), fun f h => by injection h with h; unfold FB; omega⟩
    · rw [if_neg c]
      exact cm_ok hT s h1 h2
  | succ d ih =>
    intro s h1 h2
    have hk := sk_le h1
    unfold ftS
    by_cases c : isOp t (sk t s.1)
    · rw [if_pos c]
      have hv := su_ok ih (tkT_ok t) (sk t s.1 + 1, s.2) c.1 h2
      refine ⟨fun s' h => ?_, fun f h => ?_⟩
      · obtain ⟨s1, e1, e2⟩ := sB_inr h
        have g := hv.1 s1 e1
        exact (g.mv (by omega)).trans ((cls_ok hT g.1 g.2.1).1 s' e2)
      · rcases sB_inl h with h | ⟨s1, e1, e2⟩
        · exact hv.2 f h
        · have g := hv.1 s1 e1
          exact (cls_ok hT g.1 g.2.1).2 f e2
    · rw [if_neg c]
      by_cases c2 : wrd t (sk t s.1) = kNot
      · rw [if_pos c2]
        have h3 := wrd_len hk.2 c2
        have : kNot.length = 3 := rfl
        have hl := (le_le hk.2).2
        have hv := ih (le t (sk t s.1), s.2) hl h2
        refine ⟨fun s' h => ?_, fun f h => ?_⟩
        · obtain ⟨s1, e1, e2⟩ := sB_inr h
          injection e2 with e2
          rw [← e2]
          exact G.op (by omega) (hv.1 s1 e1) ty_nt (Or.inr (Or.inr (Or.inl rfl))) (by decide)
        · rcases sB_inl h with h | ⟨s1, e1, e2⟩
          · exact hv.2 f h
          · cases e2
      · rw [if_neg c2]
        exact cm_ok hT s h1 h2
theorem te_ok {t : Tp} (hT : TOk2 t) (d : Nat) : VOk t true (teS t d) := su_ok (ft_ok hT d) (tkT_ok t)
/-- how a clause, and all of them, are read -/
noncomputable def ifS (t : Tp) (s1 : St) : Nat ⊕ St := by classical exact if wrd t (sk t s1.1) = kIf then teS t 10 (le t (sk t s1.1), s1.2) else .inr (sk t s1.1, s1.2)
noncomputable def caS (t : Tp) (s : St) (rl : Rl) : Nat ⊕ (St × Rl) := by
  classical exact if wrd t (sk t s.1) = kTell then (if rl.length < 12 then sB (smS t (le t (sk t s.1), s.2)) (fun s1 => sB (ifS t s1) (fun s2 => .inr (s2, rl ++ [(s1.2.2.drop s.2.2.length, s2.2.2.drop s1.2.2.length)]))) else .inl (1 + 8 * sk t s.1 + 4)) else .inl (1 + 8 * sk t s.1)
noncomputable def rrS (t : Tp) : Nat → St → Rl → Nat ⊕ (St × Rl)
  | 0, _, _ => .inl 0
  | m + 1, s, rl => sB (caS t s rl) (fun r => if sk t r.1.1 = t.1 then .inr r else if t.2 (sk t r.1.1) = 59 then rrS t m (sk t r.1.1 + 1, r.1.2) r.2 else .inl (1 + 8 * sk t r.1.1))
