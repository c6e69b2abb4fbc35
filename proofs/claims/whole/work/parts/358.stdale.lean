/-! ===== dale(): one step on both sides ===== -/
theorem rd_ok {t : Tp} : ∀ (m n p : Nat) (d d' : Dl), DI n d → rdS t m n p d = .inr d' → ∃ n', n' ≠ 0 ∧ DI n' d' := by
  intro m
  induction m with
  | zero => intro n p d d' _ h; cases h
  | succ m ih =>
    intro n p d d' hI h
    have e0 : rdS t (m + 1) n p d = sB (cauS t p n d) (fun q => if sk t q.1 = t.1 then .inr q.2 else if t.2 (sk t q.1) = 59 then rdS t m (n + 1) (sk t q.1 + 1) q.2 else .inl (1 + 8 * sk t q.1)) := rfl
    rw [e0] at h
    obtain ⟨q, hq, h⟩ := sB_inr h
    have hI2 := cau_ok hI hq
    by_cases c : sk t q.1 = t.1
    · rw [if_pos c] at h
      injection h with h
      subst h
      exact ⟨n + 1, by omega, hI2⟩
    · rw [if_neg c] at h
      by_cases c2 : t.2 (sk t q.1) = 59
      · rw [if_pos c2] at h
        exact ih _ _ _ _ hI2 h
      · rw [if_neg c2] at h; cases h
/-- no reference to a dale from n on -/
def Fs1 (w : XW) (n : Nat) : Prop := (∀ j, gR w 10 0 5 = some j → j < n) ∧ ∀ k j, k < 4 → gR w 2 k 1 = some j → j < n
theorem CI.frn {P : Nat → Nat → Nat → Prop} {w w' : XW} {im : Nat → Option Im} {n : Nat} (h : CI w im) (hn : ∀ k j, k < 4 → gR w 2 k 1 = some j → j < n) (hF : Fr P w w') (hP : ∀ κ j q, κ = 36 ∨ κ = 2 ∨ ((κ = 8 ∨ (30 ≤ κ ∧ κ ≤ 33)) ∧ 22 ≤ j) ∨ ((κ = 1 ∨ (13 ≤ κ ∧ κ ≤ 18)) ∧ j < n) ∨ ((κ = 4 ∨ (22 ≤ κ ∧ κ ≤ 24)) ∧ 1 ≤ j) → ¬ P κ j q) : CI w' im := fun k hk => by
  obtain ⟨g, hk1⟩ := h k hk
  refine ⟨by rw [(hF 36 0 k (hP _ _ _ (by omega))).2.2.1]; exact g, ?_⟩
  revert hk1
  match im k with
  | none => intro h; show gI w' 2 k 0 = 0; rw [(hF 2 k 0 (hP _ _ _ (by omega))).1]; exact h
  | some i =>
    intro h
    obtain ⟨h1, ⟨j, h2, h3⟩, h4, h5, h6, h7, h8⟩ := h
    have hj := hn k j hk h2
    exact ⟨by rw [(hF 2 k 0 (hP _ _ _ (by omega))).1]; exact h1, ⟨j, by rw [(hF 2 k 1 (hP _ _ _ (by omega))).2.2.1]; exact h2, h3.fr hF (fun κ q z => hP _ _ _ (by omega))⟩, h4.fr hF (fun κ q z => hP _ _ _ (by omega)), by rw [(hF 8 _ 0 (hP _ _ _ (by omega))).1]; exact h5, by rw [(hF 2 k 3 (hP _ _ _ (by omega))).1]; exact h6, h7.fr hF (fun κ q z => hP _ _ _ (by omega)), by rw [(hF 2 k 5 (hP _ _ _ (by omega))).1]; exact h8⟩
theorem CX.frn {P : Nat → Nat → Nat → Prop} {w w' : XW} {d : Dl} {s : Sc} {rs : List Rl} {f : Int32} {n : Nat} (h : CX w d s rs f) (hn : ∀ j, gR w 10 0 5 = some j → j < n) (hF : Fr P w w') (hP : ∀ κ j k, (κ = 10 ∧ (k = 3 ∨ k = 4 ∨ k = 5)) ∨ ((κ = 1 ∨ (13 ≤ κ ∧ κ ≤ 18)) ∧ j < n) ∨ ((κ = 8 ∨ (30 ≤ κ ∧ κ ≤ 33)) ∧ j = 0) ∨ κ = 35 ∨ κ = 6 ∨ κ = 26 ∨ κ = 27 → ¬ P κ j k) : CX w' d s rs f := by
  obtain ⟨⟨jd, h1, h2⟩, ⟨h3, h4⟩, ⟨h5, h6⟩, h7⟩ := h
  have hj := hn jd h1
  refine ⟨⟨jd, ?_, h2.fr hF (fun κ k q => hP _ _ _ (by omega))⟩, ⟨h3.fr hF (fun κ k q => hP _ _ _ (by omega)), ?_⟩, ⟨?_, fun t rl ht => ?_⟩, ?_⟩
  · rw [(hF 10 0 5 (hP _ _ _ (by omega))).2.2.1]; exact h1
  · rw [(hF 8 0 0 (hP _ _ _ (by omega))).1]; exact h4
  · rw [(hF 10 0 3 (hP _ _ _ (by omega))).1]; exact h5
  · obtain ⟨jr, x1, x2⟩ := h6 t rl ht
    exact ⟨jr, by rw [(hF 35 0 t (hP _ _ _ (by omega))).2.2.1]; exact x1, x2.fr hF (fun κ k q => hP _ _ _ (by omega))⟩
  · rw [(hF 10 0 4 (hP _ _ _ (by omega))).1]; exact h7
theorem Fr.wz {P : Nat → Nat → Nat → Prop} {w w1 : XW} (h : Fr P w w1) {κ i : Nat} (hp : ∀ k, P κ i k) : Fr P w (wz w1 κ i) := fun κ' i' k' hq => by
  have e := wz_ne (w := w1) (κ := κ) (i := i) (κ' := κ') (i' := i') (fun z => hq (by rw [z.1, z.2]; exact hp k'))
  obtain ⟨e1, e2, e3, e4⟩ := h κ' i' k' hq
  exact ⟨by rw [e.1]; exact e1, by rw [e.2.1]; exact e2, by rw [e.2.2.1]; exact e3, by rw [e.2.2.2]; exact e4⟩
theorem wD_fr (n : Nat) (w : XW) : Fr (PDd n) w (wD n w) := by
  unfold wD
  exact (((((((Fr.refl _ _).wz (fun k => by unfold PDd; omega)).wz (fun k => by unfold PDd; omega)).wz (fun k => by unfold PDd; omega)).wz (fun k => by unfold PDd; omega)).wz (fun k => by unfold PDd; omega)).wz (fun k => by unfold PDd; omega)).wz (fun k => by unfold PDd; omega)
theorem wzI0 {w : XW} {κ i κ' i' k : Nat} (h : gI w κ' i' k = 0) : gI (wz w κ i) κ' i' k = 0 := by
  by_cases c : κ' = κ ∧ i' = i
  · rw [c.1, c.2, wz_I]
  · rw [(wz_ne c).1]; exact h
theorem wzI1 {w : XW} {κ i k : Nat} : gI (wz w κ i) κ i k = 0 := by rw [wz_I]
theorem wD_dl (n : Nat) (w : XW) : DlAt (wD n w) n dal0 := by
  unfold wD
  exact ⟨fun k _ => wzI1, fun k _ => ⟨wzI0 (wzI0 (wzI0 (wzI0 (wzI0 (wzI0 wzI1))))), wzI0 (wzI0 (wzI0 (wzI0 (wzI0 wzI1)))), wzI0 (wzI0 (wzI0 (wzI0 wzI1)))⟩, fun k _ => ⟨wzI0 (wzI0 (wzI0 wzI1)), wzI0 (wzI0 wzI1)⟩, fun k _ => wzI0 wzI1⟩
theorem st_dale {w : XW} (hR : Rel w) {n : Nat} (hn : Fs1 w n) : StepOk (fun w => (q_X11_dalet_8 n (wD n w)).bind pI) (F_X12_dale [.inr (11, 0)]) w := by
  obtain ⟨g, hc, hm, ho⟩ := hR
  obtain ⟨⟨d, s, rs, f⟩, hs, no, sx, im, tn, tb⟩ := g
  have hT : TOk2 (tn, tb) := ⟨ho.2.2.2.2.2.1, ho.2.2.2.2.2.2⟩
  have hCT : CT (wD n w) tn tb := hc.2.2.2.2.2.fr (wD_fr n w) (fun κ k q => by unfold PDd; omega)
  have hn0 : ∀ j, gR w 10 0 5 = some j → j < n := hn.1
  have hn1 : ∀ k j, k < 4 → gR w 2 k 1 = some j → j < n := hn.2
  have cd := c_dale hT (j := n) hCT (wD_dl n w)
  have h10 : no.1 ≤ 10 := ho.2.2.1.1
  cases hr : rdS (tn, tb) 41 0 0 dal0 with
  | inl fl =>
    rw [hr] at cd
    obtain ⟨w1, x1, x2, x3⟩ := cd
    have F1 : Fr (PCf n) w w1 := ((wD_fr n w).mono (fun κ i k q => by unfold PDd at q; unfold PCf; omega)).trans x2
    have hc1 : CS w1 ((d, s, rs, f), hs, no, sx, im, 0, tb) :=
      ⟨hc.1.frn hn0 F1 (fun κ j k q => by unfold PCf; omega), hc.2.1.fr F1 (fun κ j k q => by unfold PCf; omega), hc.2.2.1.fr F1 (fun κ k q => by unfold PCf; omega), by rw [(F1 10 0 12 (by unfold PCf; omega)).1]; exact hc.2.2.2.1, hc.2.2.2.2.1.frn hn1 F1 (fun κ j k q => by unfold PCf; omega), ⟨x3, fun i hi => absurd hi (Nat.not_lt_zero _)⟩⟩
    have hm1 := hm.frc ho (F1.mono (fun κ i k q => by unfold PCf at q; unfold PCl; omega))
    have md := m_dale hT (show MT w1 tn tb from hm1.2.2.2.2.2)
    rw [hr] at md
    obtain ⟨w2, y1, y2, y3⟩ := md
    refine ⟨-2 - nI fl, w1, w2, by show (q_X11_dalet_8 n (wD n w)).bind pI = _; rw [x1]; rfl, y1, _, hc1.frm (y2.mono (fun κ i k q => by unfold PMf at q; unfold  PMo; omega)), ⟨hm1.1.fr y2 (fun κ k q => by unfold PMf; omega), hm1.2.1.fr y2 (fun κ k q => by unfold PMf; omega), hm1.2.2.1.fr h10 y2 (fun k q => by unfold PMf; omega), by rw [(y2 11 0 22 (by unfold PMf; omega)).1]; exact hm1.2.2.2.1, hm1.2.2.2.2.1.fr y2 (fun κ k q => by unfold PMf; omega), ⟨y3, fun i hi => absurd hi (Nat.not_lt_zero _)⟩⟩, ?_⟩
    exact ⟨ho.1, ho.2.1, ho.2.2.1, ho.2.2.2.1, ho.2.2.2.2.1, Nat.zero_le _, fun i hi => absurd hi (Nat.not_lt_zero _)⟩
  | inr d' =>
    obtain ⟨n', hn', hI⟩ := rd_ok _ _ _ _ _ DI0 hr
    rw [hr] at cd
    obtain ⟨w1, x1, x2, x3, x4, x5, x6, x7, x8, x9⟩ := cd
    have F1 : Fr (PCg n) w w1 := ((wD_fr n w).mono (fun κ i k q => by unfold PDd at q; unfold PCg; omega)).trans x2
    have hc1 : CS w1 ((d', beginS d', rs, f), [], (0, no.2), sx, im, 0, tb) := by
      obtain ⟨⟨_, _, ⟨h5, h6⟩, h7⟩, ⟨_, b2, an, b3, b4, _⟩, _, h8, h9, _⟩ := hc
      refine ⟨⟨⟨n, x4, x5⟩, ⟨x6, x7⟩, ⟨?_, fun t rl ht => ?_⟩, ?_⟩, ⟨x9, fun q hq => by rw [(F1 37 0 q (by unfold PCg; omega)).2.2.1]; exact b2 q hq, an, b3, by rw [(F1 10 0 15 (by unfold PCg; omega)).1]; exact b4, fun q h hq => by cases hq⟩, ⟨x8, fun i hi => absurd hi (Nat.not_lt_zero _)⟩, by rw [(F1 10 0 12 (by unfold PCg; omega)).1]; exact h8, h9.frn hn1 F1 (fun κ j k q => by unfold PCg; omega), ⟨x3, fun i hi => absurd hi (Nat.not_lt_zero _)⟩⟩
      · rw [(F1 10 0 3 (by unfold PCg; omega)).1]; exact h5
      · obtain ⟨jr, z1, z2⟩ := h6 t rl ht
        exact ⟨jr, by rw [(F1 35 0 t (by unfold PCg; omega)).2.2.1]; exact z1, z2.fr F1 (fun κ k q => by unfold PCg; omega)⟩
      · rw [(F1 10 0 4 (by unfold PCg; omega)).1]; exact h7
    have hm1 := hm.frc ho (F1.mono (fun κ i k q => by unfold PCg at q; unfold PCl; omega))
    have md := m_dale hT (show MT w1 tn tb from hm1.2.2.2.2.2)
    rw [hr] at md
    obtain ⟨w2, y1, y2, y3, y4, y5, y6, y7, y8⟩ := md
    refine ⟨d'.1 3, w1, w2, by show (q_X11_dalet_8 n (wD n w)).bind pI = _; rw [x1]; rfl, y1, _, hc1.frm (y2.mono (fun κ i k q => by unfold PMg at q; unfold  PMo; omega)), ⟨⟨y4, y5, y6, hm1.1.2.2.2.1.fr y2 (fun κ k q => by unfold PMg; omega), by rw [(y2 11 0 21 (by unfold PMg; omega)).1]; exact hm1.1.2.2.2.2.1, by rw [(y2 11 0 23 (by unfold PMg; omega)).1]; exact hm1.1.2.2.2.2.2⟩, ⟨y8, fun q h hq => by cases hq⟩, ⟨y7, fun i hi => absurd hi (Nat.not_lt_zero _)⟩, by rw [(y2 11 0 22 (by unfold PMg; omega)).1]; exact hm1.2.2.2.1, hm1.2.2.2.2.1.fr y2 (fun κ k q => by unfold PMg; omega), ⟨y3, fun i hi => absurd hi (Nat.not_lt_zero _)⟩⟩, ?_⟩
    have hD := hI.1
    have t0 : d'.1 0 = 1 := by have := hI.2.1; rw [if_neg hn'] at this; exact this
    refine ⟨⟨⟨hD, Or.inl t0, fun z => by rw [t0] at z; exact absurd z (by decide)⟩, ⟨SOk_begin hD, ⟨0, by omega, rfl⟩⟩, ho.1.2.2⟩, ⟨by show ([] : List Sc).length ≤ 20; decide, fun h hh => by cases hh⟩, ⟨Nat.zero_le _, fun q hq => absurd hq (Nat.not_lt_zero _)⟩, ho.2.2.2.1, ho.2.2.2.2.1, Nat.zero_le _, fun i hi => absurd hi (Nat.not_lt_zero _)⟩
