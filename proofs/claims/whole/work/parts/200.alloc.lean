/-! ===== worlds that grow: cells under way (Y) beside the pool ===== -/
def XX (D : va_G) (A : Nat → Prop) (ad : Nat → Nat → Nat) (cy : Nat → ClassId) (cnt : Nat → Nat) (Y : va_W) (w : XW) (H : Heap) : Prop :=
  ∃ (L : List Nat) (f : Nat → va_E), va_P D vwCl (Y ++ va_pl L f) H ∧ va_D A (Y ++ va_pl L f) ∧ ∀ κ i, κ < 65 → i < cnt κ → ad κ i ∈ L ∧ f (ad κ i) = xcell ad cy w κ i
theorem xx_xh {D : va_G} {A : Nat → Prop} {ad : Nat → Nat → Nat} {cy : Nat → ClassId} {cnt : Nat → Nat} {w : XW} {H : Heap} : XX D A ad cy cnt [] w H ↔ XH D A ad cy cnt w H := Iff.rfl
def adup (ad : Nat → Nat → Nat) (κ i q : Nat) : Nat → Nat → Nat := va_up ad κ (va_up (ad κ) i q)
def cup (cnt : Nat → Nat) (κ : Nat) : Nat → Nat := va_up cnt κ (cnt κ + 1)
theorem adup_self {ad : Nat → Nat → Nat} {κ i q : Nat} : adup ad κ i q κ i = q := by
  unfold adup
  rw [va_up_self, va_up_self]
theorem adup_ne {ad : Nat → Nat → Nat} {κ i q κ' i' : Nat} (h : ¬ (κ' = κ ∧ i' = i)) : adup ad κ i q κ' i' = ad κ' i' := by
  unfold adup
  by_cases h1 : κ' = κ
  · subst h1
    rw [va_up_self, va_up_ne _ _ (fun q => h ⟨rfl, q⟩)]
  · rw [va_up_ne _ _ h1]
theorem cup_self {cnt : Nat → Nat} {κ : Nat} : cup cnt κ κ = cnt κ + 1 := va_up_self _ _ _
theorem cup_ne {cnt : Nat → Nat} {κ κ' : Nat} (h : κ' ≠ κ) : cup cnt κ κ' = cnt κ' := va_up_ne _ _ h
theorem cup_le (cnt : Nat → Nat) (κ κ' : Nat) : cnt κ' ≤ cup cnt κ κ' := by
  by_cases h : κ' = κ
  · subst h
    rw [cup_self]
    exact Nat.le_succ _
  · rw [cup_ne h]
    exact Nat.le_refl _
theorem cup_cases {cnt : Nat → Nat} {κ κ' i : Nat} (h : i < cup cnt κ κ') : i < cnt κ' ∨ (κ' = κ ∧ i = cnt κ) := by
  by_cases hk : κ' = κ
  · subst hk
    rw [cup_self] at h
    by_cases hi : i < cnt κ'
    · exact Or.inl hi
    · exact Or.inr ⟨rfl, by omega⟩
  · rw [cup_ne hk] at h
    exact Or.inl h
/-- fewer addresses are asked than known: a cell that stood reads the same -/
theorem xcell_ext {ad ad' : Nat → Nat → Nat} {cy : Nat → ClassId} {cnt : Nat → Nat} {w : XW} {κ i : Nat} (he : ∀ κ i, i < cnt κ → ad' κ i = ad κ i) (hG : XG ad cnt) (hO : XD cnt w) (hi : i < cnt κ) : xcell ad' cy w κ i = xcell ad cy w κ i := by
  unfold xcell
  by_cases h12 : κ < 12
  · rw [if_pos h12, if_pos h12]
    refine congrArg (fun z => Sum.inr (κ, z)) ?_
    apply List.ext_getElem?
    intro k
    cases hc : ((xcl[κ]?).getD [])[k]? with
    | none =>
      have : ∀ a0 : Nat → Nat → Nat, (xfs a0 w κ i ((xcl[κ]?).getD []))[k]? = none := fun a0 => by
        unfold xfs
        rw [List.getElem?_mapIdx, hc]
        rfl
      rw [this, this]
    | some c =>
      have hfc : xfc κ k = some c := by
        unfold xfc
        cases hq : xcl[κ]? with
        | none => rw [hq] at hc; simp at hc
        | some fl => rw [hq] at hc; exact hc
      rw [xfs_get hc, xfs_get hc]
      congr 1
      unfold xcv
      split
      · rfl
      · split
        · rfl
        · split
          · rename_i h2
            cases hg : gR w κ i k with
            | none => rfl
            | some j => rw [Option.map_some, Option.map_some, he _ _ (hO.1 _ _ _ _ _ hfc h2 hi hg)]
          · rename_i h0 h1 h2
            have h3 : c.1 = 3 := by
              have hall : ∀ fl ∈ xcl, ∀ c ∈ fl, c.1 < 4 := by decide
              have hm : c.1 < 4 := by
                cases hq : xcl[κ]? with
                | none => rw [hq] at hc; simp at hc
                | some fl =>
                  rw [hq] at hc
                  exact hall fl (List.mem_of_getElem? hq) c (List.mem_of_getElem? hc)
              omega
            rw [he _ _ (hG.2.2 _ _ _ _ hfc h3 hi)]
  · rw [if_neg h12, if_neg h12]
    cases hq : xar[κ - 12]? with
    | none => simp
    | some a =>
      simp only [Option.getD_some]
      by_cases h4 : 4 ≤ a.1
      · have e : (fun k => (gR w κ i k).map (ad' a.2.2)) = (fun k => (gR w κ i k).map (ad a.2.2)) := by
          funext k
          cases hg : gR w κ i k with
          | none => rfl
          | some j => rw [Option.map_some, Option.map_some, he _ _ (hO.2 κ a i k j (by unfold xac; rw [if_neg h12]; exact hq) h4 hi hg)]
        rw [e]
      · by_cases h3 : a.1 < 3
        · rw [if_pos h3, if_pos h3]
        · have h5 : a.1 = 3 := by omega
          rw [if_neg h3, if_neg h3, if_pos h5, if_pos h5]
theorem xg_cup {ad : Nat → Nat → Nat} {cnt : Nat → Nat} {κ q : Nat} (hG : XG ad cnt) (h65 : κ < 65) (hq : ∀ κ' i', κ' < 65 → i' < cnt κ' → ad κ' i' ≠ q) (hc : ∀ k c, xfc κ k = some c → c.1 = 3 → xser c.2.2.1 c.2.2.2 (cnt κ) < cup cnt κ c.2.1) : XG (adup ad κ (cnt κ) q) (cup cnt κ) := by
  refine ⟨fun κ1 i1 κ2 i2 a1 a2 b1 b2 e => ?_, ⟨by rw [cup_ne (by omega)]; exact hG.2.1.1, by rw [cup_ne (by omega)]; exact hG.2.1.2⟩, fun κ1 k c i h1 h2 h3 => ?_⟩
  · rcases cup_cases b1 with c1 | ⟨c1, d1⟩
    · rcases cup_cases b2 with c2 | ⟨c2, d2⟩
      · rw [adup_ne (fun h => by rw [h.1, h.2] at c1; omega), adup_ne (fun h => by rw [h.1, h.2] at c2; omega)] at e
        exact hG.1 _ _ _ _ a1 a2 c1 c2 e
      · subst d2
        subst c2
        rw [adup_self, adup_ne (fun h => by rw [h.1, h.2] at c1; omega)] at e
        exact absurd e (hq _ _ a1 c1)
    · subst d1
      subst c1
      rcases cup_cases b2 with c2 | ⟨c2, d2⟩
      · rw [adup_self, adup_ne (fun h => by rw [h.1, h.2] at c2; omega)] at e
        exact absurd e.symm (hq _ _ a2 c2)
      · exact ⟨c2.symm, d2.symm⟩
  · rcases cup_cases h3 with h3 | ⟨rfl, rfl⟩
    · exact Nat.lt_of_lt_of_le (hG.2.2 _ _ _ _ h1 h2 h3) (cup_le _ _ _)
    · exact hc k c h1 h2
theorem xd_cup {cnt : Nat → Nat} {w w' : XW} {κ : Nat} (hO : XD cnt w) (hw : ∀ κ' i', i' < cnt κ' → gR w' κ' i' = gR w κ' i') (h1 : ∀ k c j, xfc κ k = some c → c.1 = 2 → gR w' κ (cnt κ) k = some j → j < cup cnt κ c.2.1) (h2 : ∀ a k j, xac κ = some a → 4 ≤ a.1 → gR w' κ (cnt κ) k = some j → j < cup cnt κ a.2.2) : XD (cup cnt κ) w' := by
  refine ⟨fun κ1 k c i j a1 a2 a3 a4 => ?_, fun κ1 a i k j a1 a2 a3 a4 => ?_⟩
  · rcases cup_cases a3 with a3 | ⟨rfl, rfl⟩
    · rw [hw _ _ a3] at a4
      exact Nat.lt_of_lt_of_le (hO.1 _ _ _ _ _ a1 a2 a3 a4) (cup_le _ _ _)
    · exact h1 k c j a1 a2 a4
  · rcases cup_cases a3 with a3 | ⟨rfl, rfl⟩
    · rw [hw _ _ a3] at a4
      exact Nat.lt_of_lt_of_le (hO.2 _ _ _ _ _ a1 a2 a3 a4) (cup_le _ _ _)
    · exact h2 a k j a1 a2 a4
/-- a new cell at q comes into the pool as the next one of kind κ -/
theorem xx_take {D : va_G} {A : Nat → Prop} {ad : Nat → Nat → Nat} {cy : Nat → ClassId} {cnt : Nat → Nat} {Y : va_W} {w w' : XW} {H : Heap} {κ q : Nat} {e : va_E} {L : List Nat} {f : Nat → va_E} (hG : XG ad cnt) (hO : XD cnt w) (hqL : q ∉ L)
    (hP : va_P D vwCl (Y ++ (va_pl L f ++ [(q, e)])) H) (hD : va_D A (Y ++ (va_pl L f ++ [(q, e)]))) (hf : ∀ κ i, κ < 65 → i < cnt κ → ad κ i ∈ L ∧ f (ad κ i) = xcell ad cy w κ i)
    (he : e = xcell (adup ad κ (cnt κ) q) cy w' κ (cnt κ)) (hw : ∀ κ' i', i' < cnt κ' → gI w' κ' i' = gI w κ' i' ∧ gJ w' κ' i' = gJ w κ' i' ∧ gR w' κ' i' = gR w κ' i' ∧ gZ w' κ' i' = gZ w κ' i') : XX D A (adup ad κ (cnt κ) q) cy (cup cnt κ) Y w' H := by
  rw [va_pl_push hqL] at hP hD
  refine ⟨L ++ [q], _, hP, hD, fun κ1 i1 h65 h1 => ?_⟩
  rcases cup_cases h1 with h1 | ⟨rfl, rfl⟩
  · have hne : ¬ (κ1 = κ ∧ i1 = cnt κ) := fun h => by rw [h.1, h.2] at h1; omega
    rw [adup_ne hne]
    obtain ⟨g1, g2⟩ := hf κ1 i1 h65 h1
    refine ⟨List.mem_append_left _ g1, ?_⟩
    rw [va_up_ne _ _ (show ad κ1 i1 ≠ q from fun z => hqL (by rw [← z]; exact g1)), g2]
    obtain ⟨w1, w2, w3, w4⟩ := hw κ1 i1 h1
    rw [xcell_congr (w := w) (w' := w') w1 w2 w3 w4]
    exact (xcell_ext (fun κ2 i2 h2 => adup_ne (fun h => by rw [h.1, h.2] at h2; omega)) hG hO h1).symm
  · rw [adup_self]
    exact ⟨List.mem_append_right _ (List.mem_singleton.mpr rfl), by rw [va_up_self]; exact he⟩
theorem va_P_mem {D : va_G} {cl : List vw_C} {ws ws' : va_W} {H : Heap} (h : va_P D cl ws H) (hs : ∀ x ∈ ws', x ∈ ws) : va_P D cl ws' H := fun k x hk => by
  obtain ⟨i, hi⟩ := List.getElem?_of_mem (hs x (List.mem_of_getElem? hk))
  exact h i x hi
theorem va_D_front {A : Nat → Prop} {ws : va_W} {x : Nat × va_E} (h : va_D A (ws ++ [x])) : va_D A (x :: ws) := by
  refine h.by (fun k => if k = 0 then ws.length else k - 1) (fun k q hq => ?_) (fun i j hi hj e => ?_)
  · cases k with
    | zero => cases hq; simp
    | succ k =>
      have hl : k < ws.length := by simpa using (List.getElem?_eq_some_iff.mp hq).1
      simp only [Nat.succ_ne_zero, if_false, Nat.add_sub_cancel]
      rw [List.getElem?_append_left hl]
      exact hq
  · simp only [List.length_cons] at hi hj
    by_cases h0 : i = 0
    · by_cases h1 : j = 0
      · omega
      · simp only [h0, h1, if_true, if_false] at e
        omega
    · by_cases h1 : j = 0
      · simp only [h0, h1, if_true, if_false] at e
        omega
      · simp only [h0, h1, if_false] at e
        omega
theorem va_D_back {A : Nat → Prop} {ws : va_W} {x : Nat × va_E} (h : va_D A (x :: ws)) : va_D A (ws ++ [x]) := by
  refine h.by (fun k => if k < ws.length then k + 1 else 0) (fun k q hq => ?_) (fun i j hi hj e => ?_)
  · by_cases hl : k < ws.length
    · rw [List.getElem?_append_left hl] at hq
      simp only [hl, if_true, List.getElem?_cons_succ]
      exact hq
    · rw [List.getElem?_append_right (by omega)] at hq
      have hz : k - ws.length < 1 := (List.getElem?_eq_some_iff.mp hq).1
      rw [show k - ws.length = 0 by omega] at hq
      simp only [hl, if_false]
      exact hq
  · simp only [List.length_append, List.length_singleton] at hi hj
    by_cases h0 : i < ws.length
    · by_cases h1 : j < ws.length
      · simp only [h0, h1, if_true] at e
        omega
      · simp only [h0, h1, if_true, if_false] at e
        omega
    · by_cases h1 : j < ws.length
      · simp only [h0, h1, if_true, if_false] at e
        omega
      · omega
/-- an object under way, all its fields set, comes into the pool -/
theorem xx_seal {D : va_G} {A : Nat → Prop} {ad : Nat → Nat → Nat} {cy : Nat → ClassId} {cnt : Nat → Nat} {Y : va_W} {w w' : XW} {H : Heap} {κ a : Nat} {e : va_E} (hG : XG ad cnt) (hO : XD cnt w) (h : XX D A ad cy cnt ((a, e) :: Y) w H)
    (he : e = xcell (adup ad κ (cnt κ) a) cy w' κ (cnt κ)) (hw : ∀ κ' i', i' < cnt κ' → gI w' κ' i' = gI w κ' i' ∧ gJ w' κ' i' = gJ w κ' i' ∧ gR w' κ' i' = gR w κ' i' ∧ gZ w' κ' i' = gZ w κ' i') :
    XX D A (adup ad κ (cnt κ) a) cy (cup cnt κ) Y w' H ∧ ∀ κ' i', κ' < 65 → i' < cnt κ' → ad κ' i' ≠ a := by
  obtain ⟨L, f, hP, hD, hf⟩ := h
  have haL : a ∉ L := fun h => by
    obtain ⟨k, hk⟩ := va_pl_get (X := (a, e) :: Y) (f := f) h
    have h0 := hD.1 0 k (a, e) (a, f a) rfl hk rfl
    subst h0
    obtain ⟨i, hi⟩ := List.getElem?_of_mem (show (a, f a) ∈ va_pl L f from List.mem_map.mpr ⟨a, h, rfl⟩)
    have h1 : (((a, e) :: Y) ++ va_pl L f)[((a, e) :: Y).length + i]? = some (a, f a) := by
      rw [List.getElem?_append_right (by omega), Nat.add_sub_cancel_left]
      exact hi
    have h2 := hD.1 0 _ (a, e) (a, f a) rfl h1 rfl
    simp only [List.length_cons] at h2
    omega
  refine ⟨xx_take (L := L) (f := f) hG hO haL ?_ ?_ hf he hw, fun κ' i' h65 h1 z => haL (z ▸ (hf κ' i' h65 h1).1)⟩
  · refine va_P_mem hP (fun x hx => ?_)
    simp only [List.mem_append, List.mem_singleton, List.cons_append, List.mem_cons] at hx ⊢
    rcases hx with hx | hx | hx | hx
    · exact Or.inr (Or.inl hx)
    · exact Or.inr (Or.inr hx)
    · exact Or.inl hx
    · cases hx
  · have h1 : va_D A ((Y ++ va_pl L f) ++ [(a, e)]) := va_D_back hD
    rw [List.append_assoc] at h1
    exact h1
