/-! ===== all that there is, on both sides ===== -/
abbrev No : Type := Nat × Ar × Ar × Ar
abbrev Im : Type := Dl × Sc × Int32 × No × Int32
def NoAt (w : XW) (i : Nat) (no : No) : Prop := gI w 4 i 0 = nI no.1 ∧ ∀ q, q < no.1 → gI w 22 i q = no.2.1 q ∧ gI w 23 i q = no.2.2.1 q ∧ gI w 24 i q = no.2.2.2 q
def NoM (w : XW) (no : No) : Prop := gI w 50 0 97 = nI no.1 ∧ ∀ q, q < no.1 → gI w 50 0 (67 + 3 * q) = no.2.1 q ∧ gI w 50 0 (67 + 3 * q + 1) = no.2.2.1 q ∧ gI w 50 0 (67 + 3 * q + 2) = no.2.2.2 q
def NoOk (d : Dl) (no : No) : Prop := no.1 ≤ 10 ∧ ∀ q, q < no.1 → In 60 (no.2.1 q) ∧ (∃ k, k < kn d ∧ no.2.2.1 q = nI k) ∧ In 60 (no.2.2.2 q)
def CA (w : XW) (d : Dl) (hs : List Sc) : Prop := gI w 10 0 16 = nI hs.length ∧ (∀ q, q < 20 → gR w 37 0 q = some (2 + q)) ∧ ∃ an, an < 20 ∧ gI w 10 0 15 = nI an ∧ ∀ q h, hs[q]? = some h → ScAt w (2 + (an + 19 - q) % 20) h ∧ gI w 8 (2 + (an + 19 - q) % 20) 0 = d.1 3
def MA (w : XW) (hs : List Sc) : Prop := gI w 11 0 26 = nI hs.length ∧ ∀ q h, hs[q]? = some h → ∀ k, k < 25 → gI w 52 0 (25 * (hs.length - 1 - q) + k) = flS h k
def CIk (w : XW) (k : Nat) (o : Option Im) : Prop := match o with
  | none => gI w 2 k 0 = 0
  | some i => gI w 2 k 0 = 1 ∧ (∃ j, gR w 2 k 1 = some j ∧ DlAt w j i.1) ∧ ScAt w (22 + k) i.2.1 ∧ gI w 8 (22 + k) 0 = i.1.1 3 ∧ gI w 2 k 3 = i.2.2.1 ∧ NoAt w (1 + k) i.2.2.2.1 ∧ gI w 2 k 5 = i.2.2.2.2
def CI (w : XW) (im : Nat → Option Im) : Prop := ∀ k, k < 4 → gR w 36 0 k = some k ∧ CIk w k (im k)
def MIk (w : XW) (k : Nat) (o : Option Im) : Prop := match o with
  | none => gI w 64 0 k = 0
  | some i => gI w 64 0 k = 1 ∧ gI w 62 0 k = i.2.2.1 ∧ gI w 63 0 k = i.2.2.2.2 ∧ ∃ v, MdAt v i.1 ∧ MtAt v (tlS i.1) ∧ MsAt v i.2.1 ∧ NoM v i.2.2.2.1 ∧ ∀ c, c < 98 → gI w 61 0 (98 * k + c) = gI v 50 0 c
def MI (w : XW) (im : Nat → Option Im) : Prop := ∀ k, k < 4 → MIk w k (im k)
def sbS (b : Nat) : Int32 := vp_nar .byte ((nI b).toInt8.toInt32)
def CT (w : XW) (tn : Nat) (tb : Nat → Nat) : Prop := gI w 9 0 1 = nI tn ∧ ∀ i, i < tn → gI w 34 0 i = nI (tb i)
def MT (w : XW) (tn : Nat) (tb : Nat → Nat) : Prop := gI w 11 0 1 = nI tn ∧ ∀ i, i < tn → gI w 41 0 i = sbS (tb i)
abbrev Sg : Type := (Dl × Sc × List Rl × Int32) × List Sc × No × Int32 × (Nat → Option Im) × Nat × (Nat → Nat)
def CS (w : XW) (g : Sg) : Prop := CX w g.1.1 g.1.2.1 g.1.2.2.1 g.1.2.2.2 ∧ CA w g.1.1 g.2.1 ∧ NoAt w 0 g.2.2.1 ∧ gI w 10 0 12 = g.2.2.2.1 ∧ CI w g.2.2.2.2.1 ∧ CT w g.2.2.2.2.2.1 g.2.2.2.2.2.2
def MS (w : XW) (g : Sg) : Prop := MX w g.1.1 g.1.2.1 g.1.2.2.1 g.1.2.2.2 ∧ MA w g.2.1 ∧ NoM w g.2.2.1 ∧ gI w 11 0 22 = g.2.2.2.1 ∧ MI w g.2.2.2.2.1 ∧ MT w g.2.2.2.2.2.1 g.2.2.2.2.2.2
def OI (rs : List Rl) (i : Im) : Prop := OX i.1 i.2.1 rs i.2.2.1 ∧ NoOk i.1 i.2.2.2.1 ∧ ¬ i.2.2.2.2 < 0
def OS (g : Sg) : Prop := OX g.1.1 g.1.2.1 g.1.2.2.1 g.1.2.2.2 ∧ (g.2.1.length ≤ 20 ∧ ∀ h ∈ g.2.1, SOk g.1.1 h ∧ In 999 h.1) ∧ NoOk g.1.1 g.2.2.1 ∧ ¬ g.2.2.2.1 < 0 ∧ (∀ k i, g.2.2.2.2.1 k = some i → OI g.1.2.2.1 i) ∧ g.2.2.2.2.2.1 ≤ 400 ∧ ∀ i, i < g.2.2.2.2.2.1 → g.2.2.2.2.2.2 i < 256
def Rel (w : XW) : Prop := ∃ g, CS w g ∧ MS w g ∧ OS g
def StepOk (FC FM : XW → Option (Int32 × XW)) (w : XW) : Prop := ∃ a w1 w2, FC w = some (a, w1) ∧ FM w1 = some (a, w2) ∧ Rel w2
/-! what is kept -/
theorem NoAt.fr {P : Nat → Nat → Nat → Prop} {w w' : XW} {i : Nat} {no : No} (h : NoAt w i no) (hF : Fr P w w') (hP : ∀ κ k, κ = 4 ∨ κ = 22 ∨ κ = 23 ∨ κ = 24 → ¬ P κ i k) : NoAt w' i no := by
  refine ⟨by rw [(hF 4 i 0 (hP 4 0 (by omega))).1]; exact h.1, fun q hq => ?_⟩
  rw [(hF 22 i q (hP 22 q (by omega))).1, (hF 23 i q (hP 23 q (by omega))).1, (hF 24 i q (hP 24 q (by omega))).1]
  exact h.2 q hq
theorem NoM.fr {P : Nat → Nat → Nat → Prop} {w w' : XW} {no : No} (h : NoM w no) (hn : no.1 ≤ 10) (hF : Fr P w w') (hP : ∀ k, 67 ≤ k ∧ k ≤ 97 → ¬ P 50 0 k) : NoM w' no := by
  refine ⟨by rw [(hF 50 0 97 (hP 97 (by omega))).1]; exact h.1, fun q hq => ?_⟩
  rw [(hF 50 0 (67 + 3 * q) (hP _ (by omega))).1, (hF 50 0 (67 + 3 * q + 1) (hP _ (by omega))).1, (hF 50 0 (67 + 3 * q + 2) (hP _ (by omega))).1]
  exact h.2 q hq
theorem CA.fr {P : Nat → Nat → Nat → Prop} {w w' : XW} {d : Dl} {hs : List Sc} (h : CA w d hs) (hF : Fr P w w') (hP : ∀ κ j k, (κ = 10 ∧ (k = 15 ∨ k = 16)) ∨ κ = 37 ∨ ((κ = 8 ∨ (30 ≤ κ ∧ κ ≤ 33)) ∧ 2 ≤ j ∧ j < 22) → ¬ P κ j k) : CA w' d hs := by
  obtain ⟨h1, h2, an, h3, h4, h5⟩ := h
  refine ⟨by rw [(hF 10 0 16 (hP _ _ _ (by omega))).1]; exact h1, fun q hq => by rw [(hF 37 0 q (hP _ _ _ (by omega))).2.2.1]; exact h2 q hq, an, h3, by rw [(hF 10 0 15 (hP _ _ _ (by omega))).1]; exact h4, fun q s hs => ?_⟩
  obtain ⟨x1, x2⟩ := h5 q s hs
  exact ⟨x1.fr hF (fun κ k z => hP _ _ _ (by omega)), by rw [(hF 8 _ 0 (hP _ _ _ (by omega))).1]; exact x2⟩
theorem MA.fr {P : Nat → Nat → Nat → Prop} {w w' : XW} {hs : List Sc} (h : MA w hs) (hF : Fr P w w') (hP : ∀ κ k, (κ = 11 ∧ k = 26) ∨ κ = 52 → ¬ P κ 0 k) : MA w' hs :=
  ⟨by rw [(hF 11 0 26 (hP _ _ (by omega))).1]; exact h.1, fun q s hs k hk => by rw [(hF 52 0 _ (hP _ _ (by omega))).1]; exact h.2 q s hs k hk⟩
theorem CIk.fr {P : Nat → Nat → Nat → Prop} {w w' : XW} {k : Nat} (hk : k < 4) {o : Option Im} (h : CIk w k o) (hF : Fr P w w') (hP : ∀ κ j q, κ = 2 ∨ ((κ = 8 ∨ (30 ≤ κ ∧ κ ≤ 33)) ∧ 22 ≤ j) ∨ κ = 1 ∨ (13 ≤ κ ∧ κ ≤ 18) ∨ ((κ = 4 ∨ (22 ≤ κ ∧ κ ≤ 24)) ∧ 1 ≤ j) → ¬ P κ j q) : CIk w' k o := by
  match o, h with
  | none, h => show gI w' 2 k 0 = 0; rw [(hF 2 k 0 (hP _ _ _ (by omega))).1]; exact h
  | some i, ⟨h1, ⟨j, h2, h3⟩, h4, h5, h6, h7, h8⟩ =>
    exact ⟨by rw [(hF 2 k 0 (hP _ _ _ (by omega))).1]; exact h1, ⟨j, by rw [(hF 2 k 1 (hP _ _ _ (by omega))).2.2.1]; exact h2, h3.fr hF (fun κ q z => hP _ _ _ (by omega))⟩, h4.fr hF (fun κ q z => hP _ _ _ (by omega)), by rw [(hF 8 _ 0 (hP _ _ _ (by omega))).1]; exact h5, by rw [(hF 2 k 3 (hP _ _ _ (by omega))).1]; exact h6, h7.fr hF (fun κ q z => hP _ _ _ (by omega)), by rw [(hF 2 k 5 (hP _ _ _ (by omega))).1]; exact h8⟩
theorem CI.fr {P : Nat → Nat → Nat → Prop} {w w' : XW} {im : Nat → Option Im} (h : CI w im) (hF : Fr P w w') (hP : ∀ κ j q, κ = 36 ∨ κ = 2 ∨ ((κ = 8 ∨ (30 ≤ κ ∧ κ ≤ 33)) ∧ 22 ≤ j) ∨ κ = 1 ∨ (13 ≤ κ ∧ κ ≤ 18) ∨ ((κ = 4 ∨ (22 ≤ κ ∧ κ ≤ 24)) ∧ 1 ≤ j) → ¬ P κ j q) : CI w' im := fun k hk =>
  ⟨by rw [(hF 36 0 k (hP _ _ _ (by omega))).2.2.1]; exact (h k hk).1, (h k hk).2.fr hk hF (fun κ j q z => hP _ _ _ (by omega))⟩
theorem MIk.fr {P : Nat → Nat → Nat → Prop} {w w' : XW} {k : Nat} {o : Option Im} (h : MIk w k o) (hF : Fr P w w') (hP : ∀ κ q, 61 ≤ κ ∧ κ ≤ 64 → ¬ P κ 0 q) : MIk w' k o := by
  match o, h with
  | none, h => show gI w' 64 0 k = 0; rw [(hF 64 0 k (hP _ _ (by omega))).1]; exact h
  | some i, ⟨h1, h2, h3, v, h4, h5, h6, h7, h8⟩ =>
    exact ⟨by rw [(hF 64 0 k (hP _ _ (by omega))).1]; exact h1, by rw [(hF 62 0 k (hP _ _ (by omega))).1]; exact h2, by rw [(hF 63 0 k (hP _ _ (by omega))).1]; exact h3, v, h4, h5, h6, h7, fun c hc => by rw [(hF 61 0 _ (hP _ _ (by omega))).1]; exact h8 c hc⟩
theorem MI.fr {P : Nat → Nat → Nat → Prop} {w w' : XW} {im : Nat → Option Im} (h : MI w im) (hF : Fr P w w') (hP : ∀ κ q, 61 ≤ κ ∧ κ ≤ 64 → ¬ P κ 0 q) : MI w' im := fun k hk => (h k hk).fr hF hP
theorem CT.fr {P : Nat → Nat → Nat → Prop} {w w' : XW} {tn : Nat} {tb : Nat → Nat} (h : CT w tn tb) (hF : Fr P w w') (hP : ∀ κ k, (κ = 9 ∧ k = 1) ∨ κ = 34 → ¬ P κ 0 k) : CT w' tn tb :=
  ⟨by rw [(hF 9 0 1 (hP _ _ (by omega))).1]; exact h.1, fun i hi => by rw [(hF 34 0 i (hP _ _ (by omega))).1]; exact h.2 i hi⟩
theorem MT.fr {P : Nat → Nat → Nat → Prop} {w w' : XW} {tn : Nat} {tb : Nat → Nat} (h : MT w tn tb) (hF : Fr P w w') (hP : ∀ κ k, (κ = 11 ∧ k = 1) ∨ κ = 41 → ¬ P κ 0 k) : MT w' tn tb :=
  ⟨by rw [(hF 11 0 1 (hP _ _ (by omega))).1]; exact h.1, fun i hi => by rw [(hF 41 0 i (hP _ _ (by omega))).1]; exact h.2 i hi⟩
theorem MX.fr {P : Nat → Nat → Nat → Prop} {w w' : XW} {d : Dl} {s : Sc} {rs : List Rl} {f : Int32} (h : MX w d s rs f) (hF : Fr P w w') (hP : ∀ κ k, (κ = 50 ∧ k < 67) ∨ κ = 42 ∨ κ = 44 ∨ κ = 45 ∨ (κ = 11 ∧ (k = 2 ∨ k = 21 ∨ k = 23)) → ¬ P κ 0 k) : MX w' d s rs f :=
  ⟨h.1.fr hF (fun k q => hP _ _ (by omega)), h.2.1.fr hF (fun k q => hP _ _ (by omega)), h.2.2.1.fr hF (fun k q => hP _ _ (by omega)), h.2.2.2.1.fr hF (fun κ k q => hP _ _ (by omega)), by rw [(hF 11 0 21 (hP _ _ (by omega))).1]; exact h.2.2.2.2.1, by rw [(hF 11 0 23 (hP _ _ (by omega))).1]; exact h.2.2.2.2.2⟩
theorem CX.frx {P : Nat → Nat → Nat → Prop} {w w' : XW} {d : Dl} {s : Sc} {rs : List Rl} {f : Int32} (h : CX w d s rs f) (hF : Fr P w w') (hP : ∀ κ j k, (κ = 10 ∧ (k = 3 ∨ k = 4 ∨ k = 5)) ∨ κ = 1 ∨ (13 ≤ κ ∧ κ ≤ 18) ∨ ((κ = 8 ∨ (30 ≤ κ ∧ κ ≤ 33)) ∧ j = 0) ∨ κ = 35 ∨ κ = 6 ∨ κ = 26 ∨ κ = 27 → ¬ P κ j k) : CX w' d s rs f := by
  obtain ⟨⟨jd, h1, h2⟩, ⟨h3, h4⟩, ⟨h5, h6⟩, h7⟩ := h
  refine ⟨⟨jd, ?_, h2.fr hF (fun κ k q => hP _ _ _ (by omega))⟩, ⟨h3.fr hF (fun κ k q => hP _ _ _ (by omega)), ?_⟩, ⟨?_, fun t rl ht => ?_⟩, ?_⟩
  · rw [(hF 10 0 5 (hP _ _ _ (by omega))).2.2.1]; exact h1
  · rw [(hF 8 0 0 (hP _ _ _ (by omega))).1]; exact h4
  · rw [(hF 10 0 3 (hP _ _ _ (by omega))).1]; exact h5
  · obtain ⟨jr, x1, x2⟩ := h6 t rl ht
    exact ⟨jr, by rw [(hF 35 0 t (hP _ _ _ (by omega))).2.2.1]; exact x1, x2.fr hF (fun κ k q => hP _ _ _ (by omega))⟩
  · rw [(hF 10 0 4 (hP _ _ _ (by omega))).1]; exact h7
/-- the class's cells, the model's -/
def PCl (κ _j _k : Nat) : Prop := κ ≤ 10 ∨ (12 ≤ κ ∧ κ ≤ 40)
def PMo (κ _j _k : Nat) : Prop := κ = 11 ∨ 41 ≤ κ
theorem CS.frm {w w' : XW} {g : Sg} (h : CS w g) (hF : Fr PMo w w') : CS w' g :=
  ⟨h.1.frx hF (fun κ j k q => by unfold PMo; omega), h.2.1.fr hF (fun κ j k q => by unfold PMo; omega), h.2.2.1.fr hF (fun κ k q => by unfold PMo; omega), by rw [(hF 10 0 12 (by unfold PMo; omega)).1]; exact h.2.2.2.1, h.2.2.2.2.1.fr hF (fun κ j k q => by unfold PMo; omega), h.2.2.2.2.2.fr hF (fun κ k q => by unfold PMo; omega)⟩
theorem MS.frc {w w' : XW} {g : Sg} (h : MS w g) (hO : OS g) (hF : Fr PCl w w') : MS w' g :=
  ⟨h.1.fr hF (fun κ k q => by unfold PCl; omega), h.2.1.fr hF (fun κ k q => by unfold PCl; omega), h.2.2.1.fr hO.2.2.1.1 hF (fun k q => by unfold PCl; omega), by rw [(hF 11 0 22 (by unfold PCl; omega)).1]; exact h.2.2.2.1, h.2.2.2.2.1.fr hF (fun κ k q => by unfold PCl; omega), h.2.2.2.2.2.fr hF (fun κ k q => by unfold PCl; omega)⟩
/-- a query leaves all as it is -/
theorem st_query {w : XW} (hR : Rel w) {FC FM : XW → Option (Int32 × XW)} (hq : ∀ d s rs f, OX d s rs f → QOkk d s rs f FC FM) : StepOk FC FM w := by
  obtain ⟨g, hc, hm, ho⟩ := hR
  obtain ⟨a, h1, h2⟩ := hq _ _ _ _ ho.1
  obtain ⟨w1, x1, x2⟩ := h1 w hc.1
  have hm1 := hm.frc ho (x2.mono (fun κ i k q => by unfold PQk at q; unfold  PCl; omega))
  have hc1 : CS w1 g := ⟨hc.1.frk x2, hc.2.1.fr x2 (fun κ j k q => by unfold PQk; omega), hc.2.2.1.fr x2 (fun κ k q => by unfold PQk; omega), by rw [(x2 10 0 12 (by unfold PQk; omega)).1]; exact hc.2.2.2.1, hc.2.2.2.2.1.fr x2 (fun κ j k q => by unfold PQk; omega), hc.2.2.2.2.2.fr x2 (fun κ k q => by unfold PQk; omega)⟩
  obtain ⟨w2, y1, y2, y3⟩ := h2 w1 hm1.1
  refine ⟨a, w1, w2, x1, y1, g, hc1.frm (y3.mono (fun κ i k q => by unfold PQM at q; unfold  PMo; omega)), ⟨y2, hm1.2.1.fr y3 (fun κ k q => by unfold PQM; omega), hm1.2.2.1.fr ho.2.2.1.1 y3 (fun k q => by unfold PQM; omega), by rw [(y3 11 0 22 (by unfold PQM; omega)).1]; exact hm1.2.2.2.1, hm1.2.2.2.2.1.fr y3 (fun κ k q => by unfold PQM; omega), hm1.2.2.2.2.2.fr y3 (fun κ k q => by unfold PQM; omega)⟩, ho⟩
theorem st_keep {w : XW} (h : Rel w) (x y : Int32) : StepOk (F_X11_keep [.inr (10, 0), .inl (.int x), .inl (.int y)]) (F_X12_keep [.inr (11, 0), .inl (.int x), .inl (.int y)]) w := st_query h (fun _ _ _ _ hO => (q_keep hO x y).k)
theorem st_person {w : XW} (h : Rel w) (x y : Int32) : StepOk (F_X11_person [.inr (10, 0), .inl (.int x), .inl (.int y)]) (F_X12_person [.inr (11, 0), .inl (.int x), .inl (.int y)]) w := st_query h (fun _ _ _ _ hO => (q_person hO x y).k)
theorem st_field {w : XW} (h : Rel w) (x y : Int32) : StepOk (F_X11_field [.inr (10, 0), .inl (.int x), .inl (.int y)]) (F_X12_field [.inr (11, 0), .inl (.int x), .inl (.int y)]) w := st_query h (fun _ _ _ _ hO => (q_field hO x y).k)
theorem st_ahead {w : XW} (h : Rel w) (x y z : Int32) : StepOk (F_X11_ahead [.inr (10, 0), .inl (.int x), .inl (.int y), .inl (.int z)]) (F_X12_ahead [.inr (11, 0), .inl (.int x), .inl (.int y), .inl (.int z)]) w := st_query h (fun _ _ _ _ hO => (q_ahead hO x y z).k)
theorem st_burns {w : XW} (h : Rel w) (x : Int32) : StepOk (F_X11_burns [.inr (10, 0), .inl (.int x)]) (F_X12_burns [.inr (11, 0), .inl (.int x)]) w := st_query h (fun _ _ _ _ hO => (q_burns hO x).k)
theorem st_full {w : XW} (h : Rel w) (x : Int32) : StepOk (F_X11_full [.inr (10, 0), .inl (.int x)]) (F_X12_full [.inr (11, 0), .inl (.int x)]) w := st_query h (fun _ _ _ _ hO => (q_full hO x).k)
theorem st_placing {w : XW} (h : Rel w) (x : Int32) : StepOk (F_X11_placing [.inr (10, 0), .inl (.int x)]) (F_X12_placing [.inr (11, 0), .inl (.int x)]) w := st_query h (fun _ _ _ _ hO => q_placing hO x)
theorem st_spring {w : XW} (h : Rel w) (x y : Int32) : StepOk (F_X11_spring [.inr (10, 0), .inl (.int x), .inl (.int y)]) (F_X12_spring [.inr (11, 0), .inl (.int x), .inl (.int y)]) w := st_query h (fun _ _ _ _ hO => q_spring hO x y)
theorem st_apart {w : XW} (h : Rel w) (x : Int32) : StepOk (F_X11_apart [.inr (10, 0), .inl (.int x)]) (F_X12_apart [.inr (11, 0), .inl (.int x)]) w := st_query h (fun _ _ _ _ hO => q_apart hO x)
theorem st_clash {w : XW} (h : Rel w) (x : Int32) : StepOk (F_X11_clash [.inr (10, 0), .inl (.int x)]) (F_X12_clash [.inr (11, 0), .inl (.int x)]) w := st_query h (fun _ _ _ _ hO => (q_clash hO x).k)
theorem st_silent {w : XW} (h : Rel w) (x y : Int32) : StepOk (F_X11_silent [.inr (10, 0), .inl (.int x), .inl (.int y)]) (F_X12_silent [.inr (11, 0), .inl (.int x), .inl (.int y)]) w := st_query h (fun _ _ _ _ hO => (q_silent hO x y).k)
theorem st_most {w : XW} (h : Rel w) (x y : Int32) : StepOk (F_X11_most [.inr (10, 0), .inl (.int x), .inl (.int y)]) (F_X12_most [.inr (11, 0), .inl (.int x), .inl (.int y)]) w := st_query h (fun _ _ _ _ hO => (q_most hO x y).k)
theorem st_had {w : XW} (h : Rel w) (x y z u : Int32) : StepOk (F_X11_had [.inr (10, 0), .inl (.int x), .inl (.int y), .inl (.int z), .inl (.int u)]) (F_X12_had [.inr (11, 0), .inl (.int x), .inl (.int y), .inl (.int z), .inl (.int u)]) w := st_query h (fun _ _ _ _ hO => (q_had hO x y z u).k)
theorem st_rests {w : XW} (h : Rel w) (x y z u : Int32) : StepOk (F_X11_rests [.inr (10, 0), .inl (.int x), .inl (.int y), .inl (.int z), .inl (.int u)]) (F_X12_rests [.inr (11, 0), .inl (.int x), .inl (.int y), .inl (.int z), .inl (.int u)]) w := st_query h (fun _ _ _ _ hO => q_rests hO x y z u)
theorem st_ring {w : XW} (h : Rel w) (x : Int32) : StepOk (F_X11_ring [.inr (10, 0), .inl (.int x)]) (F_X12_ring [.inr (11, 0), .inl (.int x)]) w := st_query h (fun _ _ _ _ hO => q_ring hO x)
theorem st_pence {w : XW} (h : Rel w) (x y : Int32) : StepOk (F_X11_pence [.inr (10, 0), .inl (.int x), .inl (.int y)]) (F_X12_pence [.inr (11, 0), .inl (.int x), .inl (.int y)]) w := st_query h (fun _ _ _ _ hO => (q_pence hO x y).k)
