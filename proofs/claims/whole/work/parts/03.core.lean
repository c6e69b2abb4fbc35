def lw_ok : List Cond := lw_tbl.filter goodWord
theorem lw_okm {w : Cond} (h : w ∈ lw_tbl) (g : goodWord w = true) : w ∈ lw_ok := List.mem_filter.mpr ⟨h, g⟩
theorem lw_okt (i : Nat) {w : Cond} (h : tables_1[i]? = some w) (g : goodWord w = true) : w ∈ lw_ok := lw_okm (List.mem_append_right _ (List.mem_of_getElem? h)) g
theorem lw_oks {q : MethodName × Nat} (h : q ∈ lw_privs) : Cond.selects q.1.cls q.1 q.1 ∈ lw_ok := lw_okm (List.mem_append_left _ (List.mem_map.mpr ⟨q, h, rfl⟩)) rfl
theorem lw_okg {c c' : Cond} (h : c' ∈ lw_ok) : GoodIn (c :: lw_ok) (c' :: lw_ok) := by
  intro w hw
  have h2 : w ∈ lw_ok := by
    rcases List.mem_cons.mp hw with rfl | h3
    · exact h
    · exact h3
  exact ⟨List.mem_cons_of_mem _ h2, good_of_word (List.mem_filter.mp h2).2⟩
/-! ===== the abstract machine: values, worlds, kinds ===== -/
abbrev XV : Type := Value ⊕ (Nat × Nat)
abbrev XW : Type := (Nat → Nat → Nat → Int32) × (Nat → Nat → Nat → Int64) × (Nat → Nat → Nat → Option Nat) × (Nat → Nat → Nat)
abbrev XS : Type := List (Option XV) × List XV × XW
abbrev XR : Type := Option XV × XW
def gI (w : XW) : Nat → Nat → Nat → Int32 := w.1
def gJ (w : XW) : Nat → Nat → Nat → Int64 := w.2.1
def gR (w : XW) : Nat → Nat → Nat → Option Nat := w.2.2.1
def gZ (w : XW) : Nat → Nat → Nat := w.2.2.2
def sI (w : XW) (κ i k : Nat) (v : Int32) : XW := (va_up w.1 κ (va_up (w.1 κ) i (upd (w.1 κ i) k v)), w.2)
def sJ (w : XW) (κ i k : Nat) (v : Int64) : XW := (w.1, va_up w.2.1 κ (va_up (w.2.1 κ) i (vp_updL (w.2.1 κ i) k v)), w.2.2)
def sR (w : XW) (κ i k : Nat) (v : Option Nat) : XW := (w.1, w.2.1, va_up w.2.2.1 κ (va_up (w.2.2.1 κ) i (va_up (w.2.2.1 κ i) k v)), w.2.2.2)
abbrev XC : Type := Nat × Nat × Nat × Nat
/-- the fields of each class by kind of content: 0 an int, 1 a long, 2 a reference that may change, 3 a reference that stays -/
def xcl : List (List XC) := [
  [(3, 12, 0, 0)],
  [(0, 0, 0, 0), (0, 0, 0, 0), (0, 0, 0, 0), (0, 0, 0, 0), (0, 0, 0, 0), (0, 0, 0, 0), (3, 13, 0, 0), (3, 14, 0, 0), (3, 15, 0, 0), (3, 16, 0, 0), (3, 17, 0, 0), (3, 18, 0, 0)],
  [(0, 0, 0, 0), (2, 1, 0, 0), (3, 8, 2, 22), (0, 0, 0, 0), (3, 4, 2, 1), (0, 0, 0, 0)],
  [(2, 1, 0, 0), (2, 6, 0, 0), (3, 19, 0, 0), (3, 20, 0, 0), (3, 21, 0, 0), (0, 0, 0, 0), (0, 0, 0, 0)],
  [(0, 0, 0, 0), (3, 22, 0, 0), (3, 23, 0, 0), (3, 24, 0, 0)],
  [(3, 25, 0, 0)],
  [(3, 26, 0, 0), (3, 27, 0, 0), (0, 0, 0, 0)],
  [(3, 28, 0, 0), (3, 29, 0, 0), (0, 0, 0, 0), (0, 0, 0, 0), (0, 0, 0, 0)],
  [(0, 0, 0, 0), (0, 0, 0, 0), (3, 30, 0, 0), (3, 31, 0, 0), (3, 32, 0, 0), (3, 33, 0, 0)],
  [(3, 34, 0, 0), (0, 0, 0, 0), (0, 0, 0, 0), (0, 0, 0, 0), (0, 0, 0, 0), (0, 0, 0, 0)],
  [(3, 9, 1, 0), (3, 7, 1, 0), (3, 35, 1, 0), (0, 0, 0, 0), (0, 0, 0, 0), (2, 1, 0, 0), (3, 8, 1, 0), (3, 8, 1, 1), (3, 3, 1, 0), (3, 5, 1, 0), (3, 0, 1, 0), (3, 4, 1, 0), (0, 0, 0, 0), (3, 36, 1, 0), (3, 37, 1, 0), (0, 0, 0, 0), (0, 0, 0, 0), (3, 38, 1, 0), (3, 39, 1, 0), (3, 40, 1, 0)],
  [(3, 41, 1, 0), (0, 0, 0, 0), (0, 0, 0, 0), (3, 42, 1, 0), (3, 43, 1, 0), (3, 44, 1, 0), (3, 45, 1, 0), (3, 46, 1, 0), (0, 0, 0, 0), (0, 0, 0, 0), (0, 0, 0, 0), (0, 0, 0, 0), (0, 0, 0, 0), (0, 0, 0, 0), (0, 0, 0, 0), (3, 47, 1, 0), (0, 0, 0, 0), (3, 48, 1, 0), (0, 0, 0, 0), (3, 49, 1, 0), (3, 50, 1, 0), (0, 0, 0, 0), (0, 0, 0, 0), (0, 0, 0, 0), (3, 51, 1, 0), (3, 52, 1, 0), (0, 0, 0, 0), (3, 53, 1, 0), (3, 54, 1, 0), (3, 55, 1, 0), (3, 56, 1, 0), (0, 0, 0, 0), (0, 0, 0, 0), (0, 0, 0, 0), (3, 57, 1, 0), (3, 58, 1, 0), (3, 59, 1, 0), (3, 60, 1, 0), (1, 0, 0, 0), (3, 61, 1, 0), (3, 62, 1, 0), (3, 63, 1, 0), (3, 64, 1, 0)]]
/-- the arrays by kind, from 12 on: what they hold (0 int, 1 byte, 2 boolean, 3 long, 4 on: references), how many (0: any), the kind that is referred to -/
def xar : List (Nat × Nat × Nat) := [(0, 6, 0), (0, 6, 0), (0, 6, 0), (0, 6, 0), (0, 5, 0), (0, 5, 0), (0, 4, 0), (0, 5, 0), (0, 6, 0), (3, 64, 0), (0, 10, 0), (0, 10, 0), (0, 10, 0), (0, 112, 0), (0, 0, 0), (0, 0, 0), (0, 400, 0), (0, 36, 0), (0, 6, 0), (0, 6, 0), (0, 6, 0), (0, 6, 0), (0, 400, 0), (5, 6, 6), (4, 4, 2), (6, 20, 8), (3, 122, 0), (0, 32, 0), (0, 42, 0), (1, 400, 0), (0, 2400, 0), (0, 7, 0), (0, 288, 0), (0, 6, 0), (0, 67, 0), (0, 400, 0), (3, 64, 0), (3, 11, 0), (0, 98, 0), (0, 6, 0), (0, 500, 0), (0, 25, 0), (0, 6, 0), (0, 6, 0), (0, 7, 0), (0, 32, 0), (0, 1098, 0), (2, 7, 0), (0, 42, 0), (0, 392, 0), (0, 4, 0), (0, 4, 0), (2, 4, 0)]
def xfc (κ k : Nat) : Option XC := (xcl[κ]?).bind (fun fl => fl[k]?)
def xac (κ : Nat) : Option (Nat × Nat × Nat) := if κ < 12 then none else xar[κ - 12]?
def xser (m b i : Nat) : Nat := if m = 0 then i else if m = 1 then b else b + i
def xcv (ad : Nat → Nat → Nat) (w : XW) (κ i k : Nat) (c : XC) : Value :=
  if c.1 = 0 then .int (gI w κ i k) else if c.1 = 1 then .long (gJ w κ i k) else if c.1 = 2 then va_rf ((gR w κ i k).map (ad c.2.1)) else .ref (ad c.2.1 (xser c.2.2.1 c.2.2.2 i))
def xfs (ad : Nat → Nat → Nat) (w : XW) (κ i : Nat) (fl : List XC) : List Value := fl.mapIdx (fun k c => xcv ad w κ i k c)
def xln (w : XW) (κ i len : Nat) : Nat := if len = 0 then gZ w κ i else len
def xcell (ad : Nat → Nat → Nat) (cy : Nat → ClassId) (w : XW) (κ i : Nat) : va_E :=
  if κ < 12 then .inr (κ, xfs ad w κ i ((xcl[κ]?).getD [])) else
    .inl (cy ((xar[κ - 12]?).getD (0, 0, 0)).1, xln w κ i ((xar[κ - 12]?).getD (0, 0, 0)).2.1,
      if ((xar[κ - 12]?).getD (0, 0, 0)).1 < 3 then .inl (gI w κ i) else if ((xar[κ - 12]?).getD (0, 0, 0)).1 = 3 then .inr (.inl (gJ w κ i)) else .inr (.inr (.inr (.inr (fun k => (gR w κ i k).map (ad ((xar[κ - 12]?).getD (0, 0, 0)).2.2))))))
def cv (ad : Nat → Nat → Nat) : XV → Value
  | .inl v => v
  | .inr q => .ref (ad q.1 q.2)
def rOK (cnt : Nat → Nat) : XV → Prop
  | .inl _ => True
  | .inr q => q.2 < cnt q.1
def XSt (cnt : Nat → Nat) : List XV → Prop
  | [] => True
  | v :: r => rOK cnt v ∧ XSt cnt r
def XLv (ad : Nat → Nat → Nat) (cnt : Nat → Nat) (nL : Nat) (ls : Array Slot) (L : List (Option XV)) : Prop :=
  ls.size = nL ∧ lv_wf ls ∧ ∀ (i : Nat) (v : XV), L[i]? = some (some v) → ls[i]? = some (.val (cv ad v)) ∧ rOK cnt v
def XH (D : va_G) (A : Nat → Prop) (ad : Nat → Nat → Nat) (cy : Nat → ClassId) (cnt : Nat → Nat) (w : XW) (H : Heap) : Prop :=
  ∃ (L : List Nat) (f : Nat → va_E), va_P D vwCl ([] ++ va_pl L f) H ∧ va_D A ([] ++ va_pl L f) ∧ ∀ κ i, κ < 65 → i < cnt κ → ad κ i ∈ L ∧ f (ad κ i) = xcell ad cy w κ i
def XG (ad : Nat → Nat → Nat) (cnt : Nat → Nat) : Prop :=
  (∀ κ i κ' i', κ < 65 → κ' < 65 → i < cnt κ → i' < cnt κ' → ad κ i = ad κ' i' → κ = κ' ∧ i = i') ∧ (cnt 65 = 6 ∧ cnt 66 = 6) ∧
  ∀ κ k c i, xfc κ k = some c → c.1 = 3 → i < cnt κ → xser c.2.2.1 c.2.2.2 i < cnt c.2.1
def XD (cnt : Nat → Nat) (w : XW) : Prop :=
  (∀ κ k c i j, xfc κ k = some c → c.1 = 2 → i < cnt κ → gR w κ i k = some j → j < cnt c.2.1) ∧
  ∀ κ a i k j, xac κ = some a → 4 ≤ a.1 → i < cnt κ → gR w κ i k = some j → j < cnt a.2.2
def xty (cy : Nat → ClassId) : List (ClassId × FieldType) := [(cy 0, .int), (cy 1, .byte), (cy 2, .boolean), (cy 3, .long), (cy 4, .object RX3), (cy 5, .object RX7), (cy 6, .object RX9)]
theorem gI_sI_ne {w : XW} {κ i k κ' i' : Nat} {v : Int32} (h : ¬ (κ' = κ ∧ i' = i)) : gI (sI w κ i k v) κ' i' = gI w κ' i' := by
  unfold gI sI
  dsimp only
  by_cases h1 : κ' = κ
  · subst h1
    rw [va_up_self, va_up_ne _ _ (fun q => h ⟨rfl, q⟩)]
  · rw [va_up_ne _ _ h1]
theorem gI_sI_eq {w : XW} {κ i k : Nat} {v : Int32} : gI (sI w κ i k v) κ i = upd (gI w κ i) k v := by
  unfold gI sI
  dsimp only
  rw [va_up_self, va_up_self]
theorem gJ_sJ_ne {w : XW} {κ i k κ' i' : Nat} {v : Int64} (h : ¬ (κ' = κ ∧ i' = i)) : gJ (sJ w κ i k v) κ' i' = gJ w κ' i' := by
  unfold gJ sJ
  dsimp only
  by_cases h1 : κ' = κ
  · subst h1
    rw [va_up_self, va_up_ne _ _ (fun q => h ⟨rfl, q⟩)]
  · rw [va_up_ne _ _ h1]
theorem gJ_sJ_eq {w : XW} {κ i k : Nat} {v : Int64} : gJ (sJ w κ i k v) κ i = vp_updL (gJ w κ i) k v := by
  unfold gJ sJ
  dsimp only
  rw [va_up_self, va_up_self]
theorem gR_sR_ne {w : XW} {κ i k κ' i' : Nat} {v : Option Nat} (h : ¬ (κ' = κ ∧ i' = i)) : gR (sR w κ i k v) κ' i' = gR w κ' i' := by
  unfold gR sR
  dsimp only
  by_cases h1 : κ' = κ
  · subst h1
    rw [va_up_self, va_up_ne _ _ (fun q => h ⟨rfl, q⟩)]
  · rw [va_up_ne _ _ h1]
theorem gR_sR_eq {w : XW} {κ i k : Nat} {v : Option Nat} : gR (sR w κ i k v) κ i = va_up (gR w κ i) k v := by
  unfold gR sR
  dsimp only
  rw [va_up_self, va_up_self]
theorem xcell_congr {ad : Nat → Nat → Nat} {cy : Nat → ClassId} {w w' : XW} {κ i : Nat} (h1 : gI w' κ i = gI w κ i) (h2 : gJ w' κ i = gJ w κ i) (h3 : gR w' κ i = gR w κ i) (h4 : gZ w' κ i = gZ w κ i) : xcell ad cy w' κ i = xcell ad cy w κ i := by
  have e : ∀ k c, xcv ad w' κ i k c = xcv ad w κ i k c := fun k c => by
    unfold xcv
    rw [h1, h2, h3]
  unfold xcell xfs xln
  simp only [e, h1, h2, h3, h4]
theorem xH_cell {D : va_G} {A : Nat → Prop} {ad : Nat → Nat → Nat} {cy : Nat → ClassId} {cnt : Nat → Nat} {w : XW} {H : Heap} (h : XH D A ad cy cnt w H) {κ i : Nat} (h65 : κ < 65) (hi : i < cnt κ) :
    ∃ (L : List Nat) (f : Nat → va_E) (k0 : Nat), va_P D vwCl ([] ++ va_pl L f) H ∧ va_D A ([] ++ va_pl L f) ∧ (∀ κ i, κ < 65 → i < cnt κ → ad κ i ∈ L ∧ f (ad κ i) = xcell ad cy w κ i) ∧ ([] ++ va_pl L f)[k0]? = some (ad κ i, f (ad κ i)) ∧ f (ad κ i) = xcell ad cy w κ i := by
  obtain ⟨L, f, hP, hD, hf⟩ := h
  obtain ⟨h1, h2⟩ := hf κ i h65 hi
  obtain ⟨k0, hk⟩ := va_pl_get (X := []) (f := f) h1
  exact ⟨L, f, k0, hP, hD, hf, hk, h2⟩
theorem xH_set {D : va_G} {A : Nat → Prop} {ad : Nat → Nat → Nat} {cy : Nat → ClassId} {cnt : Nat → Nat} {w w' : XW} {H1 : Heap} {κ i k0 : Nat} {L : List Nat} {f : Nat → va_E} {e : va_E} (hG : XG ad cnt) (h65 : κ < 65) (hi : i < cnt κ)
    (hD : va_D A ([] ++ va_pl L f)) (hf : ∀ κ i, κ < 65 → i < cnt κ → ad κ i ∈ L ∧ f (ad κ i) = xcell ad cy w κ i) (hk : ([] ++ va_pl L f)[k0]? = some (ad κ i, f (ad κ i)))
    (hP1 : va_P D vwCl (([] ++ va_pl L f).set k0 (ad κ i, e)) H1) (hD1 : va_D A (([] ++ va_pl L f).set k0 (ad κ i, e))) (he : e = xcell ad cy w' κ i) (hne : ∀ κ' i', ¬ (κ' = κ ∧ i' = i) → xcell ad cy w' κ' i' = xcell ad cy w κ' i') : XH D A ad cy cnt w' H1 := by
  have h1 := (hf κ i h65 hi).1
  rw [va_pl_set hD h1 hk] at hP1 hD1
  refine ⟨L, _, hP1, hD1, fun κ' i' h65' hi' => ⟨(hf κ' i' h65' hi').1, ?_⟩⟩
  by_cases hq : κ' = κ ∧ i' = i
  · obtain ⟨rfl, rfl⟩ := hq
    rw [va_up_self, he]
  · rw [va_up_ne _ _ (fun q => hq (hG.1 κ' i' κ i h65' h65 hi' hi q)), hne κ' i' hq]
    exact (hf κ' i' h65' hi').2
theorem xfs_get {ad : Nat → Nat → Nat} {w : XW} {κ i k : Nat} {fl : List XC} {c : XC} (h : fl[k]? = some c) : (xfs ad w κ i fl)[k]? = some (xcv ad w κ i k c) := by
  unfold xfs
  rw [List.getElem?_mapIdx, h]
  rfl
theorem xfs_len {ad : Nat → Nat → Nat} {w : XW} {κ i : Nat} {fl : List XC} : (xfs ad w κ i fl).length = fl.length := by
  unfold xfs
  rw [List.length_mapIdx]
theorem xfs_set {ad : Nat → Nat → Nat} {w w' : XW} {κ i k : Nat} {fl : List XC} {c : XC} {v : Value} (h : fl[k]? = some c) (h1 : xcv ad w' κ i k c = v) (h2 : ∀ j c', j ≠ k → xcv ad w' κ i j c' = xcv ad w κ i j c') : (xfs ad w κ i fl).set k v = xfs ad w' κ i fl := by
  apply List.ext_getElem?
  intro j
  by_cases hj : j = k
  · subst hj
    rw [List.getElem?_set_self (by rw [xfs_len]; exact (List.getElem?_eq_some_iff.mp h).1), xfs_get h, h1]
  · rw [List.getElem?_set_ne (Ne.symm hj)]
    cases hc : fl[j]? with
    | none =>
      have : ∀ w0 : XW, (xfs ad w0 κ i fl)[j]? = none := fun w0 => by
        unfold xfs
        rw [List.getElem?_mapIdx, hc]
        rfl
      rw [this, this]
    | some c' => rw [xfs_get hc, xfs_get hc, h2 j c' hj]
/-! ===== the String constants ===== -/
def xstr : List (String × Nat × String) := [("WinterKeep$DaleReader", 28, "dale keep person field beside "), ("WinterKeep$RuleReader", 109, "person keep tells full room heat cools beside others burnt night "), ("WinterKeep$RuleReader", 56, "tell "), ("WinterKeep$RuleReader", 75, "if "), ("WinterKeep$RuleReader", 84, "or and "), ("WinterKeep$RuleReader", 90, "not ")]
def xsln : List Nat := [30, 65, 5, 3, 7, 4]
def xsby : List (List Int32) := [[100, 97, 108, 101, 32, 107, 101, 101, 112, 32, 112, 101, 114, 115, 111, 110, 32, 102, 105, 101, 108, 100, 32, 98, 101, 115, 105, 100, 101, 32], [112, 101, 114, 115, 111, 110, 32, 107, 101, 101, 112, 32, 116, 101, 108, 108, 115, 32, 102, 117, 108, 108, 32, 114, 111, 111, 109, 32, 104, 101, 97, 116, 32, 99, 111, 111, 108, 115, 32, 98, 101, 115, 105, 100, 101, 32, 111, 116, 104, 101, 114, 115, 32, 98, 117, 114, 110, 116, 32, 110, 105, 103, 104, 116, 32], [116, 101, 108, 108, 32], [105, 102, 32], [111, 114, 32, 97, 110, 100, 32], [110, 111, 116, 32]]
def xnest : List (String × Nat × MethodName) := [("WinterKeep", 9, ⟨"WinterKeep$Tape", "<init>", "()V"⟩), ("WinterKeep", 18, ⟨"WinterKeep$RuleReader", "<init>", "()V"⟩), ("WinterKeep", 38, ⟨"WinterKeep$Dale", "<init>", "()V"⟩), ("WinterKeep", 45, ⟨"WinterKeep$Scene", "<init>", "()V"⟩), ("WinterKeep", 55, ⟨"WinterKeep$Nights", "<init>", "()V"⟩), ("WinterKeep", 62, ⟨"WinterKeep$Placings", "<init>", "()V"⟩), ("WinterKeep", 69, ⟨"WinterKeep$Benches", "<init>", "()V"⟩), ("WinterKeep", 76, ⟨"WinterKeep$Notes", "<init>", "()V"⟩), ("WinterKeep", 111, ⟨"WinterKeep$Image", "<init>", "()V"⟩), ("WinterKeep$Image", 21, ⟨"WinterKeep$Scene", "<init>", "()V"⟩), ("WinterKeep$Image", 32, ⟨"WinterKeep$Notes", "<init>", "()V"⟩)]
def XZ (A : Nat → Prop) (ad : Nat → Nat → Nat) (U : State) : Prop :=
  vk_S 6 xsln xsby (ad 65) (ad 66) A U U.heap ∧ (∀ k q, xstr[k]? = some q → vk_R q.1 q.2.1 q.2.2 (ad 65 k) U) ∧ va_Z "java/lang/String" "COMPACT_STRINGS" "Z" (.int 1) A U U.heap ∧ va_Zq "jdk/internal/util/Preconditions" "SIOOBE_FORMATTER" "Ljava/util/function/BiFunction;" A U U.heap ∧ ∀ q ∈ xnest, va_Nw (.methodLinkNest q.1 q.2.1 q.2.2 "WinterKeep") U
theorem xz_to {A : Nat → Prop} {ad : Nat → Nat → Nat} {s U : State} {H : Heap} {locs : List Loc} (h : XZ A ad s) (hU : U.heap = H) (hW : s.WarmedH U.vm) (hS : va_S A s.heap H locs) : XZ A ad U := by
  obtain ⟨h1, h2, h3, h4, h5⟩ := h
  rw [← hU] at hS
  refine ⟨(h1.kept hS.2.1).moved hW.alike, fun k q hq => (h2 k q hq).warm hW, (h3.kept hS.2.1).moved hW.alike, ?_, fun q hq => va_Nw.warmM hW (h5 q hq)⟩
  rcases h4 with h4 | ⟨t, h4⟩
  · exact Or.inl ((h4.kept hS.2.1).moved hW.alike)
  · exact Or.inr ⟨t, (h4.kept hS.2.1).moved hW.alike⟩
theorem xz_call {A : Nat → Prop} {ad : Nat → Nat → Nat} {U : State} (h : XZ A ad U) (g : JFrame) (mk : MethodId) (a : Array Value) : XZ A ad (U.calling g mk a) := by
  obtain ⟨h1, h2, h3, h4, h5⟩ := h
  refine ⟨vk_S.moved (u := U) (Vm.Alike.refl U.vm) h1, fun k q hq => vk_R.same (u := U) rfl (h2 k q hq), va_Z.moved (u := U) (Vm.Alike.refl U.vm) h3, ?_, fun q hq => va_Nw.same (u := U) rfl rfl (h5 q hq)⟩
  rcases h4 with h4 | ⟨t, h4⟩
  · exact Or.inl (va_Z.moved (u := U) (Vm.Alike.refl U.vm) h4)
  · exact Or.inr ⟨t, va_Z.moved (u := U) (Vm.Alike.refl U.vm) h4⟩
theorem xac_lt {κ : Nat} {a : Nat × Nat × Nat} (h : xac κ = some a) : κ < 65 := by
  unfold xac at h
  split at h
  · cases h
  · have h1 := (List.getElem?_eq_some_iff.mp h).1
    have h2 : xar.length = 53 := by decide
    omega
