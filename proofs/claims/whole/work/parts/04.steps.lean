/-! ===== steps: what an instruction does, with what comes behind it as an argument ===== -/
abbrev XT : Type := {s : (XS → Option XR) → XS → Option XR // ∀ σ, (∃ σ', ∀ K, s K σ = K σ') ∨ (∃ o, ∀ K, s K σ = o)}
abbrev XB : Type := {b : (Nat → XS → Option XR) → XS → Option XR // ∀ σ, (∃ pc' σ', ∀ K, b K σ = K pc' σ') ∨ (∃ o, ∀ K, b K σ = o)}
/-- one step, then the rest of the block -/
def sq (s : XT) (b : XB) : XB := ⟨fun K σ => s.1 (fun σ' => b.1 K σ') σ, by
  intro σ
  rcases s.2 σ with ⟨σ', h⟩ | ⟨o, h⟩
  · rcases b.2 σ' with ⟨pc', σ2, h2⟩ | ⟨o, h2⟩
    · exact Or.inl ⟨pc', σ2, fun K => (h _).trans (h2 K)⟩
    · exact Or.inr ⟨o, fun K => (h _).trans (h2 K)⟩
  · exact Or.inr ⟨o, fun K => h _⟩⟩
def xcat : XV → Nat
  | .inl v => v.category
  | .inr _ => 1
/-- the locals when one of a word is stored at n -/
def xclr (n : Nat) (L : List (Option XV)) : List (Option XV) := match n with
  | 0 => L
  | k + 1 => match L[k]? with
    | some (some u) => if xcat u = 2 then L.set k none else L
    | _ => L
/-- load a local: an int, a long, a reference -/
def xLI (n : Nat) : XT := ⟨fun K σ => match σ.1[n]? with
  | some (some (.inl (.int x))) => K (σ.1, .inl (.int x) :: σ.2.1, σ.2.2)
  | _ => none, by intro σ; dsimp only; split <;> first | exact Or.inl ⟨_, fun _ => rfl⟩ | exact Or.inr ⟨_, fun _ => rfl⟩⟩
def xLJ (n : Nat) : XT := ⟨fun K σ => match σ.1[n]? with
  | some (some (.inl (.long x))) => K (σ.1, .inl (.long x) :: σ.2.1, σ.2.2)
  | _ => none, by intro σ; dsimp only; split <;> first | exact Or.inl ⟨_, fun _ => rfl⟩ | exact Or.inr ⟨_, fun _ => rfl⟩⟩
def xLA (n : Nat) : XT := ⟨fun K σ => match σ.1[n]? with
  | some (some (.inr q)) => K (σ.1, .inr q :: σ.2.1, σ.2.2)
  | some (some (.inl .null)) => K (σ.1, .inl .null :: σ.2.1, σ.2.2)
  | _ => none, by intro σ; dsimp only; split <;> first | exact Or.inl ⟨_, fun _ => rfl⟩ | exact Or.inr ⟨_, fun _ => rfl⟩⟩
/-- store an int -/
def xSI (n : Nat) : XT := ⟨fun K σ => match σ.2.1 with
  | .inl (.int x) :: r => K ((xclr n σ.1).set n (some (.inl (.int x))), r, σ.2.2)
  | _ => none, by intro σ; dsimp only; split <;> first | exact Or.inl ⟨_, fun _ => rfl⟩ | exact Or.inr ⟨_, fun _ => rfl⟩⟩
/-- store a long -/
def xSJ (n : Nat) : XT := ⟨fun K σ => match σ.2.1 with
  | .inl (.long x) :: r => K (((xclr n σ.1).set (n + 1) none).set n (some (.inl (.long x))), r, σ.2.2)
  | _ => none, by intro σ; dsimp only; split <;> first | exact Or.inl ⟨_, fun _ => rfl⟩ | exact Or.inr ⟨_, fun _ => rfl⟩⟩
/-- store a reference -/
def xSA (n : Nat) : XT := ⟨fun K σ => match σ.2.1 with
  | .inr q :: r => K ((xclr n σ.1).set n (some (.inr q)), r, σ.2.2)
  | _ => none, by intro σ; dsimp only; split <;> first | exact Or.inl ⟨_, fun _ => rfl⟩ | exact Or.inr ⟨_, fun _ => rfl⟩⟩
/-- a number more, in place -/
def xInc (n : Nat) (d : Int32) : XT := ⟨fun K σ => match σ.1[n]? with
  | some (some (.inl (.int x))) => K ((xclr n σ.1).set n (some (.inl (.int (x + d)))), σ.2.1, σ.2.2)
  | _ => none, by intro σ; dsimp only; split <;> first | exact Or.inl ⟨_, fun _ => rfl⟩ | exact Or.inr ⟨_, fun _ => rfl⟩⟩
/-- a constant -/
def xC (v : Value) : XT := ⟨fun K σ => K (σ.1, .inl v :: σ.2.1, σ.2.2), fun _ => Or.inl ⟨_, fun _ => rfl⟩⟩
/-- a String constant, by its number -/
def xStr (k : Nat) : XT := ⟨fun K σ => K (σ.1, .inr (65, k) :: σ.2.1, σ.2.2), fun _ => Or.inl ⟨_, fun _ => rfl⟩⟩
/-- two ints -/
def xI2 (f : Int32 → Int32 → Int32) : XT := ⟨fun K σ => match σ.2.1 with
  | .inl (.int y) :: .inl (.int x) :: r => K (σ.1, .inl (.int (f x y)) :: r, σ.2.2)
  | _ => none, by intro σ; dsimp only; split <;> first | exact Or.inl ⟨_, fun _ => rfl⟩ | exact Or.inr ⟨_, fun _ => rfl⟩⟩
/-- two ints, the second not 0 -/
def xI2z (f : Int32 → Int32 → Int32) : XT := ⟨fun K σ => match σ.2.1 with
  | .inl (.int y) :: .inl (.int x) :: r => if y = 0 then none else K (σ.1, .inl (.int (f x y)) :: r, σ.2.2)
  | _ => none, by intro σ; dsimp only; split <;> (try split) <;> first | exact Or.inl ⟨_, fun _ => rfl⟩ | exact Or.inr ⟨_, fun _ => rfl⟩⟩
/-- two longs -/
def xJ2 (f : Int64 → Int64 → Int64) : XT := ⟨fun K σ => match σ.2.1 with
  | .inl (.long y) :: .inl (.long x) :: r => K (σ.1, .inl (.long (f x y)) :: r, σ.2.2)
  | _ => none, by intro σ; dsimp only; split <;> first | exact Or.inl ⟨_, fun _ => rfl⟩ | exact Or.inr ⟨_, fun _ => rfl⟩⟩
def xJ2z (f : Int64 → Int64 → Int64) : XT := ⟨fun K σ => match σ.2.1 with
  | .inl (.long y) :: .inl (.long x) :: r => if y = 0 then none else K (σ.1, .inl (.long (f x y)) :: r, σ.2.2)
  | _ => none, by intro σ; dsimp only; split <;> (try split) <;> first | exact Or.inl ⟨_, fun _ => rfl⟩ | exact Or.inr ⟨_, fun _ => rfl⟩⟩
/-- a long by an int -/
def xJI (f : Int64 → Int32 → Int64) : XT := ⟨fun K σ => match σ.2.1 with
  | .inl (.int y) :: .inl (.long x) :: r => K (σ.1, .inl (.long (f x y)) :: r, σ.2.2)
  | _ => none, by intro σ; dsimp only; split <;> first | exact Or.inl ⟨_, fun _ => rfl⟩ | exact Or.inr ⟨_, fun _ => rfl⟩⟩
/-- two longs compared -/
def xJcmp : XT := ⟨fun K σ => match σ.2.1 with
  | .inl (.long y) :: .inl (.long x) :: r => K (σ.1, .inl (.int (lg_cmp x y)) :: r, σ.2.2)
  | _ => none, by intro σ; dsimp only; split <;> first | exact Or.inl ⟨_, fun _ => rfl⟩ | exact Or.inr ⟨_, fun _ => rfl⟩⟩
/-- int to int, int to long, long to int -/
def xI1 (f : Int32 → Int32) : XT := ⟨fun K σ => match σ.2.1 with
  | .inl (.int x) :: r => K (σ.1, .inl (.int (f x)) :: r, σ.2.2)
  | _ => none, by intro σ; dsimp only; split <;> first | exact Or.inl ⟨_, fun _ => rfl⟩ | exact Or.inr ⟨_, fun _ => rfl⟩⟩
def xI2L : XT := ⟨fun K σ => match σ.2.1 with
  | .inl (.int x) :: r => K (σ.1, .inl (.long x.toInt64) :: r, σ.2.2)
  | _ => none, by intro σ; dsimp only; split <;> first | exact Or.inl ⟨_, fun _ => rfl⟩ | exact Or.inr ⟨_, fun _ => rfl⟩⟩
def xL2I : XT := ⟨fun K σ => match σ.2.1 with
  | .inl (.long x) :: r => K (σ.1, .inl (.int x.toInt32) :: r, σ.2.2)
  | _ => none, by intro σ; dsimp only; split <;> first | exact Or.inl ⟨_, fun _ => rfl⟩ | exact Or.inr ⟨_, fun _ => rfl⟩⟩
/-- the top once more -/
def xDup : XT := ⟨fun K σ => match σ.2.1 with
  | .inr q :: r => K (σ.1, .inr q :: .inr q :: r, σ.2.2)
  | .inl (.int x) :: r => K (σ.1, .inl (.int x) :: .inl (.int x) :: r, σ.2.2)
  | _ => none, by intro σ; dsimp only; split <;> first | exact Or.inl ⟨_, fun _ => rfl⟩ | exact Or.inr ⟨_, fun _ => rfl⟩⟩
/-- an array and a place in it once more -/
def xDup2 : XT := ⟨fun K σ => match σ.2.1 with
  | .inl (.int x) :: .inr q :: r => K (σ.1, .inl (.int x) :: .inr q :: .inl (.int x) :: .inr q :: r, σ.2.2)
  | _ => none, by intro σ; dsimp only; split <;> first | exact Or.inl ⟨_, fun _ => rfl⟩ | exact Or.inr ⟨_, fun _ => rfl⟩⟩
/-- an int off the top -/
def xPop : XT := ⟨fun K σ => match σ.2.1 with
  | .inl (.int _) :: r => K (σ.1, r, σ.2.2)
  | _ => none, by intro σ; dsimp only; split <;> first | exact Or.inl ⟨_, fun _ => rfl⟩ | exact Or.inr ⟨_, fun _ => rfl⟩⟩
/-- field k of an object of kind κ: an int, a long, a reference that stays, one that may change (and isn't null) -/
def xGI (κ k : Nat) : XT := ⟨fun K σ => match σ.2.1 with
  | .inr q :: r => if q.1 = κ then K (σ.1, .inl (.int (gI σ.2.2 κ q.2 k)) :: r, σ.2.2) else none
  | _ => none, by intro σ; dsimp only; split <;> (try split) <;> first | exact Or.inl ⟨_, fun _ => rfl⟩ | exact Or.inr ⟨_, fun _ => rfl⟩⟩
def xGJ (κ k : Nat) : XT := ⟨fun K σ => match σ.2.1 with
  | .inr q :: r => if q.1 = κ then K (σ.1, .inl (.long (gJ σ.2.2 κ q.2 k)) :: r, σ.2.2) else none
  | _ => none, by intro σ; dsimp only; split <;> (try split) <;> first | exact Or.inl ⟨_, fun _ => rfl⟩ | exact Or.inr ⟨_, fun _ => rfl⟩⟩
def xGS (κ κ' m b : Nat) : XT := ⟨fun K σ => match σ.2.1 with
  | .inr q :: r => if q.1 = κ then K (σ.1, .inr (κ', xser m b q.2) :: r, σ.2.2) else none
  | _ => none, by intro σ; dsimp only; split <;> (try split) <;> first | exact Or.inl ⟨_, fun _ => rfl⟩ | exact Or.inr ⟨_, fun _ => rfl⟩⟩
def xGD (κ k κ' : Nat) : XT := ⟨fun K σ => match σ.2.1 with
  | .inr q :: r => if q.1 = κ then (gR σ.2.2 κ q.2 k).bind (fun j => K (σ.1, .inr (κ', j) :: r, σ.2.2)) else none
  | _ => none, by
    intro σ
    dsimp only
    split
    · split
      · rename_i q _ _ _
        cases hg : gR σ.2.2 κ q.2 k with
        | none => exact Or.inr ⟨none, fun _ => rfl⟩
        | some j => exact Or.inl ⟨_, fun _ => rfl⟩
      · exact Or.inr ⟨_, fun _ => rfl⟩
    · exact Or.inr ⟨_, fun _ => rfl⟩⟩
/-- put a field: an int, a boolean, a long, a reference -/
def xPI (κ k : Nat) : XT := ⟨fun K σ => match σ.2.1 with
  | .inl (.int x) :: .inr q :: r => if q.1 = κ then K (σ.1, r, sI σ.2.2 κ q.2 k x) else none
  | _ => none, by intro σ; dsimp only; split <;> (try split) <;> first | exact Or.inl ⟨_, fun _ => rfl⟩ | exact Or.inr ⟨_, fun _ => rfl⟩⟩
def xPZ (κ k : Nat) : XT := ⟨fun K σ => match σ.2.1 with
  | .inl (.int x) :: .inr q :: r => if q.1 = κ then (if x = 0 ∨ x = 1 then K (σ.1, r, sI σ.2.2 κ q.2 k x) else none) else none
  | _ => none, by intro σ; dsimp only; split <;> (try split) <;> (try split) <;> first | exact Or.inl ⟨_, fun _ => rfl⟩ | exact Or.inr ⟨_, fun _ => rfl⟩⟩
def xPJ (κ k : Nat) : XT := ⟨fun K σ => match σ.2.1 with
  | .inl (.long x) :: .inr q :: r => if q.1 = κ then K (σ.1, r, sJ σ.2.2 κ q.2 k x) else none
  | _ => none, by intro σ; dsimp only; split <;> (try split) <;> first | exact Or.inl ⟨_, fun _ => rfl⟩ | exact Or.inr ⟨_, fun _ => rfl⟩⟩
def xPD (κ k κ' : Nat) : XT := ⟨fun K σ => match σ.2.1 with
  | .inr p :: .inr q :: r => if q.1 = κ then (if p.1 = κ' then K (σ.1, r, sR σ.2.2 κ q.2 k (some p.2)) else none) else none
  | .inl .null :: .inr q :: r => if q.1 = κ then K (σ.1, r, sR σ.2.2 κ q.2 k none) else none
  | _ => none, by intro σ; dsimp only; split <;> (try split) <;> (try split) <;> first | exact Or.inl ⟨_, fun _ => rfl⟩ | exact Or.inr ⟨_, fun _ => rfl⟩⟩
/-- a place of an array of ints (bytes, booleans) of kind κ and length n; of longs; of an array of any length -/
def xAI (κ n : Nat) : XT := ⟨fun K σ => match σ.2.1 with
  | .inl (.int j) :: .inr q :: r => if q.1 = κ then (if j < 0 ∨ n ≤ j.toNatClampNeg then none else K (σ.1, .inl (.int (gI σ.2.2 κ q.2 j.toNatClampNeg)) :: r, σ.2.2)) else none
  | _ => none, by intro σ; dsimp only; split <;> (try split) <;> (try split) <;> first | exact Or.inl ⟨_, fun _ => rfl⟩ | exact Or.inr ⟨_, fun _ => rfl⟩⟩
def xAJ (κ n : Nat) : XT := ⟨fun K σ => match σ.2.1 with
  | .inl (.int j) :: .inr q :: r => if q.1 = κ then (if j < 0 ∨ n ≤ j.toNatClampNeg then none else K (σ.1, .inl (.long (gJ σ.2.2 κ q.2 j.toNatClampNeg)) :: r, σ.2.2)) else none
  | _ => none, by intro σ; dsimp only; split <;> (try split) <;> (try split) <;> first | exact Or.inl ⟨_, fun _ => rfl⟩ | exact Or.inr ⟨_, fun _ => rfl⟩⟩
def xAId (κ : Nat) : XT := ⟨fun K σ => match σ.2.1 with
  | .inl (.int j) :: .inr q :: r => if q.1 = κ then (if j < 0 ∨ gZ σ.2.2 κ q.2 ≤ j.toNatClampNeg then none else K (σ.1, .inl (.int (gI σ.2.2 κ q.2 j.toNatClampNeg)) :: r, σ.2.2)) else none
  | _ => none, by intro σ; dsimp only; split <;> (try split) <;> (try split) <;> first | exact Or.inl ⟨_, fun _ => rfl⟩ | exact Or.inr ⟨_, fun _ => rfl⟩⟩
/-- a place of an array of references, not null -/
def xAR (κ n κ' : Nat) : XT := ⟨fun K σ => match σ.2.1 with
  | .inl (.int j) :: .inr q :: r => if q.1 = κ then (if j < 0 ∨ n ≤ j.toNatClampNeg then none else (gR σ.2.2 κ q.2 j.toNatClampNeg).bind (fun p => K (σ.1, .inr (κ', p) :: r, σ.2.2))) else none
  | _ => none, by
    intro σ
    dsimp only
    split
    · split
      · split
        · exact Or.inr ⟨_, fun _ => rfl⟩
        · rename_i j q _ _ _ _
          cases hg : gR σ.2.2 κ q.2 j.toNatClampNeg with
          | none => exact Or.inr ⟨none, fun _ => rfl⟩
          | some p => exact Or.inl ⟨_, fun _ => rfl⟩
      · exact Or.inr ⟨_, fun _ => rfl⟩
    · exact Or.inr ⟨_, fun _ => rfl⟩⟩
/-- store to a place of an array: ints (or, by g, bytes, booleans), longs -/
def xTI (κ n : Nat) (g : Int32 → Int32) : XT := ⟨fun K σ => match σ.2.1 with
  | .inl (.int x) :: .inl (.int j) :: .inr q :: r => if q.1 = κ then (if j < 0 ∨ n ≤ j.toNatClampNeg then none else K (σ.1, r, sI σ.2.2 κ q.2 j.toNatClampNeg (g x))) else none
  | _ => none, by intro σ; dsimp only; split <;> (try split) <;> (try split) <;> first | exact Or.inl ⟨_, fun _ => rfl⟩ | exact Or.inr ⟨_, fun _ => rfl⟩⟩
def xTJ (κ n : Nat) : XT := ⟨fun K σ => match σ.2.1 with
  | .inl (.long x) :: .inl (.int j) :: .inr q :: r => if q.1 = κ then (if j < 0 ∨ n ≤ j.toNatClampNeg then none else K (σ.1, r, sJ σ.2.2 κ q.2 j.toNatClampNeg x)) else none
  | _ => none, by intro σ; dsimp only; split <;> (try split) <;> (try split) <;> first | exact Or.inl ⟨_, fun _ => rfl⟩ | exact Or.inr ⟨_, fun _ => rfl⟩⟩
/-- an array's length -/
def xLen (κ n : Nat) : XT := ⟨fun K σ => match σ.2.1 with
  | .inr q :: r => if q.1 = κ then K (σ.1, .inl (.int (Int32.ofNat n)) :: r, σ.2.2) else none
  | _ => none, by intro σ; dsimp only; split <;> (try split) <;> first | exact Or.inl ⟨_, fun _ => rfl⟩ | exact Or.inr ⟨_, fun _ => rfl⟩⟩
def xLend (κ : Nat) : XT := ⟨fun K σ => match σ.2.1 with
  | .inr q :: r => if q.1 = κ then K (σ.1, .inl (.int (Int32.ofNat (gZ σ.2.2 κ q.2))) :: r, σ.2.2) else none
  | _ => none, by intro σ; dsimp only; split <;> (try split) <;> first | exact Or.inl ⟨_, fun _ => rfl⟩ | exact Or.inr ⟨_, fun _ => rfl⟩⟩
/-- does a call's receiver (the first of its n arguments) have kind κ; κ = 99: a static method -/
def xrcv (κ : Nat) (as : List XV) : Bool := if κ = 99 then true else match as with
  | .inr q :: _ => q.1 == κ
  | _ => false
def xcats (r : List XV) : Nat := (r.map xcat).sum
/-- a call that answers an int, a long, nothing -/
def xCI (κ n : Nat) (F : List XV → XW → Option (Int32 × XW)) : XT := ⟨fun K σ => if n ≤ σ.2.1.length ∧ xrcv κ (σ.2.1.take n).reverse = true ∧ xcats (σ.2.1.drop n) ≤ 8 then (F (σ.2.1.take n).reverse σ.2.2).bind (fun r => K (σ.1, .inl (.int r.1) :: σ.2.1.drop n, r.2)) else none, by
    intro σ
    dsimp only
    split
    · cases hg : F (σ.2.1.take n).reverse σ.2.2 with
      | none => exact Or.inr ⟨none, fun _ => rfl⟩
      | some p => exact Or.inl ⟨_, fun _ => rfl⟩
    · exact Or.inr ⟨_, fun _ => rfl⟩⟩
def xCJ (κ n : Nat) (F : List XV → XW → Option (Int64 × XW)) : XT := ⟨fun K σ => if n ≤ σ.2.1.length ∧ xrcv κ (σ.2.1.take n).reverse = true ∧ xcats (σ.2.1.drop n) ≤ 8 then (F (σ.2.1.take n).reverse σ.2.2).bind (fun r => K (σ.1, .inl (.long r.1) :: σ.2.1.drop n, r.2)) else none, by
    intro σ
    dsimp only
    split
    · cases hg : F (σ.2.1.take n).reverse σ.2.2 with
      | none => exact Or.inr ⟨none, fun _ => rfl⟩
      | some p => exact Or.inl ⟨_, fun _ => rfl⟩
    · exact Or.inr ⟨_, fun _ => rfl⟩⟩
def xCV (κ n : Nat) (F : List XV → XW → Option XW) : XT := ⟨fun K σ => if n ≤ σ.2.1.length ∧ xrcv κ (σ.2.1.take n).reverse = true ∧ xcats (σ.2.1.drop n) ≤ 8 then (F (σ.2.1.take n).reverse σ.2.2).bind (fun r => K (σ.1, σ.2.1.drop n, r)) else none, by
    intro σ
    dsimp only
    split
    · cases hg : F (σ.2.1.take n).reverse σ.2.2 with
      | none => exact Or.inr ⟨none, fun _ => rfl⟩
      | some p => exact Or.inl ⟨_, fun _ => rfl⟩
    · exact Or.inr ⟨_, fun _ => rfl⟩⟩
/-- by cases of what may be null -/
def oR {α : Type} (o : Option Nat) (a : α) (f : Nat → α) : α := match o with
  | none => a
  | some p => f p
def xARn (κ n κ' : Nat) : XT := ⟨fun K σ => match σ.2.1 with
  | .inl (.int j) :: .inr q :: r => if q.1 = κ then (if j < 0 ∨ n ≤ j.toNatClampNeg then none else oR (gR σ.2.2 κ q.2 j.toNatClampNeg) (K (σ.1, .inl .null :: r, σ.2.2)) (fun p => K (σ.1, .inr (κ', p) :: r, σ.2.2))) else none
  | _ => none, by
    intro σ
    dsimp only
    split
    · split
      · split
        · exact Or.inr ⟨_, fun _ => rfl⟩
        · rename_i j q _ _ _ _
          cases hg : gR σ.2.2 κ q.2 j.toNatClampNeg with
          | none => exact Or.inl ⟨_, fun _ => rfl⟩
          | some p => exact Or.inl ⟨_, fun _ => rfl⟩
      · exact Or.inr ⟨_, fun _ => rfl⟩
    · exact Or.inr ⟨_, fun _ => rfl⟩⟩
def xCR (κ n κ' : Nat) (F : List XV → XW → Option (Option Nat × XW)) : XT := ⟨fun K σ => if n ≤ σ.2.1.length ∧ xrcv κ (σ.2.1.take n).reverse = true ∧ xcats (σ.2.1.drop n) ≤ 8 then (F (σ.2.1.take n).reverse σ.2.2).bind (fun r => oR r.1 (K (σ.1, .inl .null :: σ.2.1.drop n, r.2)) (fun p => K (σ.1, .inr (κ', p) :: σ.2.1.drop n, r.2))) else none, by
    intro σ
    dsimp only
    split
    · cases hg : F (σ.2.1.take n).reverse σ.2.2 with
      | none => exact Or.inr ⟨none, fun _ => rfl⟩
      | some p =>
        obtain ⟨o, w2⟩ := p
        cases o with
        | none => exact Or.inl ⟨_, fun _ => rfl⟩
        | some p => exact Or.inl ⟨_, fun _ => rfl⟩
    · exact Or.inr ⟨_, fun _ => rfl⟩⟩
/-- Math.min, Math.max -/
def xM2 (f : Int32 → Int32 → Int32) : XT := ⟨fun K σ => match σ.2.1 with
  | .inl (.int y) :: .inl (.int x) :: r => if xcats r ≤ 8 then K (σ.1, .inl (.int (f x y)) :: r, σ.2.2) else none
  | _ => none, by intro σ; dsimp only; split <;> (try split) <;> first | exact Or.inl ⟨_, fun _ => rfl⟩ | exact Or.inr ⟨_, fun _ => rfl⟩⟩
-- ends of blocks
/-- the locals that live on -/
def xkeep : List Bool → List (Option XV) → List (Option XV)
  | b :: bs, v :: vs => (if b then v else none) :: xkeep bs vs
  | _, _ => []
def tGo (pc : Nat) (M : List Bool) : XB := ⟨fun K σ => K pc (xkeep M σ.1, σ.2.1, σ.2.2), fun _ => Or.inl ⟨_, _, fun _ => rfl⟩⟩
/-- a jump by one int: to pc if so, else on at pd -/
def tIf1 (P : Int32 → Bool) (pc : Nat) (M : List Bool) (pd : Nat) (M' : List Bool) : XB := ⟨fun K σ => match σ.2.1 with
  | .inl (.int x) :: r => bif P x then K pc (xkeep M σ.1, r, σ.2.2) else K pd (xkeep M' σ.1, r, σ.2.2)
  | _ => none, by
    intro σ
    dsimp only
    split
    · rename_i x _ _
      cases P x
      · exact Or.inl ⟨_, _, fun _ => rfl⟩
      · exact Or.inl ⟨_, _, fun _ => rfl⟩
    · exact Or.inr ⟨_, fun _ => rfl⟩⟩
/-- a jump by two ints -/
def tIf2 (P : Int32 → Int32 → Bool) (pc : Nat) (M : List Bool) (pd : Nat) (M' : List Bool) : XB := ⟨fun K σ => match σ.2.1 with
  | .inl (.int y) :: .inl (.int x) :: r => bif P x y then K pc (xkeep M σ.1, r, σ.2.2) else K pd (xkeep M' σ.1, r, σ.2.2)
  | _ => none, by
    intro σ
    dsimp only
    split
    · rename_i y x _ _
      cases P x y
      · exact Or.inl ⟨_, _, fun _ => rfl⟩
      · exact Or.inl ⟨_, _, fun _ => rfl⟩
    · exact Or.inr ⟨_, fun _ => rfl⟩⟩
/-- a jump by whether a reference field that may change is null -/
def tNul (κ k pc : Nat) (M : List Bool) (pd : Nat) (M' : List Bool) : XB := ⟨fun K σ => match σ.2.1 with
  | .inr q :: r => if q.1 = κ then (bif (gR σ.2.2 κ q.2 k).isNone then K pc (xkeep M σ.1, r, σ.2.2) else K pd (xkeep M' σ.1, r, σ.2.2)) else none
  | _ => none, by
    intro σ
    dsimp only
    split
    · rename_i q _ _
      split
      · cases (gR σ.2.2 κ q.2 k).isNone
        · exact Or.inl ⟨_, _, fun _ => rfl⟩
        · exact Or.inl ⟨_, _, fun _ => rfl⟩
      · exact Or.inr ⟨_, fun _ => rfl⟩
    · exact Or.inr ⟨_, fun _ => rfl⟩⟩
def xsw (x : Int32) (dflt : Nat) : Int32 → List Nat → Nat
  | _, [] => dflt
  | lo, t :: ts => bif x == lo then t else xsw x dflt (lo + 1) ts
def xswk {α : Type} (x : Int32) (f : Nat → α) (d : Nat) : List (Int32 × Nat) → α
  | [] => f d
  | (k, t) :: ps => bif x == k then f t else xswk x f d ps
def xsps : Int32 → List Nat → List (Int32 × Nat)
  | _, [] => []
  | lo, t :: ts => (lo, t) :: xsps (lo + 1) ts
theorem xswk_eq {α : Type} (x : Int32) (f : Nat → α) (d : Nat) : ∀ (ts : List Nat) (lo : Int32), xswk x f d (xsps lo ts) = f (xsw x d lo ts) := by
  intro ts
  induction ts with
  | nil => intro lo; rfl
  | cons t ts ih =>
    intro lo
    unfold xsps xswk xsw
    cases x == lo
    · exact ih (lo + 1)
    · rfl
/-- a switch over a table of targets -/
def tSw (ps : List (Int32 × Nat)) (dflt : Nat) (M : List Bool) : XB := ⟨fun K σ => match σ.2.1 with
  | .inl (.int x) :: r => xswk x (fun t => K t (xkeep M σ.1, r, σ.2.2)) dflt ps
  | _ => none, by
    intro σ
    dsimp only
    split
    · rename_i x r _
      have key : ∀ ps : List (Int32 × Nat), ∃ t, ∀ K : Nat → XS → Option XR, xswk x (fun t => K t (xkeep M σ.1, r, σ.2.2)) dflt ps = K t (xkeep M σ.1, r, σ.2.2) := by
        intro ps
        induction ps with
        | nil => exact ⟨dflt, fun _ => rfl⟩
        | cons q ps ih =>
          obtain ⟨k, t⟩ := q
          obtain ⟨t2, h2⟩ := ih
          cases hx : x == k
          · exact ⟨t2, fun K => by unfold xswk; rw [hx]; exact h2 K⟩
          · exact ⟨t, fun K => by unfold xswk; rw [hx]; rfl⟩
      obtain ⟨t, h⟩ := key ps
      exact Or.inl ⟨t, _, h⟩
    · exact Or.inr ⟨_, fun _ => rfl⟩⟩
def tRI : XB := ⟨fun _ σ => match σ.2.1 with
  | [.inl (.int x)] => some (some (.inl (.int x)), σ.2.2)
  | _ => none, by intro σ; exact Or.inr ⟨_, fun _ => rfl⟩⟩
/-- a boolean that is answered -/
def tRZ : XB := ⟨fun _ σ => match σ.2.1 with
  | [.inl (.int x)] => if x = 0 ∨ x = 1 then some (some (.inl (.int x)), σ.2.2) else none
  | _ => none, by intro σ; exact Or.inr ⟨_, fun _ => rfl⟩⟩
def tRJ : XB := ⟨fun _ σ => match σ.2.1 with
  | [.inl (.long x)] => some (some (.inl (.long x)), σ.2.2)
  | _ => none, by intro σ; exact Or.inr ⟨_, fun _ => rfl⟩⟩
def tRA : XB := ⟨fun _ σ => match σ.2.1 with
  | [.inr q] => some (some (.inr q), σ.2.2)
  | [.inl .null] => some (some (.inl .null), σ.2.2)
  | _ => none, by intro σ; exact Or.inr ⟨_, fun _ => rfl⟩⟩
def tRV : XB := ⟨fun _ σ => match σ.2.1 with
  | [] => some (none, σ.2.2)
  | _ => none, by intro σ; exact Or.inr ⟨_, fun _ => rfl⟩⟩
-- a method's blocks run
def xlk : List (Nat × XB) → Nat → (Nat → XS → Option XR) → XS → Option XR
  | [], _ => fun _ _ => none
  | (q, b) :: t, pc => if q = pc then b.1 else xlk t pc
def xrun (bs : List (Nat × XB)) : Nat → Nat → XS → Option XR
  | 0, _, _ => none
  | n + 1, pc, σ => xlk bs pc (xrun bs n) σ
theorem xlk_det (bs : List (Nat × XB)) (pc : Nat) (σ : XS) : (∃ pc' σ', ∀ K, xlk bs pc K σ = K pc' σ') ∨ (∃ o, ∀ K, xlk bs pc K σ = o) := by
  induction bs with
  | nil => exact Or.inr ⟨none, fun _ => rfl⟩
  | cons e t ih =>
    obtain ⟨q, b⟩ := e
    unfold xlk
    split
    · exact b.2 σ
    · exact ih
theorem xrun_mono (bs : List (Nat × XB)) : ∀ (n pc : Nat) (σ : XS) (r : XR), xrun bs n pc σ = some r → xrun bs (n + 1) pc σ = some r := by
  intro n
  induction n with
  | zero => intro pc σ r h; cases h
  | succ n ih =>
    intro pc σ r h
    unfold xrun at h ⊢
    rcases xlk_det bs pc σ with ⟨pc', σ', hd⟩ | ⟨o, hd⟩
    · rw [hd] at h ⊢
      exact ih _ _ _ h
    · rw [hd] at h ⊢
      exact h
theorem xrun_le (bs : List (Nat × XB)) {n m : Nat} (hnm : n ≤ m) {pc : Nat} {σ : XS} {r : XR} (h : xrun bs n pc σ = some r) : xrun bs m pc σ = some r := by
  induction hnm with
  | refl => exact h
  | step _ ih => exact xrun_mono bs _ _ _ _ ih
noncomputable def ev (bs : List (Nat × XB)) (pc : Nat) (σ : XS) : Option XR := @dite _ (∃ n r, xrun bs n pc σ = some r) (Classical.propDecidable _) (fun h => xrun bs h.choose pc σ) (fun _ => none)
theorem ev_of {bs : List (Nat × XB)} {n pc : Nat} {σ : XS} {r : XR} (h : xrun bs n pc σ = some r) : ev bs pc σ = some r := by
  have he : ∃ n r, xrun bs n pc σ = some r := ⟨n, r, h⟩
  have h2 : ∃ r, xrun bs he.choose pc σ = some r := he.choose_spec
  obtain ⟨r2, h3⟩ := h2
  have e1 := xrun_le bs (Nat.le_max_left n he.choose) h
  have e2 := xrun_le bs (Nat.le_max_right n he.choose) h3
  have hq : r = r2 := Option.some.inj (e1.symm.trans e2)
  unfold ev
  rw [dif_pos he, hq]
  exact h3
theorem ev_to {bs : List (Nat × XB)} {pc : Nat} {σ : XS} {r : XR} (h : ev bs pc σ = some r) : ∃ n, xrun bs n pc σ = some r := by
  by_cases he : ∃ n r, xrun bs n pc σ = some r
  · obtain ⟨n, r2, h2⟩ := he
    have h3 := ev_of h2
    rw [h3] at h
    cases h
    exact ⟨n, h2⟩
  · unfold ev at h
    rw [dif_neg he] at h
    cases h
theorem ev_none {bs : List (Nat × XB)} {pc : Nat} {σ : XS} (h : ∀ n r, xrun bs n pc σ ≠ some r) : ev bs pc σ = none := by
  cases he : ev bs pc σ with
  | none => rfl
  | some r =>
    obtain ⟨n, hn⟩ := ev_to he
    exact absurd hn (h n r)
/-- a block, once -/
theorem ev_eq (bs : List (Nat × XB)) (pc : Nat) (σ : XS) : ev bs pc σ = xlk bs pc (ev bs) σ := by
  rcases xlk_det bs pc σ with ⟨pc', σ', hd⟩ | ⟨o, hd⟩
  · rw [hd]
    cases he : ev bs pc' σ' with
    | none =>
      apply ev_none
      intro n r hn
      cases n with
      | zero => cases hn
      | succ n =>
        unfold xrun at hn
        rw [hd] at hn
        rw [ev_of hn] at he
        cases he
    | some r =>
      obtain ⟨n, hn⟩ := ev_to he
      apply ev_of (n := n + 1)
      unfold xrun
      rw [hd]
      exact hn
  · rw [hd]
    cases o with
    | none =>
      apply ev_none
      intro n r hn
      cases n with
      | zero => cases hn
      | succ n =>
        unfold xrun at hn
        rw [hd] at hn
        cases hn
    | some r =>
      apply ev_of (n := 1)
      unfold xrun
      rw [hd]
