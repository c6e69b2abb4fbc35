/-! THE CLAIM OUT OF ONE WALK OF THE LAW'S BODY. Your part is whole_start (and what it stands on); all else here is the same for every law, but numbers. -/
def R_law : String := "WinterKeepLaw"
def lw_P (b : Addr) (xs : List Int32) (args : Array Value) (s : State) : Prop := args = #[.ref b] ∧ s.IntsAt b xs ∧ xs.length ≤ 3072 ∧ (Jvm.Cond.and given_1 narrow_1).before args s = true
def lw_Q (_ : Array Value) (s : State) (o : Outcome) (t : State) : Prop := o = .returned (some (.int 1)) ∧ Framed s o t [] 600000 7302250
def lw_Z (below : List Frame) (a : Array Value) (s : State) : State → Prop := fun t => ∃ o, t.status = .running ∧ Ended t below o ∧ lw_Q a s o t
/-- the law's own end, with 1 on the stack, nothing written that was there before, its room as the claim has it -/
theorem lw_ret {p : Program} {l : Launch} {e : Env} {s : State} {m : MethodId} {below : List Frame} {meth : Method} {c : Code} {b : Nat} (hx : p.tables.exec = Jvm.exec) (hb : c.code = code) (hr : meth.sig.returnType = ret) (hlocks : meth.locks = false) {pc : Nat} {H : Heap} {ls : Array Slot} (hdg : decode code pc = .ok (.ireturn, 1)) : W p l e room_1 s m #[Value.ref b] below meth c H [] 600000 7302250 (lw_Z below #[Value.ref b] s) (F0 m pc ls [.int 1]) := by
  intro T hT X
  obtain ⟨fs, hret, hrun, hended, hW, hframe⟩ := X.leave (v := some (.int 1)) (hlocks := hlocks) (fun h => by rw [hr] at h; cases h)
  have hmeth' : T.vm.method? m = some meth := X.method'
  refine ⟨T.setFrames fs, ?_, .returned (some (.int 1)), hrun, hended, rfl, ⟨_, rfl⟩, hW, hframe⟩
  jvm_step X.here [X.here.top, hx, hb, hdg, hmeth', hr, ret, narrow_b1]
  (try refine ⟨rfl, ?_⟩); (try refine ⟨rfl, ?_⟩)
  first | (intro acts; rw [hret _ acts rfl rfl rfl]) | rw [hret _ _ rfl rfl rfl]
  exact Steps.refl _
/-- what holds at the law's entry: the machine, the code, the tables' words (any of lw_tbl by 'hts w (by decide +kernel)'), the script of L ints xs at the cell b, what the Statement gives of the start (any of its parts by flat_of_before) -/
def lw_At (p : Program) (s : State) (m : MethodId) (meth : Method) (c : Code) (b L : Nat) (xs : Nat → Int32) : Prop :=
  p.tables.exec = Jvm.exec ∧ c.code = code ∧ meth.sig.returnType = ret ∧ c.maxLocals = 4 ∧ s.vm.findClass R_law = some m.cls ∧ (∀ w ∈ lw_tbl, w.before #[Value.ref b] s = true) ∧ va_X b L xs s s.heap ∧ b < s.heap.size ∧ meth.locks = false ∧ (Jvm.Cond.and given_1 narrow_1).before #[Value.ref b] s = true
/-! ===== rows of the law ===== -/
/-- what the law stands on -/
def LwC (p : Program) (s : State) (m : MethodId) (c : Code) (b L : Nat) (xs : Nat → Int32) (D : va_G) (cy : Nat → ClassId) : Prop :=
  p.tables.exec = Jvm.exec ∧ c.code = code ∧ c.maxLocals = 4 ∧ s.vm.findClass R_law = some m.cls ∧ (∀ w ∈ lw_tbl, w.before #[Value.ref b] s = true) ∧ va_X b L xs s s.heap ∧ b < s.heap.size ∧ va_K D vwCl (xty cy) s ∧ L ≤ 3072
def lA (s : State) : Nat → Prop := fun q => s.heap.size ≤ q
/-- how many there are of what can be made -/
def cOk (cnt : Nat → Nat) : Prop := cOK1 cnt ∧ (cnt 26 = cnt 6 ∧ 4 ≤ cnt 2) ∧ cnt 27 = cnt 6 ∧ 0 < cnt 10 ∧ 0 < cnt 11
/-- where the law stands in front of call k -/
def LwS (s : State) (D : va_G) (cy : Nat → ClassId) (b k : Nat) (ad : Nat → Nat → Nat) (cnt : Nat → Nat) (w : XW) (H : Heap) (locs : List Loc) (ls : Array Slot) : Prop :=
  XH D (lA s) ad cy cnt w H ∧ XD cnt w ∧ XG ad cnt ∧ XZ (lA s) ad s ∧ va_S (lA s) s.heap H locs ∧ lv_has ls 4 [(3, .int (nI (6 * k))), (2, .ref (ad 11 0)), (1, .ref (ad 10 0)), (0, .ref b)] ∧ Rel w ∧ cOk cnt
theorem lw_oki : ∀ w ∈ lw_ok, w ∈ lw_tbl := fun w h => (List.mem_filter.mp h).1
section LawRows
variable {p : Program} {l : Launch} {e : Env} {R : Room} {s : State} {m : MethodId} {args : Array Value} {below : List Frame} {meth : Method} {c : Code} {H : Heap} {locs : List Loc} {cells slots : Nat} {Q : State → Prop}
variable {pc : Nat} {ls : Array Slot} {rest : List Value}
/-- script[i + j] -/
theorem w_arg {b L k j : Nat} {xs : Nat → Int32} {A : Nat → Prop} {a1 a2 : Nat} {v : Int32} {n : Int} (hx : p.tables.exec = Jvm.exec) (hb : c.code = code) (hX : va_X b L xs s s.heap) (hbl : b < s.heap.size) (hbA : ¬ A b) (hS : va_S A s.heap H locs) (hl : lv_has ls 4 [(3, .int (nI (6 * k))), (2, .ref a2), (1, .ref a1), (0, .ref b)]) (hk : 6 * k + 6 ≤ L) (hL : L ≤ 3072) (hj : j < 6) (hv : v = nI j) (hn : Int32.ofInt n = v)
    (d0 : decode code pc = .ok (.aload_n 0, 1)) (d1 : decode code (pc + 1) = .ok (.iload_n 3, 1)) (d2 : decode code (pc + 2) = .ok (.iconst n, 1)) (d3 : decode code (pc + 3) = .ok (.iadd, 1)) (d4 : decode code (pc + 4) = .ok (.iaload, 1))
    (kk : W p l e R s m args below meth c H locs cells slots Q (F0 m (pc + 5) ls (.int (xs (6 * k + j)) :: rest))) : W p l e R s m args below meth c H locs cells slots Q (F0 m pc ls rest) := by
  refine lv_aload_n hx hb d0 rfl (lv_at hl 3 rfl) ?_
  refine lv_iload_n hx hb d1 rfl (lv_at hl 0 rfl) ?_
  refine lv_iconst (v := v) hx hb d2 hn ?_
  refine lv_iadd hx hb d3 ?_
  have e1 : nI (6 * k) + v = nI (6 * k + j) := by rw [hv]; exact nI_add _ _
  rw [e1]
  have e2 : (nI (6 * k + j)).toNatClampNeg = 6 * k + j := cl (by omega)
  refine va_sld hx hb hX hbl hbA hS (fun z => by rw [e2] at z; exact z.elim (nI_pos (by omega)) (fun y => by omega)) d4 ?_
  rw [e2]
  exact kk
end LawRows
