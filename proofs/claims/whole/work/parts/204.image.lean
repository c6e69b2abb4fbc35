theorem lk_le {L L' : List Nat} (h : L.length = L'.length ∧ ∀ κ, κ < L.length → L.getD κ 0 ≤ L'.getD κ 0) : ∀ κ, lk L κ ≤ lk L' κ := fun κ => by
  by_cases hk : κ < L.length
  · exact h.2 κ hk
  · unfold lk
    rw [List.getD_eq_getElem?_getD, List.getElem?_eq_none (by omega)]
    exact Nat.zero_le _
theorem r_getSa {p : Program} {l : Launch} {e : Env} {R : Room} {s : State} {m : MethodId} {args : Array Value} {below : List Frame} {meth : Method} {c : Code} {H : Heap} {locs : List Loc} {cells slots : Nat} {Q : State → Prop} {cc : ByteArray} {pc : Nat} {ls : Array Slot} {rest : List Value} {D : va_G} {A : Nat → Prop} {ad : Nat → Nat → Nat} {cy : Nat → ClassId} {cnt : Nat → Nat} {Y : va_W} {w : XW} {κ i a : Nat} (ha : ad κ i = a) (hx : p.tables.exec = Jvm.exec) (hb : c.code = cc) {own C : String} {T : u_T} {ty : Nat → FieldType} {N k index κ' m0 b0 : Nat} {Ts : List Cond} (hts : ∀ w ∈ Ts, w.before args s = true) (hin : ∀ w ∈ lw_ok, w ∈ Ts) (hC : XK κ C T ty N) (hown : s.vm.findClass own = some m.cls) (hK : va_K D vwCl (xty cy) s) (hX : XX D A ad cy cnt Y w H) (hi : i < cnt κ) (hc : xfc κ k = some (3, κ', m0, b0)) (hkN : k < N) (hTC : (T k).1 = C) (hlk : Cond.fieldLink own index C (T k).2.1 (T k).2.2.1 ∈ lw_ok) (hd : decode cc pc = .ok (.getfield index, 3))
    (kk : W p l e R s m args below meth c H locs cells slots Q (F0 m (pc + 3) ls (.ref (ad κ' (xser m0 b0 i)) :: rest))) : W p l e R s m args below meth c H locs cells slots Q (F0 m pc ls (.ref a :: rest)) := by
  subst ha
  exact r_getS hx hb hts hin hC hown hK hX hi hc hkN hTC hlk hd kk
theorem vp_in_lit {j : Int32} {n : Nat} (h : ¬ (j < 0 ∨ n ≤ j.toNatClampNeg)) : vp_in j n := h
def wA : Nat → XW
  | 0 => sR (sI wZ 10 0 4 (-1)) 10 0 5 (some 0)
  | k + 1 => sR (wA k) 37 0 k (some (2 + k))
def wB : Nat → XW
  | 0 => wA 20
  | k + 1 => sR (sI (wB k) 2 k 3 (-1)) 36 0 k (some k)
theorem wt_10 : (Jvm.Cond.initialized "WinterKeep$Image") ∈ lw_ok := lw_okt 10 (by decide +kernel) (by decide +kernel)
theorem wt_27 : (Jvm.Cond.methodLink "WinterKeep" (1 : Nat) ({ cls := "java/lang/Object", name := "<init>", desc := "()V" } : Jvm.MethodName)) ∈ lw_ok := lw_okt 27 (by decide +kernel) (by decide +kernel)
theorem wt_30 : (Jvm.Cond.classLink "WinterKeep" (7 : Nat) "WinterKeep$Tape") ∈ lw_ok := lw_okt 30 (by decide +kernel) (by decide +kernel)
theorem wt_31 : (Jvm.Cond.instantiable "WinterKeep$Tape" (6 : Nat)) ∈ lw_ok := lw_okt 31 (by decide +kernel) (by decide +kernel)
theorem wt_33 : (Jvm.Cond.instanceMethod ({ cls := "WinterKeep$Tape", name := "<init>", desc := "()V" } : Jvm.MethodName)) ∈ lw_ok := lw_okt 33 (by decide +kernel) (by decide +kernel)
theorem wt_34 : (Jvm.Cond.code ({ cls := "WinterKeep$Tape", name := "<init>", desc := "()V" } : Jvm.MethodName) prog_12_method_1_code (1 : Nat) (Option.none : Option Jvm.ClassFile.FieldType)) ∈ lw_ok := lw_okt 34 (by decide +kernel) (by decide +kernel)
theorem wt_64 : (Jvm.Cond.classLink "WinterKeep" (16 : Nat) "WinterKeep$RuleReader") ∈ lw_ok := lw_okt 64 (by decide +kernel) (by decide +kernel)
theorem wt_65 : (Jvm.Cond.instantiable "WinterKeep$RuleReader" (5 : Nat)) ∈ lw_ok := lw_okt 65 (by decide +kernel) (by decide +kernel)
theorem wt_67 : (Jvm.Cond.instanceMethod ({ cls := "WinterKeep$RuleReader", name := "<init>", desc := "()V" } : Jvm.MethodName)) ∈ lw_ok := lw_okt 67 (by decide +kernel) (by decide +kernel)
theorem wt_68 : (Jvm.Cond.code ({ cls := "WinterKeep$RuleReader", name := "<init>", desc := "()V" } : Jvm.MethodName) prog_10_method_1_code (1 : Nat) (Option.none : Option Jvm.ClassFile.FieldType)) ∈ lw_ok := lw_okt 68 (by decide +kernel) (by decide +kernel)
theorem wt_86 : (Jvm.Cond.classLink "WinterKeep" (23 : Nat) "WinterKeep$Rule") ∈ lw_ok := lw_okt 86 (by decide +kernel) (by decide +kernel)
theorem wt_88 : (Jvm.Cond.classLink "WinterKeep" (36 : Nat) "WinterKeep$Dale") ∈ lw_ok := lw_okt 88 (by decide +kernel) (by decide +kernel)
theorem wt_89 : (Jvm.Cond.instantiable "WinterKeep$Dale" (12 : Nat)) ∈ lw_ok := lw_okt 89 (by decide +kernel) (by decide +kernel)
theorem wt_91 : (Jvm.Cond.instanceMethod ({ cls := "WinterKeep$Dale", name := "<init>", desc := "()V" } : Jvm.MethodName)) ∈ lw_ok := lw_okt 91 (by decide +kernel) (by decide +kernel)
theorem wt_92 : (Jvm.Cond.code ({ cls := "WinterKeep$Dale", name := "<init>", desc := "()V" } : Jvm.MethodName) prog_3_method_1_code (1 : Nat) (Option.none : Option Jvm.ClassFile.FieldType)) ∈ lw_ok := lw_okt 92 (by decide +kernel) (by decide +kernel)
theorem wt_167 : (Jvm.Cond.classLink "WinterKeep" (43 : Nat) "WinterKeep$Scene") ∈ lw_ok := lw_okt 167 (by decide +kernel) (by decide +kernel)
theorem wt_168 : (Jvm.Cond.instantiable "WinterKeep$Scene" (6 : Nat)) ∈ lw_ok := lw_okt 168 (by decide +kernel) (by decide +kernel)
theorem wt_170 : (Jvm.Cond.instanceMethod ({ cls := "WinterKeep$Scene", name := "<init>", desc := "()V" } : Jvm.MethodName)) ∈ lw_ok := lw_okt 170 (by decide +kernel) (by decide +kernel)
theorem wt_171 : (Jvm.Cond.code ({ cls := "WinterKeep$Scene", name := "<init>", desc := "()V" } : Jvm.MethodName) prog_11_method_1_code (1 : Nat) (Option.none : Option Jvm.ClassFile.FieldType)) ∈ lw_ok := lw_okt 171 (by decide +kernel) (by decide +kernel)
theorem wt_209 : (Jvm.Cond.classLink "WinterKeep" (53 : Nat) "WinterKeep$Nights") ∈ lw_ok := lw_okt 209 (by decide +kernel) (by decide +kernel)
theorem wt_210 : (Jvm.Cond.instantiable "WinterKeep$Nights" (7 : Nat)) ∈ lw_ok := lw_okt 210 (by decide +kernel) (by decide +kernel)
theorem wt_212 : (Jvm.Cond.instanceMethod ({ cls := "WinterKeep$Nights", name := "<init>", desc := "()V" } : Jvm.MethodName)) ∈ lw_ok := lw_okt 212 (by decide +kernel) (by decide +kernel)
theorem wt_213 : (Jvm.Cond.code ({ cls := "WinterKeep$Nights", name := "<init>", desc := "()V" } : Jvm.MethodName) prog_6_method_1_code (1 : Nat) (Option.none : Option Jvm.ClassFile.FieldType)) ∈ lw_ok := lw_okt 213 (by decide +kernel) (by decide +kernel)
theorem wt_238 : (Jvm.Cond.classLink "WinterKeep" (60 : Nat) "WinterKeep$Placings") ∈ lw_ok := lw_okt 238 (by decide +kernel) (by decide +kernel)
theorem wt_239 : (Jvm.Cond.instantiable "WinterKeep$Placings" (1 : Nat)) ∈ lw_ok := lw_okt 239 (by decide +kernel) (by decide +kernel)
theorem wt_241 : (Jvm.Cond.instanceMethod ({ cls := "WinterKeep$Placings", name := "<init>", desc := "()V" } : Jvm.MethodName)) ∈ lw_ok := lw_okt 241 (by decide +kernel) (by decide +kernel)
theorem wt_242 : (Jvm.Cond.code ({ cls := "WinterKeep$Placings", name := "<init>", desc := "()V" } : Jvm.MethodName) prog_8_method_1_code (1 : Nat) (Option.none : Option Jvm.ClassFile.FieldType)) ∈ lw_ok := lw_okt 242 (by decide +kernel) (by decide +kernel)
theorem wt_248 : (Jvm.Cond.classLink "WinterKeep" (67 : Nat) "WinterKeep$Benches") ∈ lw_ok := lw_okt 248 (by decide +kernel) (by decide +kernel)
theorem wt_249 : (Jvm.Cond.instantiable "WinterKeep$Benches" (1 : Nat)) ∈ lw_ok := lw_okt 249 (by decide +kernel) (by decide +kernel)
theorem wt_251 : (Jvm.Cond.instanceMethod ({ cls := "WinterKeep$Benches", name := "<init>", desc := "()V" } : Jvm.MethodName)) ∈ lw_ok := lw_okt 251 (by decide +kernel) (by decide +kernel)
theorem wt_252 : (Jvm.Cond.code ({ cls := "WinterKeep$Benches", name := "<init>", desc := "()V" } : Jvm.MethodName) prog_2_method_1_code (1 : Nat) (Option.none : Option Jvm.ClassFile.FieldType)) ∈ lw_ok := lw_okt 252 (by decide +kernel) (by decide +kernel)
theorem wt_259 : (Jvm.Cond.classLink "WinterKeep" (74 : Nat) "WinterKeep$Notes") ∈ lw_ok := lw_okt 259 (by decide +kernel) (by decide +kernel)
theorem wt_260 : (Jvm.Cond.instantiable "WinterKeep$Notes" (4 : Nat)) ∈ lw_ok := lw_okt 260 (by decide +kernel) (by decide +kernel)
theorem wt_262 : (Jvm.Cond.instanceMethod ({ cls := "WinterKeep$Notes", name := "<init>", desc := "()V" } : Jvm.MethodName)) ∈ lw_ok := lw_okt 262 (by decide +kernel) (by decide +kernel)
theorem wt_263 : (Jvm.Cond.code ({ cls := "WinterKeep$Notes", name := "<init>", desc := "()V" } : Jvm.MethodName) prog_7_method_1_code (1 : Nat) (Option.none : Option Jvm.ClassFile.FieldType)) ∈ lw_ok := lw_okt 263 (by decide +kernel) (by decide +kernel)
theorem wt_279 : (Jvm.Cond.classLink "WinterKeep" (84 : Nat) "WinterKeep$Image") ∈ lw_ok := lw_okt 279 (by decide +kernel) (by decide +kernel)
theorem wt_282 : (Jvm.Cond.instantiable "WinterKeep$Image" (6 : Nat)) ∈ lw_ok := lw_okt 282 (by decide +kernel) (by decide +kernel)
theorem wt_284 : (Jvm.Cond.instanceMethod ({ cls := "WinterKeep$Image", name := "<init>", desc := "()V" } : Jvm.MethodName)) ∈ lw_ok := lw_okt 284 (by decide +kernel) (by decide +kernel)
theorem wt_285 : (Jvm.Cond.code ({ cls := "WinterKeep$Image", name := "<init>", desc := "()V" } : Jvm.MethodName) prog_5_method_1_code (1 : Nat) (Option.none : Option Jvm.ClassFile.FieldType)) ∈ lw_ok := lw_okt 285 (by decide +kernel) (by decide +kernel)
theorem wt_286 : (Jvm.Cond.methodLink "WinterKeep$Image" (3 : Nat) ({ cls := "java/lang/Object", name := "<init>", desc := "()V" } : Jvm.MethodName)) ∈ lw_ok := lw_okt 286 (by decide +kernel) (by decide +kernel)
theorem wt_287 : (Jvm.Cond.classLink "WinterKeep$Image" (19 : Nat) "WinterKeep$Scene") ∈ lw_ok := lw_okt 287 (by decide +kernel) (by decide +kernel)
theorem wt_289 : (Jvm.Cond.classLink "WinterKeep$Image" (30 : Nat) "WinterKeep$Notes") ∈ lw_ok := lw_okt 289 (by decide +kernel) (by decide +kernel)
theorem wt_291 : (Jvm.Cond.fieldLink "WinterKeep$Image" (9 : Nat) "WinterKeep$Image" "isMade" "Z") ∈ lw_ok := lw_okt 291 (by decide +kernel) (by decide +kernel)
theorem wt_293 : (Jvm.Cond.fieldLink "WinterKeep$Image" (15 : Nat) "WinterKeep$Image" "told" "LWinterKeep$Dale;") ∈ lw_ok := lw_okt 293 (by decide +kernel) (by decide +kernel)
theorem wt_295 : (Jvm.Cond.fieldLink "WinterKeep$Image" (22 : Nat) "WinterKeep$Image" "scene" "LWinterKeep$Scene;") ∈ lw_ok := lw_okt 295 (by decide +kernel) (by decide +kernel)
theorem wt_297 : (Jvm.Cond.fieldLink "WinterKeep$Image" (26 : Nat) "WinterKeep$Image" "inForce" "I") ∈ lw_ok := lw_okt 297 (by decide +kernel) (by decide +kernel)
theorem wt_299 : (Jvm.Cond.fieldLink "WinterKeep$Image" (33 : Nat) "WinterKeep$Image" "notes" "LWinterKeep$Notes;") ∈ lw_ok := lw_okt 299 (by decide +kernel) (by decide +kernel)
theorem wt_301 : (Jvm.Cond.fieldLink "WinterKeep$Image" (37 : Nat) "WinterKeep$Image" "x" "I") ∈ lw_ok := lw_okt 301 (by decide +kernel) (by decide +kernel)
theorem wt_317 : (Jvm.Cond.fieldLink "WinterKeep" (19 : Nat) "WinterKeep" "ruleReader" "LWinterKeep$RuleReader;") ∈ lw_ok := lw_okt 317 (by decide +kernel) (by decide +kernel)
abbrev LQ0 : List Nat := [0, 0, 0, 0, 0, 0, 0, 0, 0, 0, 0, 0, 0, 0, 0, 0, 0, 0, 0, 0, 0, 0, 0, 0, 0, 0, 0, 0, 0, 0, 0, 0, 0, 0, 0, 0, 0, 0, 0, 0, 0, 0, 0, 0, 0, 0, 0, 0, 0, 0, 0, 0, 0, 0, 0, 0, 0, 0, 0, 0, 0, 0, 0, 0, 0, 6, 6]
abbrev LQ1 : List Nat := [0, 0, 0, 0, 0, 0, 0, 0, 0, 1, 0, 0, 0, 0, 0, 0, 0, 0, 0, 0, 0, 0, 0, 0, 0, 0, 0, 0, 0, 0, 0, 0, 0, 0, 1, 0, 0, 0, 0, 0, 0, 0, 0, 0, 0, 0, 0, 0, 0, 0, 0, 0, 0, 0, 0, 0, 0, 0, 0, 0, 0, 0, 0, 0, 0, 6, 6]
abbrev LQ2 : List Nat := [0, 0, 0, 0, 0, 0, 0, 1, 0, 1, 0, 0, 0, 0, 0, 0, 0, 0, 0, 0, 0, 0, 0, 0, 0, 0, 0, 0, 1, 1, 0, 0, 0, 0, 1, 0, 0, 0, 0, 0, 0, 0, 0, 0, 0, 0, 0, 0, 0, 0, 0, 0, 0, 0, 0, 0, 0, 0, 0, 0, 0, 0, 0, 0, 0, 6, 6]
abbrev LQ3 : List Nat := [0, 0, 0, 0, 0, 0, 0, 1, 0, 1, 0, 0, 0, 0, 0, 0, 0, 0, 0, 0, 0, 0, 0, 0, 0, 0, 0, 0, 1, 1, 0, 0, 0, 0, 1, 1, 0, 0, 0, 0, 0, 0, 0, 0, 0, 0, 0, 0, 0, 0, 0, 0, 0, 0, 0, 0, 0, 0, 0, 0, 0, 0, 0, 0, 0, 6, 6]
abbrev LQ4 : List Nat := [0, 1, 0, 0, 0, 0, 0, 1, 0, 1, 0, 0, 0, 1, 1, 1, 1, 1, 1, 0, 0, 0, 0, 0, 0, 0, 0, 0, 1, 1, 0, 0, 0, 0, 1, 1, 0, 0, 0, 0, 0, 0, 0, 0, 0, 0, 0, 0, 0, 0, 0, 0, 0, 0, 0, 0, 0, 0, 0, 0, 0, 0, 0, 0, 0, 6, 6]
abbrev LQ5 : List Nat := [0, 1, 0, 0, 0, 0, 0, 1, 1, 1, 0, 0, 0, 1, 1, 1, 1, 1, 1, 0, 0, 0, 0, 0, 0, 0, 0, 0, 1, 1, 1, 1, 1, 1, 1, 1, 0, 0, 0, 0, 0, 0, 0, 0, 0, 0, 0, 0, 0, 0, 0, 0, 0, 0, 0, 0, 0, 0, 0, 0, 0, 0, 0, 0, 0, 6, 6]
abbrev LQ6 : List Nat := [0, 1, 0, 0, 0, 0, 0, 1, 2, 1, 0, 0, 0, 1, 1, 1, 1, 1, 1, 0, 0, 0, 0, 0, 0, 0, 0, 0, 1, 1, 2, 2, 2, 2, 1, 1, 0, 0, 0, 0, 0, 0, 0, 0, 0, 0, 0, 0, 0, 0, 0, 0, 0, 0, 0, 0, 0, 0, 0, 0, 0, 0, 0, 0, 0, 6, 6]
abbrev LQ7 : List Nat := [0, 1, 0, 1, 0, 0, 0, 1, 2, 1, 0, 0, 0, 1, 1, 1, 1, 1, 1, 1, 1, 1, 0, 0, 0, 0, 0, 0, 1, 1, 2, 2, 2, 2, 1, 1, 0, 0, 0, 0, 0, 0, 0, 0, 0, 0, 0, 0, 0, 0, 0, 0, 0, 0, 0, 0, 0, 0, 0, 0, 0, 0, 0, 0, 0, 6, 6]
abbrev LQ8 : List Nat := [0, 1, 0, 1, 0, 1, 0, 1, 2, 1, 0, 0, 0, 1, 1, 1, 1, 1, 1, 1, 1, 1, 0, 0, 0, 1, 0, 0, 1, 1, 2, 2, 2, 2, 1, 1, 0, 0, 0, 0, 0, 0, 0, 0, 0, 0, 0, 0, 0, 0, 0, 0, 0, 0, 0, 0, 0, 0, 0, 0, 0, 0, 0, 0, 0, 6, 6]
abbrev LQ9 : List Nat := [1, 1, 0, 1, 0, 1, 0, 1, 2, 1, 0, 0, 1, 1, 1, 1, 1, 1, 1, 1, 1, 1, 0, 0, 0, 1, 0, 0, 1, 1, 2, 2, 2, 2, 1, 1, 0, 0, 0, 0, 0, 0, 0, 0, 0, 0, 0, 0, 0, 0, 0, 0, 0, 0, 0, 0, 0, 0, 0, 0, 0, 0, 0, 0, 0, 6, 6]
abbrev LQ10 : List Nat := [1, 1, 0, 1, 1, 1, 0, 1, 2, 1, 0, 0, 1, 1, 1, 1, 1, 1, 1, 1, 1, 1, 1, 1, 1, 1, 0, 0, 1, 1, 2, 2, 2, 2, 1, 1, 0, 0, 0, 0, 0, 0, 0, 0, 0, 0, 0, 0, 0, 0, 0, 0, 0, 0, 0, 0, 0, 0, 0, 0, 0, 0, 0, 0, 0, 6, 6]
abbrev LQ11 : List Nat := [1, 1, 0, 1, 1, 1, 0, 1, 2, 1, 0, 0, 1, 1, 1, 1, 1, 1, 1, 1, 1, 1, 1, 1, 1, 1, 0, 0, 1, 1, 2, 2, 2, 2, 1, 1, 1, 0, 0, 0, 0, 0, 0, 0, 0, 0, 0, 0, 0, 0, 0, 0, 0, 0, 0, 0, 0, 0, 0, 0, 0, 0, 0, 0, 0, 6, 6]
abbrev LQ12 : List Nat := [1, 1, 0, 1, 1, 1, 0, 1, 2, 1, 0, 0, 1, 1, 1, 1, 1, 1, 1, 1, 1, 1, 1, 1, 1, 1, 0, 0, 1, 1, 2, 2, 2, 2, 1, 1, 1, 1, 0, 0, 0, 0, 0, 0, 0, 0, 0, 0, 0, 0, 0, 0, 0, 0, 0, 0, 0, 0, 0, 0, 0, 0, 0, 0, 0, 6, 6]
abbrev LQ13 : List Nat := [1, 1, 0, 1, 1, 1, 0, 1, 2, 1, 0, 0, 1, 1, 1, 1, 1, 1, 1, 1, 1, 1, 1, 1, 1, 1, 0, 0, 1, 1, 2, 2, 2, 2, 1, 1, 1, 1, 1, 0, 0, 0, 0, 0, 0, 0, 0, 0, 0, 0, 0, 0, 0, 0, 0, 0, 0, 0, 0, 0, 0, 0, 0, 0, 0, 6, 6]
abbrev LQ14 : List Nat := [1, 1, 0, 1, 1, 1, 0, 1, 2, 1, 0, 0, 1, 1, 1, 1, 1, 1, 1, 1, 1, 1, 1, 1, 1, 1, 0, 0, 1, 1, 2, 2, 2, 2, 1, 1, 1, 1, 1, 1, 0, 0, 0, 0, 0, 0, 0, 0, 0, 0, 0, 0, 0, 0, 0, 0, 0, 0, 0, 0, 0, 0, 0, 0, 0, 6, 6]
abbrev LQ15 : List Nat := [1, 1, 0, 1, 1, 1, 0, 1, 2, 1, 0, 0, 1, 1, 1, 1, 1, 1, 1, 1, 1, 1, 1, 1, 1, 1, 0, 0, 1, 1, 2, 2, 2, 2, 1, 1, 1, 1, 1, 1, 1, 0, 0, 0, 0, 0, 0, 0, 0, 0, 0, 0, 0, 0, 0, 0, 0, 0, 0, 0, 0, 0, 0, 0, 0, 6, 6]
abbrev LQ16 : List Nat := [1, 1, 0, 1, 1, 1, 0, 1, 2, 1, 1, 0, 1, 1, 1, 1, 1, 1, 1, 1, 1, 1, 1, 1, 1, 1, 0, 0, 1, 1, 2, 2, 2, 2, 1, 1, 1, 1, 1, 1, 1, 0, 0, 0, 0, 0, 0, 0, 0, 0, 0, 0, 0, 0, 0, 0, 0, 0, 0, 0, 0, 0, 0, 0, 0, 6, 6]
abbrev LQ17 : List Nat := [1, 1, 0, 1, 1, 1, 0, 1, 3, 1, 1, 0, 1, 1, 1, 1, 1, 1, 1, 1, 1, 1, 1, 1, 1, 1, 0, 0, 1, 1, 3, 3, 3, 3, 1, 1, 1, 1, 1, 1, 1, 0, 0, 0, 0, 0, 0, 0, 0, 0, 0, 0, 0, 0, 0, 0, 0, 0, 0, 0, 0, 0, 0, 0, 0, 6, 6]
abbrev LQ18 : List Nat := [1, 1, 0, 1, 1, 1, 0, 1, 4, 1, 1, 0, 1, 1, 1, 1, 1, 1, 1, 1, 1, 1, 1, 1, 1, 1, 0, 0, 1, 1, 4, 4, 4, 4, 1, 1, 1, 1, 1, 1, 1, 0, 0, 0, 0, 0, 0, 0, 0, 0, 0, 0, 0, 0, 0, 0, 0, 0, 0, 0, 0, 0, 0, 0, 0, 6, 6]
abbrev LQ19 : List Nat := [1, 1, 0, 1, 1, 1, 0, 1, 5, 1, 1, 0, 1, 1, 1, 1, 1, 1, 1, 1, 1, 1, 1, 1, 1, 1, 0, 0, 1, 1, 5, 5, 5, 5, 1, 1, 1, 1, 1, 1, 1, 0, 0, 0, 0, 0, 0, 0, 0, 0, 0, 0, 0, 0, 0, 0, 0, 0, 0, 0, 0, 0, 0, 0, 0, 6, 6]
abbrev LQ20 : List Nat := [1, 1, 0, 1, 1, 1, 0, 1, 6, 1, 1, 0, 1, 1, 1, 1, 1, 1, 1, 1, 1, 1, 1, 1, 1, 1, 0, 0, 1, 1, 6, 6, 6, 6, 1, 1, 1, 1, 1, 1, 1, 0, 0, 0, 0, 0, 0, 0, 0, 0, 0, 0, 0, 0, 0, 0, 0, 0, 0, 0, 0, 0, 0, 0, 0, 6, 6]
abbrev LQ21 : List Nat := [1, 1, 0, 1, 1, 1, 0, 1, 7, 1, 1, 0, 1, 1, 1, 1, 1, 1, 1, 1, 1, 1, 1, 1, 1, 1, 0, 0, 1, 1, 7, 7, 7, 7, 1, 1, 1, 1, 1, 1, 1, 0, 0, 0, 0, 0, 0, 0, 0, 0, 0, 0, 0, 0, 0, 0, 0, 0, 0, 0, 0, 0, 0, 0, 0, 6, 6]
abbrev LQ22 : List Nat := [1, 1, 0, 1, 1, 1, 0, 1, 8, 1, 1, 0, 1, 1, 1, 1, 1, 1, 1, 1, 1, 1, 1, 1, 1, 1, 0, 0, 1, 1, 8, 8, 8, 8, 1, 1, 1, 1, 1, 1, 1, 0, 0, 0, 0, 0, 0, 0, 0, 0, 0, 0, 0, 0, 0, 0, 0, 0, 0, 0, 0, 0, 0, 0, 0, 6, 6]
abbrev LQ23 : List Nat := [1, 1, 0, 1, 1, 1, 0, 1, 9, 1, 1, 0, 1, 1, 1, 1, 1, 1, 1, 1, 1, 1, 1, 1, 1, 1, 0, 0, 1, 1, 9, 9, 9, 9, 1, 1, 1, 1, 1, 1, 1, 0, 0, 0, 0, 0, 0, 0, 0, 0, 0, 0, 0, 0, 0, 0, 0, 0, 0, 0, 0, 0, 0, 0, 0, 6, 6]
abbrev LQ24 : List Nat := [1, 1, 0, 1, 1, 1, 0, 1, 10, 1, 1, 0, 1, 1, 1, 1, 1, 1, 1, 1, 1, 1, 1, 1, 1, 1, 0, 0, 1, 1, 10, 10, 10, 10, 1, 1, 1, 1, 1, 1, 1, 0, 0, 0, 0, 0, 0, 0, 0, 0, 0, 0, 0, 0, 0, 0, 0, 0, 0, 0, 0, 0, 0, 0, 0, 6, 6]
abbrev LQ25 : List Nat := [1, 1, 0, 1, 1, 1, 0, 1, 11, 1, 1, 0, 1, 1, 1, 1, 1, 1, 1, 1, 1, 1, 1, 1, 1, 1, 0, 0, 1, 1, 11, 11, 11, 11, 1, 1, 1, 1, 1, 1, 1, 0, 0, 0, 0, 0, 0, 0, 0, 0, 0, 0, 0, 0, 0, 0, 0, 0, 0, 0, 0, 0, 0, 0, 0, 6, 6]
abbrev LQ26 : List Nat := [1, 1, 0, 1, 1, 1, 0, 1, 12, 1, 1, 0, 1, 1, 1, 1, 1, 1, 1, 1, 1, 1, 1, 1, 1, 1, 0, 0, 1, 1, 12, 12, 12, 12, 1, 1, 1, 1, 1, 1, 1, 0, 0, 0, 0, 0, 0, 0, 0, 0, 0, 0, 0, 0, 0, 0, 0, 0, 0, 0, 0, 0, 0, 0, 0, 6, 6]
abbrev LQ27 : List Nat := [1, 1, 0, 1, 1, 1, 0, 1, 13, 1, 1, 0, 1, 1, 1, 1, 1, 1, 1, 1, 1, 1, 1, 1, 1, 1, 0, 0, 1, 1, 13, 13, 13, 13, 1, 1, 1, 1, 1, 1, 1, 0, 0, 0, 0, 0, 0, 0, 0, 0, 0, 0, 0, 0, 0, 0, 0, 0, 0, 0, 0, 0, 0, 0, 0, 6, 6]
abbrev LQ28 : List Nat := [1, 1, 0, 1, 1, 1, 0, 1, 14, 1, 1, 0, 1, 1, 1, 1, 1, 1, 1, 1, 1, 1, 1, 1, 1, 1, 0, 0, 1, 1, 14, 14, 14, 14, 1, 1, 1, 1, 1, 1, 1, 0, 0, 0, 0, 0, 0, 0, 0, 0, 0, 0, 0, 0, 0, 0, 0, 0, 0, 0, 0, 0, 0, 0, 0, 6, 6]
abbrev LQ29 : List Nat := [1, 1, 0, 1, 1, 1, 0, 1, 15, 1, 1, 0, 1, 1, 1, 1, 1, 1, 1, 1, 1, 1, 1, 1, 1, 1, 0, 0, 1, 1, 15, 15, 15, 15, 1, 1, 1, 1, 1, 1, 1, 0, 0, 0, 0, 0, 0, 0, 0, 0, 0, 0, 0, 0, 0, 0, 0, 0, 0, 0, 0, 0, 0, 0, 0, 6, 6]
abbrev LQ30 : List Nat := [1, 1, 0, 1, 1, 1, 0, 1, 16, 1, 1, 0, 1, 1, 1, 1, 1, 1, 1, 1, 1, 1, 1, 1, 1, 1, 0, 0, 1, 1, 16, 16, 16, 16, 1, 1, 1, 1, 1, 1, 1, 0, 0, 0, 0, 0, 0, 0, 0, 0, 0, 0, 0, 0, 0, 0, 0, 0, 0, 0, 0, 0, 0, 0, 0, 6, 6]
abbrev LQ31 : List Nat := [1, 1, 0, 1, 1, 1, 0, 1, 17, 1, 1, 0, 1, 1, 1, 1, 1, 1, 1, 1, 1, 1, 1, 1, 1, 1, 0, 0, 1, 1, 17, 17, 17, 17, 1, 1, 1, 1, 1, 1, 1, 0, 0, 0, 0, 0, 0, 0, 0, 0, 0, 0, 0, 0, 0, 0, 0, 0, 0, 0, 0, 0, 0, 0, 0, 6, 6]
abbrev LQ32 : List Nat := [1, 1, 0, 1, 1, 1, 0, 1, 18, 1, 1, 0, 1, 1, 1, 1, 1, 1, 1, 1, 1, 1, 1, 1, 1, 1, 0, 0, 1, 1, 18, 18, 18, 18, 1, 1, 1, 1, 1, 1, 1, 0, 0, 0, 0, 0, 0, 0, 0, 0, 0, 0, 0, 0, 0, 0, 0, 0, 0, 0, 0, 0, 0, 0, 0, 6, 6]
abbrev LQ33 : List Nat := [1, 1, 0, 1, 1, 1, 0, 1, 19, 1, 1, 0, 1, 1, 1, 1, 1, 1, 1, 1, 1, 1, 1, 1, 1, 1, 0, 0, 1, 1, 19, 19, 19, 19, 1, 1, 1, 1, 1, 1, 1, 0, 0, 0, 0, 0, 0, 0, 0, 0, 0, 0, 0, 0, 0, 0, 0, 0, 0, 0, 0, 0, 0, 0, 0, 6, 6]
abbrev LQ34 : List Nat := [1, 1, 0, 1, 1, 1, 0, 1, 20, 1, 1, 0, 1, 1, 1, 1, 1, 1, 1, 1, 1, 1, 1, 1, 1, 1, 0, 0, 1, 1, 20, 20, 20, 20, 1, 1, 1, 1, 1, 1, 1, 0, 0, 0, 0, 0, 0, 0, 0, 0, 0, 0, 0, 0, 0, 0, 0, 0, 0, 0, 0, 0, 0, 0, 0, 6, 6]
abbrev LQ35 : List Nat := [1, 1, 0, 1, 1, 1, 0, 1, 21, 1, 1, 0, 1, 1, 1, 1, 1, 1, 1, 1, 1, 1, 1, 1, 1, 1, 0, 0, 1, 1, 21, 21, 21, 21, 1, 1, 1, 1, 1, 1, 1, 0, 0, 0, 0, 0, 0, 0, 0, 0, 0, 0, 0, 0, 0, 0, 0, 0, 0, 0, 0, 0, 0, 0, 0, 6, 6]
abbrev LQ36 : List Nat := [1, 1, 0, 1, 1, 1, 0, 1, 22, 1, 1, 0, 1, 1, 1, 1, 1, 1, 1, 1, 1, 1, 1, 1, 1, 1, 0, 0, 1, 1, 22, 22, 22, 22, 1, 1, 1, 1, 1, 1, 1, 0, 0, 0, 0, 0, 0, 0, 0, 0, 0, 0, 0, 0, 0, 0, 0, 0, 0, 0, 0, 0, 0, 0, 0, 6, 6]
abbrev LQ37 : List Nat := [1, 1, 0, 1, 1, 1, 0, 1, 23, 1, 1, 0, 1, 1, 1, 1, 1, 1, 1, 1, 1, 1, 1, 1, 1, 1, 0, 0, 1, 1, 23, 23, 23, 23, 1, 1, 1, 1, 1, 1, 1, 0, 0, 0, 0, 0, 0, 0, 0, 0, 0, 0, 0, 0, 0, 0, 0, 0, 0, 0, 0, 0, 0, 0, 0, 6, 6]
abbrev LQ38 : List Nat := [1, 1, 0, 1, 2, 1, 0, 1, 23, 1, 1, 0, 1, 1, 1, 1, 1, 1, 1, 1, 1, 1, 2, 2, 2, 1, 0, 0, 1, 1, 23, 23, 23, 23, 1, 1, 1, 1, 1, 1, 1, 0, 0, 0, 0, 0, 0, 0, 0, 0, 0, 0, 0, 0, 0, 0, 0, 0, 0, 0, 0, 0, 0, 0, 0, 6, 6]
abbrev LQ39 : List Nat := [1, 1, 1, 1, 2, 1, 0, 1, 23, 1, 1, 0, 1, 1, 1, 1, 1, 1, 1, 1, 1, 1, 2, 2, 2, 1, 0, 0, 1, 1, 23, 23, 23, 23, 1, 1, 1, 1, 1, 1, 1, 0, 0, 0, 0, 0, 0, 0, 0, 0, 0, 0, 0, 0, 0, 0, 0, 0, 0, 0, 0, 0, 0, 0, 0, 6, 6]
abbrev LQ40 : List Nat := [1, 1, 1, 1, 2, 1, 0, 1, 24, 1, 1, 0, 1, 1, 1, 1, 1, 1, 1, 1, 1, 1, 2, 2, 2, 1, 0, 0, 1, 1, 24, 24, 24, 24, 1, 1, 1, 1, 1, 1, 1, 0, 0, 0, 0, 0, 0, 0, 0, 0, 0, 0, 0, 0, 0, 0, 0, 0, 0, 0, 0, 0, 0, 0, 0, 6, 6]
abbrev LQ41 : List Nat := [1, 1, 1, 1, 3, 1, 0, 1, 24, 1, 1, 0, 1, 1, 1, 1, 1, 1, 1, 1, 1, 1, 3, 3, 3, 1, 0, 0, 1, 1, 24, 24, 24, 24, 1, 1, 1, 1, 1, 1, 1, 0, 0, 0, 0, 0, 0, 0, 0, 0, 0, 0, 0, 0, 0, 0, 0, 0, 0, 0, 0, 0, 0, 0, 0, 6, 6]
abbrev LQ42 : List Nat := [1, 1, 2, 1, 3, 1, 0, 1, 24, 1, 1, 0, 1, 1, 1, 1, 1, 1, 1, 1, 1, 1, 3, 3, 3, 1, 0, 0, 1, 1, 24, 24, 24, 24, 1, 1, 1, 1, 1, 1, 1, 0, 0, 0, 0, 0, 0, 0, 0, 0, 0, 0, 0, 0, 0, 0, 0, 0, 0, 0, 0, 0, 0, 0, 0, 6, 6]
abbrev LQ43 : List Nat := [1, 1, 2, 1, 3, 1, 0, 1, 25, 1, 1, 0, 1, 1, 1, 1, 1, 1, 1, 1, 1, 1, 3, 3, 3, 1, 0, 0, 1, 1, 25, 25, 25, 25, 1, 1, 1, 1, 1, 1, 1, 0, 0, 0, 0, 0, 0, 0, 0, 0, 0, 0, 0, 0, 0, 0, 0, 0, 0, 0, 0, 0, 0, 0, 0, 6, 6]
abbrev LQ44 : List Nat := [1, 1, 2, 1, 4, 1, 0, 1, 25, 1, 1, 0, 1, 1, 1, 1, 1, 1, 1, 1, 1, 1, 4, 4, 4, 1, 0, 0, 1, 1, 25, 25, 25, 25, 1, 1, 1, 1, 1, 1, 1, 0, 0, 0, 0, 0, 0, 0, 0, 0, 0, 0, 0, 0, 0, 0, 0, 0, 0, 0, 0, 0, 0, 0, 0, 6, 6]
abbrev LQ45 : List Nat := [1, 1, 3, 1, 4, 1, 0, 1, 25, 1, 1, 0, 1, 1, 1, 1, 1, 1, 1, 1, 1, 1, 4, 4, 4, 1, 0, 0, 1, 1, 25, 25, 25, 25, 1, 1, 1, 1, 1, 1, 1, 0, 0, 0, 0, 0, 0, 0, 0, 0, 0, 0, 0, 0, 0, 0, 0, 0, 0, 0, 0, 0, 0, 0, 0, 6, 6]
abbrev LQ46 : List Nat := [1, 1, 3, 1, 4, 1, 0, 1, 26, 1, 1, 0, 1, 1, 1, 1, 1, 1, 1, 1, 1, 1, 4, 4, 4, 1, 0, 0, 1, 1, 26, 26, 26, 26, 1, 1, 1, 1, 1, 1, 1, 0, 0, 0, 0, 0, 0, 0, 0, 0, 0, 0, 0, 0, 0, 0, 0, 0, 0, 0, 0, 0, 0, 0, 0, 6, 6]
abbrev LQ47 : List Nat := [1, 1, 3, 1, 5, 1, 0, 1, 26, 1, 1, 0, 1, 1, 1, 1, 1, 1, 1, 1, 1, 1, 5, 5, 5, 1, 0, 0, 1, 1, 26, 26, 26, 26, 1, 1, 1, 1, 1, 1, 1, 0, 0, 0, 0, 0, 0, 0, 0, 0, 0, 0, 0, 0, 0, 0, 0, 0, 0, 0, 0, 0, 0, 0, 0, 6, 6]
abbrev LQ48 : List Nat := [1, 1, 4, 1, 5, 1, 0, 1, 26, 1, 1, 0, 1, 1, 1, 1, 1, 1, 1, 1, 1, 1, 5, 5, 5, 1, 0, 0, 1, 1, 26, 26, 26, 26, 1, 1, 1, 1, 1, 1, 1, 0, 0, 0, 0, 0, 0, 0, 0, 0, 0, 0, 0, 0, 0, 0, 0, 0, 0, 0, 0, 0, 0, 0, 0, 6, 6]
theorem dX3_init_0 : decode cX3_init 0 = .ok (.aload_n 0, 1) := by decide +kernel
theorem dX3_init_1 : decode cX3_init 1 = .ok (.invokespecial 3, 3) := by decide +kernel
theorem dX3_init_4 : decode cX3_init 4 = .ok (.aload_n 0, 1) := by decide +kernel
theorem dX3_init_5 : decode cX3_init 5 = .ok (.iconst 0, 1) := by decide +kernel
theorem dX3_init_6 : decode cX3_init 6 = .ok (.putfield 9, 3) := by decide +kernel
theorem dX3_init_9 : decode cX3_init 9 = .ok (.aload_n 0, 1) := by decide +kernel
theorem dX3_init_10 : decode cX3_init 10 = .ok (.aconst_null, 1) := by decide +kernel
theorem dX3_init_11 : decode cX3_init 11 = .ok (.putfield 15, 3) := by decide +kernel
theorem dX3_init_14 : decode cX3_init 14 = .ok (.aload_n 0, 1) := by decide +kernel
theorem dX3_init_15 : decode cX3_init 15 = .ok (.new 19, 3) := by decide +kernel
theorem dX3_init_18 : decode cX3_init 18 = .ok (.dup, 1) := by decide +kernel
theorem dX3_init_19 : decode cX3_init 19 = .ok (.invokespecial 21, 3) := by decide +kernel
theorem dX3_init_22 : decode cX3_init 22 = .ok (.putfield 22, 3) := by decide +kernel
theorem dX3_init_25 : decode cX3_init 25 = .ok (.aload_n 0, 1) := by decide +kernel
theorem dX3_init_26 : decode cX3_init 26 = .ok (.iconst (-1), 1) := by decide +kernel
theorem dX3_init_27 : decode cX3_init 27 = .ok (.putfield 26, 3) := by decide +kernel
theorem dX3_init_30 : decode cX3_init 30 = .ok (.aload_n 0, 1) := by decide +kernel
theorem dX3_init_31 : decode cX3_init 31 = .ok (.new 30, 3) := by decide +kernel
theorem dX3_init_34 : decode cX3_init 34 = .ok (.dup, 1) := by decide +kernel
theorem dX3_init_35 : decode cX3_init 35 = .ok (.invokespecial 32, 3) := by decide +kernel
theorem dX3_init_38 : decode cX3_init 38 = .ok (.putfield 33, 3) := by decide +kernel
theorem dX3_init_41 : decode cX3_init 41 = .ok (.aload_n 0, 1) := by decide +kernel
theorem dX3_init_42 : decode cX3_init 42 = .ok (.iconst 0, 1) := by decide +kernel
theorem dX3_init_43 : decode cX3_init 43 = .ok (.putfield 37, 3) := by decide +kernel
theorem dX3_init_46 : decode cX3_init 46 = .ok (.return_, 1) := by decide +kernel
set_option maxRecDepth 100000 in
set_option maxHeartbeats 40000000 in
theorem i_X3_init_0 (l : Launch) (D : va_G) (A : Nat → Prop) (ad : Nat → Nat → Nat) (cy : Nat → ClassId) (Y : va_W) (a : Nat) : Met l yX3_init (.code yX3_init cX3_init 1 none :: lw_ok) { frames := 2, cells := 9, slots := 64, locals := 32 } (va_Pc [.ref a] (XIp D A ad cy (lk LQ36) Y (wB 0) a 2 [.int 0, .null, .null, .int 0, .null, .int 0])) (XIq D A ad cy (lk LQ36) Y a 2 0 (lk LQ39) (sI (wB 0) 2 0 3 (-1))) 9 64 A := by
  refine Met.ofW (cc := cX3_init) (maxL := 1) (ret := none) (by decide) rfl ?_
  intro p e s m args below meth c s₁ B hml hv
  obtain ⟨rfl, hA, hX, hO, hK, hG, hZ⟩ := hv
  have hx := B.exec
  have hb := B.bytes
  have hr := B.returns
  have hts := atoms_spec (ws := .code yX3_init cX3_init 1 none :: lw_ok) B.pre
  have hin : ∀ w ∈ lw_ok, w ∈ (Cond.code yX3_init cX3_init 1 none :: lw_ok) := fun w h => List.mem_cons_of_mem _ h
  have hown : s.vm.findClass RX3 = some m.cls := findClass_of_methodNamed B.named
  have hlocks := B.notSynchronized
  have hin2 : meth.name = "<init>" := (name_of_methodNamed B.named B.method).1
  have hS : va_S A s.heap s.heap [] := va_S.rf
  have hl := lv_entry ([.ref a]) (n := 1) (Nat.le_of_ble_eq_true rfl)
  rw [lg_entry_eq]
  generalize (lg_sl ([.ref a]) ++ List.replicate (1 - (lg_sl ([.ref a])).length) Slot.unset).toArray = ls at hl ⊢
  have hl : lv_has ls 1 [(0, .ref a)] := hl
  refine lv_aload_n hx hb dX3_init_0 rfl (lv_at hl 0 rfl) ?_
  refine W.objInit hx hb hown (hts _ (hin _ wt_286)) (hts _ (hin _ wt_28)) (hts _ (hin _ wobj)) rfl (by rw [hml]; exact hl.1) rfl dX3_init_1 (Nat.le_of_ble_eq_true rfl) (Nat.le_of_ble_eq_true rfl) ?_
  refine W.eq (g2 := F0 m 4 ls []) rfl ?_
  refine lv_aload_n hx hb dX3_init_4 rfl (lv_at hl 0 rfl) ?_
  refine lv_iconst (v := 0) hx hb dX3_init_5 (by decide) ?_
  refine r_put hx hb hts hin xk_2 hown hK hX hS (k := 0) (v := .int 0) (by decide) rfl wt_291 rfl (tyX3_ok 0 (by decide)) rfl rfl (Nat.le_of_ble_eq_true rfl) dX3_init_6 (fun H locs hX hS => ?_)
  have hX : XX D A ad cy (lk LQ36) ((a, .inr (2, [.int 0, .null, .null, .int 0, .null, .int 0])) :: Y) (wB 0) H := hX
  refine lv_aload_n hx hb dX3_init_9 rfl (lv_at hl 0 rfl) ?_
  refine lv_null hx hb dX3_init_10 ?_
  refine r_put hx hb hts hin xk_2 hown hK hX hS (k := 1) (v := .null) (by decide) rfl wt_293 rfl (tyX3_ok 1 (by decide)) rfl rfl (Nat.le_of_ble_eq_true rfl) dX3_init_11 (fun H locs hX hS => ?_)
  have hX : XX D A ad cy (lk LQ36) ((a, .inr (2, [.int 0, .null, .null, .int 0, .null, .int 0])) :: Y) (wB 0) H := hX
  refine lv_aload_n hx hb dX3_init_14 rfl (lv_at hl 0 rfl) ?_
  refine r_new hx hb hts hin xk_8 hown wt_287 wt_168 wt_5 hK hX hS hA (fs := [.int 0, .int 0, .null, .null, .null, .null]) (by decide +kernel) (Nat.le_of_ble_eq_true rfl) (Nat.le_of_ble_eq_true rfl) dX3_init_15 (fun b1 H hX hS => ?_)
  refine lv_dup hx hb dX3_init_18 rfl ?_
  refine ri_call (va_runIN (As := []) (rest := [.ref b1, .ref a]) (b := b1) (g := F0 m 19 ls (.ref b1 :: [.ref b1, .ref a])) (nL := 1) (host := "WinterKeep") ⟨hx, hb, hml, hown, hts⟩ (i_X9_init l D A ad cy (lk LQ36) ((a, .inr (2, [.int 0, .null, .null, .int 0, .null, .int 0])) :: Y) (wB 0) b1 rfl rfl rfl rfl) ⟨va_cnB 0 hts (lw_okg wt_171) rfl rfl rfl (hZ.2.2.2.2 (RX3, 21, yX9_init) (List.mem_of_getElem? (i := 9) rfl)) (hts _ (hin _ wt_5)) (by decide +kernel) ⟨Nat.le_of_ble_eq_true rfl, Nat.le_of_ble_eq_true rfl⟩, rfl, hts _ (hin _ wt_170)⟩ ⟨xip_blind, fun U hU hW => ⟨rfl, fun q h => hA q (Nat.le_trans hS.1 (by rw [← hU]; exact h)), by rw [hU]; exact hX, hO, va_K.moved hW.alike hK, hG, xz_to (xz_ad (cnt := fun _ => 0) hZ ⟨fun _ _ h => absurd h (Nat.not_lt_zero _), rfl, rfl⟩) hU hW hS⟩⟩ rfl rfl hl.1 rfl (lv_room (Nat.le_of_ble_eq_true rfl)) dX3_init_19 ⟨Nat.le_of_ble_eq_true rfl, Nat.le_of_ble_eq_true rfl⟩) hS (fun ad1 H locs hT1 hq1 hX hG hO hS => ?_)
  rw [cup_lk (k := 30) (v := 22) rfl rfl] at hX hG hO
  rw [cup_lk (k := 31) (v := 22) rfl rfl] at hX hG hO
  rw [cup_lk (k := 32) (v := 22) rfl rfl] at hX hG hO
  rw [cup_lk (k := 33) (v := 22) rfl rfl] at hX hG hO
  rw [cup_lk (k := 8) (v := 22) rfl rfl] at hX hG hO
  rw [show wz (wB 0) 30 ((lk LQ36) 8) = (wB 0) from wz_id rfl rfl rfl] at hX hO
  rw [show wz (wB 0) 31 ((lk LQ36) 8) = (wB 0) from wz_id rfl rfl rfl] at hX hO
  rw [show wz (wB 0) 32 ((lk LQ36) 8) = (wB 0) from wz_id rfl rfl rfl] at hX hO
  rw [show wz (wB 0) 33 ((lk LQ36) 8) = (wB 0) from wz_id rfl rfl rfl] at hX hO
  rw [show wz (wB 0) 8 ((lk LQ36) 8) = (wB 0) from wz_id rfl rfl rfl] at hX hO
  have hX : XX D A ad1 cy (lk LQ37) ((a, .inr (2, [.int 0, .null, .null, .int 0, .null, .int 0])) :: Y) (wB 0) H := hX
  have hG : XG ad1 (lk LQ37) := hG
  have hO : XD (lk LQ37) (wB 0) := hO
  refine r_putF hx hb hts hin xk_2 hown hK hX hS (k := 2) (v := .ref b1) (by decide) rfl wt_295 rfl hin2 rfl (tyX3_ok 2 (by decide)) rfl rfl (Nat.le_of_ble_eq_true rfl) dX3_init_22 (fun H locs hX hS => ?_)
  have hX : XX D A ad1 cy (lk LQ37) ((a, .inr (2, [.int 0, .null, .ref b1, .int 0, .null, .int 0])) :: Y) (wB 0) H := hX
  refine lv_aload_n hx hb dX3_init_25 rfl (lv_at hl 0 rfl) ?_
  refine lv_iconst (v := (-1)) hx hb dX3_init_26 (by decide) ?_
  refine r_put hx hb hts hin xk_2 hown hK hX hS (k := 3) (v := .int (-1)) (by decide) rfl wt_297 rfl (tyX3_ok 3 (by decide)) rfl rfl (Nat.le_of_ble_eq_true rfl) dX3_init_27 (fun H locs hX hS => ?_)
  have hX : XX D A ad1 cy (lk LQ37) ((a, .inr (2, [.int 0, .null, .ref b1, .int (-1), .null, .int 0])) :: Y) (wB 0) H := hX
  refine lv_aload_n hx hb dX3_init_30 rfl (lv_at hl 0 rfl) ?_
  refine r_new hx hb hts hin xk_4 hown wt_289 wt_260 wt_9 hK hX hS hA (fs := [.int 0, .null, .null, .null]) (by decide +kernel) (Nat.le_of_ble_eq_true rfl) (Nat.le_of_ble_eq_true rfl) dX3_init_31 (fun b2 H hX hS => ?_)
  refine lv_dup hx hb dX3_init_34 rfl ?_
  refine ri_call (va_runIN (As := []) (rest := [.ref b2, .ref a]) (b := b2) (g := F0 m 35 ls (.ref b2 :: [.ref b2, .ref a])) (nL := 1) (host := "WinterKeep") ⟨hx, hb, hml, hown, hts⟩ (i_X5_init l D A ad1 cy (lk LQ37) ((a, .inr (2, [.int 0, .null, .ref b1, .int (-1), .null, .int 0])) :: Y) (wB 0) b2 rfl rfl rfl) ⟨va_cnB 0 hts (lw_okg wt_263) rfl rfl rfl (hZ.2.2.2.2 (RX3, 32, yX5_init) (List.mem_of_getElem? (i := 10) rfl)) (hts _ (hin _ wt_9)) (by decide +kernel) ⟨Nat.le_of_ble_eq_true rfl, Nat.le_of_ble_eq_true rfl⟩, rfl, hts _ (hin _ wt_262)⟩ ⟨xip_blind, fun U hU hW => ⟨rfl, fun q h => hA q (Nat.le_trans hS.1 (by rw [← hU]; exact h)), by rw [hU]; exact hX, hO, va_K.moved hW.alike hK, hG, xz_to (xz_ad (cnt := fun _ => 0) hZ ⟨fun _ _ h => absurd h (Nat.not_lt_zero _), hT1.2.1, hT1.2.2⟩) hU hW hS⟩⟩ rfl rfl hl.1 rfl (lv_room (Nat.le_of_ble_eq_true rfl)) dX3_init_35 ⟨Nat.le_of_ble_eq_true rfl, Nat.le_of_ble_eq_true rfl⟩) hS (fun ad2 H locs hT2 hq2 hX hG hO hS => ?_)
  rw [cup_lk (k := 22) (v := 1) rfl rfl] at hX hG hO
  rw [cup_lk (k := 23) (v := 1) rfl rfl] at hX hG hO
  rw [cup_lk (k := 24) (v := 1) rfl rfl] at hX hG hO
  rw [cup_lk (k := 4) (v := 1) rfl rfl] at hX hG hO
  rw [show wz (wB 0) 22 ((lk LQ37) 4) = (wB 0) from wz_id rfl rfl rfl] at hX hO
  rw [show wz (wB 0) 23 ((lk LQ37) 4) = (wB 0) from wz_id rfl rfl rfl] at hX hO
  rw [show wz (wB 0) 24 ((lk LQ37) 4) = (wB 0) from wz_id rfl rfl rfl] at hX hO
  rw [show wz (wB 0) 4 ((lk LQ37) 4) = (wB 0) from wz_id rfl rfl rfl] at hX hO
  have hX : XX D A ad2 cy (lk LQ38) ((a, .inr (2, [.int 0, .null, .ref b1, .int (-1), .null, .int 0])) :: Y) (wB 0) H := hX
  have hG : XG ad2 (lk LQ38) := hG
  have hO : XD (lk LQ38) (wB 0) := hO
  refine r_putF hx hb hts hin xk_2 hown hK hX hS (k := 4) (v := .ref b2) (by decide) rfl wt_299 rfl hin2 rfl (tyX3_ok 4 (by decide)) rfl rfl (Nat.le_of_ble_eq_true rfl) dX3_init_38 (fun H locs hX hS => ?_)
  have hX : XX D A ad2 cy (lk LQ38) ((a, .inr (2, [.int 0, .null, .ref b1, .int (-1), .ref b2, .int 0])) :: Y) (wB 0) H := hX
  refine lv_aload_n hx hb dX3_init_41 rfl (lv_at hl 0 rfl) ?_
  refine lv_iconst (v := 0) hx hb dX3_init_42 (by decide) ?_
  refine r_put hx hb hts hin xk_2 hown hK hX hS (k := 5) (v := .int 0) (by decide) rfl wt_301 rfl (tyX3_ok 5 (by decide)) rfl rfl (Nat.le_of_ble_eq_true rfl) dX3_init_43 (fun H locs hX hS => ?_)
  have hX : XX D A ad2 cy (lk LQ38) ((a, .inr (2, [.int 0, .null, .ref b1, .int (-1), .ref b2, .int 0])) :: Y) (wB 0) H := hX
  have qq1 : ad2 8 22 = b1 := ((hT2.1 8 22 (show 22 < lk LQ37 8 by decide +kernel)).trans hq1)
  have qq2 : ad2 4 1 = b2 := hq2
  obtain ⟨hX1, hfr⟩ := xx_sealn (κ := 2) (n0 := 0) (w' := (sI (wB 0) 2 0 3 (-1))) (cnt := (lk LQ38)) rfl hG hO hX (by
      rw [xcell_o (by decide)]
      generalize hwv : (sI (wB 0) 2 0 3 (-1)) = wv
      generalize hav : adup ad2 2 0 a = av
      refine congrArg (fun z => Sum.inr (2, z)) ?_
      show ([.int 0, .null, .ref b1, .int (-1), .ref b2, .int 0] : List Value) = [.int (gI wv 2 0 0), va_rf ((gR wv 2 0 1).map (av 1)), .ref (av 8 22), .int (gI wv 2 0 3), .ref (av 4 1), .int (gI wv 2 0 5)]
      have ev1 : av 8 22 = b1 := by rw [← hav]; exact (adup_ne (fun h => absurd h.1 (by decide))).trans qq1
      have ev2 : av 4 1 = b2 := by rw [← hav]; exact (adup_ne (fun h => absurd h.1 (by decide))).trans qq2
      have hI0 : gI wv 2 0 0 = 0 := by rw [← hwv]; rfl
      have hI3 : gI wv 2 0 3 = (-1) := by rw [← hwv]; rfl
      have hI5 : gI wv 2 0 5 = 0 := by rw [← hwv]; rfl
      have hR1 : gR wv 2 0 1 = none := by rw [← hwv]; rfl
      simp only [ev1, ev2, hI0, hI3, hI5, hR1, Option.map_some, Option.map_none]
      try rfl) (fun κ' i' h => by
        have hne : ¬ (κ' = 2 ∧ i' = 0) := fun z => by rw [z.1, z.2] at h; exact absurd h (by decide)
        refine ⟨?_, rfl, ?_, rfl⟩
        · first | rfl | (rw [gI_sI_ne hne]) | (rw [gI_sI_ne hne, gI_sI_ne hne]) | (simp only [gI_sR]; first | rfl | rw [gI_sI_ne hne] | rw [gI_sI_ne hne, gI_sI_ne hne])
        · first | rfl | (rw [gR_sR_ne hne]; rfl))
  have hG1 : XG (adup ad2 2 0 a) (cup (lk LQ38) 2) := xg_cup (κ := 2) (q := a) (cnt := (lk LQ38)) hG (by decide) hfr (fun k c0 h1 h2 => by
    have hm : c0 ∈ ((xcl[2]?).getD []) := List.mem_of_getElem? (xfc_at h1)
    have hall : ∀ c0 ∈ ((xcl[2]?).getD []), c0.1 = 3 → xser c0.2.2.1 c0.2.2.2 0 < (lk LQ39) c0.2.1 := by decide +kernel
    rw [cup_lk (k := 2) (v := 0) rfl rfl]
    exact hall c0 hm h2)
  have hO1 : XD (cup (lk LQ38) 2) (sI (wB 0) 2 0 3 (-1)) := xd_cup hO (fun κ' i' h => by
      have hne : ¬ (κ' = 2 ∧ i' = 0) := fun z => by rw [z.1, z.2] at h; exact absurd h (by decide)
      first | rfl | (rw [gR_sR_ne hne]; rfl)) (fun k c0 j h1 h2 h3 => by
      exact absurd (show (none : Option Nat) = some j from h3) (fun h => by cases h)) (fun a0 k j h1 h2 h3 => by
      exact absurd h1 (by unfold xac; rw [if_pos (by decide)]; exact fun h => by cases h))
  have hT3 : XT0 ad2 (lk LQ38) (adup ad2 2 0 a) := xt0_up (cnt := (lk LQ38)) (κ := 2) (by decide)
  have hq3 : adup ad2 2 0 a 2 0 = a := adup_self
  rw [cup_lk (k := 2) (v := 0) rfl rfl] at hX1 hG1 hO1
  generalize had3 : adup ad2 2 0 a = ad3 at hX1 hG1 hO1 hT3 hq3
  have hX : XX D A ad3 cy (lk LQ39) Y (sI (wB 0) 2 0 3 (-1)) H := hX1
  have hG : XG ad3 (lk LQ39) := hG1
  have hO : XD (lk LQ39) (sI (wB 0) 2 0 3 (-1)) := hO1
  have hTF : XT0 ad (lk LQ36) ad3 := (xt0_tr (lk_le (by decide +kernel)) (xt0_tr (lk_le (by decide +kernel)) hT1 hT2) hT3)
  exact W.vret hx hb hr (fun t ht hW => ⟨⟨rfl, _, hTF, hq3, by rw [ht]; exact hX, hO, hG⟩, hS.F ht⟩) hS.2.2 dX3_init_46

set_option maxRecDepth 100000 in
set_option maxHeartbeats 40000000 in
theorem i_X3_init_1 (l : Launch) (D : va_G) (A : Nat → Prop) (ad : Nat → Nat → Nat) (cy : Nat → ClassId) (Y : va_W) (a : Nat) : Met l yX3_init (.code yX3_init cX3_init 1 none :: lw_ok) { frames := 2, cells := 9, slots := 64, locals := 32 } (va_Pc [.ref a] (XIp D A ad cy (lk LQ39) Y (wB 1) a 2 [.int 0, .null, .null, .int 0, .null, .int 0])) (XIq D A ad cy (lk LQ39) Y a 2 1 (lk LQ42) (sI (wB 1) 2 1 3 (-1))) 9 64 A := by
  refine Met.ofW (cc := cX3_init) (maxL := 1) (ret := none) (by decide) rfl ?_
  intro p e s m args below meth c s₁ B hml hv
  obtain ⟨rfl, hA, hX, hO, hK, hG, hZ⟩ := hv
  have hx := B.exec
  have hb := B.bytes
  have hr := B.returns
  have hts := atoms_spec (ws := .code yX3_init cX3_init 1 none :: lw_ok) B.pre
  have hin : ∀ w ∈ lw_ok, w ∈ (Cond.code yX3_init cX3_init 1 none :: lw_ok) := fun w h => List.mem_cons_of_mem _ h
  have hown : s.vm.findClass RX3 = some m.cls := findClass_of_methodNamed B.named
  have hlocks := B.notSynchronized
  have hin2 : meth.name = "<init>" := (name_of_methodNamed B.named B.method).1
  have hS : va_S A s.heap s.heap [] := va_S.rf
  have hl := lv_entry ([.ref a]) (n := 1) (Nat.le_of_ble_eq_true rfl)
  rw [lg_entry_eq]
  generalize (lg_sl ([.ref a]) ++ List.replicate (1 - (lg_sl ([.ref a])).length) Slot.unset).toArray = ls at hl ⊢
  have hl : lv_has ls 1 [(0, .ref a)] := hl
  refine lv_aload_n hx hb dX3_init_0 rfl (lv_at hl 0 rfl) ?_
  refine W.objInit hx hb hown (hts _ (hin _ wt_286)) (hts _ (hin _ wt_28)) (hts _ (hin _ wobj)) rfl (by rw [hml]; exact hl.1) rfl dX3_init_1 (Nat.le_of_ble_eq_true rfl) (Nat.le_of_ble_eq_true rfl) ?_
  refine W.eq (g2 := F0 m 4 ls []) rfl ?_
  refine lv_aload_n hx hb dX3_init_4 rfl (lv_at hl 0 rfl) ?_
  refine lv_iconst (v := 0) hx hb dX3_init_5 (by decide) ?_
  refine r_put hx hb hts hin xk_2 hown hK hX hS (k := 0) (v := .int 0) (by decide) rfl wt_291 rfl (tyX3_ok 0 (by decide)) rfl rfl (Nat.le_of_ble_eq_true rfl) dX3_init_6 (fun H locs hX hS => ?_)
  have hX : XX D A ad cy (lk LQ39) ((a, .inr (2, [.int 0, .null, .null, .int 0, .null, .int 0])) :: Y) (wB 1) H := hX
  refine lv_aload_n hx hb dX3_init_9 rfl (lv_at hl 0 rfl) ?_
  refine lv_null hx hb dX3_init_10 ?_
  refine r_put hx hb hts hin xk_2 hown hK hX hS (k := 1) (v := .null) (by decide) rfl wt_293 rfl (tyX3_ok 1 (by decide)) rfl rfl (Nat.le_of_ble_eq_true rfl) dX3_init_11 (fun H locs hX hS => ?_)
  have hX : XX D A ad cy (lk LQ39) ((a, .inr (2, [.int 0, .null, .null, .int 0, .null, .int 0])) :: Y) (wB 1) H := hX
  refine lv_aload_n hx hb dX3_init_14 rfl (lv_at hl 0 rfl) ?_
  refine r_new hx hb hts hin xk_8 hown wt_287 wt_168 wt_5 hK hX hS hA (fs := [.int 0, .int 0, .null, .null, .null, .null]) (by decide +kernel) (Nat.le_of_ble_eq_true rfl) (Nat.le_of_ble_eq_true rfl) dX3_init_15 (fun b1 H hX hS => ?_)
  refine lv_dup hx hb dX3_init_18 rfl ?_
  refine ri_call (va_runIN (As := []) (rest := [.ref b1, .ref a]) (b := b1) (g := F0 m 19 ls (.ref b1 :: [.ref b1, .ref a])) (nL := 1) (host := "WinterKeep") ⟨hx, hb, hml, hown, hts⟩ (i_X9_init l D A ad cy (lk LQ39) ((a, .inr (2, [.int 0, .null, .null, .int 0, .null, .int 0])) :: Y) (wB 1) b1 rfl rfl rfl rfl) ⟨va_cnB 0 hts (lw_okg wt_171) rfl rfl rfl (hZ.2.2.2.2 (RX3, 21, yX9_init) (List.mem_of_getElem? (i := 9) rfl)) (hts _ (hin _ wt_5)) (by decide +kernel) ⟨Nat.le_of_ble_eq_true rfl, Nat.le_of_ble_eq_true rfl⟩, rfl, hts _ (hin _ wt_170)⟩ ⟨xip_blind, fun U hU hW => ⟨rfl, fun q h => hA q (Nat.le_trans hS.1 (by rw [← hU]; exact h)), by rw [hU]; exact hX, hO, va_K.moved hW.alike hK, hG, xz_to (xz_ad (cnt := fun _ => 0) hZ ⟨fun _ _ h => absurd h (Nat.not_lt_zero _), rfl, rfl⟩) hU hW hS⟩⟩ rfl rfl hl.1 rfl (lv_room (Nat.le_of_ble_eq_true rfl)) dX3_init_19 ⟨Nat.le_of_ble_eq_true rfl, Nat.le_of_ble_eq_true rfl⟩) hS (fun ad1 H locs hT1 hq1 hX hG hO hS => ?_)
  rw [cup_lk (k := 30) (v := 23) rfl rfl] at hX hG hO
  rw [cup_lk (k := 31) (v := 23) rfl rfl] at hX hG hO
  rw [cup_lk (k := 32) (v := 23) rfl rfl] at hX hG hO
  rw [cup_lk (k := 33) (v := 23) rfl rfl] at hX hG hO
  rw [cup_lk (k := 8) (v := 23) rfl rfl] at hX hG hO
  rw [show wz (wB 1) 30 ((lk LQ39) 8) = (wB 1) from wz_id rfl rfl rfl] at hX hO
  rw [show wz (wB 1) 31 ((lk LQ39) 8) = (wB 1) from wz_id rfl rfl rfl] at hX hO
  rw [show wz (wB 1) 32 ((lk LQ39) 8) = (wB 1) from wz_id rfl rfl rfl] at hX hO
  rw [show wz (wB 1) 33 ((lk LQ39) 8) = (wB 1) from wz_id rfl rfl rfl] at hX hO
  rw [show wz (wB 1) 8 ((lk LQ39) 8) = (wB 1) from wz_id rfl rfl rfl] at hX hO
  have hX : XX D A ad1 cy (lk LQ40) ((a, .inr (2, [.int 0, .null, .null, .int 0, .null, .int 0])) :: Y) (wB 1) H := hX
  have hG : XG ad1 (lk LQ40) := hG
  have hO : XD (lk LQ40) (wB 1) := hO
  refine r_putF hx hb hts hin xk_2 hown hK hX hS (k := 2) (v := .ref b1) (by decide) rfl wt_295 rfl hin2 rfl (tyX3_ok 2 (by decide)) rfl rfl (Nat.le_of_ble_eq_true rfl) dX3_init_22 (fun H locs hX hS => ?_)
  have hX : XX D A ad1 cy (lk LQ40) ((a, .inr (2, [.int 0, .null, .ref b1, .int 0, .null, .int 0])) :: Y) (wB 1) H := hX
  refine lv_aload_n hx hb dX3_init_25 rfl (lv_at hl 0 rfl) ?_
  refine lv_iconst (v := (-1)) hx hb dX3_init_26 (by decide) ?_
  refine r_put hx hb hts hin xk_2 hown hK hX hS (k := 3) (v := .int (-1)) (by decide) rfl wt_297 rfl (tyX3_ok 3 (by decide)) rfl rfl (Nat.le_of_ble_eq_true rfl) dX3_init_27 (fun H locs hX hS => ?_)
  have hX : XX D A ad1 cy (lk LQ40) ((a, .inr (2, [.int 0, .null, .ref b1, .int (-1), .null, .int 0])) :: Y) (wB 1) H := hX
  refine lv_aload_n hx hb dX3_init_30 rfl (lv_at hl 0 rfl) ?_
  refine r_new hx hb hts hin xk_4 hown wt_289 wt_260 wt_9 hK hX hS hA (fs := [.int 0, .null, .null, .null]) (by decide +kernel) (Nat.le_of_ble_eq_true rfl) (Nat.le_of_ble_eq_true rfl) dX3_init_31 (fun b2 H hX hS => ?_)
  refine lv_dup hx hb dX3_init_34 rfl ?_
  refine ri_call (va_runIN (As := []) (rest := [.ref b2, .ref a]) (b := b2) (g := F0 m 35 ls (.ref b2 :: [.ref b2, .ref a])) (nL := 1) (host := "WinterKeep") ⟨hx, hb, hml, hown, hts⟩ (i_X5_init l D A ad1 cy (lk LQ40) ((a, .inr (2, [.int 0, .null, .ref b1, .int (-1), .null, .int 0])) :: Y) (wB 1) b2 rfl rfl rfl) ⟨va_cnB 0 hts (lw_okg wt_263) rfl rfl rfl (hZ.2.2.2.2 (RX3, 32, yX5_init) (List.mem_of_getElem? (i := 10) rfl)) (hts _ (hin _ wt_9)) (by decide +kernel) ⟨Nat.le_of_ble_eq_true rfl, Nat.le_of_ble_eq_true rfl⟩, rfl, hts _ (hin _ wt_262)⟩ ⟨xip_blind, fun U hU hW => ⟨rfl, fun q h => hA q (Nat.le_trans hS.1 (by rw [← hU]; exact h)), by rw [hU]; exact hX, hO, va_K.moved hW.alike hK, hG, xz_to (xz_ad (cnt := fun _ => 0) hZ ⟨fun _ _ h => absurd h (Nat.not_lt_zero _), hT1.2.1, hT1.2.2⟩) hU hW hS⟩⟩ rfl rfl hl.1 rfl (lv_room (Nat.le_of_ble_eq_true rfl)) dX3_init_35 ⟨Nat.le_of_ble_eq_true rfl, Nat.le_of_ble_eq_true rfl⟩) hS (fun ad2 H locs hT2 hq2 hX hG hO hS => ?_)
  rw [cup_lk (k := 22) (v := 2) rfl rfl] at hX hG hO
  rw [cup_lk (k := 23) (v := 2) rfl rfl] at hX hG hO
  rw [cup_lk (k := 24) (v := 2) rfl rfl] at hX hG hO
  rw [cup_lk (k := 4) (v := 2) rfl rfl] at hX hG hO
  rw [show wz (wB 1) 22 ((lk LQ40) 4) = (wB 1) from wz_id rfl rfl rfl] at hX hO
  rw [show wz (wB 1) 23 ((lk LQ40) 4) = (wB 1) from wz_id rfl rfl rfl] at hX hO
  rw [show wz (wB 1) 24 ((lk LQ40) 4) = (wB 1) from wz_id rfl rfl rfl] at hX hO
  rw [show wz (wB 1) 4 ((lk LQ40) 4) = (wB 1) from wz_id rfl rfl rfl] at hX hO
  have hX : XX D A ad2 cy (lk LQ41) ((a, .inr (2, [.int 0, .null, .ref b1, .int (-1), .null, .int 0])) :: Y) (wB 1) H := hX
  have hG : XG ad2 (lk LQ41) := hG
  have hO : XD (lk LQ41) (wB 1) := hO
  refine r_putF hx hb hts hin xk_2 hown hK hX hS (k := 4) (v := .ref b2) (by decide) rfl wt_299 rfl hin2 rfl (tyX3_ok 4 (by decide)) rfl rfl (Nat.le_of_ble_eq_true rfl) dX3_init_38 (fun H locs hX hS => ?_)
  have hX : XX D A ad2 cy (lk LQ41) ((a, .inr (2, [.int 0, .null, .ref b1, .int (-1), .ref b2, .int 0])) :: Y) (wB 1) H := hX
  refine lv_aload_n hx hb dX3_init_41 rfl (lv_at hl 0 rfl) ?_
  refine lv_iconst (v := 0) hx hb dX3_init_42 (by decide) ?_
  refine r_put hx hb hts hin xk_2 hown hK hX hS (k := 5) (v := .int 0) (by decide) rfl wt_301 rfl (tyX3_ok 5 (by decide)) rfl rfl (Nat.le_of_ble_eq_true rfl) dX3_init_43 (fun H locs hX hS => ?_)
  have hX : XX D A ad2 cy (lk LQ41) ((a, .inr (2, [.int 0, .null, .ref b1, .int (-1), .ref b2, .int 0])) :: Y) (wB 1) H := hX
  have qq1 : ad2 8 23 = b1 := ((hT2.1 8 23 (show 23 < lk LQ40 8 by decide +kernel)).trans hq1)
  have qq2 : ad2 4 2 = b2 := hq2
  obtain ⟨hX1, hfr⟩ := xx_sealn (κ := 2) (n0 := 1) (w' := (sI (wB 1) 2 1 3 (-1))) (cnt := (lk LQ41)) rfl hG hO hX (by
      rw [xcell_o (by decide)]
      generalize hwv : (sI (wB 1) 2 1 3 (-1)) = wv
      generalize hav : adup ad2 2 1 a = av
      refine congrArg (fun z => Sum.inr (2, z)) ?_
      show ([.int 0, .null, .ref b1, .int (-1), .ref b2, .int 0] : List Value) = [.int (gI wv 2 1 0), va_rf ((gR wv 2 1 1).map (av 1)), .ref (av 8 23), .int (gI wv 2 1 3), .ref (av 4 2), .int (gI wv 2 1 5)]
      have ev1 : av 8 23 = b1 := by rw [← hav]; exact (adup_ne (fun h => absurd h.1 (by decide))).trans qq1
      have ev2 : av 4 2 = b2 := by rw [← hav]; exact (adup_ne (fun h => absurd h.1 (by decide))).trans qq2
      have hI0 : gI wv 2 1 0 = 0 := by rw [← hwv]; rfl
      have hI3 : gI wv 2 1 3 = (-1) := by rw [← hwv]; rfl
      have hI5 : gI wv 2 1 5 = 0 := by rw [← hwv]; rfl
      have hR1 : gR wv 2 1 1 = none := by rw [← hwv]; rfl
      simp only [ev1, ev2, hI0, hI3, hI5, hR1, Option.map_some, Option.map_none]
      try rfl) (fun κ' i' h => by
        have hne : ¬ (κ' = 2 ∧ i' = 1) := fun z => by rw [z.1, z.2] at h; exact absurd h (by decide)
        refine ⟨?_, rfl, ?_, rfl⟩
        · first | rfl | (rw [gI_sI_ne hne]) | (rw [gI_sI_ne hne, gI_sI_ne hne]) | (simp only [gI_sR]; first | rfl | rw [gI_sI_ne hne] | rw [gI_sI_ne hne, gI_sI_ne hne])
        · first | rfl | (rw [gR_sR_ne hne]; rfl))
  have hG1 : XG (adup ad2 2 1 a) (cup (lk LQ41) 2) := xg_cup (κ := 2) (q := a) (cnt := (lk LQ41)) hG (by decide) hfr (fun k c0 h1 h2 => by
    have hm : c0 ∈ ((xcl[2]?).getD []) := List.mem_of_getElem? (xfc_at h1)
    have hall : ∀ c0 ∈ ((xcl[2]?).getD []), c0.1 = 3 → xser c0.2.2.1 c0.2.2.2 1 < (lk LQ42) c0.2.1 := by decide +kernel
    rw [cup_lk (k := 2) (v := 1) rfl rfl]
    exact hall c0 hm h2)
  have hO1 : XD (cup (lk LQ41) 2) (sI (wB 1) 2 1 3 (-1)) := xd_cup hO (fun κ' i' h => by
      have hne : ¬ (κ' = 2 ∧ i' = 1) := fun z => by rw [z.1, z.2] at h; exact absurd h (by decide)
      first | rfl | (rw [gR_sR_ne hne]; rfl)) (fun k c0 j h1 h2 h3 => by
      exact absurd (show (none : Option Nat) = some j from h3) (fun h => by cases h)) (fun a0 k j h1 h2 h3 => by
      exact absurd h1 (by unfold xac; rw [if_pos (by decide)]; exact fun h => by cases h))
  have hT3 : XT0 ad2 (lk LQ41) (adup ad2 2 1 a) := xt0_up (cnt := (lk LQ41)) (κ := 2) (by decide)
  have hq3 : adup ad2 2 1 a 2 1 = a := adup_self
  rw [cup_lk (k := 2) (v := 1) rfl rfl] at hX1 hG1 hO1
  generalize had3 : adup ad2 2 1 a = ad3 at hX1 hG1 hO1 hT3 hq3
  have hX : XX D A ad3 cy (lk LQ42) Y (sI (wB 1) 2 1 3 (-1)) H := hX1
  have hG : XG ad3 (lk LQ42) := hG1
  have hO : XD (lk LQ42) (sI (wB 1) 2 1 3 (-1)) := hO1
  have hTF : XT0 ad (lk LQ39) ad3 := (xt0_tr (lk_le (by decide +kernel)) (xt0_tr (lk_le (by decide +kernel)) hT1 hT2) hT3)
  exact W.vret hx hb hr (fun t ht hW => ⟨⟨rfl, _, hTF, hq3, by rw [ht]; exact hX, hO, hG⟩, hS.F ht⟩) hS.2.2 dX3_init_46

set_option maxRecDepth 100000 in
set_option maxHeartbeats 40000000 in
theorem i_X3_init_2 (l : Launch) (D : va_G) (A : Nat → Prop) (ad : Nat → Nat → Nat) (cy : Nat → ClassId) (Y : va_W) (a : Nat) : Met l yX3_init (.code yX3_init cX3_init 1 none :: lw_ok) { frames := 2, cells := 9, slots := 64, locals := 32 } (va_Pc [.ref a] (XIp D A ad cy (lk LQ42) Y (wB 2) a 2 [.int 0, .null, .null, .int 0, .null, .int 0])) (XIq D A ad cy (lk LQ42) Y a 2 2 (lk LQ45) (sI (wB 2) 2 2 3 (-1))) 9 64 A := by
  refine Met.ofW (cc := cX3_init) (maxL := 1) (ret := none) (by decide) rfl ?_
  intro p e s m args below meth c s₁ B hml hv
  obtain ⟨rfl, hA, hX, hO, hK, hG, hZ⟩ := hv
  have hx := B.exec
  have hb := B.bytes
  have hr := B.returns
  have hts := atoms_spec (ws := .code yX3_init cX3_init 1 none :: lw_ok) B.pre
  have hin : ∀ w ∈ lw_ok, w ∈ (Cond.code yX3_init cX3_init 1 none :: lw_ok) := fun w h => List.mem_cons_of_mem _ h
  have hown : s.vm.findClass RX3 = some m.cls := findClass_of_methodNamed B.named
  have hlocks := B.notSynchronized
  have hin2 : meth.name = "<init>" := (name_of_methodNamed B.named B.method).1
  have hS : va_S A s.heap s.heap [] := va_S.rf
  have hl := lv_entry ([.ref a]) (n := 1) (Nat.le_of_ble_eq_true rfl)
  rw [lg_entry_eq]
  generalize (lg_sl ([.ref a]) ++ List.replicate (1 - (lg_sl ([.ref a])).length) Slot.unset).toArray = ls at hl ⊢
  have hl : lv_has ls 1 [(0, .ref a)] := hl
  refine lv_aload_n hx hb dX3_init_0 rfl (lv_at hl 0 rfl) ?_
  refine W.objInit hx hb hown (hts _ (hin _ wt_286)) (hts _ (hin _ wt_28)) (hts _ (hin _ wobj)) rfl (by rw [hml]; exact hl.1) rfl dX3_init_1 (Nat.le_of_ble_eq_true rfl) (Nat.le_of_ble_eq_true rfl) ?_
  refine W.eq (g2 := F0 m 4 ls []) rfl ?_
  refine lv_aload_n hx hb dX3_init_4 rfl (lv_at hl 0 rfl) ?_
  refine lv_iconst (v := 0) hx hb dX3_init_5 (by decide) ?_
  refine r_put hx hb hts hin xk_2 hown hK hX hS (k := 0) (v := .int 0) (by decide) rfl wt_291 rfl (tyX3_ok 0 (by decide)) rfl rfl (Nat.le_of_ble_eq_true rfl) dX3_init_6 (fun H locs hX hS => ?_)
  have hX : XX D A ad cy (lk LQ42) ((a, .inr (2, [.int 0, .null, .null, .int 0, .null, .int 0])) :: Y) (wB 2) H := hX
  refine lv_aload_n hx hb dX3_init_9 rfl (lv_at hl 0 rfl) ?_
  refine lv_null hx hb dX3_init_10 ?_
  refine r_put hx hb hts hin xk_2 hown hK hX hS (k := 1) (v := .null) (by decide) rfl wt_293 rfl (tyX3_ok 1 (by decide)) rfl rfl (Nat.le_of_ble_eq_true rfl) dX3_init_11 (fun H locs hX hS => ?_)
  have hX : XX D A ad cy (lk LQ42) ((a, .inr (2, [.int 0, .null, .null, .int 0, .null, .int 0])) :: Y) (wB 2) H := hX
  refine lv_aload_n hx hb dX3_init_14 rfl (lv_at hl 0 rfl) ?_
  refine r_new hx hb hts hin xk_8 hown wt_287 wt_168 wt_5 hK hX hS hA (fs := [.int 0, .int 0, .null, .null, .null, .null]) (by decide +kernel) (Nat.le_of_ble_eq_true rfl) (Nat.le_of_ble_eq_true rfl) dX3_init_15 (fun b1 H hX hS => ?_)
  refine lv_dup hx hb dX3_init_18 rfl ?_
  refine ri_call (va_runIN (As := []) (rest := [.ref b1, .ref a]) (b := b1) (g := F0 m 19 ls (.ref b1 :: [.ref b1, .ref a])) (nL := 1) (host := "WinterKeep") ⟨hx, hb, hml, hown, hts⟩ (i_X9_init l D A ad cy (lk LQ42) ((a, .inr (2, [.int 0, .null, .null, .int 0, .null, .int 0])) :: Y) (wB 2) b1 rfl rfl rfl rfl) ⟨va_cnB 0 hts (lw_okg wt_171) rfl rfl rfl (hZ.2.2.2.2 (RX3, 21, yX9_init) (List.mem_of_getElem? (i := 9) rfl)) (hts _ (hin _ wt_5)) (by decide +kernel) ⟨Nat.le_of_ble_eq_true rfl, Nat.le_of_ble_eq_true rfl⟩, rfl, hts _ (hin _ wt_170)⟩ ⟨xip_blind, fun U hU hW => ⟨rfl, fun q h => hA q (Nat.le_trans hS.1 (by rw [← hU]; exact h)), by rw [hU]; exact hX, hO, va_K.moved hW.alike hK, hG, xz_to (xz_ad (cnt := fun _ => 0) hZ ⟨fun _ _ h => absurd h (Nat.not_lt_zero _), rfl, rfl⟩) hU hW hS⟩⟩ rfl rfl hl.1 rfl (lv_room (Nat.le_of_ble_eq_true rfl)) dX3_init_19 ⟨Nat.le_of_ble_eq_true rfl, Nat.le_of_ble_eq_true rfl⟩) hS (fun ad1 H locs hT1 hq1 hX hG hO hS => ?_)
  rw [cup_lk (k := 30) (v := 24) rfl rfl] at hX hG hO
  rw [cup_lk (k := 31) (v := 24) rfl rfl] at hX hG hO
  rw [cup_lk (k := 32) (v := 24) rfl rfl] at hX hG hO
  rw [cup_lk (k := 33) (v := 24) rfl rfl] at hX hG hO
  rw [cup_lk (k := 8) (v := 24) rfl rfl] at hX hG hO
  rw [show wz (wB 2) 30 ((lk LQ42) 8) = (wB 2) from wz_id rfl rfl rfl] at hX hO
  rw [show wz (wB 2) 31 ((lk LQ42) 8) = (wB 2) from wz_id rfl rfl rfl] at hX hO
  rw [show wz (wB 2) 32 ((lk LQ42) 8) = (wB 2) from wz_id rfl rfl rfl] at hX hO
  rw [show wz (wB 2) 33 ((lk LQ42) 8) = (wB 2) from wz_id rfl rfl rfl] at hX hO
  rw [show wz (wB 2) 8 ((lk LQ42) 8) = (wB 2) from wz_id rfl rfl rfl] at hX hO
  have hX : XX D A ad1 cy (lk LQ43) ((a, .inr (2, [.int 0, .null, .null, .int 0, .null, .int 0])) :: Y) (wB 2) H := hX
  have hG : XG ad1 (lk LQ43) := hG
  have hO : XD (lk LQ43) (wB 2) := hO
  refine r_putF hx hb hts hin xk_2 hown hK hX hS (k := 2) (v := .ref b1) (by decide) rfl wt_295 rfl hin2 rfl (tyX3_ok 2 (by decide)) rfl rfl (Nat.le_of_ble_eq_true rfl) dX3_init_22 (fun H locs hX hS => ?_)
  have hX : XX D A ad1 cy (lk LQ43) ((a, .inr (2, [.int 0, .null, .ref b1, .int 0, .null, .int 0])) :: Y) (wB 2) H := hX
  refine lv_aload_n hx hb dX3_init_25 rfl (lv_at hl 0 rfl) ?_
  refine lv_iconst (v := (-1)) hx hb dX3_init_26 (by decide) ?_
  refine r_put hx hb hts hin xk_2 hown hK hX hS (k := 3) (v := .int (-1)) (by decide) rfl wt_297 rfl (tyX3_ok 3 (by decide)) rfl rfl (Nat.le_of_ble_eq_true rfl) dX3_init_27 (fun H locs hX hS => ?_)
  have hX : XX D A ad1 cy (lk LQ43) ((a, .inr (2, [.int 0, .null, .ref b1, .int (-1), .null, .int 0])) :: Y) (wB 2) H := hX
  refine lv_aload_n hx hb dX3_init_30 rfl (lv_at hl 0 rfl) ?_
  refine r_new hx hb hts hin xk_4 hown wt_289 wt_260 wt_9 hK hX hS hA (fs := [.int 0, .null, .null, .null]) (by decide +kernel) (Nat.le_of_ble_eq_true rfl) (Nat.le_of_ble_eq_true rfl) dX3_init_31 (fun b2 H hX hS => ?_)
  refine lv_dup hx hb dX3_init_34 rfl ?_
  refine ri_call (va_runIN (As := []) (rest := [.ref b2, .ref a]) (b := b2) (g := F0 m 35 ls (.ref b2 :: [.ref b2, .ref a])) (nL := 1) (host := "WinterKeep") ⟨hx, hb, hml, hown, hts⟩ (i_X5_init l D A ad1 cy (lk LQ43) ((a, .inr (2, [.int 0, .null, .ref b1, .int (-1), .null, .int 0])) :: Y) (wB 2) b2 rfl rfl rfl) ⟨va_cnB 0 hts (lw_okg wt_263) rfl rfl rfl (hZ.2.2.2.2 (RX3, 32, yX5_init) (List.mem_of_getElem? (i := 10) rfl)) (hts _ (hin _ wt_9)) (by decide +kernel) ⟨Nat.le_of_ble_eq_true rfl, Nat.le_of_ble_eq_true rfl⟩, rfl, hts _ (hin _ wt_262)⟩ ⟨xip_blind, fun U hU hW => ⟨rfl, fun q h => hA q (Nat.le_trans hS.1 (by rw [← hU]; exact h)), by rw [hU]; exact hX, hO, va_K.moved hW.alike hK, hG, xz_to (xz_ad (cnt := fun _ => 0) hZ ⟨fun _ _ h => absurd h (Nat.not_lt_zero _), hT1.2.1, hT1.2.2⟩) hU hW hS⟩⟩ rfl rfl hl.1 rfl (lv_room (Nat.le_of_ble_eq_true rfl)) dX3_init_35 ⟨Nat.le_of_ble_eq_true rfl, Nat.le_of_ble_eq_true rfl⟩) hS (fun ad2 H locs hT2 hq2 hX hG hO hS => ?_)
  rw [cup_lk (k := 22) (v := 3) rfl rfl] at hX hG hO
  rw [cup_lk (k := 23) (v := 3) rfl rfl] at hX hG hO
  rw [cup_lk (k := 24) (v := 3) rfl rfl] at hX hG hO
  rw [cup_lk (k := 4) (v := 3) rfl rfl] at hX hG hO
  rw [show wz (wB 2) 22 ((lk LQ43) 4) = (wB 2) from wz_id rfl rfl rfl] at hX hO
  rw [show wz (wB 2) 23 ((lk LQ43) 4) = (wB 2) from wz_id rfl rfl rfl] at hX hO
  rw [show wz (wB 2) 24 ((lk LQ43) 4) = (wB 2) from wz_id rfl rfl rfl] at hX hO
  rw [show wz (wB 2) 4 ((lk LQ43) 4) = (wB 2) from wz_id rfl rfl rfl] at hX hO
  have hX : XX D A ad2 cy (lk LQ44) ((a, .inr (2, [.int 0, .null, .ref b1, .int (-1), .null, .int 0])) :: Y) (wB 2) H := hX
  have hG : XG ad2 (lk LQ44) := hG
  have hO : XD (lk LQ44) (wB 2) := hO
  refine r_putF hx hb hts hin xk_2 hown hK hX hS (k := 4) (v := .ref b2) (by decide) rfl wt_299 rfl hin2 rfl (tyX3_ok 4 (by decide)) rfl rfl (Nat.le_of_ble_eq_true rfl) dX3_init_38 (fun H locs hX hS => ?_)
  have hX : XX D A ad2 cy (lk LQ44) ((a, .inr (2, [.int 0, .null, .ref b1, .int (-1), .ref b2, .int 0])) :: Y) (wB 2) H := hX
  refine lv_aload_n hx hb dX3_init_41 rfl (lv_at hl 0 rfl) ?_
  refine lv_iconst (v := 0) hx hb dX3_init_42 (by decide) ?_
  refine r_put hx hb hts hin xk_2 hown hK hX hS (k := 5) (v := .int 0) (by decide) rfl wt_301 rfl (tyX3_ok 5 (by decide)) rfl rfl (Nat.le_of_ble_eq_true rfl) dX3_init_43 (fun H locs hX hS => ?_)
  have hX : XX D A ad2 cy (lk LQ44) ((a, .inr (2, [.int 0, .null, .ref b1, .int (-1), .ref b2, .int 0])) :: Y) (wB 2) H := hX
  have qq1 : ad2 8 24 = b1 := ((hT2.1 8 24 (show 24 < lk LQ43 8 by decide +kernel)).trans hq1)
  have qq2 : ad2 4 3 = b2 := hq2
  obtain ⟨hX1, hfr⟩ := xx_sealn (κ := 2) (n0 := 2) (w' := (sI (wB 2) 2 2 3 (-1))) (cnt := (lk LQ44)) rfl hG hO hX (by
      rw [xcell_o (by decide)]
      generalize hwv : (sI (wB 2) 2 2 3 (-1)) = wv
      generalize hav : adup ad2 2 2 a = av
      refine congrArg (fun z => Sum.inr (2, z)) ?_
      show ([.int 0, .null, .ref b1, .int (-1), .ref b2, .int 0] : List Value) = [.int (gI wv 2 2 0), va_rf ((gR wv 2 2 1).map (av 1)), .ref (av 8 24), .int (gI wv 2 2 3), .ref (av 4 3), .int (gI wv 2 2 5)]
      have ev1 : av 8 24 = b1 := by rw [← hav]; exact (adup_ne (fun h => absurd h.1 (by decide))).trans qq1
      have ev2 : av 4 3 = b2 := by rw [← hav]; exact (adup_ne (fun h => absurd h.1 (by decide))).trans qq2
      have hI0 : gI wv 2 2 0 = 0 := by rw [← hwv]; rfl
      have hI3 : gI wv 2 2 3 = (-1) := by rw [← hwv]; rfl
      have hI5 : gI wv 2 2 5 = 0 := by rw [← hwv]; rfl
      have hR1 : gR wv 2 2 1 = none := by rw [← hwv]; rfl
      simp only [ev1, ev2, hI0, hI3, hI5, hR1, Option.map_some, Option.map_none]
      try rfl) (fun κ' i' h => by
        have hne : ¬ (κ' = 2 ∧ i' = 2) := fun z => by rw [z.1, z.2] at h; exact absurd h (by decide)
        refine ⟨?_, rfl, ?_, rfl⟩
        · first | rfl | (rw [gI_sI_ne hne]) | (rw [gI_sI_ne hne, gI_sI_ne hne]) | (simp only [gI_sR]; first | rfl | rw [gI_sI_ne hne] | rw [gI_sI_ne hne, gI_sI_ne hne])
        · first | rfl | (rw [gR_sR_ne hne]; rfl))
  have hG1 : XG (adup ad2 2 2 a) (cup (lk LQ44) 2) := xg_cup (κ := 2) (q := a) (cnt := (lk LQ44)) hG (by decide) hfr (fun k c0 h1 h2 => by
    have hm : c0 ∈ ((xcl[2]?).getD []) := List.mem_of_getElem? (xfc_at h1)
    have hall : ∀ c0 ∈ ((xcl[2]?).getD []), c0.1 = 3 → xser c0.2.2.1 c0.2.2.2 2 < (lk LQ45) c0.2.1 := by decide +kernel
    rw [cup_lk (k := 2) (v := 2) rfl rfl]
    exact hall c0 hm h2)
  have hO1 : XD (cup (lk LQ44) 2) (sI (wB 2) 2 2 3 (-1)) := xd_cup hO (fun κ' i' h => by
      have hne : ¬ (κ' = 2 ∧ i' = 2) := fun z => by rw [z.1, z.2] at h; exact absurd h (by decide)
      first | rfl | (rw [gR_sR_ne hne]; rfl)) (fun k c0 j h1 h2 h3 => by
      exact absurd (show (none : Option Nat) = some j from h3) (fun h => by cases h)) (fun a0 k j h1 h2 h3 => by
      exact absurd h1 (by unfold xac; rw [if_pos (by decide)]; exact fun h => by cases h))
  have hT3 : XT0 ad2 (lk LQ44) (adup ad2 2 2 a) := xt0_up (cnt := (lk LQ44)) (κ := 2) (by decide)
  have hq3 : adup ad2 2 2 a 2 2 = a := adup_self
  rw [cup_lk (k := 2) (v := 2) rfl rfl] at hX1 hG1 hO1
  generalize had3 : adup ad2 2 2 a = ad3 at hX1 hG1 hO1 hT3 hq3
  have hX : XX D A ad3 cy (lk LQ45) Y (sI (wB 2) 2 2 3 (-1)) H := hX1
  have hG : XG ad3 (lk LQ45) := hG1
  have hO : XD (lk LQ45) (sI (wB 2) 2 2 3 (-1)) := hO1
  have hTF : XT0 ad (lk LQ42) ad3 := (xt0_tr (lk_le (by decide +kernel)) (xt0_tr (lk_le (by decide +kernel)) hT1 hT2) hT3)
  exact W.vret hx hb hr (fun t ht hW => ⟨⟨rfl, _, hTF, hq3, by rw [ht]; exact hX, hO, hG⟩, hS.F ht⟩) hS.2.2 dX3_init_46

set_option maxRecDepth 100000 in
set_option maxHeartbeats 40000000 in
theorem i_X3_init_3 (l : Launch) (D : va_G) (A : Nat → Prop) (ad : Nat → Nat → Nat) (cy : Nat → ClassId) (Y : va_W) (a : Nat) : Met l yX3_init (.code yX3_init cX3_init 1 none :: lw_ok) { frames := 2, cells := 9, slots := 64, locals := 32 } (va_Pc [.ref a] (XIp D A ad cy (lk LQ45) Y (wB 3) a 2 [.int 0, .null, .null, .int 0, .null, .int 0])) (XIq D A ad cy (lk LQ45) Y a 2 3 (lk LQ48) (sI (wB 3) 2 3 3 (-1))) 9 64 A := by
  refine Met.ofW (cc := cX3_init) (maxL := 1) (ret := none) (by decide) rfl ?_
  intro p e s m args below meth c s₁ B hml hv
  obtain ⟨rfl, hA, hX, hO, hK, hG, hZ⟩ := hv
  have hx := B.exec
  have hb := B.bytes
  have hr := B.returns
  have hts := atoms_spec (ws := .code yX3_init cX3_init 1 none :: lw_ok) B.pre
  have hin : ∀ w ∈ lw_ok, w ∈ (Cond.code yX3_init cX3_init 1 none :: lw_ok) := fun w h => List.mem_cons_of_mem _ h
  have hown : s.vm.findClass RX3 = some m.cls := findClass_of_methodNamed B.named
  have hlocks := B.notSynchronized
  have hin2 : meth.name = "<init>" := (name_of_methodNamed B.named B.method).1
  have hS : va_S A s.heap s.heap [] := va_S.rf
  have hl := lv_entry ([.ref a]) (n := 1) (Nat.le_of_ble_eq_true rfl)
  rw [lg_entry_eq]
  generalize (lg_sl ([.ref a]) ++ List.replicate (1 - (lg_sl ([.ref a])).length) Slot.unset).toArray = ls at hl ⊢
  have hl : lv_has ls 1 [(0, .ref a)] := hl
  refine lv_aload_n hx hb dX3_init_0 rfl (lv_at hl 0 rfl) ?_
  refine W.objInit hx hb hown (hts _ (hin _ wt_286)) (hts _ (hin _ wt_28)) (hts _ (hin _ wobj)) rfl (by rw [hml]; exact hl.1) rfl dX3_init_1 (Nat.le_of_ble_eq_true rfl) (Nat.le_of_ble_eq_true rfl) ?_
  refine W.eq (g2 := F0 m 4 ls []) rfl ?_
  refine lv_aload_n hx hb dX3_init_4 rfl (lv_at hl 0 rfl) ?_
  refine lv_iconst (v := 0) hx hb dX3_init_5 (by decide) ?_
  refine r_put hx hb hts hin xk_2 hown hK hX hS (k := 0) (v := .int 0) (by decide) rfl wt_291 rfl (tyX3_ok 0 (by decide)) rfl rfl (Nat.le_of_ble_eq_true rfl) dX3_init_6 (fun H locs hX hS => ?_)
  have hX : XX D A ad cy (lk LQ45) ((a, .inr (2, [.int 0, .null, .null, .int 0, .null, .int 0])) :: Y) (wB 3) H := hX
  refine lv_aload_n hx hb dX3_init_9 rfl (lv_at hl 0 rfl) ?_
  refine lv_null hx hb dX3_init_10 ?_
  refine r_put hx hb hts hin xk_2 hown hK hX hS (k := 1) (v := .null) (by decide) rfl wt_293 rfl (tyX3_ok 1 (by decide)) rfl rfl (Nat.le_of_ble_eq_true rfl) dX3_init_11 (fun H locs hX hS => ?_)
  have hX : XX D A ad cy (lk LQ45) ((a, .inr (2, [.int 0, .null, .null, .int 0, .null, .int 0])) :: Y) (wB 3) H := hX
  refine lv_aload_n hx hb dX3_init_14 rfl (lv_at hl 0 rfl) ?_
  refine r_new hx hb hts hin xk_8 hown wt_287 wt_168 wt_5 hK hX hS hA (fs := [.int 0, .int 0, .null, .null, .null, .null]) (by decide +kernel) (Nat.le_of_ble_eq_true rfl) (Nat.le_of_ble_eq_true rfl) dX3_init_15 (fun b1 H hX hS => ?_)
  refine lv_dup hx hb dX3_init_18 rfl ?_
  refine ri_call (va_runIN (As := []) (rest := [.ref b1, .ref a]) (b := b1) (g := F0 m 19 ls (.ref b1 :: [.ref b1, .ref a])) (nL := 1) (host := "WinterKeep") ⟨hx, hb, hml, hown, hts⟩ (i_X9_init l D A ad cy (lk LQ45) ((a, .inr (2, [.int 0, .null, .null, .int 0, .null, .int 0])) :: Y) (wB 3) b1 rfl rfl rfl rfl) ⟨va_cnB 0 hts (lw_okg wt_171) rfl rfl rfl (hZ.2.2.2.2 (RX3, 21, yX9_init) (List.mem_of_getElem? (i := 9) rfl)) (hts _ (hin _ wt_5)) (by decide +kernel) ⟨Nat.le_of_ble_eq_true rfl, Nat.le_of_ble_eq_true rfl⟩, rfl, hts _ (hin _ wt_170)⟩ ⟨xip_blind, fun U hU hW => ⟨rfl, fun q h => hA q (Nat.le_trans hS.1 (by rw [← hU]; exact h)), by rw [hU]; exact hX, hO, va_K.moved hW.alike hK, hG, xz_to (xz_ad (cnt := fun _ => 0) hZ ⟨fun _ _ h => absurd h (Nat.not_lt_zero _), rfl, rfl⟩) hU hW hS⟩⟩ rfl rfl hl.1 rfl (lv_room (Nat.le_of_ble_eq_true rfl)) dX3_init_19 ⟨Nat.le_of_ble_eq_true rfl, Nat.le_of_ble_eq_true rfl⟩) hS (fun ad1 H locs hT1 hq1 hX hG hO hS => ?_)
  rw [cup_lk (k := 30) (v := 25) rfl rfl] at hX hG hO
  rw [cup_lk (k := 31) (v := 25) rfl rfl] at hX hG hO
  rw [cup_lk (k := 32) (v := 25) rfl rfl] at hX hG hO
  rw [cup_lk (k := 33) (v := 25) rfl rfl] at hX hG hO
  rw [cup_lk (k := 8) (v := 25) rfl rfl] at hX hG hO
  rw [show wz (wB 3) 30 ((lk LQ45) 8) = (wB 3) from wz_id rfl rfl rfl] at hX hO
  rw [show wz (wB 3) 31 ((lk LQ45) 8) = (wB 3) from wz_id rfl rfl rfl] at hX hO
  rw [show wz (wB 3) 32 ((lk LQ45) 8) = (wB 3) from wz_id rfl rfl rfl] at hX hO
  rw [show wz (wB 3) 33 ((lk LQ45) 8) = (wB 3) from wz_id rfl rfl rfl] at hX hO
  rw [show wz (wB 3) 8 ((lk LQ45) 8) = (wB 3) from wz_id rfl rfl rfl] at hX hO
  have hX : XX D A ad1 cy (lk LQ46) ((a, .inr (2, [.int 0, .null, .null, .int 0, .null, .int 0])) :: Y) (wB 3) H := hX
  have hG : XG ad1 (lk LQ46) := hG
  have hO : XD (lk LQ46) (wB 3) := hO
  refine r_putF hx hb hts hin xk_2 hown hK hX hS (k := 2) (v := .ref b1) (by decide) rfl wt_295 rfl hin2 rfl (tyX3_ok 2 (by decide)) rfl rfl (Nat.le_of_ble_eq_true rfl) dX3_init_22 (fun H locs hX hS => ?_)
  have hX : XX D A ad1 cy (lk LQ46) ((a, .inr (2, [.int 0, .null, .ref b1, .int 0, .null, .int 0])) :: Y) (wB 3) H := hX
  refine lv_aload_n hx hb dX3_init_25 rfl (lv_at hl 0 rfl) ?_
  refine lv_iconst (v := (-1)) hx hb dX3_init_26 (by decide) ?_
  refine r_put hx hb hts hin xk_2 hown hK hX hS (k := 3) (v := .int (-1)) (by decide) rfl wt_297 rfl (tyX3_ok 3 (by decide)) rfl rfl (Nat.le_of_ble_eq_true rfl) dX3_init_27 (fun H locs hX hS => ?_)
  have hX : XX D A ad1 cy (lk LQ46) ((a, .inr (2, [.int 0, .null, .ref b1, .int (-1), .null, .int 0])) :: Y) (wB 3) H := hX
  refine lv_aload_n hx hb dX3_init_30 rfl (lv_at hl 0 rfl) ?_
  refine r_new hx hb hts hin xk_4 hown wt_289 wt_260 wt_9 hK hX hS hA (fs := [.int 0, .null, .null, .null]) (by decide +kernel) (Nat.le_of_ble_eq_true rfl) (Nat.le_of_ble_eq_true rfl) dX3_init_31 (fun b2 H hX hS => ?_)
  refine lv_dup hx hb dX3_init_34 rfl ?_
  refine ri_call (va_runIN (As := []) (rest := [.ref b2, .ref a]) (b := b2) (g := F0 m 35 ls (.ref b2 :: [.ref b2, .ref a])) (nL := 1) (host := "WinterKeep") ⟨hx, hb, hml, hown, hts⟩ (i_X5_init l D A ad1 cy (lk LQ46) ((a, .inr (2, [.int 0, .null, .ref b1, .int (-1), .null, .int 0])) :: Y) (wB 3) b2 rfl rfl rfl) ⟨va_cnB 0 hts (lw_okg wt_263) rfl rfl rfl (hZ.2.2.2.2 (RX3, 32, yX5_init) (List.mem_of_getElem? (i := 10) rfl)) (hts _ (hin _ wt_9)) (by decide +kernel) ⟨Nat.le_of_ble_eq_true rfl, Nat.le_of_ble_eq_true rfl⟩, rfl, hts _ (hin _ wt_262)⟩ ⟨xip_blind, fun U hU hW => ⟨rfl, fun q h => hA q (Nat.le_trans hS.1 (by rw [← hU]; exact h)), by rw [hU]; exact hX, hO, va_K.moved hW.alike hK, hG, xz_to (xz_ad (cnt := fun _ => 0) hZ ⟨fun _ _ h => absurd h (Nat.not_lt_zero _), hT1.2.1, hT1.2.2⟩) hU hW hS⟩⟩ rfl rfl hl.1 rfl (lv_room (Nat.le_of_ble_eq_true rfl)) dX3_init_35 ⟨Nat.le_of_ble_eq_true rfl, Nat.le_of_ble_eq_true rfl⟩) hS (fun ad2 H locs hT2 hq2 hX hG hO hS => ?_)
  rw [cup_lk (k := 22) (v := 4) rfl rfl] at hX hG hO
  rw [cup_lk (k := 23) (v := 4) rfl rfl] at hX hG hO
  rw [cup_lk (k := 24) (v := 4) rfl rfl] at hX hG hO
  rw [cup_lk (k := 4) (v := 4) rfl rfl] at hX hG hO
  rw [show wz (wB 3) 22 ((lk LQ46) 4) = (wB 3) from wz_id rfl rfl rfl] at hX hO
  rw [show wz (wB 3) 23 ((lk LQ46) 4) = (wB 3) from wz_id rfl rfl rfl] at hX hO
  rw [show wz (wB 3) 24 ((lk LQ46) 4) = (wB 3) from wz_id rfl rfl rfl] at hX hO
  rw [show wz (wB 3) 4 ((lk LQ46) 4) = (wB 3) from wz_id rfl rfl rfl] at hX hO
  have hX : XX D A ad2 cy (lk LQ47) ((a, .inr (2, [.int 0, .null, .ref b1, .int (-1), .null, .int 0])) :: Y) (wB 3) H := hX
  have hG : XG ad2 (lk LQ47) := hG
  have hO : XD (lk LQ47) (wB 3) := hO
  refine r_putF hx hb hts hin xk_2 hown hK hX hS (k := 4) (v := .ref b2) (by decide) rfl wt_299 rfl hin2 rfl (tyX3_ok 4 (by decide)) rfl rfl (Nat.le_of_ble_eq_true rfl) dX3_init_38 (fun H locs hX hS => ?_)
  have hX : XX D A ad2 cy (lk LQ47) ((a, .inr (2, [.int 0, .null, .ref b1, .int (-1), .ref b2, .int 0])) :: Y) (wB 3) H := hX
  refine lv_aload_n hx hb dX3_init_41 rfl (lv_at hl 0 rfl) ?_
  refine lv_iconst (v := 0) hx hb dX3_init_42 (by decide) ?_
  refine r_put hx hb hts hin xk_2 hown hK hX hS (k := 5) (v := .int 0) (by decide) rfl wt_301 rfl (tyX3_ok 5 (by decide)) rfl rfl (Nat.le_of_ble_eq_true rfl) dX3_init_43 (fun H locs hX hS => ?_)
  have hX : XX D A ad2 cy (lk LQ47) ((a, .inr (2, [.int 0, .null, .ref b1, .int (-1), .ref b2, .int 0])) :: Y) (wB 3) H := hX
  have qq1 : ad2 8 25 = b1 := ((hT2.1 8 25 (show 25 < lk LQ46 8 by decide +kernel)).trans hq1)
  have qq2 : ad2 4 4 = b2 := hq2
  obtain ⟨hX1, hfr⟩ := xx_sealn (κ := 2) (n0 := 3) (w' := (sI (wB 3) 2 3 3 (-1))) (cnt := (lk LQ47)) rfl hG hO hX (by
      rw [xcell_o (by decide)]
      generalize hwv : (sI (wB 3) 2 3 3 (-1)) = wv
      generalize hav : adup ad2 2 3 a = av
      refine congrArg (fun z => Sum.inr (2, z)) ?_
      show ([.int 0, .null, .ref b1, .int (-1), .ref b2, .int 0] : List Value) = [.int (gI wv 2 3 0), va_rf ((gR wv 2 3 1).map (av 1)), .ref (av 8 25), .int (gI wv 2 3 3), .ref (av 4 4), .int (gI wv 2 3 5)]
      have ev1 : av 8 25 = b1 := by rw [← hav]; exact (adup_ne (fun h => absurd h.1 (by decide))).trans qq1
      have ev2 : av 4 4 = b2 := by rw [← hav]; exact (adup_ne (fun h => absurd h.1 (by decide))).trans qq2
      have hI0 : gI wv 2 3 0 = 0 := by rw [← hwv]; rfl
      have hI3 : gI wv 2 3 3 = (-1) := by rw [← hwv]; rfl
      have hI5 : gI wv 2 3 5 = 0 := by rw [← hwv]; rfl
      have hR1 : gR wv 2 3 1 = none := by rw [← hwv]; rfl
      simp only [ev1, ev2, hI0, hI3, hI5, hR1, Option.map_some, Option.map_none]
      try rfl) (fun κ' i' h => by
        have hne : ¬ (κ' = 2 ∧ i' = 3) := fun z => by rw [z.1, z.2] at h; exact absurd h (by decide)
        refine ⟨?_, rfl, ?_, rfl⟩
        · first | rfl | (rw [gI_sI_ne hne]) | (rw [gI_sI_ne hne, gI_sI_ne hne]) | (simp only [gI_sR]; first | rfl | rw [gI_sI_ne hne] | rw [gI_sI_ne hne, gI_sI_ne hne])
        · first | rfl | (rw [gR_sR_ne hne]; rfl))
  have hG1 : XG (adup ad2 2 3 a) (cup (lk LQ47) 2) := xg_cup (κ := 2) (q := a) (cnt := (lk LQ47)) hG (by decide) hfr (fun k c0 h1 h2 => by
    have hm : c0 ∈ ((xcl[2]?).getD []) := List.mem_of_getElem? (xfc_at h1)
    have hall : ∀ c0 ∈ ((xcl[2]?).getD []), c0.1 = 3 → xser c0.2.2.1 c0.2.2.2 3 < (lk LQ48) c0.2.1 := by decide +kernel
    rw [cup_lk (k := 2) (v := 3) rfl rfl]
    exact hall c0 hm h2)
  have hO1 : XD (cup (lk LQ47) 2) (sI (wB 3) 2 3 3 (-1)) := xd_cup hO (fun κ' i' h => by
      have hne : ¬ (κ' = 2 ∧ i' = 3) := fun z => by rw [z.1, z.2] at h; exact absurd h (by decide)
      first | rfl | (rw [gR_sR_ne hne]; rfl)) (fun k c0 j h1 h2 h3 => by
      exact absurd (show (none : Option Nat) = some j from h3) (fun h => by cases h)) (fun a0 k j h1 h2 h3 => by
      exact absurd h1 (by unfold xac; rw [if_pos (by decide)]; exact fun h => by cases h))
  have hT3 : XT0 ad2 (lk LQ47) (adup ad2 2 3 a) := xt0_up (cnt := (lk LQ47)) (κ := 2) (by decide)
  have hq3 : adup ad2 2 3 a 2 3 = a := adup_self
  rw [cup_lk (k := 2) (v := 3) rfl rfl] at hX1 hG1 hO1
  generalize had3 : adup ad2 2 3 a = ad3 at hX1 hG1 hO1 hT3 hq3
  have hX : XX D A ad3 cy (lk LQ48) Y (sI (wB 3) 2 3 3 (-1)) H := hX1
  have hG : XG ad3 (lk LQ48) := hG1
  have hO : XD (lk LQ48) (sI (wB 3) 2 3 3 (-1)) := hO1
  have hTF : XT0 ad (lk LQ45) ad3 := (xt0_tr (lk_le (by decide +kernel)) (xt0_tr (lk_le (by decide +kernel)) hT1 hT2) hT3)
  exact W.vret hx hb hr (fun t ht hW => ⟨⟨rfl, _, hTF, hq3, by rw [ht]; exact hX, hO, hG⟩, hS.F ht⟩) hS.2.2 dX3_init_46
