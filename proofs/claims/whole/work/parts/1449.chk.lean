theorem n_chk2 {X : XCtx} (hE : XE X) {pc idx index mL fr lo : Nat} {y : MethodName} {b : ByteArray} {ret : Option FieldType} {F : List XV → XW → Option (Int32 × XW)} (hM : XM y b mL ret fr lo (eI F)) (hw : XSw X.2.2.1.2.2.1 idx 3 mL y b ret) (hF : ∀ (i n : Int32) (t : Nat) (w : XW), F [.inl (.int i), .inl (.int n), .inl (.ref t)] w = F [.inl (.int i), .inl (.int n), .inl .null] w) (hR : fr + 1 ≤ X.1.2.2.2.1.frames ∧ 8 + (mL + 11) + lo ≤ X.1.2.2.2.1.locals)
    (hlk : Cond.fieldLink X.2.2.1.2.2.1 index "jdk/internal/util/Preconditions" "SIOOBE_FORMATTER" "Ljava/util/function/BiFunction;" ∈ lw_ok) (hd0 : decode X.2.2.1.1 pc = .ok (.getstatic index, 3)) (hd : decode X.2.2.1.1 (pc + 3) = .ok (.invokestatic idx, 3)) : Snd X pc (pc + 6) (xChk F) := by
  rintro K ⟨L, st, w⟩ rr h hk
  dsimp only [xChk] at h
  split at h
  · split at h
    · rename_i n i r hc
      cases hg : F [.inl (.int i), .inl (.int n), .inl .null] w with
      | none => rw [hg] at h; cases h
      | some q =>
        rw [hg] at h
        obtain ⟨hy, hn, h1, h2, h4, h5⟩ := hw
        have key : ∀ v : Value, F [.inl (.int i), .inl (.int n), .inl v] w = some q → Wg X (pc + 3) (L, .inl v :: .inl (.int n) :: .inl (.int i) :: r, w) rr := fun v hv =>
          x_scall hE hM hy hn h1 h2 h4 h5 hR hd (by simp) hc (rr0 := (some (.inl (.int q.1)), q.2)) (by unfold eI; show Option.map _ (F [.inl (.int i), .inl (.int n), .inl v] w) = _; rw [hv]; rfl) (hk _ h)
        obtain ⟨⟨p, l, e, R, s⟩, ⟨m, args, below, meth, c⟩, ⟨cc, nL, own, ret, Ts⟩, ⟨D, A, ad, cy, cnt, cs, sl⟩⟩ := X
        obtain ⟨hx, hb, hml, hown, hts, hin, hK, hG, hlocks, hr, hZ, hcs, hsl⟩ := hE
        intro H locs ls hH hO hS hl hst
        rcases hZ.2.2.2.1 with hz | ⟨t, hz⟩
        · exact va_gets hx hb hz hS hown (hts _ (hin _ hlk)) (fun _ h9 => h9) hd0 (key .null hg H locs ls hH hO hS hl ⟨trivial, hst⟩)
        · exact va_gets hx hb hz hS hown (hts _ (hin _ hlk)) (fun _ h9 => h9) hd0 (key (.ref t) (by rw [hF]; exact hg) H locs ls hH hO hS hl ⟨trivial, hst⟩)
    · cases h
  · cases h
