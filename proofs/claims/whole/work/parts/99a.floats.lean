/-! floats and doubles: the rows that two questions need (written by hand and program) -/
section S99
variable {G : XG} {ow : String} {cc : ByteArray} {nL : Nat} {rt : Option FieldType} {d : Nat} {R : Option Value → Sg → Prop} {RX : String → Sg → Prop} {K n : Nat} {pc : Nat} {k : XK}
def xi_i2f (k : XK) : XK := fun L S σ => match S with
  | .int x :: S => k L (.float (FP.i2f x) :: S) σ
  | _ => False
theorem xs_i2f (hd : decode cc pc = .ok (.i2f, 1)) (hk : XTo G ow cc nL rt d R (pc + 1) k) : XTo G ow cc nL rt d R pc (xi_i2f k) := by
  intro L S σ h p e s m args below meth c hx hb hml hr ho hts hlk hK hN H locs ls hP hD hS hL
  unfold xi_i2f at h
  split at h
  · next x S =>
    exact lv_i2f (x := x) hx hb hd (hk _ _ _ h p e s m args below meth c hx hb hml hr ho hts hlk hK hN H locs ls hP hD hS hL)
  · exact h.elim
theorem ts_i2f (hd : decode cc pc = .ok (.i2f, 1)) (hk : TTo G ow cc nL rt d R RX K n (pc + 1) k) : TTo G ow cc nL rt d R RX K n pc (xi_i2f k) := by
  intro L S σ h p e s m args below meth c hx hb hml hr ho hts hlk hK hN hZz hTe hUu hVv hNk H locs ls hP hD hS hL
  unfold xi_i2f at h
  split at h
  · next x S =>
    exact lv_i2f (x := x) hx hb hd (hk _ _ _ h p e s m args below meth c hx hb hml hr ho hts hlk hK hN hZz hTe hUu hVv hNk H locs ls hP hD hS hL)
  · exact h.elim
def xi_i2d (k : XK) : XK := fun L S σ => match S with
  | .int x :: S => k L (.double (FP.i2d x) :: S) σ
  | _ => False
theorem xs_i2d (hd : decode cc pc = .ok (.i2d, 1)) (hk : XTo G ow cc nL rt d R (pc + 1) k) : XTo G ow cc nL rt d R pc (xi_i2d k) := by
  intro L S σ h p e s m args below meth c hx hb hml hr ho hts hlk hK hN H locs ls hP hD hS hL
  unfold xi_i2d at h
  split at h
  · next x S =>
    exact lv_i2d (x := x) hx hb hd (hk _ _ _ h p e s m args below meth c hx hb hml hr ho hts hlk hK hN H locs ls hP hD hS hL)
  · exact h.elim
theorem ts_i2d (hd : decode cc pc = .ok (.i2d, 1)) (hk : TTo G ow cc nL rt d R RX K n (pc + 1) k) : TTo G ow cc nL rt d R RX K n pc (xi_i2d k) := by
  intro L S σ h p e s m args below meth c hx hb hml hr ho hts hlk hK hN hZz hTe hUu hVv hNk H locs ls hP hD hS hL
  unfold xi_i2d at h
  split at h
  · next x S =>
    exact lv_i2d (x := x) hx hb hd (hk _ _ _ h p e s m args below meth c hx hb hml hr ho hts hlk hK hN hZz hTe hUu hVv hNk H locs ls hP hD hS hL)
  · exact h.elim
def xi_fdiv (k : XK) : XK := fun L S σ => match S with
  | .float y :: .float x :: S => vf_n32 (FP.fdiv x y) ∧ k L (.float (FP.fdiv x y) :: S) σ
  | _ => False
theorem xs_fdiv (hd : decode cc pc = .ok (.fdiv, 1)) (hk : XTo G ow cc nL rt d R (pc + 1) k) : XTo G ow cc nL rt d R pc (xi_fdiv k) := by
  intro L S σ h p e s m args below meth c hx hb hml hr ho hts hlk hK hN H locs ls hP hD hS hL
  unfold xi_fdiv at h
  split at h
  · next y x S =>
    exact lv_fdiv (x := x) (y := y) hx hb hd h.1 (hk _ _ _ h.2 p e s m args below meth c hx hb hml hr ho hts hlk hK hN H locs ls hP hD hS hL)
  · exact h.elim
theorem ts_fdiv (hd : decode cc pc = .ok (.fdiv, 1)) (hk : TTo G ow cc nL rt d R RX K n (pc + 1) k) : TTo G ow cc nL rt d R RX K n pc (xi_fdiv k) := by
  intro L S σ h p e s m args below meth c hx hb hml hr ho hts hlk hK hN hZz hTe hUu hVv hNk H locs ls hP hD hS hL
  unfold xi_fdiv at h
  split at h
  · next y x S =>
    exact lv_fdiv (x := x) (y := y) hx hb hd h.1 (hk _ _ _ h.2 p e s m args below meth c hx hb hml hr ho hts hlk hK hN hZz hTe hUu hVv hNk H locs ls hP hD hS hL)
  · exact h.elim
def xi_ddiv (k : XK) : XK := fun L S σ => match S with
  | .double y :: .double x :: S => vf_n64 (FP.ddiv x y) ∧ k L (.double (FP.ddiv x y) :: S) σ
  | _ => False
theorem xs_ddiv (hd : decode cc pc = .ok (.ddiv, 1)) (hk : XTo G ow cc nL rt d R (pc + 1) k) : XTo G ow cc nL rt d R pc (xi_ddiv k) := by
  intro L S σ h p e s m args below meth c hx hb hml hr ho hts hlk hK hN H locs ls hP hD hS hL
  unfold xi_ddiv at h
  split at h
  · next y x S =>
    exact lv_ddiv (x := x) (y := y) hx hb hd h.1 (hk _ _ _ h.2 p e s m args below meth c hx hb hml hr ho hts hlk hK hN H locs ls hP hD hS hL)
  · exact h.elim
theorem ts_ddiv (hd : decode cc pc = .ok (.ddiv, 1)) (hk : TTo G ow cc nL rt d R RX K n (pc + 1) k) : TTo G ow cc nL rt d R RX K n pc (xi_ddiv k) := by
  intro L S σ h p e s m args below meth c hx hb hml hr ho hts hlk hK hN hZz hTe hUu hVv hNk H locs ls hP hD hS hL
  unfold xi_ddiv at h
  split at h
  · next y x S =>
    exact lv_ddiv (x := x) (y := y) hx hb hd h.1 (hk _ _ _ h.2 p e s m args below meth c hx hb hml hr ho hts hlk hK hN hZz hTe hUu hVv hNk H locs ls hP hD hS hL)
  · exact h.elim
def xi_fc0 (k : XK) : XK := fun L S σ => k L (.float FP.fconst0 :: S) σ
theorem xs_fc0 (hd : decode cc pc = .ok (.fconst 0, 1)) (hk : XTo G ow cc nL rt d R (pc + 1) k) : XTo G ow cc nL rt d R pc (xi_fc0 k) := by
  intro L S σ h p e s m args below meth c hx hb hml hr ho hts hlk hK hN H locs ls hP hD hS hL
  exact lv_fconst0 hx hb hd (hk _ _ _ h p e s m args below meth c hx hb hml hr ho hts hlk hK hN H locs ls hP hD hS hL)
def xi_dc0 (k : XK) : XK := fun L S σ => k L (.double FP.dconst0 :: S) σ
theorem xs_dc0 (hd : decode cc pc = .ok (.dconst 0, 1)) (hk : XTo G ow cc nL rt d R (pc + 1) k) : XTo G ow cc nL rt d R pc (xi_dc0 k) := by
  intro L S σ h p e s m args below meth c hx hb hml hr ho hts hlk hK hN H locs ls hP hD hS hL
  exact lv_dconst0 hx hb hd (hk _ _ _ h p e s m args below meth c hx hb hml hr ho hts hlk hK hN H locs ls hP hD hS hL)
def xi_fret (R : Option Value → Sg → Prop) : XK := fun _ S σ => match S with
  | [.float x] => R (some (.float x)) σ
  | _ => False
theorem xs_fret (hd : decode cc pc = .ok (.freturn, 1)) (hrt : rt = some .float) : XTo G ow cc nL rt d R pc (xi_fret R) := by
  intro L S σ h p e s m args below meth c hx hb hml hr ho hts hlk hK hN H locs ls hP hD hS hL
  unfold xi_fret at h
  split at h
  · next x => exact W.fret (v := x) hx hb (hr.trans hrt) (fun t ht hW => ⟨some (.float x), σ, rfl, h, by rw [ht]; exact hP, hS.F ht⟩) hS.2.2 hd hlk
  · exact h.elim
theorem ts_fret (hd : decode cc pc = .ok (.freturn, 1)) (hrt : rt = some .float) : TTo G ow cc nL rt d R RX K n pc (xi_fret R) := by
  intro L S σ h p e s m args below meth c hx hb hml hr ho hts hlk hK hN hZz hTe hUu hVv hNk H locs ls hP hD hS hL
  unfold xi_fret at h
  split at h
  · next x => exact W.widen (k := K) (n := 6 * K) hNk (Nat.mul_le_mul_left 6 hNk) (vx_ret (W.fret (v := x) hx hb (hr.trans hrt) (fun t ht hW => ⟨some (.float x), σ, rfl, h, by rw [ht]; exact hP, hS.F ht⟩) hS.2.2 hd hlk))
  · exact h.elim
def xi_dret (R : Option Value → Sg → Prop) : XK := fun _ S σ => match S with
  | [.double x] => R (some (.double x)) σ
  | _ => False
theorem xs_dret (hd : decode cc pc = .ok (.dreturn, 1)) (hrt : rt = some .double) : XTo G ow cc nL rt d R pc (xi_dret R) := by
  intro L S σ h p e s m args below meth c hx hb hml hr ho hts hlk hK hN H locs ls hP hD hS hL
  unfold xi_dret at h
  split at h
  · next x => exact W.dret (v := x) hx hb (hr.trans hrt) (fun t ht hW => ⟨some (.double x), σ, rfl, h, by rw [ht]; exact hP, hS.F ht⟩) hS.2.2 hd hlk
  · exact h.elim
theorem ts_dret (hd : decode cc pc = .ok (.dreturn, 1)) (hrt : rt = some .double) : TTo G ow cc nL rt d R RX K n pc (xi_dret R) := by
  intro L S σ h p e s m args below meth c hx hb hml hr ho hts hlk hK hN hZz hTe hUu hVv hNk H locs ls hP hD hS hL
  unfold xi_dret at h
  split at h
  · next x => exact W.widen (k := K) (n := 6 * K) hNk (Nat.mul_le_mul_left 6 hNk) (vx_ret (W.dret (v := x) hx hb (hr.trans hrt) (fun t ht hW => ⟨some (.double x), σ, rfl, h, by rw [ht]; exact hP, hS.F ht⟩) hS.2.2 hd hlk))
  · exact h.elim
end S99
