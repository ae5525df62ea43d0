/-! fields, arrays, calls, a method's entry -/
section XH
variable {G : XG} {ow : String} {cc : ByteArray} {nL : Nat} {rt : Option FieldType} {d : Nat} {R : Option Value → Sg → Prop} {pc : Nat} {k : XK}
def xi_getf (ci j : Nat) (k : XK) : XK := fun L S σ => match S with
  | .ref o :: S => (match xfld o ci j with
    | some (some v) => k L (v :: S) σ
    | some none => k L (.int (σ o j) :: S) σ
    | none => False)
  | _ => False
/-- what is known of a class of the world -/
def XCl (ci : Nat) (C : String) (T : u_T) (N : Nat) : Prop := x_cl[ci]? = some (C, T, N) ∧ (∀ w ∈ u_ws C T N, w ∈ x_tbl) ∧ (∀ a, a < N → ∀ b, b < N → a ≠ b → (T a).2.1 ≠ (T b).2.1) ∧ ∃ ty0 : Nat → FieldType, ∀ k, k < N → parseFieldDescriptor (T k).2.2.1 = some (ty0 k)
def x_fv (G : XG) (σ : Sg) (o j : Nat) (f : Option Value) : Value := match f with
  | some v => xcv G.2.1 v
  | none => .int (σ o j)
theorem x_fs {o j : Nat} {fs : List (Option Value)} {σ : Sg} {f : Option Value} (hf : fs[j]? = some f) : (xFs G.2.1 (σ o) 0 fs)[j]? = some (x_fv G σ o j f) := by
  have h := xFs_get G.2.1 (σ o) fs 0 j
  rw [h]
  cases f with
  | none => simp [hf, x_fv]
  | some v => simp [hf, x_fv]
theorem xs_getf {ci j idx N : Nat} {C : String} {T : u_T} (hc : XCl ci C T N) (hj : j < N) (hw : Cond.fieldLink ow idx (T j).1 (T j).2.1 (T j).2.2.1 ∈ x_tbl) (hd : decode cc pc = .ok (.getfield idx, 3)) (hk : XTo G ow cc nL rt d R (pc + 3) k) : XTo G ow cc nL rt d R pc (xi_getf ci j k) := by
  intro L S σ h p e s m args below meth c hx hb hml hr ho hts hlk hK hN H locs ls hP hD hS hL
  unfold xi_getf at h
  split at h
  · next o S =>
    split at h
    · next v hf =>
      obtain ⟨fs, h1, h2⟩ := xfld_spec hf
      exact va_get hx hb hts hc.2.1 ho hK hP o (xW_get h1) hc.1 j hj (hts _ hw) (fun _ q => q) (x_fs h2) hd (hk _ _ _ h p e s m args below meth c hx hb hml hr ho hts hlk hK hN H locs ls hP hD hS hL)
    · next hf =>
      obtain ⟨fs, h1, h2⟩ := xfld_spec hf
      exact va_get hx hb hts hc.2.1 ho hK hP o (xW_get h1) hc.1 j hj (hts _ hw) (fun _ q => q) (x_fs h2) hd (hk _ _ _ h p e s m args below meth c hx hb hml hr ho hts hlk hK hN H locs ls hP hD hS hL)
    · exact h.elim
  · exact h.elim
theorem xs_getfN {ci j idx N : Nat} {C host : String} {T : u_T} (hc : XCl ci C T N) (hj : j < N) (hw : Cond.fieldLinkNest ow idx (T j).1 (T j).2.1 (T j).2.2.1 host ∈ x_nst) (hd : decode cc pc = .ok (.getfield idx, 3)) (hk : XTo G ow cc nL rt d R (pc + 3) k) : XTo G ow cc nL rt d R pc (xi_getf ci j k) := by
  intro L S σ h p e s m args below meth c hx hb hml hr ho hts hlk hK hN H locs ls hP hD hS hL
  unfold xi_getf at h
  split at h
  · next o S =>
    split at h
    · next v hf =>
      obtain ⟨fs, h1, h2⟩ := xfld_spec hf
      exact va_getN hx hb hts hc.2.1 ho hK hP o (xW_get h1) hc.1 j hj (va_Nw.use rfl (hN _ hw)) (fun _ q => q) (x_fs h2) hd (hk _ _ _ h p e s m args below meth c hx hb hml hr ho hts hlk hK hN H locs ls hP hD hS hL)
    · next hf =>
      obtain ⟨fs, h1, h2⟩ := xfld_spec hf
      exact va_getN hx hb hts hc.2.1 ho hK hP o (xW_get h1) hc.1 j hj (va_Nw.use rfl (hN _ hw)) (fun _ q => q) (x_fs h2) hd (hk _ _ _ h p e s m args below meth c hx hb hml hr ho hts hlk hK hN H locs ls hP hD hS hL)
    · exact h.elim
  · exact h.elim
/-- the int is one that a place of this type keeps -/
def xnok (ty : FieldType) (x : Int32) : Prop := narrow ty (.int x) = .int x ∧ fits ty (.int x) = true
theorem xnok_i (x : Int32) : xnok .int x := ⟨rfl, rfl⟩
theorem xnok_z {x : Int32} (h : x = 0 ∨ x = 1) : xnok .boolean x := by rcases h with rfl | rfl <;> exact ⟨by decide +kernel, by decide +kernel⟩
def xi_putf (ty : FieldType) (ci j : Nat) (k : XK) : XK := fun L S σ => match S with
  | .int x :: .ref o :: S => (match xfld o ci j with
    | some none => xnok ty x ∧ k L S (xup σ o j x)
    | _ => False)
  | _ => False
theorem xs_putf {ty : FieldType} {ci j idx N : Nat} {C : String} {T : u_T} (hc : XCl ci C T N) (hj : j < N) (hw : Cond.fieldLink ow idx (T j).1 (T j).2.1 (T j).2.2.1 ∈ x_tbl) (hfin : (T j).2.2.2 = false) (hpd : parseFieldDescriptor (T j).2.2.1 = some ty)
    (hd : decode cc pc = .ok (.putfield idx, 3)) (hk : XTo G ow cc nL rt d R (pc + 3) k) : XTo G ow cc nL rt d R pc (xi_putf ty ci j k) := by
  intro L S σ h p e s m args below meth c hx hb hml hr ho hts hlk hK hN H locs ls hP hD hS hL
  unfold xi_putf at h
  split at h
  · next x o S =>
    split at h
    · next hf =>
      obtain ⟨fs, h1, h2⟩ := xfld_spec hf
      obtain ⟨ty0, h0⟩ := hc.2.2.2
      have hl : j < fs.length := (List.getElem?_eq_some_iff.mp h2).1
      refine va_put (v := .int x) (fs := xFs G.2.1 (σ o) 0 fs) hx hb hts hc.2.1 ty0 h0 hc.2.2.1 ho hK hP hD hS o (xW_get h1) hc.1 j hj (hts _ hw) (fun _ q => q) hfin hpd h.1.1 h.1.2 (by rw [xFs_len]; exact hl) hd (fun H1 locs1 hP1 hD1 hS1 => ?_)
      have e1 := xW_set (G := G) (σ := σ) (p := o) (j := j) (x := x) (c := .inr (ci, fs)) (e := .inr (ci, (xFs G.2.1 (σ o) 0 fs).set j (.int x))) h1 (by
        show _ = Sum.inr (ci, xFs G.2.1 (upd (σ o) j x) 0 fs)
        rw [xFs_set _ _ _ _ _ _ h2, Nat.zero_add])
      rw [e1] at hP1 hD1
      exact hk _ _ _ h.2 p e s m args below meth c hx hb hml hr ho hts hlk hK hN H1 locs1 ls hP1 hD1 hS1 hL
    · exact h.elim
  · exact h.elim
theorem xs_putfN {ty : FieldType} {ci j idx N : Nat} {C host : String} {T : u_T} (hc : XCl ci C T N) (hj : j < N) (hw : Cond.fieldLinkNest ow idx (T j).1 (T j).2.1 (T j).2.2.1 host ∈ x_nst) (hfin : (T j).2.2.2 = false) (hpd : parseFieldDescriptor (T j).2.2.1 = some ty)
    (hd : decode cc pc = .ok (.putfield idx, 3)) (hk : XTo G ow cc nL rt d R (pc + 3) k) : XTo G ow cc nL rt d R pc (xi_putf ty ci j k) := by
  intro L S σ h p e s m args below meth c hx hb hml hr ho hts hlk hK hN H locs ls hP hD hS hL
  unfold xi_putf at h
  split at h
  · next x o S =>
    split at h
    · next hf =>
      obtain ⟨fs, h1, h2⟩ := xfld_spec hf
      obtain ⟨ty0, h0⟩ := hc.2.2.2
      have hl : j < fs.length := (List.getElem?_eq_some_iff.mp h2).1
      refine va_putN (v := .int x) (fs := xFs G.2.1 (σ o) 0 fs) hx hb hts hc.2.1 ty0 h0 hc.2.2.1 ho hK hP hD hS o (xW_get h1) hc.1 j hj (va_Nw.use rfl (hN _ hw)) (fun _ q => q) hfin hpd h.1.1 h.1.2 (by rw [xFs_len]; exact hl) hd (fun H1 locs1 hP1 hD1 hS1 => ?_)
      have e1 := xW_set (G := G) (σ := σ) (p := o) (j := j) (x := x) (c := .inr (ci, fs)) (e := .inr (ci, (xFs G.2.1 (σ o) 0 fs).set j (.int x))) h1 (by
        show _ = Sum.inr (ci, xFs G.2.1 (upd (σ o) j x) 0 fs)
        rw [xFs_set _ _ _ _ _ _ h2, Nat.zero_add])
      rw [e1] at hP1 hD1
      exact hk _ _ _ h.2 p e s m args below meth c hx hb hml hr ho hts hlk hK hN H1 locs1 ls hP1 hD1 hS1 hL
    · exact h.elim
  · exact h.elim
/-! arrays: of int (0), boolean (1), char (2) -/
def xi_ald (t : Nat) (k : XK) : XK := fun L S σ => match S with
  | .int i :: .ref a :: S => (match xarr a with
    | some (t', n) => (match Nat.beq t' t with
      | true => vp_in i n ∧ k L (.int (σ a i.toNatClampNeg) :: S) σ
      | false => False)
    | none => False)
  | _ => False
theorem xs_iald (hd : decode cc pc = .ok (.iaload, 1)) (hk : XTo G ow cc nL rt d R (pc + 1) k) : XTo G ow cc nL rt d R pc (xi_ald 0 k) := by
  intro L S σ h p e s m args below meth c hx hb hml hr ho hts hlk hK hN H locs ls hP hD hS hL
  unfold xi_ald at h
  split at h
  · split at h
    · next hq =>
      split at h
      · next ht =>
        have ht := Nat.eq_of_beq_eq_true ht
        subst ht
        exact va_iald hx hb hK hP _ 0 (xW_get (xarr_spec hq)) rfl h.1 hd (hk _ _ _ h.2 p e s m args below meth c hx hb hml hr ho hts hlk hK hN H locs ls hP hD hS hL)
      · exact h.elim
    · exact h.elim
  · exact h.elim
theorem xs_zald (hd : decode cc pc = .ok (.baload, 1)) (hk : XTo G ow cc nL rt d R (pc + 1) k) : XTo G ow cc nL rt d R pc (xi_ald 1 k) := by
  intro L S σ h p e s m args below meth c hx hb hml hr ho hts hlk hK hN H locs ls hP hD hS hL
  unfold xi_ald at h
  split at h
  · split at h
    · next hq =>
      split at h
      · next ht =>
        have ht := Nat.eq_of_beq_eq_true ht
        subst ht
        exact va_zald hx hb hK hP _ 1 (xW_get (xarr_spec hq)) rfl h.1 hd (hk _ _ _ h.2 p e s m args below meth c hx hb hml hr ho hts hlk hK hN H locs ls hP hD hS hL)
      · exact h.elim
    · exact h.elim
  · exact h.elim
theorem xs_cald (hd : decode cc pc = .ok (.caload, 1)) (hk : XTo G ow cc nL rt d R (pc + 1) k) : XTo G ow cc nL rt d R pc (xi_ald 2 k) := by
  intro L S σ h p e s m args below meth c hx hb hml hr ho hts hlk hK hN H locs ls hP hD hS hL
  unfold xi_ald at h
  split at h
  · split at h
    · next hq =>
      split at h
      · next ht =>
        have ht := Nat.eq_of_beq_eq_true ht
        subst ht
        exact va_cald hx hb hK hP _ 2 (xW_get (xarr_spec hq)) rfl h.1 hd (hk _ _ _ h.2 p e s m args below meth c hx hb hml hr ho hts hlk hK hN H locs ls hP hD hS hL)
      · exact h.elim
    · exact h.elim
  · exact h.elim
def xi_ast (t : Nat) (k : XK) : XK := fun L S σ => match S with
  | .int x :: .int i :: .ref a :: S => (match xarr a with
    | some (t', n) => (match Nat.beq t' t with
      | true => vp_in i n ∧ k L S (xup σ a i.toNatClampNeg (match t with
        | 0 => x
        | t => vp_nar (x_ty t) x))
      | false => False)
    | none => False)
  | _ => False
theorem xs_iast (hd : decode cc pc = .ok (.iastore, 1)) (hk : XTo G ow cc nL rt d R (pc + 1) k) : XTo G ow cc nL rt d R pc (xi_ast 0 k) := by
  intro L S σ h p e s m args below meth c hx hb hml hr ho hts hlk hK hN H locs ls hP hD hS hL
  unfold xi_ast at h
  split at h
  · next x i a S =>
    split at h
    · next t' n hq =>
      split at h
      · next ht =>
        have ht := Nat.eq_of_beq_eq_true ht
        subst ht
        refine va_iast hx hb hK hP hD hS _ 0 (xW_get (xarr_spec hq)) rfl h.1 hd (fun H1 locs1 hP1 hD1 hS1 => ?_)
        have e1 := xW_set (G := G) (σ := σ) (p := a) (j := i.toNatClampNeg) (x := x) (c := .inl (0, n)) (e := .inl (G.2.2.2 0, n, .inl (upd (σ a) i.toNatClampNeg x))) (xarr_spec hq) rfl
        rw [e1] at hP1 hD1
        exact hk _ _ _ h.2 p e s m args below meth c hx hb hml hr ho hts hlk hK hN H1 locs1 ls hP1 hD1 hS1 hL
      · exact h.elim
    · exact h.elim
  · exact h.elim
theorem xs_zast (hd : decode cc pc = .ok (.bastore, 1)) (hk : XTo G ow cc nL rt d R (pc + 1) k) : XTo G ow cc nL rt d R pc (xi_ast 1 k) := by
  intro L S σ h p e s m args below meth c hx hb hml hr ho hts hlk hK hN H locs ls hP hD hS hL
  unfold xi_ast at h
  split at h
  · next x i a S =>
    split at h
    · next t' n hq =>
      split at h
      · next ht =>
        have ht := Nat.eq_of_beq_eq_true ht
        subst ht
        refine va_zast hx hb hK hP hD hS _ 1 (xW_get (xarr_spec hq)) rfl h.1 hd (fun H1 locs1 hP1 hD1 hS1 => ?_)
        have e1 := xW_set (G := G) (σ := σ) (p := a) (j := i.toNatClampNeg) (x := vp_nar .boolean x) (c := .inl (1, n)) (e := .inl (G.2.2.2 1, n, .inl (upd (σ a) i.toNatClampNeg (vp_nar .boolean x)))) (xarr_spec hq) rfl
        rw [e1] at hP1 hD1
        exact hk _ _ _ h.2 p e s m args below meth c hx hb hml hr ho hts hlk hK hN H1 locs1 ls hP1 hD1 hS1 hL
      · exact h.elim
    · exact h.elim
  · exact h.elim
theorem xs_cast (hd : decode cc pc = .ok (.castore, 1)) (hk : XTo G ow cc nL rt d R (pc + 1) k) : XTo G ow cc nL rt d R pc (xi_ast 2 k) := by
  intro L S σ h p e s m args below meth c hx hb hml hr ho hts hlk hK hN H locs ls hP hD hS hL
  unfold xi_ast at h
  split at h
  · next x i a S =>
    split at h
    · next t' n hq =>
      split at h
      · next ht =>
        have ht := Nat.eq_of_beq_eq_true ht
        subst ht
        refine va_cast hx hb hK hP hD hS _ 2 (xW_get (xarr_spec hq)) rfl h.1 hd (fun H1 locs1 hP1 hD1 hS1 => ?_)
        have e1 := xW_set (G := G) (σ := σ) (p := a) (j := i.toNatClampNeg) (x := vp_nar .char x) (c := .inl (2, n)) (e := .inl (G.2.2.2 2, n, .inl (upd (σ a) i.toNatClampNeg (vp_nar .char x)))) (xarr_spec hq) rfl
        rw [e1] at hP1 hD1
        exact hk _ _ _ h.2 p e s m args below meth c hx hb hml hr ho hts hlk hK hN H1 locs1 ls hP1 hD1 hS1 hL
      · exact h.elim
    · exact h.elim
  · exact h.elim
def xi_alen (k : XK) : XK := fun L S σ => match S with
  | .ref a :: S => (match xarr a with
    | some (t, n) => (match Nat.ble t 2 with
      | true => k L (.int (Int32.ofNat n) :: S) σ
      | false => False)
    | none => False)
  | _ => False
theorem xs_alen (hd : decode cc pc = .ok (.arraylength, 1)) (hk : XTo G ow cc nL rt d R (pc + 1) k) : XTo G ow cc nL rt d R pc (xi_alen k) := by
  intro L S σ h p e s m args below meth c hx hb hml hr ho hts hlk hK hN H locs ls hP hD hS hL
  unfold xi_alen at h
  split at h
  · next a S =>
    split at h
    · next t n hq =>
      split at h
      · next ht =>
        have ht := Nat.le_of_ble_eq_true ht
        match t, ht, hq with
        | 0, _, hq => exact va_alen hx hb hK hP _ 0 (xW_get (xarr_spec hq)) rfl rfl hd (hk _ _ _ h p e s m args below meth c hx hb hml hr ho hts hlk hK hN H locs ls hP hD hS hL)
        | 1, _, hq => exact va_alen hx hb hK hP _ 1 (xW_get (xarr_spec hq)) rfl rfl hd (hk _ _ _ h p e s m args below meth c hx hb hml hr ho hts hlk hK hN H locs ls hP hD hS hL)
        | 2, _, hq => exact va_alen hx hb hK hP _ 2 (xW_get (xarr_spec hq)) rfl rfl hd (hk _ _ _ h p e s m args below meth c hx hb hml hr ho hts hlk hK hN H locs ls hP hD hS hL)
      · exact h.elim
    · exact h.elim
  · exact h.elim
end XH
