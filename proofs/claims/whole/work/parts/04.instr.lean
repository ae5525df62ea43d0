/-! the weakest start of each instruction, and its row: the machine does it -/
section XI
variable {G : XG} {ow : String} {cc : ByteArray} {nL : Nat} {rt : Option FieldType} {d : Nat} {R : Option Value → Sg → Prop} {pc : Nat} {k kt kf : XK}
/-- what holds at k leads to the return from pc on -/
def XTo (G : XG) (ow : String) (cc : ByteArray) (nL : Nat) (rt : Option FieldType) (d : Nat) (R : Option Value → Sg → Prop) (pc : Nat) (k : XK) : Prop := ∀ L S σ, k L S σ → XAt G ow cc nL rt d R pc L S σ
theorem xto_at : XTo G ow cc nL rt d R pc (XAt G ow cc nL rt d R pc) := fun _ _ _ h => h
theorem xD_of {σ τ : Sg} (h : va_D (xA G) (xW G σ)) : va_D (xA G) (xW G τ) := by
  have key : ∀ (i : Nat) (q : Nat × va_E), (xW G τ)[i]? = some q → ∃ q', (xW G σ)[i]? = some q' ∧ q'.1 = q.1 := by
    intro i q hq
    unfold xW at hq ⊢
    rw [xWl_get] at hq ⊢
    cases hc : x_sh[i]? with
    | none => rw [hc] at hq; cases hq
    | some c => rw [hc] at hq; cases hq; exact ⟨_, rfl, rfl⟩
  refine ⟨fun i j p q hi hj hpq => ?_, fun i q hq => ?_⟩
  · obtain ⟨p', h1, e1⟩ := key i p hi
    obtain ⟨q', h2, e2⟩ := key j q hj
    exact h.1 i j p' q' h1 h2 (by rw [e1, e2, hpq])
  · obtain ⟨q', h1, e1⟩ := key i q hq
    rw [← e1]
    exact h.2 i q' h1
theorem xnar (x : Int32) : narrow .int (.int x) = .int x ∧ fits .int (.int x) = true := ⟨rfl, rfl⟩

def xi_iload (i : Nat) (k : XK) : XK := fun L S σ => match xl L i with
  | some (.int x) => k L (.int x :: S) σ
  | _ => False
theorem xs_iload_n {i : Fin 4} (hd : decode cc pc = .ok (.iload_n i, 1)) (hk : XTo G ow cc nL rt d R (pc + 1) k) : XTo G ow cc nL rt d R pc (xi_iload (i : Nat) k) := by
  intro L S σ h p e s m args below meth c hx hb hml hr ho hts hlk hK hN H locs ls hP hD hS hL
  unfold xi_iload at h
  split at h
  · next x hl =>
    exact lv_iload_n (x := x) hx hb hd rfl (hL.at (xl_spec hl)) (hk _ _ _ h p e s m args below meth c hx hb hml hr ho hts hlk hK hN H locs ls hP hD hS hL)
  · exact h.elim
theorem xs_iload {i : Nat} (hd : decode cc pc = .ok (.iload i, 2)) (hk : XTo G ow cc nL rt d R (pc + 2) k) : XTo G ow cc nL rt d R pc (xi_iload i k) := by
  intro L S σ h p e s m args below meth c hx hb hml hr ho hts hlk hK hN H locs ls hP hD hS hL
  unfold xi_iload at h
  split at h
  · next x hl =>
    exact lv_iload (x := x) hx hb hd (hL.at (xl_spec hl)) (hk _ _ _ h p e s m args below meth c hx hb hml hr ho hts hlk hK hN H locs ls hP hD hS hL)
  · exact h.elim
def xi_aload (i : Nat) (k : XK) : XK := fun L S σ => match xl L i with
  | some (.ref x) => k L (.ref x :: S) σ
  | _ => False
theorem xs_aload_n {i : Fin 4} (hd : decode cc pc = .ok (.aload_n i, 1)) (hk : XTo G ow cc nL rt d R (pc + 1) k) : XTo G ow cc nL rt d R pc (xi_aload (i : Nat) k) := by
  intro L S σ h p e s m args below meth c hx hb hml hr ho hts hlk hK hN H locs ls hP hD hS hL
  unfold xi_aload at h
  split at h
  · next x hl =>
    exact lv_aload_n (x := G.2.1 x) hx hb hd rfl (hL.at (xl_spec hl)) (hk _ _ _ h p e s m args below meth c hx hb hml hr ho hts hlk hK hN H locs ls hP hD hS hL)
  · exact h.elim
theorem xs_aload {i : Nat} (hd : decode cc pc = .ok (.aload i, 2)) (hk : XTo G ow cc nL rt d R (pc + 2) k) : XTo G ow cc nL rt d R pc (xi_aload i k) := by
  intro L S σ h p e s m args below meth c hx hb hml hr ho hts hlk hK hN H locs ls hP hD hS hL
  unfold xi_aload at h
  split at h
  · next x hl =>
    exact lv_aload (x := G.2.1 x) hx hb hd (hL.at (xl_spec hl)) (hk _ _ _ h p e s m args below meth c hx hb hml hr ho hts hlk hK hN H locs ls hP hD hS hL)
  · exact h.elim
def xi_lload (i : Nat) (k : XK) : XK := fun L S σ => match xl L i with
  | some (.long x) => k L (.long x :: S) σ
  | _ => False
theorem xs_lload_n {i : Fin 4} (hd : decode cc pc = .ok (.lload_n i, 1)) (hk : XTo G ow cc nL rt d R (pc + 1) k) : XTo G ow cc nL rt d R pc (xi_lload (i : Nat) k) := by
  intro L S σ h p e s m args below meth c hx hb hml hr ho hts hlk hK hN H locs ls hP hD hS hL
  unfold xi_lload at h
  split at h
  · next x hl =>
    exact lv_lload_n (x := x) hx hb hd rfl (hL.at (xl_spec hl)) (hk _ _ _ h p e s m args below meth c hx hb hml hr ho hts hlk hK hN H locs ls hP hD hS hL)
  · exact h.elim
theorem xs_lload {i : Nat} (hd : decode cc pc = .ok (.lload i, 2)) (hk : XTo G ow cc nL rt d R (pc + 2) k) : XTo G ow cc nL rt d R pc (xi_lload i k) := by
  intro L S σ h p e s m args below meth c hx hb hml hr ho hts hlk hK hN H locs ls hP hD hS hL
  unfold xi_lload at h
  split at h
  · next x hl =>
    exact lv_lload (x := x) hx hb hd (hL.at (xl_spec hl)) (hk _ _ _ h p e s m args below meth c hx hb hml hr ho hts hlk hK hN H locs ls hP hD hS hL)
  · exact h.elim
def xok1 (L : List (Option Value)) (i : Nat) : Bool := decide (i < L.length) && xnarrow L i
def xok2 (L : List (Option Value)) (i : Nat) : Bool := decide (i + 1 < L.length) && xnarrow L i
def xi_istore (i : Nat) (k : XK) : XK := fun L S σ => match S with
  | .int x :: S => (match xok1 L i with
    | true => k (xst L i (some (.int x))) S σ
    | false => False)
  | _ => False
theorem xs_istore_n {i : Fin 4} (hd : decode cc pc = .ok (.istore_n i, 1)) (hk : XTo G ow cc nL rt d R (pc + 1) k) : XTo G ow cc nL rt d R pc (xi_istore (i : Nat) k) := by
  intro L S σ h p e s m args below meth c hx hb hml hr ho hts hlk hK hN H locs ls hP hD hS hL
  unfold xi_istore at h
  split at h
  · next x S =>
    split at h
    · next hok =>
      unfold xok1 at hok
      rw [Bool.and_eq_true, decide_eq_true_eq] at hok
      have hs := hL.store1 (v := .int x) hok.1 hok.2
      exact lv_istore_n (x := x) hx hb hd rfl hL.2 (by rw [← hL.1]; exact hok.1) rfl (fun ls' hl' => hk _ _ _ h p e s m args below meth c hx hb hml hr ho hts hlk hK hN H locs ls' hP hD hS ⟨by rw [xst_len]; exact hL.1, lv_has_of hl' hs⟩)
    · exact h.elim
  · exact h.elim
theorem xs_istore {i : Nat} (hd : decode cc pc = .ok (.istore i, 2)) (hk : XTo G ow cc nL rt d R (pc + 2) k) : XTo G ow cc nL rt d R pc (xi_istore i k) := by
  intro L S σ h p e s m args below meth c hx hb hml hr ho hts hlk hK hN H locs ls hP hD hS hL
  unfold xi_istore at h
  split at h
  · next x S =>
    split at h
    · next hok =>
      unfold xok1 at hok
      rw [Bool.and_eq_true, decide_eq_true_eq] at hok
      have hs := hL.store1 (v := .int x) hok.1 hok.2
      exact lv_istore (x := x) hx hb hd hL.2 (by rw [← hL.1]; exact hok.1) rfl (fun ls' hl' => hk _ _ _ h p e s m args below meth c hx hb hml hr ho hts hlk hK hN H locs ls' hP hD hS ⟨by rw [xst_len]; exact hL.1, lv_has_of hl' hs⟩)
    · exact h.elim
  · exact h.elim
def xi_astore (i : Nat) (k : XK) : XK := fun L S σ => match S with
  | .ref x :: S => (match xok1 L i with
    | true => k (xst L i (some (.ref x))) S σ
    | false => False)
  | _ => False
theorem xs_astore_n {i : Fin 4} (hd : decode cc pc = .ok (.astore_n i, 1)) (hk : XTo G ow cc nL rt d R (pc + 1) k) : XTo G ow cc nL rt d R pc (xi_astore (i : Nat) k) := by
  intro L S σ h p e s m args below meth c hx hb hml hr ho hts hlk hK hN H locs ls hP hD hS hL
  unfold xi_astore at h
  split at h
  · next x S =>
    split at h
    · next hok =>
      unfold xok1 at hok
      rw [Bool.and_eq_true, decide_eq_true_eq] at hok
      have hs := hL.store1 (v := .ref x) hok.1 hok.2
      exact lv_astore_n (x := G.2.1 x) hx hb hd rfl hL.2 (by rw [← hL.1]; exact hok.1) rfl (fun ls' hl' => hk _ _ _ h p e s m args below meth c hx hb hml hr ho hts hlk hK hN H locs ls' hP hD hS ⟨by rw [xst_len]; exact hL.1, lv_has_of hl' hs⟩)
    · exact h.elim
  · exact h.elim
theorem xs_astore {i : Nat} (hd : decode cc pc = .ok (.astore i, 2)) (hk : XTo G ow cc nL rt d R (pc + 2) k) : XTo G ow cc nL rt d R pc (xi_astore i k) := by
  intro L S σ h p e s m args below meth c hx hb hml hr ho hts hlk hK hN H locs ls hP hD hS hL
  unfold xi_astore at h
  split at h
  · next x S =>
    split at h
    · next hok =>
      unfold xok1 at hok
      rw [Bool.and_eq_true, decide_eq_true_eq] at hok
      have hs := hL.store1 (v := .ref x) hok.1 hok.2
      exact lv_astore (x := G.2.1 x) hx hb hd hL.2 (by rw [← hL.1]; exact hok.1) rfl (fun ls' hl' => hk _ _ _ h p e s m args below meth c hx hb hml hr ho hts hlk hK hN H locs ls' hP hD hS ⟨by rw [xst_len]; exact hL.1, lv_has_of hl' hs⟩)
    · exact h.elim
  · exact h.elim
def xi_lstore (i : Nat) (k : XK) : XK := fun L S σ => match S with
  | .long x :: S => (match xok2 L i with
    | true => k (xst (xst L i (some (.long x))) (i + 1) none) S σ
    | false => False)
  | _ => False
theorem xs_lstore_n {i : Fin 4} (hd : decode cc pc = .ok (.lstore_n i, 1)) (hk : XTo G ow cc nL rt d R (pc + 1) k) : XTo G ow cc nL rt d R pc (xi_lstore (i : Nat) k) := by
  intro L S σ h p e s m args below meth c hx hb hml hr ho hts hlk hK hN H locs ls hP hD hS hL
  unfold xi_lstore at h
  split at h
  · next x S =>
    split at h
    · next hok =>
      unfold xok2 at hok
      rw [Bool.and_eq_true, decide_eq_true_eq] at hok
      have hs := hL.store2 (v := .long x) hok.1 hok.2
      exact lv_lstore_n (x := x) hx hb hd rfl hL.2 (by rw [← hL.1]; exact hok.1) rfl (fun ls' hl' => hk _ _ _ h p e s m args below meth c hx hb hml hr ho hts hlk hK hN H locs ls' hP hD hS ⟨by rw [xst_len, xst_len]; exact hL.1, lv_has_of hl' hs⟩)
    · exact h.elim
  · exact h.elim
theorem xs_lstore {i : Nat} (hd : decode cc pc = .ok (.lstore i, 2)) (hk : XTo G ow cc nL rt d R (pc + 2) k) : XTo G ow cc nL rt d R pc (xi_lstore i k) := by
  intro L S σ h p e s m args below meth c hx hb hml hr ho hts hlk hK hN H locs ls hP hD hS hL
  unfold xi_lstore at h
  split at h
  · next x S =>
    split at h
    · next hok =>
      unfold xok2 at hok
      rw [Bool.and_eq_true, decide_eq_true_eq] at hok
      have hs := hL.store2 (v := .long x) hok.1 hok.2
      exact lv_lstore (x := x) hx hb hd hL.2 (by rw [← hL.1]; exact hok.1) rfl (fun ls' hl' => hk _ _ _ h p e s m args below meth c hx hb hml hr ho hts hlk hK hN H locs ls' hP hD hS ⟨by rw [xst_len, xst_len]; exact hL.1, lv_has_of hl' hs⟩)
    · exact h.elim
  · exact h.elim
def xi_ic (v : Int32) (k : XK) : XK := fun L S σ => k L (.int v :: S) σ
theorem xs_iconst {n : Int} {v : Int32} (hd : decode cc pc = .ok (.iconst n, 1)) (hv : Int32.ofInt n = v) (hk : XTo G ow cc nL rt d R (pc + 1) k) : XTo G ow cc nL rt d R pc (xi_ic v k) := by
  intro L S σ h p e s m args below meth c hx hb hml hr ho hts hlk hK hN H locs ls hP hD hS hL
  exact lv_iconst hx hb hd hv (hk _ _ _ h p e s m args below meth c hx hb hml hr ho hts hlk hK hN H locs ls hP hD hS hL)
theorem xs_bipush {n : Int} {v : Int32} (hd : decode cc pc = .ok (.bipush n, 2)) (hv : (Int8.ofInt n).toInt32 = v) (hk : XTo G ow cc nL rt d R (pc + 2) k) : XTo G ow cc nL rt d R pc (xi_ic v k) := by
  intro L S σ h p e s m args below meth c hx hb hml hr ho hts hlk hK hN H locs ls hP hD hS hL
  exact lv_bipush hx hb hd hv (hk _ _ _ h p e s m args below meth c hx hb hml hr ho hts hlk hK hN H locs ls hP hD hS hL)
theorem xs_sipush {n : Int} {v : Int32} (hd : decode cc pc = .ok (.sipush n, 3)) (hv : (Int16.ofInt n).toInt32 = v) (hk : XTo G ow cc nL rt d R (pc + 3) k) : XTo G ow cc nL rt d R pc (xi_ic v k) := by
  intro L S σ h p e s m args below meth c hx hb hml hr ho hts hlk hK hN H locs ls hP hD hS hL
  exact lv_sipush hx hb hd hv (hk _ _ _ h p e s m args below meth c hx hb hml hr ho hts hlk hK hN H locs ls hP hD hS hL)
def xi_lc (v : Int64) (k : XK) : XK := fun L S σ => k L (.long v :: S) σ
theorem xs_lconst {n : Fin 2} {v : Int64} (hd : decode cc pc = .ok (.lconst n, 1)) (hv : Int64.ofNat (n : Nat) = v) (hk : XTo G ow cc nL rt d R (pc + 1) k) : XTo G ow cc nL rt d R pc (xi_lc v k) := by
  intro L S σ h p e s m args below meth c hx hb hml hr ho hts hlk hK hN H locs ls hP hD hS hL
  exact lv_lconst hx hb hd hv (hk _ _ _ h p e s m args below meth c hx hb hml hr ho hts hlk hK hN H locs ls hP hD hS hL)
theorem xs_ldc {index : Nat} {v : Int32} (hw : Cond.constant ow index v ∈ x_tbl) (hd : decode cc pc = .ok (.ldc index, 2)) (hk : XTo G ow cc nL rt d R (pc + 2) k) : XTo G ow cc nL rt d R pc (xi_ic v k) := by
  intro L S σ h p e s m args below meth c hx hb hml hr ho hts hlk hK hN H locs ls hP hD hS hL
  exact lv_ldc hx hb ho (hts _ hw) hd (hk _ _ _ h p e s m args below meth c hx hb hml hr ho hts hlk hK hN H locs ls hP hD hS hL)
theorem xs_ldcw {index : Nat} {v : Int32} (hw : Cond.constant ow index v ∈ x_tbl) (hd : decode cc pc = .ok (.ldc_w index, 3)) (hk : XTo G ow cc nL rt d R (pc + 3) k) : XTo G ow cc nL rt d R pc (xi_ic v k) := by
  intro L S σ h p e s m args below meth c hx hb hml hr ho hts hlk hK hN H locs ls hP hD hS hL
  exact lv_ldcw hx hb ho (hts _ hw) hd (hk _ _ _ h p e s m args below meth c hx hb hml hr ho hts hlk hK hN H locs ls hP hD hS hL)
theorem xs_ldc2 {index : Nat} {v : Int64} (hw : Cond.constantLong ow index v ∈ x_tbl) (hd : decode cc pc = .ok (.ldc2_w index, 3)) (hk : XTo G ow cc nL rt d R (pc + 3) k) : XTo G ow cc nL rt d R pc (xi_lc v k) := by
  intro L S σ h p e s m args below meth c hx hb hml hr ho hts hlk hK hN H locs ls hP hD hS hL
  exact lv_ldc2 hx hb ho (hts _ hw) hd (hk _ _ _ h p e s m args below meth c hx hb hml hr ho hts hlk hK hN H locs ls hP hD hS hL)
def xi_iinc (i : Nat) (n : Int32) (k : XK) : XK := fun L S σ => match xl L i with
  | some (.int x) => (match xok1 L i with
    | true => k (xst L i (some (.int (x + n)))) S σ
    | false => False)
  | _ => False
theorem xs_iinc {i : Nat} {n : Int} {v : Int32} (hd : decode cc pc = .ok (.iinc i n, 3)) (hv : Int32.ofInt n = v) (hk : XTo G ow cc nL rt d R (pc + 3) k) : XTo G ow cc nL rt d R pc (xi_iinc i v k) := by
  intro L S σ h p e s m args below meth c hx hb hml hr ho hts hlk hK hN H locs ls hP hD hS hL
  unfold xi_iinc at h
  split at h
  · next x hl =>
    split at h
    · next hok =>
      unfold xok1 at hok
      rw [Bool.and_eq_true, decide_eq_true_eq] at hok
      have hs := hL.store1 (v := .int (x + v)) hok.1 hok.2
      have hm : (i, Value.int x) ∈ xlv G.2.1 0 L := (xlv_mem G.2.1 L 0 _).mpr ⟨i, .int x, xl_spec hl, by simp [xcv]⟩
      obtain ⟨k9, hk9⟩ := List.getElem?_of_mem hm
      exact lv_iinc (x := x) hx hb hd hL.2 hk9 (by rw [hv]) (by rw [← hL.1]; exact hok.1) rfl (fun ls' hl' => hk _ _ _ h p e s m args below meth c hx hb hml hr ho hts hlk hK hN H locs ls' hP hD hS ⟨by rw [xst_len]; exact hL.1, lv_has_of hl' hs⟩)
    · exact h.elim
  · exact h.elim
def xi_iadd (k : XK) : XK := fun L S σ => match S with
  | .int y :: .int x :: S => k L (.int (x + y) :: S) σ
  | _ => False
theorem xs_iadd (hd : decode cc pc = .ok (.iadd, 1)) (hk : XTo G ow cc nL rt d R (pc + 1) k) : XTo G ow cc nL rt d R pc (xi_iadd k) := by
  intro L S σ h p e s m args below meth c hx hb hml hr ho hts hlk hK hN H locs ls hP hD hS hL
  unfold xi_iadd at h
  split at h
  · exact lv_iadd hx hb hd (hk _ _ _ h p e s m args below meth c hx hb hml hr ho hts hlk hK hN H locs ls hP hD hS hL)
  · exact h.elim
def xi_isub (k : XK) : XK := fun L S σ => match S with
  | .int y :: .int x :: S => k L (.int (x - y) :: S) σ
  | _ => False
theorem xs_isub (hd : decode cc pc = .ok (.isub, 1)) (hk : XTo G ow cc nL rt d R (pc + 1) k) : XTo G ow cc nL rt d R pc (xi_isub k) := by
  intro L S σ h p e s m args below meth c hx hb hml hr ho hts hlk hK hN H locs ls hP hD hS hL
  unfold xi_isub at h
  split at h
  · exact lv_isub hx hb hd (hk _ _ _ h p e s m args below meth c hx hb hml hr ho hts hlk hK hN H locs ls hP hD hS hL)
  · exact h.elim
def xi_imul (k : XK) : XK := fun L S σ => match S with
  | .int y :: .int x :: S => k L (.int (x * y) :: S) σ
  | _ => False
theorem xs_imul (hd : decode cc pc = .ok (.imul, 1)) (hk : XTo G ow cc nL rt d R (pc + 1) k) : XTo G ow cc nL rt d R pc (xi_imul k) := by
  intro L S σ h p e s m args below meth c hx hb hml hr ho hts hlk hK hN H locs ls hP hD hS hL
  unfold xi_imul at h
  split at h
  · exact lv_imul hx hb hd (hk _ _ _ h p e s m args below meth c hx hb hml hr ho hts hlk hK hN H locs ls hP hD hS hL)
  · exact h.elim
def xi_iand (k : XK) : XK := fun L S σ => match S with
  | .int y :: .int x :: S => k L (.int (x &&& y) :: S) σ
  | _ => False
theorem xs_iand (hd : decode cc pc = .ok (.iand, 1)) (hk : XTo G ow cc nL rt d R (pc + 1) k) : XTo G ow cc nL rt d R pc (xi_iand k) := by
  intro L S σ h p e s m args below meth c hx hb hml hr ho hts hlk hK hN H locs ls hP hD hS hL
  unfold xi_iand at h
  split at h
  · exact lv_iand hx hb hd (hk _ _ _ h p e s m args below meth c hx hb hml hr ho hts hlk hK hN H locs ls hP hD hS hL)
  · exact h.elim
def xi_iushr (k : XK) : XK := fun L S σ => match S with
  | .int y :: .int x :: S => k L (.int (x.toUInt32 >>> (y.toUInt32 &&& Int32.toUInt32 31)).toInt32 :: S) σ
  | _ => False
theorem xs_iushr (hd : decode cc pc = .ok (.iushr, 1)) (hk : XTo G ow cc nL rt d R (pc + 1) k) : XTo G ow cc nL rt d R pc (xi_iushr k) := by
  intro L S σ h p e s m args below meth c hx hb hml hr ho hts hlk hK hN H locs ls hP hD hS hL
  unfold xi_iushr at h
  split at h
  · exact lv_iushr hx hb hd rfl (hk _ _ _ h p e s m args below meth c hx hb hml hr ho hts hlk hK hN H locs ls hP hD hS hL)
  · exact h.elim
def xi_ineg (k : XK) : XK := fun L S σ => match S with
  | .int x :: S => k L (.int (-x) :: S) σ
  | _ => False
theorem xs_ineg (hd : decode cc pc = .ok (.ineg, 1)) (hk : XTo G ow cc nL rt d R (pc + 1) k) : XTo G ow cc nL rt d R pc (xi_ineg k) := by
  intro L S σ h p e s m args below meth c hx hb hml hr ho hts hlk hK hN H locs ls hP hD hS hL
  unfold xi_ineg at h
  split at h
  · exact lv_ineg hx hb hd (hk _ _ _ h p e s m args below meth c hx hb hml hr ho hts hlk hK hN H locs ls hP hD hS hL)
  · exact h.elim
def xi_idiv (k : XK) : XK := fun L S σ => match S with
  | .int y :: .int x :: S => ¬ y = 0 ∧ k L (.int (x / y) :: S) σ
  | _ => False
theorem xs_idiv (hd : decode cc pc = .ok (.idiv, 1)) (hk : XTo G ow cc nL rt d R (pc + 1) k) : XTo G ow cc nL rt d R pc (xi_idiv k) := by
  intro L S σ h p e s m args below meth c hx hb hml hr ho hts hlk hK hN H locs ls hP hD hS hL
  unfold xi_idiv at h
  split at h
  · exact lv_idiv hx hb hd h.1 (hk _ _ _ h.2 p e s m args below meth c hx hb hml hr ho hts hlk hK hN H locs ls hP hD hS hL)
  · exact h.elim
def xi_irem (k : XK) : XK := fun L S σ => match S with
  | .int y :: .int x :: S => ¬ y = 0 ∧ k L (.int (x - x / y * y) :: S) σ
  | _ => False
theorem xs_irem (hd : decode cc pc = .ok (.irem, 1)) (hk : XTo G ow cc nL rt d R (pc + 1) k) : XTo G ow cc nL rt d R pc (xi_irem k) := by
  intro L S σ h p e s m args below meth c hx hb hml hr ho hts hlk hK hN H locs ls hP hD hS hL
  unfold xi_irem at h
  split at h
  · exact lv_irem hx hb hd h.1 (hk _ _ _ h.2 p e s m args below meth c hx hb hml hr ho hts hlk hK hN H locs ls hP hD hS hL)
  · exact h.elim
def xi_ladd (k : XK) : XK := fun L S σ => match S with
  | .long y :: .long x :: S => k L (.long (x + y) :: S) σ
  | _ => False
theorem xs_ladd (hd : decode cc pc = .ok (.ladd, 1)) (hk : XTo G ow cc nL rt d R (pc + 1) k) : XTo G ow cc nL rt d R pc (xi_ladd k) := by
  intro L S σ h p e s m args below meth c hx hb hml hr ho hts hlk hK hN H locs ls hP hD hS hL
  unfold xi_ladd at h
  split at h
  · exact lv_ladd hx hb hd (hk _ _ _ h p e s m args below meth c hx hb hml hr ho hts hlk hK hN H locs ls hP hD hS hL)
  · exact h.elim
def xi_lmul (k : XK) : XK := fun L S σ => match S with
  | .long y :: .long x :: S => k L (.long (x * y) :: S) σ
  | _ => False
theorem xs_lmul (hd : decode cc pc = .ok (.lmul, 1)) (hk : XTo G ow cc nL rt d R (pc + 1) k) : XTo G ow cc nL rt d R pc (xi_lmul k) := by
  intro L S σ h p e s m args below meth c hx hb hml hr ho hts hlk hK hN H locs ls hP hD hS hL
  unfold xi_lmul at h
  split at h
  · exact lv_lmul hx hb hd (hk _ _ _ h p e s m args below meth c hx hb hml hr ho hts hlk hK hN H locs ls hP hD hS hL)
  · exact h.elim
def xi_lrem (k : XK) : XK := fun L S σ => match S with
  | .long y :: .long x :: S => ¬ y = 0 ∧ k L (.long (x - x / y * y) :: S) σ
  | _ => False
theorem xs_lrem (hd : decode cc pc = .ok (.lrem, 1)) (hk : XTo G ow cc nL rt d R (pc + 1) k) : XTo G ow cc nL rt d R pc (xi_lrem k) := by
  intro L S σ h p e s m args below meth c hx hb hml hr ho hts hlk hK hN H locs ls hP hD hS hL
  unfold xi_lrem at h
  split at h
  · exact lv_lrem hx hb hd h.1 (hk _ _ _ h.2 p e s m args below meth c hx hb hml hr ho hts hlk hK hN H locs ls hP hD hS hL)
  · exact h.elim
def xi_lcmp (k : XK) : XK := fun L S σ => match S with
  | .long y :: .long x :: S => k L (.int (lg_cmp x y) :: S) σ
  | _ => False
theorem xs_lcmp (hd : decode cc pc = .ok (.lcmp, 1)) (hk : XTo G ow cc nL rt d R (pc + 1) k) : XTo G ow cc nL rt d R pc (xi_lcmp k) := by
  intro L S σ h p e s m args below meth c hx hb hml hr ho hts hlk hK hN H locs ls hP hD hS hL
  unfold xi_lcmp at h
  split at h
  · exact W.lcmp hx hb hd (hk _ _ _ h p e s m args below meth c hx hb hml hr ho hts hlk hK hN H locs ls hP hD hS hL)
  · exact h.elim
def xi_i2l (k : XK) : XK := fun L S σ => match S with
  | .int x :: S => k L (.long x.toInt64 :: S) σ
  | _ => False
theorem xs_i2l (hd : decode cc pc = .ok (.i2l, 1)) (hk : XTo G ow cc nL rt d R (pc + 1) k) : XTo G ow cc nL rt d R pc (xi_i2l k) := by
  intro L S σ h p e s m args below meth c hx hb hml hr ho hts hlk hK hN H locs ls hP hD hS hL
  unfold xi_i2l at h
  split at h
  · exact lv_i2l hx hb hd rfl (hk _ _ _ h p e s m args below meth c hx hb hml hr ho hts hlk hK hN H locs ls hP hD hS hL)
  · exact h.elim
def xi_l2i (k : XK) : XK := fun L S σ => match S with
  | .long x :: S => k L (.int x.toInt32 :: S) σ
  | _ => False
theorem xs_l2i (hd : decode cc pc = .ok (.l2i, 1)) (hk : XTo G ow cc nL rt d R (pc + 1) k) : XTo G ow cc nL rt d R pc (xi_l2i k) := by
  intro L S σ h p e s m args below meth c hx hb hml hr ho hts hlk hK hN H locs ls hP hD hS hL
  unfold xi_l2i at h
  split at h
  · exact lv_l2i hx hb hd rfl (hk _ _ _ h p e s m args below meth c hx hb hml hr ho hts hlk hK hN H locs ls hP hD hS hL)
  · exact h.elim
def xi_i2c (k : XK) : XK := fun L S σ => match S with
  | .int x :: S => k L (.int (x.toUInt32 % 65536).toInt32 :: S) σ
  | _ => False
theorem xs_i2c (hd : decode cc pc = .ok (.i2c, 1)) (hk : XTo G ow cc nL rt d R (pc + 1) k) : XTo G ow cc nL rt d R pc (xi_i2c k) := by
  intro L S σ h p e s m args below meth c hx hb hml hr ho hts hlk hK hN H locs ls hP hD hS hL
  unfold xi_i2c at h
  split at h
  · exact lv_i2c hx hb hd rfl (hk _ _ _ h p e s m args below meth c hx hb hml hr ho hts hlk hK hN H locs ls hP hD hS hL)
  · exact h.elim
def xone (v : Value) : Bool := match v with
  | .int _ => true
  | .ref _ => true
  | _ => false
theorem xone_cat {ad : Nat → Nat} {v : Value} (h : xone v = true) : (xcv ad v).category = 1 := by cases v <;> first | rfl | cases h
def xi_dup (k : XK) : XK := fun L S σ => match S with
  | v :: S => (match xone v with
    | true => k L (v :: v :: S) σ
    | false => False)
  | _ => False
theorem xs_dup (hd : decode cc pc = .ok (.dup, 1)) (hk : XTo G ow cc nL rt d R (pc + 1) k) : XTo G ow cc nL rt d R pc (xi_dup k) := by
  intro L S σ h p e s m args below meth c hx hb hml hr ho hts hlk hK hN H locs ls hP hD hS hL
  unfold xi_dup at h
  split at h
  · split at h
    · next hc => exact lv_dup hx hb hd (xone_cat hc) (hk _ _ _ h p e s m args below meth c hx hb hml hr ho hts hlk hK hN H locs ls hP hD hS hL)
    · exact h.elim
  · exact h.elim
def xi_pop (k : XK) : XK := fun L S σ => match S with
  | v :: S => (match xone v with
    | true => k L S σ
    | false => False)
  | _ => False
theorem xs_pop (hd : decode cc pc = .ok (.pop, 1)) (hk : XTo G ow cc nL rt d R (pc + 1) k) : XTo G ow cc nL rt d R pc (xi_pop k) := by
  intro L S σ h p e s m args below meth c hx hb hml hr ho hts hlk hK hN H locs ls hP hD hS hL
  unfold xi_pop at h
  split at h
  · split at h
    · next hc => exact lv_pop hx hb hd (xone_cat hc) (hk _ _ _ h p e s m args below meth c hx hb hml hr ho hts hlk hK hN H locs ls hP hD hS hL)
    · exact h.elim
  · exact h.elim
def xi_dup2 (k : XK) : XK := fun L S σ => match S with
  | v :: w :: S => (match xone v && xone w with
    | true => k L (v :: w :: v :: w :: S) σ
    | false => False)
  | _ => False
theorem xs_dup2 (hd : decode cc pc = .ok (.dup2, 1)) (hk : XTo G ow cc nL rt d R (pc + 1) k) : XTo G ow cc nL rt d R pc (xi_dup2 k) := by
  intro L S σ h p e s m args below meth c hx hb hml hr ho hts hlk hK hN H locs ls hP hD hS hL
  unfold xi_dup2 at h
  split at h
  · split at h
    · next hc =>
      rw [Bool.and_eq_true] at hc
      exact lv_dup2_11 hx hb hd (xone_cat hc.1) (xone_cat hc.2) (hk _ _ _ h p e s m args below meth c hx hb hml hr ho hts hlk hK hN H locs ls hP hD hS hL)
    · exact h.elim
  · exact h.elim
def xi_ifeq (kt kf : XK) : XK := fun L S σ => match S with
  | .int x :: S => (x = 0 → kt L S σ) ∧ (¬ x = 0 → kf L S σ)
  | _ => False
theorem xs_ifeq {off : Int} {tgt : Nat} (hd : decode cc pc = .ok (.ifCond .eq off, 3)) (ht : (pc : Int) + off = (tgt : Int)) (h1 : XTo G ow cc nL rt d R tgt kt) (h2 : XTo G ow cc nL rt d R (pc + 3) kf) : XTo G ow cc nL rt d R pc (xi_ifeq kt kf) := by
  intro L S σ h p e s m args below meth c hx hb hml hr ho hts hlk hK hN H locs ls hP hD hS hL
  unfold xi_ifeq at h
  split at h
  · exact lv_if_eq hx hb hd ht (fun hc => h1 _ _ _ (h.1 hc) p e s m args below meth c hx hb hml hr ho hts hlk hK hN H locs ls hP hD hS hL) (fun hc => h2 _ _ _ (h.2 hc) p e s m args below meth c hx hb hml hr ho hts hlk hK hN H locs ls hP hD hS hL)
  · exact h.elim
def xi_iceq (kt kf : XK) : XK := fun L S σ => match S with
  | .int y :: .int x :: S => (x = y → kt L S σ) ∧ (¬ x = y → kf L S σ)
  | _ => False
theorem xs_iceq {off : Int} {tgt : Nat} (hd : decode cc pc = .ok (.if_icmp .eq off, 3)) (ht : (pc : Int) + off = (tgt : Int)) (h1 : XTo G ow cc nL rt d R tgt kt) (h2 : XTo G ow cc nL rt d R (pc + 3) kf) : XTo G ow cc nL rt d R pc (xi_iceq kt kf) := by
  intro L S σ h p e s m args below meth c hx hb hml hr ho hts hlk hK hN H locs ls hP hD hS hL
  unfold xi_iceq at h
  split at h
  · exact lv_icmp_eq hx hb hd ht (fun hc => h1 _ _ _ (h.1 hc) p e s m args below meth c hx hb hml hr ho hts hlk hK hN H locs ls hP hD hS hL) (fun hc => h2 _ _ _ (h.2 hc) p e s m args below meth c hx hb hml hr ho hts hlk hK hN H locs ls hP hD hS hL)
  · exact h.elim
def xi_ifne (kt kf : XK) : XK := fun L S σ => match S with
  | .int x :: S => (¬ x = 0 → kt L S σ) ∧ (x = 0 → kf L S σ)
  | _ => False
theorem xs_ifne {off : Int} {tgt : Nat} (hd : decode cc pc = .ok (.ifCond .ne off, 3)) (ht : (pc : Int) + off = (tgt : Int)) (h1 : XTo G ow cc nL rt d R tgt kt) (h2 : XTo G ow cc nL rt d R (pc + 3) kf) : XTo G ow cc nL rt d R pc (xi_ifne kt kf) := by
  intro L S σ h p e s m args below meth c hx hb hml hr ho hts hlk hK hN H locs ls hP hD hS hL
  unfold xi_ifne at h
  split at h
  · exact lv_if_ne hx hb hd ht (fun hc => h1 _ _ _ (h.1 hc) p e s m args below meth c hx hb hml hr ho hts hlk hK hN H locs ls hP hD hS hL) (fun hc => h2 _ _ _ (h.2 hc) p e s m args below meth c hx hb hml hr ho hts hlk hK hN H locs ls hP hD hS hL)
  · exact h.elim
def xi_icne (kt kf : XK) : XK := fun L S σ => match S with
  | .int y :: .int x :: S => (¬ x = y → kt L S σ) ∧ (x = y → kf L S σ)
  | _ => False
theorem xs_icne {off : Int} {tgt : Nat} (hd : decode cc pc = .ok (.if_icmp .ne off, 3)) (ht : (pc : Int) + off = (tgt : Int)) (h1 : XTo G ow cc nL rt d R tgt kt) (h2 : XTo G ow cc nL rt d R (pc + 3) kf) : XTo G ow cc nL rt d R pc (xi_icne kt kf) := by
  intro L S σ h p e s m args below meth c hx hb hml hr ho hts hlk hK hN H locs ls hP hD hS hL
  unfold xi_icne at h
  split at h
  · exact lv_icmp_ne hx hb hd ht (fun hc => h1 _ _ _ (h.1 hc) p e s m args below meth c hx hb hml hr ho hts hlk hK hN H locs ls hP hD hS hL) (fun hc => h2 _ _ _ (h.2 hc) p e s m args below meth c hx hb hml hr ho hts hlk hK hN H locs ls hP hD hS hL)
  · exact h.elim
def xi_iflt (kt kf : XK) : XK := fun L S σ => match S with
  | .int x :: S => (x < 0 → kt L S σ) ∧ (¬ x < 0 → kf L S σ)
  | _ => False
theorem xs_iflt {off : Int} {tgt : Nat} (hd : decode cc pc = .ok (.ifCond .lt off, 3)) (ht : (pc : Int) + off = (tgt : Int)) (h1 : XTo G ow cc nL rt d R tgt kt) (h2 : XTo G ow cc nL rt d R (pc + 3) kf) : XTo G ow cc nL rt d R pc (xi_iflt kt kf) := by
  intro L S σ h p e s m args below meth c hx hb hml hr ho hts hlk hK hN H locs ls hP hD hS hL
  unfold xi_iflt at h
  split at h
  · exact lv_if_lt hx hb hd ht (fun hc => h1 _ _ _ (h.1 hc) p e s m args below meth c hx hb hml hr ho hts hlk hK hN H locs ls hP hD hS hL) (fun hc => h2 _ _ _ (h.2 hc) p e s m args below meth c hx hb hml hr ho hts hlk hK hN H locs ls hP hD hS hL)
  · exact h.elim
def xi_iclt (kt kf : XK) : XK := fun L S σ => match S with
  | .int y :: .int x :: S => (x < y → kt L S σ) ∧ (¬ x < y → kf L S σ)
  | _ => False
theorem xs_iclt {off : Int} {tgt : Nat} (hd : decode cc pc = .ok (.if_icmp .lt off, 3)) (ht : (pc : Int) + off = (tgt : Int)) (h1 : XTo G ow cc nL rt d R tgt kt) (h2 : XTo G ow cc nL rt d R (pc + 3) kf) : XTo G ow cc nL rt d R pc (xi_iclt kt kf) := by
  intro L S σ h p e s m args below meth c hx hb hml hr ho hts hlk hK hN H locs ls hP hD hS hL
  unfold xi_iclt at h
  split at h
  · exact lv_icmp_lt hx hb hd ht (fun hc => h1 _ _ _ (h.1 hc) p e s m args below meth c hx hb hml hr ho hts hlk hK hN H locs ls hP hD hS hL) (fun hc => h2 _ _ _ (h.2 hc) p e s m args below meth c hx hb hml hr ho hts hlk hK hN H locs ls hP hD hS hL)
  · exact h.elim
def xi_ifge (kt kf : XK) : XK := fun L S σ => match S with
  | .int x :: S => (0 ≤ x → kt L S σ) ∧ (¬ 0 ≤ x → kf L S σ)
  | _ => False
theorem xs_ifge {off : Int} {tgt : Nat} (hd : decode cc pc = .ok (.ifCond .ge off, 3)) (ht : (pc : Int) + off = (tgt : Int)) (h1 : XTo G ow cc nL rt d R tgt kt) (h2 : XTo G ow cc nL rt d R (pc + 3) kf) : XTo G ow cc nL rt d R pc (xi_ifge kt kf) := by
  intro L S σ h p e s m args below meth c hx hb hml hr ho hts hlk hK hN H locs ls hP hD hS hL
  unfold xi_ifge at h
  split at h
  · exact lv_if_ge hx hb hd ht (fun hc => h1 _ _ _ (h.1 hc) p e s m args below meth c hx hb hml hr ho hts hlk hK hN H locs ls hP hD hS hL) (fun hc => h2 _ _ _ (h.2 hc) p e s m args below meth c hx hb hml hr ho hts hlk hK hN H locs ls hP hD hS hL)
  · exact h.elim
def xi_icge (kt kf : XK) : XK := fun L S σ => match S with
  | .int y :: .int x :: S => (y ≤ x → kt L S σ) ∧ (¬ y ≤ x → kf L S σ)
  | _ => False
theorem xs_icge {off : Int} {tgt : Nat} (hd : decode cc pc = .ok (.if_icmp .ge off, 3)) (ht : (pc : Int) + off = (tgt : Int)) (h1 : XTo G ow cc nL rt d R tgt kt) (h2 : XTo G ow cc nL rt d R (pc + 3) kf) : XTo G ow cc nL rt d R pc (xi_icge kt kf) := by
  intro L S σ h p e s m args below meth c hx hb hml hr ho hts hlk hK hN H locs ls hP hD hS hL
  unfold xi_icge at h
  split at h
  · exact lv_icmp_ge hx hb hd ht (fun hc => h1 _ _ _ (h.1 hc) p e s m args below meth c hx hb hml hr ho hts hlk hK hN H locs ls hP hD hS hL) (fun hc => h2 _ _ _ (h.2 hc) p e s m args below meth c hx hb hml hr ho hts hlk hK hN H locs ls hP hD hS hL)
  · exact h.elim
def xi_ifgt (kt kf : XK) : XK := fun L S σ => match S with
  | .int x :: S => (0 < x → kt L S σ) ∧ (¬ 0 < x → kf L S σ)
  | _ => False
theorem xs_ifgt {off : Int} {tgt : Nat} (hd : decode cc pc = .ok (.ifCond .gt off, 3)) (ht : (pc : Int) + off = (tgt : Int)) (h1 : XTo G ow cc nL rt d R tgt kt) (h2 : XTo G ow cc nL rt d R (pc + 3) kf) : XTo G ow cc nL rt d R pc (xi_ifgt kt kf) := by
  intro L S σ h p e s m args below meth c hx hb hml hr ho hts hlk hK hN H locs ls hP hD hS hL
  unfold xi_ifgt at h
  split at h
  · exact lv_if_gt hx hb hd ht (fun hc => h1 _ _ _ (h.1 hc) p e s m args below meth c hx hb hml hr ho hts hlk hK hN H locs ls hP hD hS hL) (fun hc => h2 _ _ _ (h.2 hc) p e s m args below meth c hx hb hml hr ho hts hlk hK hN H locs ls hP hD hS hL)
  · exact h.elim
def xi_icgt (kt kf : XK) : XK := fun L S σ => match S with
  | .int y :: .int x :: S => (y < x → kt L S σ) ∧ (¬ y < x → kf L S σ)
  | _ => False
theorem xs_icgt {off : Int} {tgt : Nat} (hd : decode cc pc = .ok (.if_icmp .gt off, 3)) (ht : (pc : Int) + off = (tgt : Int)) (h1 : XTo G ow cc nL rt d R tgt kt) (h2 : XTo G ow cc nL rt d R (pc + 3) kf) : XTo G ow cc nL rt d R pc (xi_icgt kt kf) := by
  intro L S σ h p e s m args below meth c hx hb hml hr ho hts hlk hK hN H locs ls hP hD hS hL
  unfold xi_icgt at h
  split at h
  · exact lv_icmp_gt hx hb hd ht (fun hc => h1 _ _ _ (h.1 hc) p e s m args below meth c hx hb hml hr ho hts hlk hK hN H locs ls hP hD hS hL) (fun hc => h2 _ _ _ (h.2 hc) p e s m args below meth c hx hb hml hr ho hts hlk hK hN H locs ls hP hD hS hL)
  · exact h.elim
def xi_ifle (kt kf : XK) : XK := fun L S σ => match S with
  | .int x :: S => (x ≤ 0 → kt L S σ) ∧ (¬ x ≤ 0 → kf L S σ)
  | _ => False
theorem xs_ifle {off : Int} {tgt : Nat} (hd : decode cc pc = .ok (.ifCond .le off, 3)) (ht : (pc : Int) + off = (tgt : Int)) (h1 : XTo G ow cc nL rt d R tgt kt) (h2 : XTo G ow cc nL rt d R (pc + 3) kf) : XTo G ow cc nL rt d R pc (xi_ifle kt kf) := by
  intro L S σ h p e s m args below meth c hx hb hml hr ho hts hlk hK hN H locs ls hP hD hS hL
  unfold xi_ifle at h
  split at h
  · exact lv_if_le hx hb hd ht (fun hc => h1 _ _ _ (h.1 hc) p e s m args below meth c hx hb hml hr ho hts hlk hK hN H locs ls hP hD hS hL) (fun hc => h2 _ _ _ (h.2 hc) p e s m args below meth c hx hb hml hr ho hts hlk hK hN H locs ls hP hD hS hL)
  · exact h.elim
def xi_icle (kt kf : XK) : XK := fun L S σ => match S with
  | .int y :: .int x :: S => (x ≤ y → kt L S σ) ∧ (¬ x ≤ y → kf L S σ)
  | _ => False
theorem xs_icle {off : Int} {tgt : Nat} (hd : decode cc pc = .ok (.if_icmp .le off, 3)) (ht : (pc : Int) + off = (tgt : Int)) (h1 : XTo G ow cc nL rt d R tgt kt) (h2 : XTo G ow cc nL rt d R (pc + 3) kf) : XTo G ow cc nL rt d R pc (xi_icle kt kf) := by
  intro L S σ h p e s m args below meth c hx hb hml hr ho hts hlk hK hN H locs ls hP hD hS hL
  unfold xi_icle at h
  split at h
  · exact lv_icmp_le hx hb hd ht (fun hc => h1 _ _ _ (h.1 hc) p e s m args below meth c hx hb hml hr ho hts hlk hK hN H locs ls hP hD hS hL) (fun hc => h2 _ _ _ (h.2 hc) p e s m args below meth c hx hb hml hr ho hts hlk hK hN H locs ls hP hD hS hL)
  · exact h.elim
theorem xs_goto {off : Int} {tgt : Nat} (hd : decode cc pc = .ok (.goto off, 3)) (ht : (pc : Int) + off = (tgt : Int)) (hk : XTo G ow cc nL rt d R tgt k) : XTo G ow cc nL rt d R pc k := by
  intro L S σ h p e s m args below meth c hx hb hml hr ho hts hlk hK hN H locs ls hP hD hS hL
  exact lv_goto hx hb hd ht (hk _ _ _ h p e s m args below meth c hx hb hml hr ho hts hlk hK hN H locs ls hP hD hS hL)
def xi_iret (R : Option Value → Sg → Prop) : XK := fun _ S σ => match S with
  | [.int x] => R (some (.int x)) σ
  | _ => False
theorem xs_iret (hd : decode cc pc = .ok (.ireturn, 1)) (hrt : rt = some .int) : XTo G ow cc nL rt d R pc (xi_iret R) := by
  intro L S σ h p e s m args below meth c hx hb hml hr ho hts hlk hK hN H locs ls hP hD hS hL
  unfold xi_iret at h
  split at h
  · next x => exact W.iret (v := x) hx hb (hr.trans hrt) (fun t ht hW => ⟨some (.int x), σ, rfl, h, by rw [ht]; exact hP, hS.F ht⟩) hS.2.2 hd hlk
  · exact h.elim
def xi_zret (ty : FieldType) (R : Option Value → Sg → Prop) : XK := fun _ S σ => match S with
  | [.int x] => narrow ty (.int x) = .int x ∧ R (some (.int x)) σ
  | _ => False
theorem xs_zret {ty : FieldType} (hd : decode cc pc = .ok (.ireturn, 1)) (hrt : rt = some ty) : XTo G ow cc nL rt d R pc (xi_zret ty R) := by
  intro L S σ h p e s m args below meth c hx hb hml hr ho hts hlk hK hN H locs ls hP hD hS hL
  unfold xi_zret at h
  split at h
  · next x => exact W.zret (v := x) hx hb (hr.trans hrt) h.1 (fun t ht hW => ⟨some (.int x), σ, rfl, h.2, by rw [ht]; exact hP, hS.F ht⟩) hS.2.2 hd hlk
  · exact h.elim
def xi_lret (R : Option Value → Sg → Prop) : XK := fun _ S σ => match S with
  | [.long x] => R (some (.long x)) σ
  | _ => False
theorem xs_lret (hd : decode cc pc = .ok (.lreturn, 1)) (hrt : rt = some .long) : XTo G ow cc nL rt d R pc (xi_lret R) := by
  intro L S σ h p e s m args below meth c hx hb hml hr ho hts hlk hK hN H locs ls hP hD hS hL
  unfold xi_lret at h
  split at h
  · next x => exact W.lret (v := x) hx hb (hr.trans hrt) (fun t ht hW => ⟨some (.long x), σ, rfl, h, by rw [ht]; exact hP, hS.F ht⟩) hS.2.2 hd hlk
  · exact h.elim
def xi_vret (R : Option Value → Sg → Prop) : XK := fun _ S σ => match S with
  | [] => R none σ
  | _ => False
theorem xs_vret (hd : decode cc pc = .ok (.return_, 1)) (hrt : rt = none) : XTo G ow cc nL rt d R pc (xi_vret R) := by
  intro L S σ h p e s m args below meth c hx hb hml hr ho hts hlk hK hN H locs ls hP hD hS hL
  unfold xi_vret at h
  split at h
  · exact W.vret hx hb (hr.trans hrt) (fun t ht hW => ⟨none, σ, rfl, h, by rw [ht]; exact hP, hS.F ht⟩) hS.2.2 hd hlk
  · exact h.elim
end XI
