/-! constructors: the world is a list of cells that grows; cell k lies at sz + k (written by wip/gen/making.py) -/
abbrev MkSh : Type := (Nat × Nat) ⊕ (Nat × List Value)
abbrev MkK : Type := List (Option Value) → List Value → List MkSh → Prop
def mkad (sz : Nat) : Nat → Nat := fun k => sz + k
/-- an array of the kind t < 3 holds zeros; of the kind 3 + j it is one of ints whose first j hold -1 -/
def mkE (sz : Nat) (cA : Nat → ClassId) (c : MkSh) : va_E := match c with
  | .inl (t, n) => if t < 3 then .inl (cA t, n, .inl (fun _ => 0)) else .inl (cA 0, n, .inl (fun i => if i < t - 3 then -1 else 0))
  | .inr (ci, fs) => .inr (ci, fs.map (xcv (mkad sz)))
def mkWl (sz : Nat) (cA : Nat → ClassId) : Nat → List MkSh → va_W
  | _, [] => []
  | k, c :: sh => (sz + k, mkE sz cA c) :: mkWl sz cA (k + 1) sh
def mkW (sz : Nat) (cA : Nat → ClassId) (sh : List MkSh) : va_W := mkWl sz cA 0 sh
theorem mkWl_get {sz : Nat} {cA : Nat → ClassId} : ∀ {sh : List MkSh} {k i : Nat}, (mkWl sz cA k sh)[i]? = (sh[i]?).map (fun c => (sz + (k + i), mkE sz cA c)) := by
  intro sh
  induction sh with
  | nil => intro k i; rfl
  | cons c sh ih =>
    intro k i
    cases i with
    | zero => rfl
    | succ i =>
      have h := ih (k := k + 1) (i := i)
      rw [show k + 1 + i = k + (i + 1) by omega] at h
      exact h
theorem mkW_get {sz : Nat} {cA : Nat → ClassId} {sh : List MkSh} {i : Nat} : (mkW sz cA sh)[i]? = (sh[i]?).map (fun c => (sz + i, mkE sz cA c)) := by
  unfold mkW; rw [mkWl_get, Nat.zero_add]
theorem mkW_D {sz : Nat} {cA : Nat → ClassId} {sh : List MkSh} : va_D (fun q => sz ≤ q) (mkW sz cA sh) := by
  refine ⟨fun i j p q hi hj hpq => ?_, fun k q hk => ?_⟩
  · rw [mkW_get] at hi hj
    cases h1 : sh[i]? with
    | none => rw [h1] at hi; cases hi
    | some c =>
      cases h2 : sh[j]? with
      | none => rw [h2] at hj; cases hj
      | some e =>
        rw [h1] at hi; rw [h2] at hj
        cases hi; cases hj
        have : sz + i = sz + j := hpq
        omega
  · rw [mkW_get] at hk
    cases h1 : sh[k]? with
    | none => rw [h1] at hk; cases hk
    | some c =>
      rw [h1] at hk; cases hk
      exact Nat.le_add_right _ _
theorem mkW_push {sz : Nat} {cA : Nat → ClassId} {sh : List MkSh} {c : MkSh} : mkW sz cA (sh ++ [c]) = mkW sz cA sh ++ [(sz + sh.length, mkE sz cA c)] := by
  apply List.ext_getElem?
  intro i
  rw [mkW_get]
  have hl : (mkW sz cA sh).length = sh.length := by
    unfold mkW
    have key : ∀ (sh : List MkSh) (k : Nat), (mkWl sz cA k sh).length = sh.length := by
      intro sh
      induction sh with
      | nil => intro k; rfl
      | cons c sh ih => intro k; simp [mkWl, ih]
    exact key sh 0
  by_cases h : i < sh.length
  · rw [List.getElem?_append_left h, List.getElem?_append_left (by rw [hl]; exact h), mkW_get]
  · rw [List.getElem?_append_right (by omega), List.getElem?_append_right (by rw [hl]; omega), hl]
    cases hi : i - sh.length with
    | zero =>
      have : i = sh.length := by omega
      subst this
      rfl
    | succ j => rfl
theorem mkW_set {sz : Nat} {cA : Nat → ClassId} {sh : List MkSh} {i : Nat} {c c0 : MkSh} (h0 : sh[i]? = some c0) : (mkW sz cA sh).set i (sz + i, mkE sz cA c) = mkW sz cA (sh.set i c) := by
  apply List.ext_getElem?
  intro j
  have hi : i < sh.length := (List.getElem?_eq_some_iff.mp h0).1
  have hl : i < (mkW sz cA sh).length := by
    have h := mkW_get (sz := sz) (cA := cA) (sh := sh) (i := i)
    rw [h0] at h
    exact (List.getElem?_eq_some_iff.mp h).1
  by_cases hij : j = i
  · subst hij
    rw [List.getElem?_set_self hl, mkW_get, List.getElem?_set_self hi]
    rfl
  · rw [List.getElem?_set_ne (Ne.symm hij), mkW_get, mkW_get, List.getElem?_set_ne (Ne.symm hij)]
def mkRm (d Mc Ms : Nat) : Room := { frames := d, cells := Mc, slots := Ms, locals := 40 * d }
def mkArr (cA : Nat → ClassId) (s : State) : Prop := ∀ t, t < 3 → s.vm.findClass ("[" ++ (x_ty t).toString) = some (cA t)
def MkQ (D : va_G) (cA : Nat → ClassId) (sz : Nat) (R : List MkSh → Prop) : Array Value → State → Outcome → State → Prop := fun _ st o t =>
  o = .returned none ∧ ∃ sh : List MkSh, R sh ∧ t.heap.size = sz + sh.length ∧ va_P D x_cl (mkW sz cA sh) t.heap ∧ va_F (fun q => sz ≤ q) st t
def mkPre (D : va_G) (cA : Nat → ClassId) (sz : Nat) (sh : List MkSh) : State → Prop := fun U => U.heap.size = sz + sh.length ∧ va_P D x_cl (mkW sz cA sh) U.heap ∧ va_K D x_cl (x_tys cA) U ∧ (∀ w ∈ x_nst, va_Nw w U) ∧ mkArr cA U
/-- a constructor's contract: from the cells sh it comes to cells of which R holds; Mc cells of Ms slots are made -/
def MkM (l : Launch) (D : va_G) (cA : Nat → ClassId) (sz : Nat) (y : XMth) (d Mc Ms : Nat) (av : List Value) (sh : List MkSh) (R : List MkSh → Prop) : Prop :=
  Met l y.1 (xWs y) (mkRm d Mc Ms) (va_Pc (av.map (xcv (mkad sz))) (mkPre D cA sz sh)) (MkQ D cA sz R) Mc Ms (fun q => sz ≤ q)
def MkAt (l : Launch) (D : va_G) (cA : Nat → ClassId) (sz : Nat) (ow : String) (cc : ByteArray) (nL d Mc Ms : Nat) (R : List MkSh → Prop) (uc us : Nat) (pc : Nat) (L : List (Option Value)) (S : List Value) (σ : List MkSh) : Prop :=
  ∀ (p : Program) (e : Env) (s : State) (m : MethodId) (args : Array Value) (below : List Frame) (meth : Method) (c : Code),
    p.tables.exec = Jvm.exec → c.code = cc → c.maxLocals = nL → meth.sig.returnType = none → s.vm.findClass ow = some m.cls → (∀ w ∈ x_tbl, w.before args s = true) → meth.locks = false →
    va_K D x_cl (x_tys cA) s → (∀ w ∈ x_nst, va_Nw w s) → meth.name = "<init>" → mkArr cA s → sz ≤ s.heap.size → uc ≤ Mc → us ≤ Ms →
    ∀ (H : Heap) (locs : List Loc) (ls : Array Slot), H.size = sz + σ.length → va_P D x_cl (mkW sz cA σ) H → va_S (fun q => sz ≤ q) s.heap H locs → XL (mkad sz) ls nL L →
      W p l e (mkRm d Mc Ms) s m args below meth c H locs uc us (MQ below (MkQ D cA sz R) args s Mc Ms (fun q => sz ≤ q)) (F0 m pc ls (S.map (xcv (mkad sz))))
def MkTo (l : Launch) (D : va_G) (cA : Nat → ClassId) (sz : Nat) (ow : String) (cc : ByteArray) (nL d Mc Ms : Nat) (R : List MkSh → Prop) (uc us : Nat) (pc : Nat) (k : MkK) : Prop := ∀ L S σ, k L S σ → MkAt l D cA sz ow cc nL d Mc Ms R uc us pc L S σ
section YI
variable {l : Launch} {D : va_G} {cA : Nat → ClassId} {sz : Nat} {ow : String} {cc : ByteArray} {nL d Mc Ms : Nat} {R : List MkSh → Prop} {uc us : Nat} {pc : Nat} {k kt kf : MkK}
def mi_iload (i : Nat) (k : MkK) : MkK := fun L S σ => match xl L i with
  | some (.int x) => k L (.int x :: S) σ
  | _ => False
theorem ms_iload_n {i : Fin 4} (hd : decode cc pc = .ok (.iload_n i, 1)) (hk : MkTo l D cA sz ow cc nL d Mc Ms R uc us (pc + 1) k) : MkTo l D cA sz ow cc nL d Mc Ms R uc us pc (mi_iload (i : Nat) k) := by
  intro L S σ h p e s m args below meth c hx hb hml hr ho hts hlk hK hN hIn hAr hsz hMc hMs H locs ls hH hP hS hL
  unfold mi_iload at h
  split at h
  · next x hl =>
    exact lv_iload_n (x := x) hx hb hd rfl (hL.at (xl_spec hl)) (hk _ _ _ h p e s m args below meth c hx hb hml hr ho hts hlk hK hN hIn hAr hsz hMc hMs H locs ls hH hP hS hL)
  · exact h.elim
def mi_aload (i : Nat) (k : MkK) : MkK := fun L S σ => match xl L i with
  | some (.ref x) => k L (.ref x :: S) σ
  | _ => False
theorem ms_aload_n {i : Fin 4} (hd : decode cc pc = .ok (.aload_n i, 1)) (hk : MkTo l D cA sz ow cc nL d Mc Ms R uc us (pc + 1) k) : MkTo l D cA sz ow cc nL d Mc Ms R uc us pc (mi_aload (i : Nat) k) := by
  intro L S σ h p e s m args below meth c hx hb hml hr ho hts hlk hK hN hIn hAr hsz hMc hMs H locs ls hH hP hS hL
  unfold mi_aload at h
  split at h
  · next x hl =>
    exact lv_aload_n (x := (sz + x)) hx hb hd rfl (hL.at (xl_spec hl)) (hk _ _ _ h p e s m args below meth c hx hb hml hr ho hts hlk hK hN hIn hAr hsz hMc hMs H locs ls hH hP hS hL)
  · exact h.elim
def mi_istore (i : Nat) (k : MkK) : MkK := fun L S σ => match S with
  | .int x :: S => (match xok1 L i with
    | true => k (xst L i (some (.int x))) S σ
    | false => False)
  | _ => False
theorem ms_istore_n {i : Fin 4} (hd : decode cc pc = .ok (.istore_n i, 1)) (hk : MkTo l D cA sz ow cc nL d Mc Ms R uc us (pc + 1) k) : MkTo l D cA sz ow cc nL d Mc Ms R uc us pc (mi_istore (i : Nat) k) := by
  intro L S σ h p e s m args below meth c hx hb hml hr ho hts hlk hK hN hIn hAr hsz hMc hMs H locs ls hH hP hS hL
  unfold mi_istore at h
  split at h
  · next x S =>
    split at h
    · next hok =>
      unfold xok1 at hok
      rw [Bool.and_eq_true, decide_eq_true_eq] at hok
      have hs := hL.store1 (v := .int x) hok.1 hok.2
      exact lv_istore_n (x := x) hx hb hd rfl hL.2 (by rw [← hL.1]; exact hok.1) rfl (fun ls' hl' => hk _ _ _ h p e s m args below meth c hx hb hml hr ho hts hlk hK hN hIn hAr hsz hMc hMs H locs ls' hH hP hS ⟨by rw [xst_len]; exact hL.1, lv_has_of hl' hs⟩)
    · exact h.elim
  · exact h.elim
def mi_astore (i : Nat) (k : MkK) : MkK := fun L S σ => match S with
  | .ref x :: S => (match xok1 L i with
    | true => k (xst L i (some (.ref x))) S σ
    | false => False)
  | _ => False
theorem ms_astore_n {i : Fin 4} (hd : decode cc pc = .ok (.astore_n i, 1)) (hk : MkTo l D cA sz ow cc nL d Mc Ms R uc us (pc + 1) k) : MkTo l D cA sz ow cc nL d Mc Ms R uc us pc (mi_astore (i : Nat) k) := by
  intro L S σ h p e s m args below meth c hx hb hml hr ho hts hlk hK hN hIn hAr hsz hMc hMs H locs ls hH hP hS hL
  unfold mi_astore at h
  split at h
  · next x S =>
    split at h
    · next hok =>
      unfold xok1 at hok
      rw [Bool.and_eq_true, decide_eq_true_eq] at hok
      have hs := hL.store1 (v := .ref x) hok.1 hok.2
      exact lv_astore_n (x := (sz + x)) hx hb hd rfl hL.2 (by rw [← hL.1]; exact hok.1) rfl (fun ls' hl' => hk _ _ _ h p e s m args below meth c hx hb hml hr ho hts hlk hK hN hIn hAr hsz hMc hMs H locs ls' hH hP hS ⟨by rw [xst_len]; exact hL.1, lv_has_of hl' hs⟩)
    · exact h.elim
  · exact h.elim
def mi_ic (v : Int32) (k : MkK) : MkK := fun L S σ => k L (.int v :: S) σ
theorem ms_iconst {n : Int} {v : Int32} (hd : decode cc pc = .ok (.iconst n, 1)) (hv : Int32.ofInt n = v) (hk : MkTo l D cA sz ow cc nL d Mc Ms R uc us (pc + 1) k) : MkTo l D cA sz ow cc nL d Mc Ms R uc us pc (mi_ic v k) := by
  intro L S σ h p e s m args below meth c hx hb hml hr ho hts hlk hK hN hIn hAr hsz hMc hMs H locs ls hH hP hS hL
  exact lv_iconst hx hb hd hv (hk _ _ _ h p e s m args below meth c hx hb hml hr ho hts hlk hK hN hIn hAr hsz hMc hMs H locs ls hH hP hS hL)
theorem ms_bipush {n : Int} {v : Int32} (hd : decode cc pc = .ok (.bipush n, 2)) (hv : (Int8.ofInt n).toInt32 = v) (hk : MkTo l D cA sz ow cc nL d Mc Ms R uc us (pc + 2) k) : MkTo l D cA sz ow cc nL d Mc Ms R uc us pc (mi_ic v k) := by
  intro L S σ h p e s m args below meth c hx hb hml hr ho hts hlk hK hN hIn hAr hsz hMc hMs H locs ls hH hP hS hL
  exact lv_bipush hx hb hd hv (hk _ _ _ h p e s m args below meth c hx hb hml hr ho hts hlk hK hN hIn hAr hsz hMc hMs H locs ls hH hP hS hL)
theorem ms_sipush {n : Int} {v : Int32} (hd : decode cc pc = .ok (.sipush n, 3)) (hv : (Int16.ofInt n).toInt32 = v) (hk : MkTo l D cA sz ow cc nL d Mc Ms R uc us (pc + 3) k) : MkTo l D cA sz ow cc nL d Mc Ms R uc us pc (mi_ic v k) := by
  intro L S σ h p e s m args below meth c hx hb hml hr ho hts hlk hK hN hIn hAr hsz hMc hMs H locs ls hH hP hS hL
  exact lv_sipush hx hb hd hv (hk _ _ _ h p e s m args below meth c hx hb hml hr ho hts hlk hK hN hIn hAr hsz hMc hMs H locs ls hH hP hS hL)
def mi_iinc (i : Nat) (n : Int32) (k : MkK) : MkK := fun L S σ => match xl L i with
  | some (.int x) => (match xok1 L i with
    | true => k (xst L i (some (.int (x + n)))) S σ
    | false => False)
  | _ => False
theorem ms_iinc {i : Nat} {n : Int} {v : Int32} (hd : decode cc pc = .ok (.iinc i n, 3)) (hv : Int32.ofInt n = v) (hk : MkTo l D cA sz ow cc nL d Mc Ms R uc us (pc + 3) k) : MkTo l D cA sz ow cc nL d Mc Ms R uc us pc (mi_iinc i v k) := by
  intro L S σ h p e s m args below meth c hx hb hml hr ho hts hlk hK hN hIn hAr hsz hMc hMs H locs ls hH hP hS hL
  unfold mi_iinc at h
  split at h
  · next x hl =>
    split at h
    · next hok =>
      unfold xok1 at hok
      rw [Bool.and_eq_true, decide_eq_true_eq] at hok
      have hs := hL.store1 (v := .int (x + v)) hok.1 hok.2
      have hm : (i, Value.int x) ∈ xlv (mkad sz) 0 L := (xlv_mem (mkad sz) L 0 _).mpr ⟨i, .int x, xl_spec hl, by simp [xcv]⟩
      obtain ⟨k9, hk9⟩ := List.getElem?_of_mem hm
      exact lv_iinc (x := x) hx hb hd hL.2 hk9 (by rw [hv]) (by rw [← hL.1]; exact hok.1) rfl (fun ls' hl' => hk _ _ _ h p e s m args below meth c hx hb hml hr ho hts hlk hK hN hIn hAr hsz hMc hMs H locs ls' hH hP hS ⟨by rw [xst_len]; exact hL.1, lv_has_of hl' hs⟩)
    · exact h.elim
  · exact h.elim
def mi_imul (k : MkK) : MkK := fun L S σ => match S with
  | .int y :: .int x :: S => k L (.int (x * y) :: S) σ
  | _ => False
theorem ms_imul (hd : decode cc pc = .ok (.imul, 1)) (hk : MkTo l D cA sz ow cc nL d Mc Ms R uc us (pc + 1) k) : MkTo l D cA sz ow cc nL d Mc Ms R uc us pc (mi_imul k) := by
  intro L S σ h p e s m args below meth c hx hb hml hr ho hts hlk hK hN hIn hAr hsz hMc hMs H locs ls hH hP hS hL
  unfold mi_imul at h
  split at h
  · exact lv_imul hx hb hd (hk _ _ _ h p e s m args below meth c hx hb hml hr ho hts hlk hK hN hIn hAr hsz hMc hMs H locs ls hH hP hS hL)
  · exact h.elim
def mi_dup (k : MkK) : MkK := fun L S σ => match S with
  | v :: S => (match xone v with
    | true => k L (v :: v :: S) σ
    | false => False)
  | _ => False
theorem ms_dup (hd : decode cc pc = .ok (.dup, 1)) (hk : MkTo l D cA sz ow cc nL d Mc Ms R uc us (pc + 1) k) : MkTo l D cA sz ow cc nL d Mc Ms R uc us pc (mi_dup k) := by
  intro L S σ h p e s m args below meth c hx hb hml hr ho hts hlk hK hN hIn hAr hsz hMc hMs H locs ls hH hP hS hL
  unfold mi_dup at h
  split at h
  · split at h
    · next hc => exact lv_dup hx hb hd (xone_cat hc) (hk _ _ _ h p e s m args below meth c hx hb hml hr ho hts hlk hK hN hIn hAr hsz hMc hMs H locs ls hH hP hS hL)
    · exact h.elim
  · exact h.elim
def mi_icge (kt kf : MkK) : MkK := fun L S σ => match S with
  | .int y :: .int x :: S => (y ≤ x → kt L S σ) ∧ (¬ y ≤ x → kf L S σ)
  | _ => False
theorem ms_icge {off : Int} {tgt : Nat} (hd : decode cc pc = .ok (.if_icmp .ge off, 3)) (ht : (pc : Int) + off = (tgt : Int)) (h1 : MkTo l D cA sz ow cc nL d Mc Ms R uc us tgt kt) (h2 : MkTo l D cA sz ow cc nL d Mc Ms R uc us (pc + 3) kf) : MkTo l D cA sz ow cc nL d Mc Ms R uc us pc (mi_icge kt kf) := by
  intro L S σ h p e s m args below meth c hx hb hml hr ho hts hlk hK hN hIn hAr hsz hMc hMs H locs ls hH hP hS hL
  unfold mi_icge at h
  split at h
  · exact lv_icmp_ge hx hb hd ht (fun hc => h1 _ _ _ (h.1 hc) p e s m args below meth c hx hb hml hr ho hts hlk hK hN hIn hAr hsz hMc hMs H locs ls hH hP hS hL) (fun hc => h2 _ _ _ (h.2 hc) p e s m args below meth c hx hb hml hr ho hts hlk hK hN hIn hAr hsz hMc hMs H locs ls hH hP hS hL)
  · exact h.elim
def mi_ifle (kt kf : MkK) : MkK := fun L S σ => match S with
  | .int x :: S => (x ≤ 0 → kt L S σ) ∧ (¬ x ≤ 0 → kf L S σ)
  | _ => False
theorem ms_ifle {off : Int} {tgt : Nat} (hd : decode cc pc = .ok (.ifCond .le off, 3)) (ht : (pc : Int) + off = (tgt : Int)) (h1 : MkTo l D cA sz ow cc nL d Mc Ms R uc us tgt kt) (h2 : MkTo l D cA sz ow cc nL d Mc Ms R uc us (pc + 3) kf) : MkTo l D cA sz ow cc nL d Mc Ms R uc us pc (mi_ifle kt kf) := by
  intro L S σ h p e s m args below meth c hx hb hml hr ho hts hlk hK hN hIn hAr hsz hMc hMs H locs ls hH hP hS hL
  unfold mi_ifle at h
  split at h
  · exact lv_if_le hx hb hd ht (fun hc => h1 _ _ _ (h.1 hc) p e s m args below meth c hx hb hml hr ho hts hlk hK hN hIn hAr hsz hMc hMs H locs ls hH hP hS hL) (fun hc => h2 _ _ _ (h.2 hc) p e s m args below meth c hx hb hml hr ho hts hlk hK hN hIn hAr hsz hMc hMs H locs ls hH hP hS hL)
  · exact h.elim
theorem ms_goto {off : Int} {tgt : Nat} (hd : decode cc pc = .ok (.goto off, 3)) (ht : (pc : Int) + off = (tgt : Int)) (hk : MkTo l D cA sz ow cc nL d Mc Ms R uc us tgt k) : MkTo l D cA sz ow cc nL d Mc Ms R uc us pc k := by
  intro L S σ h p e s m args below meth c hx hb hml hr ho hts hlk hK hN hIn hAr hsz hMc hMs H locs ls hH hP hS hL
  exact lv_goto hx hb hd ht (hk _ _ _ h p e s m args below meth c hx hb hml hr ho hts hlk hK hN hIn hAr hsz hMc hMs H locs ls hH hP hS hL)
def mi_new (ci : Nat) (fs : List Value) (k : MkK) : MkK := fun L S sh => k L (.ref sh.length :: S) (sh ++ [.inr (ci, fs)])
theorem ms_new {idx ci N : Nat} {C : String} {T : u_T} {fs : List Value} (hc : XCl ci C T N) (hw : Cond.classLink ow idx C ∈ x_tbl) (hi : Cond.instantiable C N ∈ x_tbl) (hini : Cond.initialized C ∈ x_tbl) (ty : Nat → FieldType) (hty : ∀ k, k < N → parseFieldDescriptor (T k).2.2.1 = some (ty k)) (hfs : ∀ j, j < N → defaultValue (ty j) = vp_V fs j) (hcl : ∀ ad, fs.map (xcv ad) = fs)
    (huc : uc + 1 ≤ Mc) (hus : us + N ≤ Ms) (hd : decode cc pc = .ok (.new idx, 3)) (hk : MkTo l D cA sz ow cc nL d Mc Ms R (uc + 1) (us + N) (pc + 3) k) : MkTo l D cA sz ow cc nL d Mc Ms R uc us pc (mi_new ci fs k) := by
  intro L S σ h p e s m args below meth c hx hb hml hr ho hts hlk hK hN hIn hAr hsz hMc hMs H locs ls hH hP hS hL
  have hKn := hK.1 ci _ hc.1
  refine W.newcK hx hb ho (hts _ hw) (hts _ hi) (hts _ hini) rfl hd huc hus hKn.2.1 hH fun H1 kC hkC e1 z1 o1 => ?_
  have hkp : ∀ (k : Nat) (x : Nat × va_E), (mkW sz cA σ)[k]? = some x → H1[x.1]? = H[x.1]? := fun k x hx => o1 x.1 (by rw [← hH]; exact (hP k x hx).lt)
  have hP1 : va_P D x_cl (mkW sz cA (σ ++ [.inr (ci, fs)])) H1 := by
    rw [mkW_push]
    refine (hP.kept hkp).app (fun k x hx => ?_)
    have hz : k < 1 := (List.getElem?_eq_some_iff.mp hx).1
    rw [show k = 0 by omega] at hx
    cases hx
    refine ⟨_, hc.1, (u_born ty hts hc.2.1 hKn hkC e1 hty).to ?_⟩
    show ∀ j, j < N → defaultValue (ty j) = vp_V (fs.map (xcv (mkad sz))) j
    rw [hcl]
    exact hfs
  exact hk _ _ _ h p e s m args below meth c hx hb hml hr ho hts hlk hK hN hIn hAr hsz huc hus H1 locs ls (by rw [z1, List.length_append]; rfl) hP1 ⟨Nat.le_trans hS.1 (by omega), fun x h1 h2 => (o1 x (by rw [← hH]; exact Nat.lt_of_lt_of_le h1 hS.1)).trans (hS.2.1 x h1 h2), hS.2.2⟩ hL
def mi_newa (t n : Nat) (k : MkK) : MkK := fun L S sh => match S with
  | .int x :: S => x = nI n ∧ k L (.ref sh.length :: S) (sh ++ [.inl (t, n)])
  | _ => False
theorem ms_newa {t n : Nat} {aty : ArrayType} (ht : t < 3) (hty : newarray.typeOf aty = x_ty t) (hw : Cond.arrayClass (x_ty t) ∈ x_tbl) (hn : n ≤ 2000) (huc : uc + 1 ≤ Mc) (hus : us + n ≤ Ms) (hd : decode cc pc = .ok (.newarray aty, 2)) (hk : MkTo l D cA sz ow cc nL d Mc Ms R (uc + 1) (us + n) (pc + 2) k) : MkTo l D cA sz ow cc nL d Mc Ms R uc us pc (mi_newa t n k) := by
  intro L S σ h p e s m args below meth c hx hb hml hr ho hts hlk hK hN hIn hAr hsz hMc hMs H locs ls hH hP hS hL
  unfold mi_newa at h
  split at h
  · next x S =>
    obtain ⟨rfl, h⟩ := h
    have hcb : componentBytes (newarray.typeOf aty) ≤ 4 := by
      rw [hty]
      unfold x_ty
      split <;> decide
    refine va_newaK hx hb (by rw [hty]; exact hts _ hw) rfl hd rfl (fun q => absurd q (by
      have := nI_pos (n := n) (by omega)
      exact this)) (nI_clamp (by omega)) (Nat.le_trans (Nat.mul_le_mul hn hcb) (by decide)) huc hus hH (fun H1 c9 e1 z1 o1 hA9 hf9 => ?_)
    have hc9 : c9 = cA t := by
      rw [hty] at hf9
      exact Option.some.inj (hf9.symm.trans (hAr t ht))
    subst hc9
    have hkp : ∀ (k : Nat) (x : Nat × va_E), (mkW sz cA σ)[k]? = some x → H1[x.1]? = H[x.1]? := fun k x hx => o1 x.1 (by rw [← hH]; exact (hP k x hx).lt)
    have hP1 : va_P D x_cl (mkW sz cA (σ ++ [.inl (t, n)])) H1 := by
      rw [mkW_push]
      refine (hP.kept hkp).app (fun k x hx => ?_)
      have hz : k < 1 := (List.getElem?_eq_some_iff.mp hx).1
      rw [show k = 0 by omega] at hx
      cases hx
      have eE : mkE sz cA (.inl (t, n)) = .inl (cA t, n, .inl (fun _ => 0)) := if_pos ht
      rw [eE]
      show H1[sz + σ.length]? = some (arrV (cA t) n (fun j => .int 0))
      rw [e1, hty]
      unfold x_ty
      split <;> rfl
    exact hk _ _ _ h p e s m args below meth c hx hb hml hr ho hts hlk hK hN hIn hAr hsz huc hus H1 locs ls (by rw [z1, List.length_append]; rfl) hP1 ⟨Nat.le_trans hS.1 (by omega), fun x h1 h2 => (o1 x (by rw [← hH]; exact Nat.lt_of_lt_of_le h1 hS.1)).trans (hS.2.1 x h1 h2), hS.2.2⟩ hL
  · exact h.elim
def mi_putf (ty : FieldType) (ci j : Nat) (k : MkK) : MkK := fun L S sh => match S with
  | v :: .ref o :: S => (match sh[o]? with
    | some (.inr q) => q.1 = ci ∧ j < q.2.length ∧ (∀ ad, narrow ty (xcv ad v) = xcv ad v ∧ fits ty (xcv ad v) = true) ∧ k L S (sh.set o (.inr (ci, q.2.set j v)))
    | _ => False)
  | _ => False
theorem ms_putF {ty : FieldType} {ci j idx N : Nat} {C : String} {T : u_T} (hc : XCl ci C T N) (hj : j < N) (hw : Cond.fieldLink ow idx (T j).1 (T j).2.1 (T j).2.2.1 ∈ x_tbl) (hfin : (T j).2.2.2 = true) (hdecl : (T j).1 = ow) (hpd : parseFieldDescriptor (T j).2.2.1 = some ty)
    (hd : decode cc pc = .ok (.putfield idx, 3)) (hk : MkTo l D cA sz ow cc nL d Mc Ms R uc us (pc + 3) k) : MkTo l D cA sz ow cc nL d Mc Ms R uc us pc (mi_putf ty ci j k) := by
  intro L S σ h p e s m args below meth c hx hb hml hr ho hts hlk hK hN hIn hAr hsz hMc hMs H locs ls hH hP hS hL
  unfold mi_putf at h
  split at h
  · next v o S =>
    split at h
    · next q hq =>
      obtain ⟨hci, hl, hok, h⟩ := h
      obtain ⟨ty0, h0⟩ := hc.2.2.2
      have he : (mkW sz cA σ)[o]? = some (sz + o, .inr (ci, q.2.map (xcv (mkad sz)))) := by
        rw [mkW_get, hq, ← hci]; rfl
      have hap := va_apart (own := ow) hts hc.2.1 ty0 h0 hc.2.2.1 hK hc.1
      obtain ⟨r, h1, cell, q1, q2, q3, q4⟩ := hP o _ he
      have hr9 : r = (C, T, N) := Option.some.inj (h1.symm.trans hc.1)
      subst hr9
      obtain ⟨hS9, hfc, kC, hkC, hkind⟩ := hK.1 ci _ hc.1
      obtain ⟨cf, kf, fi, f, hi, hsl⟩ := hS9 j hj
      have hlay := hts _ (hc.2.1 _ (u_in_lay hj))
      unfold u_lay at hlay
      rw [if_pos hfin] at hlay
      have hst := (u_facts hfc hkC (u_lays hts hc.2.1 hj) hi).1
      have hcf : m.cls = cf := by
        obtain ⟨_, _, c', _, _, _, -, -, hf', -, -, -, hown2, -⟩ := Cond.laysFinal_spec hlay
        have e1 : c' = cf := by have := hi.symm.trans hf'; simp at this; exact this.1.symm
        rw [hdecl] at hown2
        rw [← e1]; exact Option.some.inj (ho.symm.trans hown2)
      have h6 := u_fits hfc hkC hkind (Or.inr hlay) hi hpd (hok (mkad sz)).1 (hok (mkad sz)).2
      refine W.putFinK hx hb ho (hts _ hw) hi hst hcf hIn (by rw [q2]; exact h6) q1 q3 (by rw [hsl]; exact k2_hasslot (q4 j hj)) rfl rfl hd fun H' e1 e2 e3 => ?_
      rw [hsl] at e1
      have hP1 := hP.set (H1 := H') mkW_D he (e := .inr (ci, (q.2.map (xcv (mkad sz))).set j (xcv (mkad sz) v))) ⟨_, hc.1, t_OB.to (V := updV (vp_V (q.2.map (xcv (mkad sz)))) j (xcv (mkad sz) v)) ⟨_, e1, q2, q3, t_set q4 hap hj _⟩ (fun i _ => vp_updV_set (by rw [List.length_map]; exact hl) _ i)⟩ e3
      have eW : (mkW sz cA σ).set o (sz + o, .inr (ci, (q.2.map (xcv (mkad sz))).set j (xcv (mkad sz) v))) = mkW sz cA (σ.set o (.inr (ci, q.2.set j v))) := by
        rw [← mkW_set hq, ← List.map_set]; rfl
      rw [eW] at hP1
      exact hk _ _ _ h p e s m args below meth c hx hb hml hr ho hts hlk hK hN hIn hAr hsz hMc hMs H' _ ls (by rw [e2, List.length_set]; exact hH) hP1 (hS.put e2 e3 (Nat.le_add_right _ _)) hL
    · exact h.elim
  · exact h.elim
theorem ms_put {ty : FieldType} {ci j idx N : Nat} {C : String} {T : u_T} (hc : XCl ci C T N) (hj : j < N) (hw : Cond.fieldLink ow idx (T j).1 (T j).2.1 (T j).2.2.1 ∈ x_tbl) (hfin : (T j).2.2.2 = false) (hpd : parseFieldDescriptor (T j).2.2.1 = some ty)
    (hd : decode cc pc = .ok (.putfield idx, 3)) (hk : MkTo l D cA sz ow cc nL d Mc Ms R uc us (pc + 3) k) : MkTo l D cA sz ow cc nL d Mc Ms R uc us pc (mi_putf ty ci j k) := by
  intro L S σ h p e s m args below meth c hx hb hml hr ho hts hlk hK hN hIn hAr hsz hMc hMs H locs ls hH hP hS hL
  unfold mi_putf at h
  split at h
  · next v o S =>
    split at h
    · next q hq =>
      obtain ⟨hci, hl, hok, h⟩ := h
      obtain ⟨ty0, h0⟩ := hc.2.2.2
      have he : (mkW sz cA σ)[o]? = some (sz + o, .inr (ci, q.2.map (xcv (mkad sz)))) := by
        rw [mkW_get, hq, ← hci]; rfl
      have hap := va_apart (own := ow) hts hc.2.1 ty0 h0 hc.2.2.1 hK hc.1
      obtain ⟨r, h1, cell, q1, q2, q3, q4⟩ := hP o _ he
      have hr9 : r = (C, T, N) := Option.some.inj (h1.symm.trans hc.1)
      subst hr9
      obtain ⟨hS9, hfc, kC, hkC, hkind⟩ := hK.1 ci _ hc.1
      obtain ⟨cf, kf, fi, f, hi, hsl⟩ := hS9 j hj
      have hlay := hts _ (hc.2.1 _ (u_in_lay hj))
      unfold u_lay at hlay
      rw [if_neg (by rw [hfin]; decide)] at hlay
      have hst := (u_facts hfc hkC (u_lays hts hc.2.1 hj) hi).1
      have h6 := u_store hfc hkC hkind hlay hi hpd (hok (mkad sz)).1 (hok (mkad sz)).2
      refine W.putK hx hb (f := f) ⟨ho, hts _ hw, ⟨_, _, _, hi⟩, hst⟩ (by rw [q2]; exact h6) q1 q3 (by rw [hsl]; exact k2_hasslot (q4 j hj)) rfl rfl hd fun H' e1 e2 e3 => ?_
      rw [hsl] at e1
      have hP1 := hP.set (H1 := H') mkW_D he (e := .inr (ci, (q.2.map (xcv (mkad sz))).set j (xcv (mkad sz) v))) ⟨_, hc.1, t_OB.to (V := updV (vp_V (q.2.map (xcv (mkad sz)))) j (xcv (mkad sz) v)) ⟨_, e1, q2, q3, t_set q4 hap hj _⟩ (fun i _ => vp_updV_set (by rw [List.length_map]; exact hl) _ i)⟩ e3
      have eW : (mkW sz cA σ).set o (sz + o, .inr (ci, (q.2.map (xcv (mkad sz))).set j (xcv (mkad sz) v))) = mkW sz cA (σ.set o (.inr (ci, q.2.set j v))) := by
        rw [← mkW_set hq, ← List.map_set]; rfl
      rw [eW] at hP1
      exact hk _ _ _ h p e s m args below meth c hx hb hml hr ho hts hlk hK hN hIn hAr hsz hMc hMs H' _ ls (by rw [e2, List.length_set]; exact hH) hP1 (hS.put e2 e3 (Nat.le_add_right _ _)) hL
    · exact h.elim
  · exact h.elim
def mi_ret (R : List MkSh → Prop) : MkK := fun _ S sh => match S with
  | [] => R sh
  | _ => False
theorem ms_ret (hd : decode cc pc = .ok (.return_, 1)) : MkTo l D cA sz ow cc nL d Mc Ms R uc us pc (mi_ret R) := by
  intro L S σ h p e s m args below meth c hx hb hml hr ho hts hlk hK hN hIn hAr hsz hMc hMs H locs ls hH hP hS hL
  unfold mi_ret at h
  split at h
  · exact W.widen (k := Mc) (n := Ms) hMc hMs (W.vret hx hb hr (fun t ht hW => ⟨rfl, σ, h, by rw [ht]; exact hH, by rw [ht]; exact hP, hS.F ht⟩) hS.2.2 hd hlk)
  · exact h.elim
def mi_getf (ci j : Nat) (k : MkK) : MkK := fun L S sh => match S with
  | .ref o :: S => (match sh[o]? with
    | some (.inr q) => q.1 = ci ∧ ∃ v, q.2[j]? = some v ∧ k L (v :: S) sh
    | _ => False)
  | _ => False
theorem ms_getf {ci j idx N : Nat} {C : String} {T : u_T} (hc : XCl ci C T N) (hj : j < N) (hw : Cond.fieldLink ow idx (T j).1 (T j).2.1 (T j).2.2.1 ∈ x_tbl) (hd : decode cc pc = .ok (.getfield idx, 3)) (hk : MkTo l D cA sz ow cc nL d Mc Ms R uc us (pc + 3) k) : MkTo l D cA sz ow cc nL d Mc Ms R uc us pc (mi_getf ci j k) := by
  intro L S σ h p e s m args below meth c hx hb hml hr ho hts hlk hK hN hIn hAr hsz hMc hMs H locs ls hH hP hS hL
  unfold mi_getf at h
  split at h
  · next o S =>
    split at h
    · next q hq =>
      obtain ⟨hci, v, hv, h⟩ := h
      have he : (mkW sz cA σ)[o]? = some (sz + o, .inr (ci, q.2.map (xcv (mkad sz)))) := by
        rw [mkW_get, hq, ← hci]; rfl
      exact va_get hx hb hts hc.2.1 ho hK hP o he hc.1 j hj (hts _ hw) (fun _ q => q) (v := xcv (mkad sz) v) (by rw [List.getElem?_map, hv]; rfl) hd (hk _ _ _ h p e s m args below meth c hx hb hml hr ho hts hlk hK hN hIn hAr hsz hMc hMs H locs ls hH hP hS hL)
    · exact h.elim
  · exact h.elim
/-- at an array of ints whose first j hold -1 -/
def mi_alen (k : MkK) : MkK := fun L S sh => match S with
  | .ref o :: S => ∃ j n, sh[o]? = some (.inl (3 + j, n)) ∧ k L (.int (nI n) :: S) sh
  | _ => False
theorem mkE_3 {j n : Nat} : mkE sz cA (.inl (3 + j, n)) = .inl (cA 0, n, .inl (fun i => if i < j then -1 else 0)) := by
  have h : ¬ 3 + j < 3 := by omega
  show (if 3 + j < 3 then _ else _) = _
  rw [if_neg h, Nat.add_sub_cancel_left]
theorem ms_alen (hd : decode cc pc = .ok (.arraylength, 1)) (hk : MkTo l D cA sz ow cc nL d Mc Ms R uc us (pc + 1) k) : MkTo l D cA sz ow cc nL d Mc Ms R uc us pc (mi_alen k) := by
  intro L S σ h p e s m args below meth c hx hb hml hr ho hts hlk hK hN hIn hAr hsz hMc hMs H locs ls hH hP hS hL
  unfold mi_alen at h
  split at h
  · next o S =>
    obtain ⟨j, n, hq, h⟩ := h
    have he : (mkW sz cA σ)[o]? = some (sz + o, .inl (cA 0, n, .inl (fun i => if i < j then -1 else 0))) := by
      rw [mkW_get, hq, ← mkE_3]; rfl
    exact va_alen hx hb hK hP o 0 he rfl rfl hd (hk _ _ _ h p e s m args below meth c hx hb hml hr ho hts hlk hK hN hIn hAr hsz hMc hMs H locs ls hH hP hS hL)
  · exact h.elim
def mi_fill (k : MkK) : MkK := fun L S sh => match S with
  | .int x :: .int i :: .ref o :: S => ∃ j n, sh[o]? = some (.inl (3 + j, n)) ∧ x = -1 ∧ i = nI j ∧ j < n ∧ n < 2 ^ 31 ∧ k L S (sh.set o (.inl (3 + (j + 1), n)))
  | _ => False
theorem ms_fill (hd : decode cc pc = .ok (.iastore, 1)) (hk : MkTo l D cA sz ow cc nL d Mc Ms R uc us (pc + 1) k) : MkTo l D cA sz ow cc nL d Mc Ms R uc us pc (mi_fill k) := by
  intro L S σ h p e s m args below meth c hx hb hml hr ho hts hlk hK hN hIn hAr hsz hMc hMs H locs ls hH hP hS hL
  unfold mi_fill at h
  split at h
  · next x i o S =>
    obtain ⟨j, n, hq, rfl, rfl, hjn, hn, h⟩ := h
    have he : (mkW sz cA σ)[o]? = some (sz + o, .inl (cA 0, n, .inl (fun i => if i < j then -1 else 0))) := by
      rw [mkW_get, hq, ← mkE_3]; rfl
    refine W.iast hx hb (hP o _ he) ((hK.2 0 _ rfl).1 n (fun i => .int (if i < j then -1 else 0))) (fun q => by cases q) (by
      show ¬ (nI j < 0 ∨ (arrV _ _ _).slots.size ≤ _)
      rw [arrV_size, nI_clamp (by omega)]
      rintro (q | q)
      · exact absurd q (nI_pos (by omega))
      · exact absurd hjn (Nat.not_lt.mpr q)) rfl rfl hd fun H1 e9 z9 oq => ?_
    have hP1 := hP.set (H1 := H1) mkW_D he (e := .inl (cA 0, n, .inl (fun i => if i < j + 1 then -1 else 0))) (by
      show H1[sz + o]? = some (vp_cell _ _)
      rw [e9, vp_cell_i, vp_cell_i, arrV_store, nI_clamp (by omega)]
      congr 2
      funext q
      by_cases hqj : q = j
      · subst hqj
        simp [updV]
      · have hlt : q < j + 1 ↔ q < j := by omega
        simp [updV, hqj, hlt]) oq
    have eW : (mkW sz cA σ).set o (sz + o, .inl (cA 0, n, .inl (fun i => if i < j + 1 then -1 else 0))) = mkW sz cA (σ.set o (.inl (3 + (j + 1), n))) := by
      rw [← mkW_set hq, mkE_3]
    rw [eW] at hP1
    exact hk _ _ _ h p e s m args below meth c hx hb hml hr ho hts hlk hK hN hIn hAr hsz hMc hMs H1 _ ls (by rw [z9, List.length_set]; exact hH) hP1 (hS.put z9 oq (Nat.le_add_right _ _)) hL
  · exact h.elim
def mi_obj (k : MkK) : MkK := fun L S sh => match S with
  | [.ref _] => k L [] sh
  | _ => False
theorem ms_obj {idx : Nat} (hw : Cond.methodLink ow idx Lib.objectInit ∈ x_tbl) (hi : Cond.instanceMethod Lib.objectInit ∈ x_tbl) (hco : Cond.code Lib.objectInit ⟨#[0xb1]⟩ 1 none ∈ x_tbl) (hd : decode cc pc = .ok (.invokespecial idx, 3)) (hk : MkTo l D cA sz ow cc nL (d + 1) Mc Ms R uc us (pc + 3) k) : MkTo l D cA sz ow cc nL (d + 1) Mc Ms R uc us pc (mi_obj k) := by
  intro L S σ h p e s m args below meth c hx hb hml hr ho hts hlk hK hN hIn hAr hsz hMc hMs H locs ls hH hP hS hL
  unfold mi_obj at h
  split at h
  · next o =>
    refine W.objInit hx hb ho (hts _ hw) (hts _ hi) (hts _ hco) rfl (by rw [hml]; exact hL.2.1) rfl hd (by show 1 ≤ d + 1; omega) (by show 0 + 0 + 12 ≤ 40 * (d + 1); omega) ?_
    exact hk _ _ _ h p e s m args below meth c hx hb hml hr ho hts hlk hK hN hIn hAr hsz hMc hMs H locs ls hH hP hS hL
  · exact h.elim
def XOkI (y : XMth) (n : Nat) : Prop := XOk y n ∧ Cond.instanceMethod y.1 ∈ x_tbl ∧ y.1.name = "<init>" ∧ y.2.2.2 = none
def mi_ctor (l : Launch) (D : va_G) (cA : Nat → ClassId) (sz : Nat) (d : Nat) (y : XMth) (na mc ms : Nat) (k : MkK) : MkK := fun L S sh => match xpop na S [] with
  | some (As, .ref o :: S') => (match xroom S' 8 with
    | true => ∃ R', MkM l D cA sz y d mc ms (.ref o :: As) sh R' ∧ ∀ sh', R' sh' → k L S' sh'
    | false => False)
  | _ => False
theorem mkPre_blind {av : List Value} {sh : List MkSh} : FrameBlind (va_Pc av (mkPre D cA sz sh)) := fun a U g mk h =>
  ⟨h.1, h.2.1, h.2.2.1, va_K.moved (u := U) (U := U.calling g mk a) (Vm.Alike.refl U.vm) h.2.2.2.1, xN_same (s := U) (U := U.calling g mk a) rfl h.2.2.2.2.1, h.2.2.2.2.2⟩
theorem mkArr_warm {s U : State} (hW : s.WarmedH U.vm) (h : mkArr cA s) : mkArr cA U := fun t ht => by rw [hW.alike.findClass]; exact h t ht
theorem ms_ctor {y : XMth} {na idx mc ms : Nat} (hok : XOkI y na) (hw : Cond.methodLink ow idx y.1 ∈ x_tbl) (hmc : uc + mc ≤ Mc) (hms : us + ms ≤ Ms) (hd : decode cc pc = .ok (.invokespecial idx, 3)) (hk : MkTo l D cA sz ow cc nL (d + 1) Mc Ms R (uc + mc) (us + ms) (pc + 3) k) : MkTo l D cA sz ow cc nL (d + 1) Mc Ms R uc us pc (mi_ctor l D cA sz d y na mc ms k) := by
  intro L S σ h p e s m args below meth c hx hb hml hr ho hts hlk hK hN hIn hAr hsz hMc hMs H locs ls hH hP hS hL
  obtain ⟨⟨a1, a2, a3, a4⟩, a5, a6, a7⟩ := hok
  unfold mi_ctor at h
  split at h
  · next As o S' hp =>
    split at h
    · next hc =>
      obtain ⟨R', hM, hR⟩ := h
      obtain ⟨P, e1, e2, e3⟩ := xpop_spec na S [] hp
      rw [List.append_nil] at e1
      subst e1
      subst e3
      have hr9 := va_runI (n := na) (nL := nL) (own := ow) (Ts := x_tbl) (As := As.map (xcv (mkad sz))) (rest := S'.map (xcv (mkad sz))) (b := sz + o) (bytes := y.2.1) (maxL := y.2.2.1) (index := idx) (R := mkRm (d + 1) Mc Ms) (cells := uc) (slots := us) (locs := locs) (meth := meth) (below := below) (g := F0 m pc ls ((As.reverse ++ Value.ref o :: S').map (xcv (mkad sz)))) (e := e) (H := H) ⟨hx, hb, hml, ho, hts⟩ hM (cwI na hts (XOk.good ⟨a1, a2, a3, a4⟩) (by rw [← a7]; rfl) rfl rfl (hts _ a2) (hts _ hw) (hts _ a5) a6 a3 ⟨Nat.le_refl _, (by show 8 + (y.2.2.1 + 11) + 40 * d ≤ 40 * (d + 1); omega)⟩) ⟨mkPre_blind, fun U hU9 hW => ⟨rfl, by rw [hU9]; exact hH, by rw [hU9]; exact hP, va_K.moved hW.alike hK, xN_warm hW hN, mkArr_warm hW hAr⟩⟩ rfl (by rw [List.length_map]; exact e2) (by exact hL.2.1) (by simp [xcv, mkad]) (lv_room (xroom_spec _ _ hc)) hd ⟨hmc, hms⟩
      intro T hT X
      obtain ⟨v, st₀, t, T', L9, h0, X', hL9, e4, e5, ⟨hv, sh', hR9, hz9, hb9, hF⟩, st⟩ := hr9 T hT X
      cases hv
      obtain ⟨k1, k2, k3⟩ := vx_keep (A0 := fun q => sz ≤ q) h0 e4 hS (fun _ _ z => z) (fun _ z => z) hL9 hF
      obtain ⟨t2, b1, b2⟩ := hk _ _ _ (hR sh' hR9) p e s m args below meth c hx hb hml hr ho hts hlk hK hN hIn hAr hsz hmc hms T'.heap (locs ++ L9) ls (by rw [e4]; exact hz9) (by rw [e4]; exact hb9) k3 hL T' rfl X'
      exact ⟨t2, st t2 b1, b2⟩
    · exact h.elim
  · exact h.elim
theorem ms_ctorN {y : XMth} {na idx mc ms : Nat} {host : String} (hok : XOkI y na) (hw : Cond.methodLinkNest ow idx y.1 host ∈ x_nst) (hmc : uc + mc ≤ Mc) (hms : us + ms ≤ Ms) (hd : decode cc pc = .ok (.invokespecial idx, 3)) (hk : MkTo l D cA sz ow cc nL (d + 1) Mc Ms R (uc + mc) (us + ms) (pc + 3) k) : MkTo l D cA sz ow cc nL (d + 1) Mc Ms R uc us pc (mi_ctor l D cA sz d y na mc ms k) := by
  intro L S σ h p e s m args below meth c hx hb hml hr ho hts hlk hK hN hIn hAr hsz hMc hMs H locs ls hH hP hS hL
  obtain ⟨⟨a1, a2, a3, a4⟩, a5, a6, a7⟩ := hok
  unfold mi_ctor at h
  split at h
  · next As o S' hp =>
    split at h
    · next hc =>
      obtain ⟨R', hM, hR⟩ := h
      obtain ⟨P, e1, e2, e3⟩ := xpop_spec na S [] hp
      rw [List.append_nil] at e1
      subst e1
      subst e3
      have hr9 := va_runIN (host := host) (n := na) (nL := nL) (own := ow) (Ts := x_tbl) (As := As.map (xcv (mkad sz))) (rest := S'.map (xcv (mkad sz))) (b := sz + o) (bytes := y.2.1) (maxL := y.2.2.1) (index := idx) (R := mkRm (d + 1) Mc Ms) (cells := uc) (slots := us) (locs := locs) (meth := meth) (below := below) (g := F0 m pc ls ((As.reverse ++ Value.ref o :: S').map (xcv (mkad sz)))) (e := e) (H := H) ⟨hx, hb, hml, ho, hts⟩ hM ⟨va_cnB na hts (XOk.good ⟨a1, a2, a3, a4⟩) (by rw [← a7]; rfl) rfl rfl (hN _ hw) (hts _ a2) a3 ⟨Nat.le_refl _, (by show 8 + (y.2.2.1 + 11) + 40 * d ≤ 40 * (d + 1); omega)⟩, a6, hts _ a5⟩ ⟨mkPre_blind, fun U hU9 hW => ⟨rfl, by rw [hU9]; exact hH, by rw [hU9]; exact hP, va_K.moved hW.alike hK, xN_warm hW hN, mkArr_warm hW hAr⟩⟩ rfl (by rw [List.length_map]; exact e2) (by exact hL.2.1) (by simp [xcv, mkad]) (lv_room (xroom_spec _ _ hc)) hd ⟨hmc, hms⟩
      intro T hT X
      obtain ⟨v, st₀, t, T', L9, h0, X', hL9, e4, e5, ⟨hv, sh', hR9, hz9, hb9, hF⟩, st⟩ := hr9 T hT X
      cases hv
      obtain ⟨k1, k2, k3⟩ := vx_keep (A0 := fun q => sz ≤ q) h0 e4 hS (fun _ _ z => z) (fun _ z => z) hL9 hF
      obtain ⟨t2, b1, b2⟩ := hk _ _ _ (hR sh' hR9) p e s m args below meth c hx hb hml hr ho hts hlk hK hN hIn hAr hsz hmc hms T'.heap (locs ++ L9) ls (by rw [e4]; exact hz9) (by rw [e4]; exact hb9) k3 hL T' rfl X'
      exact ⟨t2, st t2 b1, b2⟩
    · exact h.elim
  · exact h.elim
theorem mkto_at : MkTo l D cA sz ow cc nL d Mc Ms R uc us pc (MkAt l D cA sz ow cc nL d Mc Ms R uc us pc) := fun _ _ _ h => h
theorem mk_of {y : XMth} {av : List Value} {sh : List MkSh} (hpl : plainName y.1.cls = true) (hnm : y.1.name = "<init>") (hret : y.2.2.2 = none) (hav : xplain av = true) (hlen : (lg_sl (av.map (xcv (mkad sz)))).length ≤ y.2.2.1) (h : MkAt l D cA sz y.1.cls y.2.1 y.2.2.1 d Mc Ms R 0 0 0 (xent av y.2.2.1) [] sh) : MkM l D cA sz y d Mc Ms av sh R := by
  refine Met.ofW (cc := y.2.1) (maxL := y.2.2.1) (ret := y.2.2.2) (ws' := x_tbl) hpl rfl ?_
  intro p e s m args below meth c s₁ B hml hv
  obtain ⟨rfl, hH, hP, hK, hN, hAr⟩ := hv
  have hts := atoms_spec (ws := xWs y) B.pre
  have hown : s.vm.findClass y.1.cls = some m.cls := findClass_of_methodNamed B.named
  have hl := lv_entry (av.map (xcv (mkad sz))) (n := y.2.2.1) hlen
  have hin : meth.name = "<init>" := (name_of_methodNamed B.named B.method).1.trans hnm
  rw [lg_entry_eq]
  exact h p e s m _ below meth c B.exec B.bytes hml (B.returns.trans hret) hown (fun w hw => hts w (List.mem_cons_of_mem _ hw)) B.notSynchronized hK hN hin hAr (by rw [hH]; exact Nat.le_add_right _ _) (Nat.zero_le _) (Nat.zero_le _) s.heap [] _ hH hP va_S.rf ⟨xent_len _ _, lv_has_of hl (xent_sub (mkad sz) av y.2.2.1 0 hav)⟩
end YI
