/-! An abstract machine over the world of all cells: a state is what every cell holds as ints (σ cell place), a reference is the number of its cell;
    the weakest start of each instruction, and that the machine of the Statement does it. -/
abbrev Sg : Type := Nat → Nat → Int32
abbrev XSh : Type := (Nat × Nat) ⊕ (Nat × List (Option Value))
/-- launch, addresses of the cells, classes, classes of arrays (0 of int, 1 of boolean, 2 of char) -/
abbrev XG : Type := Launch × (Nat → Nat) × va_G × (Nat → ClassId)
def xcv (ad : Nat → Nat) (v : Value) : Value := match v with
  | .ref k => .ref (ad k)
  | w => w
def x_ty (t : Nat) : FieldType := match t with
  | 0 => .int
  | 1 => .boolean
  | _ => .char
def x_tys (cA : Nat → ClassId) : List (ClassId × FieldType) := [(cA 0, .int), (cA 1, .boolean), (cA 2, .char)]
def xFs (ad : Nat → Nat) (row : Nat → Int32) : Nat → List (Option Value) → List Value
  | _, [] => []
  | j, some v :: fs => xcv ad v :: xFs ad row (j + 1) fs
  | j, none :: fs => .int (row j) :: xFs ad row (j + 1) fs
def xE (ad : Nat → Nat) (cA : Nat → ClassId) (row : Nat → Int32) (c : XSh) : va_E := match c with
  | .inl (t, n) => .inl (cA t, n, .inl row)
  | .inr (ci, fs) => .inr (ci, xFs ad row 0 fs)
def xWl (ad : Nat → Nat) (cA : Nat → ClassId) (σ : Sg) : Nat → List XSh → va_W
  | _, [] => []
  | k, c :: sh => (ad k, xE ad cA (σ k) c) :: xWl ad cA σ (k + 1) sh
theorem xFs_get (ad : Nat → Nat) (row : Nat → Int32) : ∀ (fs : List (Option Value)) (j i : Nat), (xFs ad row j fs)[i]? = match fs[i]? with
    | some (some v) => some (xcv ad v)
    | some none => some (.int (row (j + i)))
    | none => none := by
  intro fs
  induction fs with
  | nil => intro j i; rfl
  | cons f fs ih =>
    intro j i
    cases i with
    | zero => cases f <;> rfl
    | succ i =>
      have h := ih (j + 1) i
      rw [show j + 1 + i = j + (i + 1) by omega] at h
      cases f <;> exact h
theorem xFs_len (ad : Nat → Nat) (row : Nat → Int32) : ∀ (fs : List (Option Value)) (j : Nat), (xFs ad row j fs).length = fs.length := by
  intro fs
  induction fs with
  | nil => intro j; rfl
  | cons f fs ih => intro j; cases f <;> simp [xFs, ih]
theorem xFs_set (ad : Nat → Nat) (row : Nat → Int32) (x : Int32) : ∀ (fs : List (Option Value)) (j i : Nat), fs[i]? = some none → (xFs ad row j fs).set i (.int x) = xFs ad (upd row (j + i) x) j fs := by
  intro fs
  have key : ∀ (fs : List (Option Value)) (j p : Nat), p < j → xFs ad (upd row p x) j fs = xFs ad row j fs := by
    intro fs
    induction fs with
    | nil => intro j p _; rfl
    | cons f fs ih =>
      intro j p hp
      have h := ih (j + 1) p (by omega)
      have h2 : upd row p x j = row j := by simp [upd]; omega
      cases f <;> simp [xFs, h, h2]
  induction fs with
  | nil => intro j i h; simp at h
  | cons f fs ih =>
    intro j i h
    cases i with
    | zero =>
      have hf : f = none := by simpa using h
      subst hf
      simp only [xFs, List.set_cons_zero, Nat.add_zero, key fs (j + 1) j (by omega)]
      simp [upd]
    | succ i =>
      have h2 := ih (j + 1) i (by simpa using h)
      rw [show j + 1 + i = j + (i + 1) by omega] at h2
      have h3 : upd row (j + (i + 1)) x j = row j := by simp [upd]
      cases f <;> simp [xFs, h2, h3]
theorem xWl_get (ad : Nat → Nat) (cA : Nat → ClassId) (σ : Sg) : ∀ (sh : List XSh) (k i : Nat), (xWl ad cA σ k sh)[i]? = (sh[i]?).map (fun c => (ad (k + i), xE ad cA (σ (k + i)) c)) := by
  intro sh
  induction sh with
  | nil => intro k i; rfl
  | cons c sh ih =>
    intro k i
    cases i with
    | zero => rfl
    | succ i =>
      have h := ih (k + 1) i
      rw [show k + 1 + i = k + (i + 1) by omega] at h
      exact h
theorem xWl_len (ad : Nat → Nat) (cA : Nat → ClassId) (σ : Sg) : ∀ (sh : List XSh) (k : Nat), (xWl ad cA σ k sh).length = sh.length := by
  intro sh
  induction sh with
  | nil => intro k; rfl
  | cons c sh ih => intro k; simp [xWl, ih]
def xup (σ : Sg) (o j : Nat) (x : Int32) : Sg := fun r => if r = o then upd (σ o) j x else σ r
theorem xup_s {σ : Sg} {o j : Nat} {x : Int32} : xup σ o j x o = upd (σ o) j x := by simp [xup]
theorem xup_n {σ : Sg} {o j r : Nat} {x : Int32} (h : r ≠ o) : xup σ o j x r = σ r := by simp [xup, h]
theorem xWl_ext {ad : Nat → Nat} {cA : Nat → ClassId} {σ τ : Sg} {sh : List XSh} {k : Nat} (p : Nat) {c : XSh} {e : va_E} (hp : sh[p]? = some c) (he : e = xE ad cA (τ (k + p)) c) (ho : ∀ r, r ≠ k + p → τ r = σ r) :
    (xWl ad cA σ k sh).set p (ad (k + p), e) = xWl ad cA τ k sh := by
  apply List.ext_getElem?
  intro i
  by_cases hi : i = p
  · subst hi
    have hl : i < (xWl ad cA σ k sh).length := by rw [xWl_len]; exact (List.getElem?_eq_some_iff.mp hp).1
    rw [List.getElem?_set_self hl, xWl_get, hp, he]
    rfl
  · rw [List.getElem?_set_ne (Ne.symm hi), xWl_get, xWl_get, ho (k + i) (by omega)]
/-! the shape of this claim's world -/
def x_shO : List XSh := [.inr (7, [some (.ref 1), some (.ref 2), some (.ref 3), some (.ref 4), some (.ref 5), none, none, none, none, none]),
  .inr (0, [some (.ref 6), some (.ref 7), some (.ref 8), some (.ref 9), some (.ref 10)]),
  .inr (5, [some (.ref 1), some (.ref 17), some (.ref 18), some (.ref 19), some (.ref 20), some (.ref 21), some (.ref 22), none]),
  .inr (1, [some (.ref 1), some (.ref 2), some (.ref 23), some (.ref 24), some (.ref 25), some (.ref 11), none, none]),
  .inr (4, [some (.ref 1), some (.ref 2), some (.ref 3), some (.ref 12), none, none, none]),
  .inr (2, [some (.ref 13), some (.ref 14), some (.ref 26), some (.ref 15), some (.ref 27), some (.ref 16), some (.ref 28), some (.ref 29)]),
  .inr (6, [some (.ref 31), some (.int 10), some (.int 1), none]),
  .inr (6, [some (.ref 32), some (.int 24), some (.int 6), none]),
  .inr (6, [some (.ref 33), some (.int 40), some (.int 5), none]),
  .inr (6, [some (.ref 34), some (.int 160), some (.int 3), none]),
  .inr (6, [some (.ref 35), some (.int 40), some (.int 4), none]),
  .inr (6, [some (.ref 36), some (.int 40), some (.int 2), none]),
  .inr (6, [some (.ref 37), some (.int 100), some (.int 2), none]),
  .inr (6, [some (.ref 38), some (.int 8), some (.int 16), none]),
  .inr (6, [some (.ref 39), some (.int 8), some (.int 8), none]),
  .inr (6, [some (.ref 40), some (.int 8), some (.int 1), none]),
  .inr (6, [some (.ref 41), some (.int 128), some (.int 10), none]),
  .inr (3, [some (.ref 42)]),
  .inr (3, [some (.ref 43)]),
  .inr (3, [some (.ref 44)]),
  .inr (3, [some (.ref 45)]),
  .inr (3, [some (.ref 46)]),
  .inr (3, [some (.ref 47)]),
  .inr (3, [some (.ref 48)]),
  .inr (3, [some (.ref 49)]),
  .inr (3, [some (.ref 50)]),
  .inr (3, [some (.ref 51)]),
  .inr (3, [some (.ref 52)]),
  .inr (3, [some (.ref 53)]),
  .inr (3, [some (.ref 54)]),
  .inr (8, [some (.ref 55), none, some (.ref 56), some (.ref 57), some (.ref 58), some (.ref 59), some (.ref 60), some (.ref 61), none, some (.ref 62), some (.ref 63), some (.ref 64), some (.ref 65), none, some (.ref 66), some (.ref 67), some (.ref 68), some (.ref 69), some (.ref 70), none, none, none, none, none, none, some (.ref 71), some (.ref 72), some (.ref 73), some (.ref 74), some (.ref 75), some (.ref 76), some (.ref 77), some (.ref 78), some (.ref 79), some (.ref 80), none, none, none, none, some (.ref 81), some (.ref 82), some (.ref 83), some (.ref 84), none, some (.ref 85), none, some (.ref 86), some (.ref 87), some (.ref 88), none, none])]
def x_shA : List XSh := [.inl (0, 10),
  .inl (0, 144),
  .inl (0, 200),
  .inl (0, 480),
  .inl (0, 160),
  .inl (0, 80),
  .inl (0, 200),
  .inl (0, 128),
  .inl (0, 64),
  .inl (0, 8),
  .inl (0, 1280),
  .inl (0, 10),
  .inl (0, 16),
  .inl (0, 16),
  .inl (0, 40),
  .inl (0, 24),
  .inl (0, 160),
  .inl (0, 24),
  .inl (0, 24),
  .inl (0, 160),
  .inl (0, 8),
  .inl (0, 8),
  .inl (0, 8),
  .inl (0, 8),
  .inl (1, 10),
  .inl (0, 24),
  .inl (1, 24),
  .inl (0, 24),
  .inl (0, 24),
  .inl (0, 24),
  .inl (1, 24),
  .inl (0, 40),
  .inl (0, 40),
  .inl (0, 40),
  .inl (2, 40),
  .inl (0, 160),
  .inl (0, 40),
  .inl (0, 40),
  .inl (0, 40),
  .inl (2, 40),
  .inl (1, 10),
  .inl (0, 16),
  .inl (0, 40),
  .inl (1, 24),
  .inl (1, 160),
  .inl (0, 24),
  .inl (0, 24),
  .inl (0, 160),
  .inl (0, 40),
  .inl (0, 24),
  .inl (0, 128),
  .inl (1, 64),
  .inl (0, 8),
  .inl (0, 8),
  .inl (1, 8),
  .inl (0, 1280),
  .inl (0, 8),
  .inl (1, 8)]
def x_sh : List XSh := x_shO ++ x_shA
def xfld (o ci k : Nat) : Option (Option Value) := match x_sh[o]? with
  | some (.inr q) => if q.1 = ci then q.2[k]? else none
  | _ => none
def xarr (a : Nat) : Option (Nat × Nat) := match x_sh[a]? with
  | some (.inl q) => some q
  | _ => none
theorem xfld_spec {o ci k : Nat} {f : Option Value} (h : xfld o ci k = some f) : ∃ fs, x_sh[o]? = some (.inr (ci, fs)) ∧ fs[k]? = some f := by
  unfold xfld at h
  split at h
  · next q hq =>
    split at h
    · next he => subst he; exact ⟨q.2, hq, h⟩
    · cases h
  · cases h
theorem xarr_spec {a : Nat} {q : Nat × Nat} (h : xarr a = some q) : x_sh[a]? = some (.inl q) := by
  unfold xarr at h
  split at h
  · next z hz => cases h; exact hz
  · cases h
def xW (G : XG) (σ : Sg) : va_W := xWl G.2.1 G.2.2.2 σ 0 x_sh
theorem xW_get {G : XG} {σ : Sg} {i : Nat} {c : XSh} (h : x_sh[i]? = some c) : (xW G σ)[i]? = some (G.2.1 i, xE G.2.1 G.2.2.2 (σ i) c) := by
  unfold xW
  rw [xWl_get, h]
  simp
theorem xW_set {G : XG} {σ : Sg} {p j : Nat} {x : Int32} {c : XSh} {e : va_E} (hp : x_sh[p]? = some c) (he : e = xE G.2.1 G.2.2.2 (upd (σ p) j x) c) : (xW G σ).set p (G.2.1 p, e) = xW G (xup σ p j x) := by
  have h := xWl_ext (ad := G.2.1) (cA := G.2.2.2) (σ := σ) (τ := xup σ p j x) (sh := x_sh) (k := 0) p (c := c) (e := e) hp (by rw [Nat.zero_add, xup_s]; exact he) (fun r hr => xup_n (by omega))
  rw [Nat.zero_add] at h
  exact h
def xA (G : XG) : Nat → Prop := fun q => ∃ k, k < x_sh.length ∧ q = G.2.1 k
abbrev XMth : Type := MethodName × ByteArray × Nat × Option FieldType
def xWs (y : XMth) : List Cond := .code y.1 y.2.1 y.2.2.1 y.2.2.2 :: x_tbl
def xRm (d : Nat) : Room := { frames := d, cells := 0, slots := 0, locals := 40 * d }
def xPre (G : XG) (σ : Sg) : State → Prop := fun U => va_P G.2.2.1 x_cl (xW G σ) U.heap ∧ va_K G.2.2.1 x_cl (x_tys G.2.2.2) U ∧ va_D (xA G) (xW G σ) ∧ ∀ w ∈ x_nst, va_Nw w U
def XQ (G : XG) (R : Option Value → Sg → Prop) : Array Value → State → Outcome → State → Prop := fun _ st o t =>
  ∃ (v : Option Value) (τ : Sg), o = .returned (v.map (xcv G.2.1)) ∧ R v τ ∧ va_P G.2.2.1 x_cl (xW G τ) t.heap ∧ va_F (xA G) st t
/-- the method's contract at these arguments and this state: it returns so that R holds of the answer and of the new state -/
def XM (G : XG) (y : XMth) (d : Nat) (av : List Value) (σ : Sg) (R : Option Value → Sg → Prop) : Prop :=
  Met G.1 y.1 (xWs y) (xRm d) (va_Pc (av.map (xcv G.2.1)) (xPre G σ)) (XQ G R) 0 0 (xA G)
/-- the listed values of the locals -/
def xlv (ad : Nat → Nat) : Nat → List (Option Value) → List (Nat × Value)
  | _, [] => []
  | k, some v :: L => (k, xcv ad v) :: xlv ad (k + 1) L
  | k, none :: L => xlv ad (k + 1) L
theorem xlv_mem (ad : Nat → Nat) : ∀ (L : List (Option Value)) (k : Nat) (q : Nat × Value), q ∈ xlv ad k L ↔ ∃ (j : Nat) (v : Value), L[j]? = some (some v) ∧ q = (k + j, xcv ad v) := by
  intro L
  induction L with
  | nil => intro k q; simp [xlv]
  | cons a L ih =>
    intro k q
    have h1 : ∀ (z : Prop), (z ∨ ∃ (j : Nat) (v : Value), L[j]? = some (some v) ∧ q = (k + 1 + j, xcv ad v)) ↔ (z ∨ ∃ (j : Nat) (v : Value), (a :: L)[j + 1]? = some (some v) ∧ q = (k + (j + 1), xcv ad v)) := by
      intro z
      simp only [List.getElem?_cons_succ, show ∀ j, k + 1 + j = k + (j + 1) from fun j => by omega]
    cases a with
    | none =>
      show q ∈ xlv ad (k + 1) L ↔ _
      rw [ih (k + 1) q]
      constructor
      · rintro ⟨j, v, e1, e2⟩
        exact ⟨j + 1, v, by simpa using e1, by rw [e2, show k + 1 + j = k + (j + 1) by omega]⟩
      · rintro ⟨j, v, e1, e2⟩
        cases j with
        | zero => simp at e1
        | succ j => exact ⟨j, v, by simpa using e1, by rw [e2, show k + 1 + j = k + (j + 1) by omega]⟩
    | some w =>
      show q ∈ (k, xcv ad w) :: xlv ad (k + 1) L ↔ _
      rw [List.mem_cons, ih (k + 1) q]
      constructor
      · rintro (h | ⟨j, v, e1, e2⟩)
        · exact ⟨0, w, rfl, h⟩
        · exact ⟨j + 1, v, by simpa using e1, by rw [e2, show k + 1 + j = k + (j + 1) by omega]⟩
      · rintro ⟨j, v, e1, e2⟩
        cases j with
        | zero =>
          have : w = v := by simpa using e1
          subst this
          exact Or.inl e2
        | succ j => exact Or.inr ⟨j, v, by simpa using e1, by rw [e2, show k + 1 + j = k + (j + 1) by omega]⟩
def XL (ad : Nat → Nat) (ls : Array Slot) (nL : Nat) (L : List (Option Value)) : Prop := L.length = nL ∧ lv_has ls nL (xlv ad 0 L)
theorem XL.at {ad : Nat → Nat} {ls : Array Slot} {nL : Nat} {L : List (Option Value)} (h : XL ad ls nL L) {i : Nat} {v : Value} (hi : L[i]? = some (some v)) : ls[i]? = some (.val (xcv ad v)) :=
  h.2.2.2 (i, xcv ad v) ((xlv_mem ad L 0 _).mpr ⟨i, v, hi, by simp⟩)
theorem lv_has_of {ls : Array Slot} {nL : Nat} {l l' : List (Nat × Value)} (h : lv_has ls nL l) (hs : ∀ q ∈ l', q ∈ l) : lv_has ls nL l' := ⟨h.1, h.2.1, fun q hq => h.2.2 q (hs q hq)⟩
/-- reading a local -/
def xl : List (Option Value) → Nat → Option Value
  | [], _ => none
  | a :: _, 0 => a
  | _ :: L, i + 1 => xl L i
theorem xl_spec : ∀ {L : List (Option Value)} {i : Nat} {v : Value}, xl L i = some v → L[i]? = some (some v) := by
  intro L
  induction L with
  | nil => intro i v h; cases h
  | cons a L ih =>
    intro i v h
    cases i with
    | zero => simp only [xl] at h; simp [h]
    | succ i => simpa using ih (show xl L i = some v from h)
def xwide (v : Option Value) : Bool := match v with
  | some (.long _) => true
  | some (.double _) => true
  | _ => false
/-- no long stands just before -/
def xnarrow (L : List (Option Value)) (i : Nat) : Bool := match i with
  | 0 => true
  | i + 1 => !xwide (xl L i)
def xst : List (Option Value) → Nat → Option Value → List (Option Value)
  | [], _, _ => []
  | _ :: L, 0, v => v :: L
  | a :: L, i + 1, v => a :: xst L i v
theorem xst_len : ∀ (L : List (Option Value)) (i : Nat) (v : Option Value), (xst L i v).length = L.length := by
  intro L
  induction L with
  | nil => intro i v; cases i <;> rfl
  | cons a L ih => intro i v; cases i <;> simp [xst, ih]
theorem xst_get : ∀ (L : List (Option Value)) (i : Nat) (v : Option Value) (j : Nat), (xst L i v)[j]? = if j = i then (if i < L.length then some v else none) else L[j]? := by
  intro L
  induction L with
  | nil => intro i v j; cases i <;> simp [xst]
  | cons a L ih =>
    intro i v j
    cases i with
    | zero => cases j <;> simp [xst]
    | succ i =>
      cases j with
      | zero => simp [xst]
      | succ j => simp [xst, ih]
theorem xl_wide {L : List (Option Value)} {i : Nat} {v : Value} (h : L[i]? = some (some v)) : xl L i = some v := by
  induction L generalizing i with
  | nil => simp at h
  | cons a L ih =>
    cases i with
    | zero => exact Option.some.inj h
    | succ i => exact ih (by simpa using h)
theorem xcv_cat (ad : Nat → Nat) (v : Value) : (xcv ad v).category = v.category := by cases v <;> rfl
theorem xwide_cat {v : Value} (h : v.category = 2) : xwide (some v) = true := by cases v <;> simp [Value.category] at h <;> rfl
theorem XL.store1 {ad : Nat → Nat} {ls : Array Slot} {nL : Nat} {L : List (Option Value)} (h : XL ad ls nL L) {i : Nat} {v : Value} (hi : i < L.length) (hn : xnarrow L i = true) :
    ∀ q ∈ xlv ad 0 (xst L i (some v)), q ∈ (i, xcv ad v) :: (xlv ad 0 L).filter (fun q => !(q.1 == i) && !(q.1 + 1 == i && q.2.category == 2)) := by
  intro q hq
  obtain ⟨j, w, e1, rfl⟩ := (xlv_mem ad _ 0 q).mp hq
  rw [xst_get] at e1
  split at e1
  · next hj =>
    subst hj
    try rw [if_pos hi] at e1
    cases e1
    simp
  · next hj =>
    refine List.mem_cons_of_mem _ (List.mem_filter.mpr ⟨(xlv_mem ad L 0 _).mpr ⟨j, w, e1, rfl⟩, ?_⟩)
    simp only [Nat.zero_add, Bool.and_eq_true, Bool.not_eq_true', beq_eq_false_iff_ne, ne_eq, hj, not_false_eq_true, true_and]
    rw [Bool.and_eq_false_iff]
    by_cases hji : j + 1 = i
    · right
      subst hji
      simp only [xnarrow, Bool.not_eq_true', xl_wide e1] at hn
      rw [xcv_cat]
      by_cases hc : w.category = 2
      · rw [xwide_cat hc] at hn; cases hn
      · simp [hc]
    · left; simpa using hji
theorem XL.store2 {ad : Nat → Nat} {ls : Array Slot} {nL : Nat} {L : List (Option Value)} (h : XL ad ls nL L) {i : Nat} {v : Value} (hi : i + 1 < L.length) (hn : xnarrow L i = true) :
    ∀ q ∈ xlv ad 0 (xst (xst L i (some v)) (i + 1) none), q ∈ (i, xcv ad v) :: (xlv ad 0 L).filter (fun q => !(q.1 == i) && (!(q.1 == i + 1) && !(q.1 + 1 == i && q.2.category == 2))) := by
  intro q hq
  obtain ⟨j, w, e1, rfl⟩ := (xlv_mem ad _ 0 q).mp hq
  rw [xst_get] at e1
  split at e1
  · next hj =>
    split at e1 <;> cases e1
  · next hj2 =>
    rw [xst_get] at e1
    split at e1
    · next hj =>
      subst hj
      try rw [if_pos (by omega)] at e1
      cases e1
      simp
    · next hj =>
      refine List.mem_cons_of_mem _ (List.mem_filter.mpr ⟨(xlv_mem ad L 0 _).mpr ⟨j, w, e1, rfl⟩, ?_⟩)
      simp only [Nat.zero_add, Bool.and_eq_true, Bool.not_eq_true', beq_eq_false_iff_ne, ne_eq, hj, hj2, not_false_eq_true, true_and]
      rw [Bool.and_eq_false_iff]
      by_cases hji : j + 1 = i
      · right
        subst hji
        simp only [xnarrow, Bool.not_eq_true', xl_wide e1] at hn
        rw [xcv_cat]
        by_cases hc : w.category = 2
        · rw [xwide_cat hc] at hn; cases hn
        · simp [hc]
      · left; simpa using hji
/-- from this place of the method, with these locals, this stack and this state, the method comes to its return, and R holds there -/
def XAt (G : XG) (ow : String) (cc : ByteArray) (nL : Nat) (rt : Option FieldType) (d : Nat) (R : Option Value → Sg → Prop) (pc : Nat) (L : List (Option Value)) (S : List Value) (σ : Sg) : Prop :=
  ∀ (p : Program) (e : Env) (s : State) (m : MethodId) (args : Array Value) (below : List Frame) (meth : Method) (c : Code),
    p.tables.exec = Jvm.exec → c.code = cc → c.maxLocals = nL → meth.sig.returnType = rt → s.vm.findClass ow = some m.cls → (∀ w ∈ x_tbl, w.before args s = true) → meth.locks = false →
    va_K G.2.2.1 x_cl (x_tys G.2.2.2) s → (∀ w ∈ x_nst, va_Nw w s) →
    ∀ (H : Heap) (locs : List Loc) (ls : Array Slot), va_P G.2.2.1 x_cl (xW G σ) H → va_D (xA G) (xW G σ) → va_S (xA G) s.heap H locs → XL G.2.1 ls nL L →
      W p G.1 e (xRm d) s m args below meth c H locs 0 0 (MQ below (XQ G R) args s 0 0 (xA G)) (F0 m pc ls (S.map (xcv G.2.1)))
abbrev XK : Type := List (Option Value) → List Value → Sg → Prop
