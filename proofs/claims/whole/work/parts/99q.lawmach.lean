/-! the law's machine: the world of class and reference, the two arrays of answers (cells 89, 90), the script (cell 91) (written by wip/gen/lawmach.py) -/
def RL : String := "LinkerYardLaw"
abbrev OO : Type := Int64 × UInt64
abbrev LK : Type := OO → XK
def lr (x : Int64) : Nat → Int64 := fun j => if j = 0 then x else 0
def dr (x : UInt64) : Nat → UInt64 := fun j => if j = 0 then x else 0
def oW (G : XG) (cL cD : ClassId) (o : OO) : va_W := [(G.2.1 89, .inl (cL, 1, .inr (.inl (lr o.1)))), (G.2.1 90, .inl (cD, 1, .inr (.inr (.inr (.inl (dr o.2))))))]
def lA (G : XG) : Nat → Prop := fun q => ∃ k, k < 91 ∧ q = G.2.1 k
def l_tys (G : XG) (cL cD : ClassId) : List (ClassId × FieldType) := [(G.2.2.2 0, .int), (G.2.2.2 1, .boolean), (G.2.2.2 2, .char), (cL, .long), (cD, .double)]
def lInj (G : XG) : Prop := ∀ i j, i < 91 → j < 91 → G.2.1 i = G.2.1 j → i = j
def l_ncs : List (String × String) := [("java/lang/IllegalArgumentException", "java/lang/IndexOutOfBoundsException"), ("java/lang/IllegalStateException", "java/lang/IndexOutOfBoundsException"), ("java/lang/IllegalStateException", "java/lang/IllegalArgumentException"), ("java/util/NoSuchElementException", "java/lang/IndexOutOfBoundsException"), ("java/util/NoSuchElementException", "java/lang/IllegalStateException"), ("java/util/NoSuchElementException", "java/lang/IllegalArgumentException"), ("java/lang/IllegalArgumentException", "java/util/NoSuchElementException"), ("java/lang/UnsupportedOperationException", "java/util/NoSuchElementException"), ("java/lang/UnsupportedOperationException", "java/lang/IllegalArgumentException"), ("java/lang/IllegalStateException", "java/util/NoSuchElementException"), ("java/lang/IllegalStateException", "java/lang/UnsupportedOperationException"), ("java/lang/UnsupportedOperationException", "java/lang/IllegalStateException"), ("java/lang/ArithmeticException", "java/lang/IllegalStateException")]
def lNc (U : State) : Prop := ∀ q ∈ l_ncs, va_Nc q.1 q.2 U
theorem lr_upd {a x : Int64} : vp_updL (lr a) 0 x = lr x := by
  funext j
  unfold vp_updL lr
  by_cases h : j = 0 <;> simp [h]
theorem dr_upd {a x : UInt64} : vf_upd (dr a) 0 x = dr x := by
  funext j
  unfold vf_upd dr
  by_cases h : j = 0 <;> simp [h]
theorem xA_lA {G : XG} : ∀ q, xA G q → lA G q := fun q h => by
  obtain ⟨k, h1, h2⟩ := h
  exact ⟨k, Nat.lt_trans h1 (by decide), h2⟩
theorem xsh89 : x_sh.length = 89 := rfl
theorem lW_get {G : XG} {cL cD : ClassId} {σ : Sg} {o : OO} {k : Nat} {q : Nat × va_E} (h : (xW G σ ++ oW G cL cD o)[k]? = some q) : k < 91 ∧ q.1 = G.2.1 k := by
  have hl : (xW G σ).length = 89 := by unfold xW; rw [xWl_len]; rfl
  by_cases hk : k < 89
  · rw [List.getElem?_append_left (by omega)] at h
    unfold xW at h
    rw [xWl_get, Nat.zero_add] at h
    cases hc : x_sh[k]? with
    | none => rw [hc] at h; cases h
    | some c => rw [hc] at h; cases h; exact ⟨by omega, rfl⟩
  · rw [List.getElem?_append_right (by omega), hl] at h
    obtain ⟨j, rfl⟩ : ∃ j, k = 89 + j := ⟨k - 89, by omega⟩
    rw [Nat.add_sub_cancel_left] at h
    match j, h with
    | 0, h => cases h; exact ⟨by omega, rfl⟩
    | 1, h => cases h; exact ⟨by omega, rfl⟩
    | j + 2, h => cases h
theorem lD_inj {G : XG} {cL cD : ClassId} {σ : Sg} {o : OO} {A0 : Nat → Prop} (hI : lInj G) (hA : ∀ q, lA G q → A0 q) : va_D A0 (xW G σ ++ oW G cL cD o) := by
  refine ⟨fun i j p q hi hj hpq => ?_, fun k q hk => ?_⟩
  · obtain ⟨h1, e1⟩ := lW_get hi
    obtain ⟨h2, e2⟩ := lW_get hj
    exact hI i j h1 h2 (by rw [← e1, ← e2]; exact hpq)
  · obtain ⟨h1, e1⟩ := lW_get hk
    rw [e1]
    exact hA _ ⟨k, h1, rfl⟩
theorem xD_inj {G : XG} {σ : Sg} (hI : lInj G) : va_D (xA G) (xW G σ) := by
  have key : ∀ {k : Nat} {q : Nat × va_E}, (xW G σ)[k]? = some q → k < 89 ∧ q.1 = G.2.1 k := by
    intro k q h
    unfold xW at h
    rw [xWl_get, Nat.zero_add] at h
    cases hc : x_sh[k]? with
    | none => rw [hc] at h; cases h
    | some c => rw [hc] at h; cases h; exact ⟨by rw [← xsh89]; exact (List.getElem?_eq_some_iff.mp hc).1, rfl⟩
  refine ⟨fun i j p q hi hj hpq => ?_, fun k q hk => ?_⟩
  · obtain ⟨h1, e1⟩ := key hi
    obtain ⟨h2, e2⟩ := key hj
    exact hI i j (by omega) (by omega) (by rw [← e1, ← e2]; exact hpq)
  · obtain ⟨h1, e1⟩ := key hk
    exact ⟨k, by rw [xsh89]; exact h1, e1⟩
/-- what doesn't lie in the class's and the reference's cells stays: so do the two arrays -/
theorem oW_kept {G : XG} {cL cD : ClassId} {σ τ : Sg} {o : OO} {H H1 : Heap} (hI : lInj G) (hP : va_P G.2.2.1 x_cl (oW G cL cD o) H) (hk : ∀ q : Nat, q < H.size → ¬ xA G q → H1[q]? = H[q]?) : va_P G.2.2.1 x_cl (oW G cL cD o) H1 := by
  have no : ∀ i, i < 91 → 89 ≤ i → ¬ xA G (G.2.1 i) := fun i h1 h2 ⟨k, h3, h4⟩ => by
    rw [xsh89] at h3
    have := hI i k h1 (by omega) h4
    omega
  intro k q hq
  have h9 := hP k q hq
  refine h9.kept (hk q.1 h9.lt ?_)
  match k, hq with
  | 0, hq => cases hq; exact no 89 (by omega) (by omega)
  | 1, hq => cases hq; exact no 90 (by omega) (by omega)
  | k + 2, hq => cases hq
def LC (G : XG) (cL cD : ClassId) (p : Program) (R : Room) (s : State) (m : MethodId) (args : Array Value) (c : Code) (A0 : Nat → Prop) (cc : ByteArray) (nL : Nat) : Prop :=
  p.tables.exec = Jvm.exec ∧ c.code = cc ∧ c.maxLocals = nL ∧ s.vm.findClass RL = some m.cls ∧ (∀ w ∈ x_tbl, w.before args s = true) ∧ va_K G.2.2.1 x_cl (l_tys G cL cD) s ∧ (∀ w ∈ x_nst, va_Nw w s) ∧ G.1.stackTraces = false ∧ xZU A0 s s.heap ∧ xZV A0 s s.heap ∧ lNc s ∧ lInj G ∧ (∀ q, lA G q → A0 q)
def LAt (G : XG) (cL cD : ClassId) (p : Program) (e : Env) (R : Room) (s : State) (m : MethodId) (args : Array Value) (below : List Frame) (meth : Method) (c : Code) (A0 : Nat → Prop) (nL : Nat) (Q : State → Prop) (x y : Nat) (pc : Nat) (o : OO) (L : List (Option Value)) (S : List Value) (σ : Sg) : Prop :=
  ∀ (H : Heap) (locs : List Loc) (ls : Array Slot), va_P G.2.2.1 x_cl (xW G σ) H → va_P G.2.2.1 x_cl (oW G cL cD o) H → va_S A0 s.heap H locs → XL G.2.1 ls nL L →
    W p G.1 e R s m args below meth c H locs x y Q (F0 m pc ls (S.map (xcv G.2.1)))
def LTo (G : XG) (cL cD : ClassId) (p : Program) (e : Env) (R : Room) (s : State) (m : MethodId) (args : Array Value) (below : List Frame) (meth : Method) (c : Code) (A0 : Nat → Prop) (nL : Nat) (Q : State → Prop) (x y : Nat) (pc : Nat) (k : LK) : Prop :=
  ∀ o L S σ, k o L S σ → LAt G cL cD p e R s m args below meth c A0 nL Q x y pc o L S σ
section LMI
variable {G : XG} {cL cD : ClassId} {p : Program} {e : Env} {R : Room} {s : State} {m : MethodId} {args : Array Value} {below : List Frame} {meth : Method} {c : Code} {A0 : Nat → Prop} {cc : ByteArray} {nL : Nat} {Q : State → Prop} {x y : Nat} {pc : Nat} {k kt kf : LK}
theorem lto_at : LTo G cL cD p e R s m args below meth c A0 nL Q x y pc (LAt G cL cD p e R s m args below meth c A0 nL Q x y pc) := fun _ _ _ _ h => h

def xi_fload (i : Nat) (k : XK) : XK := fun L S σ => match xl L i with
  | some (.float x) => k L (.float x :: S) σ
  | _ => False
def xi_dload (i : Nat) (k : XK) : XK := fun L S σ => match xl L i with
  | some (.double x) => k L (.double x :: S) σ
  | _ => False
theorem l_iload_n {i : Fin 4} (C : LC G cL cD p R s m args c A0 cc nL) (hd : decode cc pc = .ok (.iload_n i, 1)) (hk : LTo G cL cD p e R s m args below meth c A0 nL Q x y (pc + 1) k) : LTo G cL cD p e R s m args below meth c A0 nL Q x y pc (fun o => xi_iload (i : Nat) (k o)) := by
  intro o L S σ h H locs ls hP hO hS hL
  obtain ⟨hx, hb, hml, ho, hts, hK, hN, hG, hU, hV, hNc, hI, hA⟩ := C
  unfold xi_iload at h
  split at h
  · next x hl =>
    exact lv_iload_n (x := x) hx hb hd rfl (hL.at (xl_spec hl)) (hk _ _ _ _ h H locs ls hP hO hS hL)
  · exact h.elim
theorem l_iload {i : Nat} (C : LC G cL cD p R s m args c A0 cc nL) (hd : decode cc pc = .ok (.iload i, 2)) (hk : LTo G cL cD p e R s m args below meth c A0 nL Q x y (pc + 2) k) : LTo G cL cD p e R s m args below meth c A0 nL Q x y pc (fun o => xi_iload i (k o)) := by
  intro o L S σ h H locs ls hP hO hS hL
  obtain ⟨hx, hb, hml, ho, hts, hK, hN, hG, hU, hV, hNc, hI, hA⟩ := C
  unfold xi_iload at h
  split at h
  · next x hl =>
    exact lv_iload (x := x) hx hb hd (hL.at (xl_spec hl)) (hk _ _ _ _ h H locs ls hP hO hS hL)
  · exact h.elim
theorem l_aload_n {i : Fin 4} (C : LC G cL cD p R s m args c A0 cc nL) (hd : decode cc pc = .ok (.aload_n i, 1)) (hk : LTo G cL cD p e R s m args below meth c A0 nL Q x y (pc + 1) k) : LTo G cL cD p e R s m args below meth c A0 nL Q x y pc (fun o => xi_aload (i : Nat) (k o)) := by
  intro o L S σ h H locs ls hP hO hS hL
  obtain ⟨hx, hb, hml, ho, hts, hK, hN, hG, hU, hV, hNc, hI, hA⟩ := C
  unfold xi_aload at h
  split at h
  · next x hl =>
    exact lv_aload_n (x := G.2.1 x) hx hb hd rfl (hL.at (xl_spec hl)) (hk _ _ _ _ h H locs ls hP hO hS hL)
  · exact h.elim
theorem l_aload {i : Nat} (C : LC G cL cD p R s m args c A0 cc nL) (hd : decode cc pc = .ok (.aload i, 2)) (hk : LTo G cL cD p e R s m args below meth c A0 nL Q x y (pc + 2) k) : LTo G cL cD p e R s m args below meth c A0 nL Q x y pc (fun o => xi_aload i (k o)) := by
  intro o L S σ h H locs ls hP hO hS hL
  obtain ⟨hx, hb, hml, ho, hts, hK, hN, hG, hU, hV, hNc, hI, hA⟩ := C
  unfold xi_aload at h
  split at h
  · next x hl =>
    exact lv_aload (x := G.2.1 x) hx hb hd (hL.at (xl_spec hl)) (hk _ _ _ _ h H locs ls hP hO hS hL)
  · exact h.elim
theorem l_lload {i : Nat} (C : LC G cL cD p R s m args c A0 cc nL) (hd : decode cc pc = .ok (.lload i, 2)) (hk : LTo G cL cD p e R s m args below meth c A0 nL Q x y (pc + 2) k) : LTo G cL cD p e R s m args below meth c A0 nL Q x y pc (fun o => xi_lload i (k o)) := by
  intro o L S σ h H locs ls hP hO hS hL
  obtain ⟨hx, hb, hml, ho, hts, hK, hN, hG, hU, hV, hNc, hI, hA⟩ := C
  unfold xi_lload at h
  split at h
  · next x hl =>
    exact lv_lload (x := x) hx hb hd (hL.at (xl_spec hl)) (hk _ _ _ _ h H locs ls hP hO hS hL)
  · exact h.elim
theorem l_fload {i : Nat} (C : LC G cL cD p R s m args c A0 cc nL) (hd : decode cc pc = .ok (.fload i, 2)) (hk : LTo G cL cD p e R s m args below meth c A0 nL Q x y (pc + 2) k) : LTo G cL cD p e R s m args below meth c A0 nL Q x y pc (fun o => xi_fload i (k o)) := by
  intro o L S σ h H locs ls hP hO hS hL
  obtain ⟨hx, hb, hml, ho, hts, hK, hN, hG, hU, hV, hNc, hI, hA⟩ := C
  unfold xi_fload at h
  split at h
  · next x hl =>
    exact lv_fload (x := x) hx hb hd (hL.at (xl_spec hl)) (hk _ _ _ _ h H locs ls hP hO hS hL)
  · exact h.elim
theorem l_dload {i : Nat} (C : LC G cL cD p R s m args c A0 cc nL) (hd : decode cc pc = .ok (.dload i, 2)) (hk : LTo G cL cD p e R s m args below meth c A0 nL Q x y (pc + 2) k) : LTo G cL cD p e R s m args below meth c A0 nL Q x y pc (fun o => xi_dload i (k o)) := by
  intro o L S σ h H locs ls hP hO hS hL
  obtain ⟨hx, hb, hml, ho, hts, hK, hN, hG, hU, hV, hNc, hI, hA⟩ := C
  unfold xi_dload at h
  split at h
  · next x hl =>
    exact lv_dload (x := x) hx hb hd (hL.at (xl_spec hl)) (hk _ _ _ _ h H locs ls hP hO hS hL)
  · exact h.elim
def xi_fstore (i : Nat) (k : XK) : XK := fun L S σ => match S with
  | .float x :: S => (match xok1 L i with
    | true => k (xst L i (some (.float x))) S σ
    | false => False)
  | _ => False
theorem l_istore_n {i : Fin 4} (C : LC G cL cD p R s m args c A0 cc nL) (hd : decode cc pc = .ok (.istore_n i, 1)) (hk : LTo G cL cD p e R s m args below meth c A0 nL Q x y (pc + 1) k) : LTo G cL cD p e R s m args below meth c A0 nL Q x y pc (fun o => xi_istore (i : Nat) (k o)) := by
  intro o L S σ h H locs ls hP hO hS hL
  obtain ⟨hx, hb, hml, ho, hts, hK, hN, hG, hU, hV, hNc, hI, hA⟩ := C
  unfold xi_istore at h
  split at h
  · next x S =>
    split at h
    · next hok =>
      unfold xok1 at hok
      rw [Bool.and_eq_true, decide_eq_true_eq] at hok
      have hs := hL.store1 (v := .int x) hok.1 hok.2
      exact lv_istore_n (x := x) hx hb hd rfl hL.2 (by rw [← hL.1]; exact hok.1) rfl (fun ls' hl' => hk _ _ _ _ h H locs ls' hP hO hS ⟨by rw [xst_len]; exact hL.1, lv_has_of hl' hs⟩)
    · exact h.elim
  · exact h.elim
theorem l_istore {i : Nat} (C : LC G cL cD p R s m args c A0 cc nL) (hd : decode cc pc = .ok (.istore i, 2)) (hk : LTo G cL cD p e R s m args below meth c A0 nL Q x y (pc + 2) k) : LTo G cL cD p e R s m args below meth c A0 nL Q x y pc (fun o => xi_istore i (k o)) := by
  intro o L S σ h H locs ls hP hO hS hL
  obtain ⟨hx, hb, hml, ho, hts, hK, hN, hG, hU, hV, hNc, hI, hA⟩ := C
  unfold xi_istore at h
  split at h
  · next x S =>
    split at h
    · next hok =>
      unfold xok1 at hok
      rw [Bool.and_eq_true, decide_eq_true_eq] at hok
      have hs := hL.store1 (v := .int x) hok.1 hok.2
      exact lv_istore (x := x) hx hb hd hL.2 (by rw [← hL.1]; exact hok.1) rfl (fun ls' hl' => hk _ _ _ _ h H locs ls' hP hO hS ⟨by rw [xst_len]; exact hL.1, lv_has_of hl' hs⟩)
    · exact h.elim
  · exact h.elim
theorem l_astore_n {i : Fin 4} (C : LC G cL cD p R s m args c A0 cc nL) (hd : decode cc pc = .ok (.astore_n i, 1)) (hk : LTo G cL cD p e R s m args below meth c A0 nL Q x y (pc + 1) k) : LTo G cL cD p e R s m args below meth c A0 nL Q x y pc (fun o => xi_astore (i : Nat) (k o)) := by
  intro o L S σ h H locs ls hP hO hS hL
  obtain ⟨hx, hb, hml, ho, hts, hK, hN, hG, hU, hV, hNc, hI, hA⟩ := C
  unfold xi_astore at h
  split at h
  · next x S =>
    split at h
    · next hok =>
      unfold xok1 at hok
      rw [Bool.and_eq_true, decide_eq_true_eq] at hok
      have hs := hL.store1 (v := .ref x) hok.1 hok.2
      exact lv_astore_n (x := G.2.1 x) hx hb hd rfl hL.2 (by rw [← hL.1]; exact hok.1) rfl (fun ls' hl' => hk _ _ _ _ h H locs ls' hP hO hS ⟨by rw [xst_len]; exact hL.1, lv_has_of hl' hs⟩)
    · exact h.elim
  · exact h.elim
theorem l_astore {i : Nat} (C : LC G cL cD p R s m args c A0 cc nL) (hd : decode cc pc = .ok (.astore i, 2)) (hk : LTo G cL cD p e R s m args below meth c A0 nL Q x y (pc + 2) k) : LTo G cL cD p e R s m args below meth c A0 nL Q x y pc (fun o => xi_astore i (k o)) := by
  intro o L S σ h H locs ls hP hO hS hL
  obtain ⟨hx, hb, hml, ho, hts, hK, hN, hG, hU, hV, hNc, hI, hA⟩ := C
  unfold xi_astore at h
  split at h
  · next x S =>
    split at h
    · next hok =>
      unfold xok1 at hok
      rw [Bool.and_eq_true, decide_eq_true_eq] at hok
      have hs := hL.store1 (v := .ref x) hok.1 hok.2
      exact lv_astore (x := G.2.1 x) hx hb hd hL.2 (by rw [← hL.1]; exact hok.1) rfl (fun ls' hl' => hk _ _ _ _ h H locs ls' hP hO hS ⟨by rw [xst_len]; exact hL.1, lv_has_of hl' hs⟩)
    · exact h.elim
  · exact h.elim
theorem l_fstore {i : Nat} (C : LC G cL cD p R s m args c A0 cc nL) (hd : decode cc pc = .ok (.fstore i, 2)) (hk : LTo G cL cD p e R s m args below meth c A0 nL Q x y (pc + 2) k) : LTo G cL cD p e R s m args below meth c A0 nL Q x y pc (fun o => xi_fstore i (k o)) := by
  intro o L S σ h H locs ls hP hO hS hL
  obtain ⟨hx, hb, hml, ho, hts, hK, hN, hG, hU, hV, hNc, hI, hA⟩ := C
  unfold xi_fstore at h
  split at h
  · next x S =>
    split at h
    · next hok =>
      unfold xok1 at hok
      rw [Bool.and_eq_true, decide_eq_true_eq] at hok
      have hs := hL.store1 (v := .float x) hok.1 hok.2
      exact lv_fstore (x := x) hx hb hd hL.2 (by rw [← hL.1]; exact hok.1) rfl (fun ls' hl' => hk _ _ _ _ h H locs ls' hP hO hS ⟨by rw [xst_len]; exact hL.1, lv_has_of hl' hs⟩)
    · exact h.elim
  · exact h.elim
theorem XL.store2d {ad : Nat → Nat} {ls : Array Slot} {nL : Nat} {L : List (Option Value)} (h : XL ad ls nL L) {i : Nat} {v : Value} (hi : i + 1 < L.length) (hn : xnarrow L i = true) :
    ∀ q ∈ xlv ad 0 (xst (xst L i (some v)) (i + 1) none), q ∈ (i, xcv ad v) :: (xlv ad 0 L).filter (fun q => !(q.1 == i) && (!(q.1 == i + 1) && !(q.1 + 1 == i && q.2.category == 2))) := h.store2 hi hn
def xi_dstore (i : Nat) (k : XK) : XK := fun L S σ => match S with
  | .double x :: S => (match xok2 L i with
    | true => k (xst (xst L i (some (.double x))) (i + 1) none) S σ
    | false => False)
  | _ => False
theorem l_lstore {i : Nat} (C : LC G cL cD p R s m args c A0 cc nL) (hd : decode cc pc = .ok (.lstore i, 2)) (hk : LTo G cL cD p e R s m args below meth c A0 nL Q x y (pc + 2) k) : LTo G cL cD p e R s m args below meth c A0 nL Q x y pc (fun o => xi_lstore i (k o)) := by
  intro o L S σ h H locs ls hP hO hS hL
  obtain ⟨hx, hb, hml, ho, hts, hK, hN, hG, hU, hV, hNc, hI, hA⟩ := C
  unfold xi_lstore at h
  split at h
  · next x S =>
    split at h
    · next hok =>
      unfold xok2 at hok
      rw [Bool.and_eq_true, decide_eq_true_eq] at hok
      have hs := hL.store2 (v := .long x) hok.1 hok.2
      exact lv_lstore (x := x) hx hb hd hL.2 (by rw [← hL.1]; exact hok.1) rfl (fun ls' hl' => hk _ _ _ _ h H locs ls' hP hO hS ⟨by rw [xst_len, xst_len]; exact hL.1, lv_has_of hl' hs⟩)
    · exact h.elim
  · exact h.elim
theorem l_dstore {i : Nat} (C : LC G cL cD p R s m args c A0 cc nL) (hd : decode cc pc = .ok (.dstore i, 2)) (hk : LTo G cL cD p e R s m args below meth c A0 nL Q x y (pc + 2) k) : LTo G cL cD p e R s m args below meth c A0 nL Q x y pc (fun o => xi_dstore i (k o)) := by
  intro o L S σ h H locs ls hP hO hS hL
  obtain ⟨hx, hb, hml, ho, hts, hK, hN, hG, hU, hV, hNc, hI, hA⟩ := C
  unfold xi_dstore at h
  split at h
  · next x S =>
    split at h
    · next hok =>
      unfold xok2 at hok
      rw [Bool.and_eq_true, decide_eq_true_eq] at hok
      have hs := hL.store2 (v := .double x) hok.1 hok.2
      exact lv_dstore (x := x) hx hb hd hL.2 (by rw [← hL.1]; exact hok.1) rfl (fun ls' hl' => hk _ _ _ _ h H locs ls' hP hO hS ⟨by rw [xst_len, xst_len]; exact hL.1, lv_has_of hl' hs⟩)
    · exact h.elim
  · exact h.elim
theorem l_iconst {n : Int} {v : Int32} (C : LC G cL cD p R s m args c A0 cc nL) (hd : decode cc pc = .ok (.iconst n, 1)) (hv : Int32.ofInt n = v) (hk : LTo G cL cD p e R s m args below meth c A0 nL Q x y (pc + 1) k) : LTo G cL cD p e R s m args below meth c A0 nL Q x y pc (fun o => xi_ic v (k o)) := by
  intro o L S σ h H locs ls hP hO hS hL
  obtain ⟨hx, hb, hml, ho, hts, hK, hN, hG, hU, hV, hNc, hI, hA⟩ := C
  exact lv_iconst hx hb hd hv (hk _ _ _ _ h H locs ls hP hO hS hL)
theorem l_bipush {n : Int} {v : Int32} (C : LC G cL cD p R s m args c A0 cc nL) (hd : decode cc pc = .ok (.bipush n, 2)) (hv : (Int8.ofInt n).toInt32 = v) (hk : LTo G cL cD p e R s m args below meth c A0 nL Q x y (pc + 2) k) : LTo G cL cD p e R s m args below meth c A0 nL Q x y pc (fun o => xi_ic v (k o)) := by
  intro o L S σ h H locs ls hP hO hS hL
  obtain ⟨hx, hb, hml, ho, hts, hK, hN, hG, hU, hV, hNc, hI, hA⟩ := C
  exact lv_bipush hx hb hd hv (hk _ _ _ _ h H locs ls hP hO hS hL)
theorem l_lconst {n : Fin 2} {v : Int64} (C : LC G cL cD p R s m args c A0 cc nL) (hd : decode cc pc = .ok (.lconst n, 1)) (hv : Int64.ofNat (n : Nat) = v) (hk : LTo G cL cD p e R s m args below meth c A0 nL Q x y (pc + 1) k) : LTo G cL cD p e R s m args below meth c A0 nL Q x y pc (fun o => xi_lc v (k o)) := by
  intro o L S σ h H locs ls hP hO hS hL
  obtain ⟨hx, hb, hml, ho, hts, hK, hN, hG, hU, hV, hNc, hI, hA⟩ := C
  exact lv_lconst hx hb hd hv (hk _ _ _ _ h H locs ls hP hO hS hL)
theorem l_iinc {i : Nat} {n : Int} {v : Int32} (C : LC G cL cD p R s m args c A0 cc nL) (hd : decode cc pc = .ok (.iinc i n, 3)) (hv : Int32.ofInt n = v) (hk : LTo G cL cD p e R s m args below meth c A0 nL Q x y (pc + 3) k) : LTo G cL cD p e R s m args below meth c A0 nL Q x y pc (fun o => xi_iinc i v (k o)) := by
  intro o L S σ h H locs ls hP hO hS hL
  obtain ⟨hx, hb, hml, ho, hts, hK, hN, hG, hU, hV, hNc, hI, hA⟩ := C
  unfold xi_iinc at h
  split at h
  · next x hl =>
    split at h
    · next hok =>
      unfold xok1 at hok
      rw [Bool.and_eq_true, decide_eq_true_eq] at hok
      have hs := hL.store1 (v := .int (x + v)) hok.1 hok.2
      have hm : (i, Value.int x) ∈ xlv G.2.1 0 L := (xlv_mem G.2.1 L 0 _).mpr ⟨i, .int x, xl_spec hl, by simp [xcv]⟩
      obtain ⟨k9, hk9⟩ := List.getElem?_of_mem hm
      exact lv_iinc (x := x) hx hb hd hL.2 hk9 (by rw [hv]) (by rw [← hL.1]; exact hok.1) rfl (fun ls' hl' => hk _ _ _ _ h H locs ls' hP hO hS ⟨by rw [xst_len]; exact hL.1, lv_has_of hl' hs⟩)
    · exact h.elim
  · exact h.elim
theorem l_iadd  (C : LC G cL cD p R s m args c A0 cc nL) (hd : decode cc pc = .ok (.iadd, 1)) (hk : LTo G cL cD p e R s m args below meth c A0 nL Q x y (pc + 1) k) : LTo G cL cD p e R s m args below meth c A0 nL Q x y pc (fun o => xi_iadd (k o)) := by
  intro o L S σ h H locs ls hP hO hS hL
  obtain ⟨hx, hb, hml, ho, hts, hK, hN, hG, hU, hV, hNc, hI, hA⟩ := C
  unfold xi_iadd at h
  split at h
  · exact lv_iadd hx hb hd (hk _ _ _ _ h H locs ls hP hO hS hL)
  · exact h.elim
theorem l_isub  (C : LC G cL cD p R s m args c A0 cc nL) (hd : decode cc pc = .ok (.isub, 1)) (hk : LTo G cL cD p e R s m args below meth c A0 nL Q x y (pc + 1) k) : LTo G cL cD p e R s m args below meth c A0 nL Q x y pc (fun o => xi_isub (k o)) := by
  intro o L S σ h H locs ls hP hO hS hL
  obtain ⟨hx, hb, hml, ho, hts, hK, hN, hG, hU, hV, hNc, hI, hA⟩ := C
  unfold xi_isub at h
  split at h
  · exact lv_isub hx hb hd (hk _ _ _ _ h H locs ls hP hO hS hL)
  · exact h.elim
theorem l_iand  (C : LC G cL cD p R s m args c A0 cc nL) (hd : decode cc pc = .ok (.iand, 1)) (hk : LTo G cL cD p e R s m args below meth c A0 nL Q x y (pc + 1) k) : LTo G cL cD p e R s m args below meth c A0 nL Q x y pc (fun o => xi_iand (k o)) := by
  intro o L S σ h H locs ls hP hO hS hL
  obtain ⟨hx, hb, hml, ho, hts, hK, hN, hG, hU, hV, hNc, hI, hA⟩ := C
  unfold xi_iand at h
  split at h
  · exact lv_iand hx hb hd (hk _ _ _ _ h H locs ls hP hO hS hL)
  · exact h.elim
theorem l_lcmp  (C : LC G cL cD p R s m args c A0 cc nL) (hd : decode cc pc = .ok (.lcmp, 1)) (hk : LTo G cL cD p e R s m args below meth c A0 nL Q x y (pc + 1) k) : LTo G cL cD p e R s m args below meth c A0 nL Q x y pc (fun o => xi_lcmp (k o)) := by
  intro o L S σ h H locs ls hP hO hS hL
  obtain ⟨hx, hb, hml, ho, hts, hK, hN, hG, hU, hV, hNc, hI, hA⟩ := C
  unfold xi_lcmp at h
  split at h
  · exact W.lcmp hx hb hd (hk _ _ _ _ h H locs ls hP hO hS hL)
  · exact h.elim
theorem l_i2l  (C : LC G cL cD p R s m args c A0 cc nL) (hd : decode cc pc = .ok (.i2l, 1)) (hk : LTo G cL cD p e R s m args below meth c A0 nL Q x y (pc + 1) k) : LTo G cL cD p e R s m args below meth c A0 nL Q x y pc (fun o => xi_i2l (k o)) := by
  intro o L S σ h H locs ls hP hO hS hL
  obtain ⟨hx, hb, hml, ho, hts, hK, hN, hG, hU, hV, hNc, hI, hA⟩ := C
  unfold xi_i2l at h
  split at h
  · exact lv_i2l hx hb hd rfl (hk _ _ _ _ h H locs ls hP hO hS hL)
  · exact h.elim
theorem l_i2c  (C : LC G cL cD p R s m args c A0 cc nL) (hd : decode cc pc = .ok (.i2c, 1)) (hk : LTo G cL cD p e R s m args below meth c A0 nL Q x y (pc + 1) k) : LTo G cL cD p e R s m args below meth c A0 nL Q x y pc (fun o => xi_i2c (k o)) := by
  intro o L S σ h H locs ls hP hO hS hL
  obtain ⟨hx, hb, hml, ho, hts, hK, hN, hG, hU, hV, hNc, hI, hA⟩ := C
  unfold xi_i2c at h
  split at h
  · exact lv_i2c hx hb hd rfl (hk _ _ _ _ h H locs ls hP hO hS hL)
  · exact h.elim
def xi_f2d (k : XK) : XK := fun L S σ => match S with
  | .float x :: S => vf_n64 (FP.f2d x) ∧ k L (.double (FP.f2d x) :: S) σ
  | _ => False
def xi_dcmp (op : CmpOp) (k : XK) : XK := fun L S σ => match S with
  | .double y :: .double x :: S => k L (.int (Op.cmpValue (FP.dcmp x y) op) :: S) σ
  | _ => False
theorem l_f2d  (C : LC G cL cD p R s m args c A0 cc nL) (hd : decode cc pc = .ok (.f2d, 1)) (hk : LTo G cL cD p e R s m args below meth c A0 nL Q x y (pc + 1) k) : LTo G cL cD p e R s m args below meth c A0 nL Q x y pc (fun o => xi_f2d (k o)) := by
  intro o L S σ h H locs ls hP hO hS hL
  obtain ⟨hx, hb, hml, ho, hts, hK, hN, hG, hU, hV, hNc, hI, hA⟩ := C
  unfold xi_f2d at h
  split at h
  · exact lv_f2d hx hb hd h.1 (hk _ _ _ _ h.2 H locs ls hP hO hS hL)
  · exact h.elim
theorem l_dcmp {op : CmpOp} (C : LC G cL cD p R s m args c A0 cc nL) (hd : decode cc pc = .ok (.dcmp op, 1)) (hk : LTo G cL cD p e R s m args below meth c A0 nL Q x y (pc + 1) k) : LTo G cL cD p e R s m args below meth c A0 nL Q x y pc (fun o => xi_dcmp op (k o)) := by
  intro o L S σ h H locs ls hP hO hS hL
  obtain ⟨hx, hb, hml, ho, hts, hK, hN, hG, hU, hV, hNc, hI, hA⟩ := C
  unfold xi_dcmp at h
  split at h
  · exact lv_dcmp hx hb hd (hk _ _ _ _ h H locs ls hP hO hS hL)
  · exact h.elim
theorem l_ifeq {off : Int} {tgt : Nat} (C : LC G cL cD p R s m args c A0 cc nL) (hd : decode cc pc = .ok (.ifCond .eq off, 3)) (ht : (pc : Int) + off = (tgt : Int)) (h1 : LTo G cL cD p e R s m args below meth c A0 nL Q x y tgt kt) (h2 : LTo G cL cD p e R s m args below meth c A0 nL Q x y (pc + 3) kf) : LTo G cL cD p e R s m args below meth c A0 nL Q x y pc (fun o => xi_ifeq (kt o) (kf o)) := by
  intro o L S σ h H locs ls hP hO hS hL
  obtain ⟨hx, hb, hml, ho, hts, hK, hN, hG, hU, hV, hNc, hI, hA⟩ := C
  unfold xi_ifeq at h
  split at h
  · exact lv_if_eq hx hb hd ht (fun hc => h1 _ _ _ _ (h.1 hc) H locs ls hP hO hS hL) (fun hc => h2 _ _ _ _ (h.2 hc) H locs ls hP hO hS hL)
  · exact h.elim
theorem l_ifne {off : Int} {tgt : Nat} (C : LC G cL cD p R s m args c A0 cc nL) (hd : decode cc pc = .ok (.ifCond .ne off, 3)) (ht : (pc : Int) + off = (tgt : Int)) (h1 : LTo G cL cD p e R s m args below meth c A0 nL Q x y tgt kt) (h2 : LTo G cL cD p e R s m args below meth c A0 nL Q x y (pc + 3) kf) : LTo G cL cD p e R s m args below meth c A0 nL Q x y pc (fun o => xi_ifne (kt o) (kf o)) := by
  intro o L S σ h H locs ls hP hO hS hL
  obtain ⟨hx, hb, hml, ho, hts, hK, hN, hG, hU, hV, hNc, hI, hA⟩ := C
  unfold xi_ifne at h
  split at h
  · exact lv_if_ne hx hb hd ht (fun hc => h1 _ _ _ _ (h.1 hc) H locs ls hP hO hS hL) (fun hc => h2 _ _ _ _ (h.2 hc) H locs ls hP hO hS hL)
  · exact h.elim
theorem l_iceq {off : Int} {tgt : Nat} (C : LC G cL cD p R s m args c A0 cc nL) (hd : decode cc pc = .ok (.if_icmp .eq off, 3)) (ht : (pc : Int) + off = (tgt : Int)) (h1 : LTo G cL cD p e R s m args below meth c A0 nL Q x y tgt kt) (h2 : LTo G cL cD p e R s m args below meth c A0 nL Q x y (pc + 3) kf) : LTo G cL cD p e R s m args below meth c A0 nL Q x y pc (fun o => xi_iceq (kt o) (kf o)) := by
  intro o L S σ h H locs ls hP hO hS hL
  obtain ⟨hx, hb, hml, ho, hts, hK, hN, hG, hU, hV, hNc, hI, hA⟩ := C
  unfold xi_iceq at h
  split at h
  · exact lv_icmp_eq hx hb hd ht (fun hc => h1 _ _ _ _ (h.1 hc) H locs ls hP hO hS hL) (fun hc => h2 _ _ _ _ (h.2 hc) H locs ls hP hO hS hL)
  · exact h.elim
theorem l_icgt {off : Int} {tgt : Nat} (C : LC G cL cD p R s m args c A0 cc nL) (hd : decode cc pc = .ok (.if_icmp .gt off, 3)) (ht : (pc : Int) + off = (tgt : Int)) (h1 : LTo G cL cD p e R s m args below meth c A0 nL Q x y tgt kt) (h2 : LTo G cL cD p e R s m args below meth c A0 nL Q x y (pc + 3) kf) : LTo G cL cD p e R s m args below meth c A0 nL Q x y pc (fun o => xi_icgt (kt o) (kf o)) := by
  intro o L S σ h H locs ls hP hO hS hL
  obtain ⟨hx, hb, hml, ho, hts, hK, hN, hG, hU, hV, hNc, hI, hA⟩ := C
  unfold xi_icgt at h
  split at h
  · exact lv_icmp_gt hx hb hd ht (fun hc => h1 _ _ _ _ (h.1 hc) H locs ls hP hO hS hL) (fun hc => h2 _ _ _ _ (h.2 hc) H locs ls hP hO hS hL)
  · exact h.elim
theorem l_goto {off : Int} {tgt : Nat} (C : LC G cL cD p R s m args c A0 cc nL) (hd : decode cc pc = .ok (.goto off, 3)) (ht : (pc : Int) + off = (tgt : Int)) (hk : LTo G cL cD p e R s m args below meth c A0 nL Q x y tgt k) : LTo G cL cD p e R s m args below meth c A0 nL Q x y pc k := by
  intro o L S σ h H locs ls hP hO hS hL
  obtain ⟨hx, hb, hml, ho, hts, hK, hN, hG, hU, hV, hNc, hI, hA⟩ := C
  exact lv_goto hx hb hd ht (hk _ _ _ _ h H locs ls hP hO hS hL)
def xi_lald (k : LK) : LK := fun o L S σ => match S with
  | .int i :: .ref a :: S => (i = 0 ∧ a = 89) ∧ k o L (.long o.1 :: S) σ
  | _ => False
def xi_dald (k : LK) : LK := fun o L S σ => match S with
  | .int i :: .ref a :: S => (i = 0 ∧ a = 90) ∧ k o L (.double o.2 :: S) σ
  | _ => False
def xi_last (k : LK) : LK := fun o L S σ => match S with
  | .long v :: .int i :: .ref a :: S => (i = 0 ∧ a = 89) ∧ k (v, o.2) L S σ
  | _ => False
def xi_dast (k : LK) : LK := fun o L S σ => match S with
  | .double v :: .int i :: .ref a :: S => (i = 0 ∧ a = 90) ∧ k (o.1, v) L S σ
  | _ => False
theorem vp_in0 : vp_in 0 1 := by unfold vp_in; decide
theorem l_lald  (C : LC G cL cD p R s m args c A0 cc nL) (hd : decode cc pc = .ok (.laload, 1)) (hk : LTo G cL cD p e R s m args below meth c A0 nL Q x y (pc + 1) k) : LTo G cL cD p e R s m args below meth c A0 nL Q x y pc (xi_lald k) := by
  intro o L S σ h H locs ls hP hO hS hL
  obtain ⟨hx, hb, hml, ho, hts, hK, hN, hG, hU, hV, hNc, hI, hA⟩ := C
  unfold xi_lald at h
  split at h
  · obtain ⟨⟨rfl, rfl⟩, h⟩ := h
    exact va_lald hx hb hK hO 0 3 rfl rfl vp_in0 hd (hk _ _ _ _ h H locs ls hP hO hS hL)
  · exact h.elim
theorem l_dald  (C : LC G cL cD p R s m args c A0 cc nL) (hd : decode cc pc = .ok (.daload, 1)) (hk : LTo G cL cD p e R s m args below meth c A0 nL Q x y (pc + 1) k) : LTo G cL cD p e R s m args below meth c A0 nL Q x y pc (xi_dald k) := by
  intro o L S σ h H locs ls hP hO hS hL
  obtain ⟨hx, hb, hml, ho, hts, hK, hN, hG, hU, hV, hNc, hI, hA⟩ := C
  unfold xi_dald at h
  split at h
  · obtain ⟨⟨rfl, rfl⟩, h⟩ := h
    exact va_dald hx hb hK hO 1 4 rfl rfl vp_in0 hd (hk _ _ _ _ h H locs ls hP hO hS hL)
  · exact h.elim
theorem l_last  (C : LC G cL cD p R s m args c A0 cc nL) (hd : decode cc pc = .ok (.lastore, 1)) (hk : LTo G cL cD p e R s m args below meth c A0 nL Q x y (pc + 1) k) : LTo G cL cD p e R s m args below meth c A0 nL Q x y pc (xi_last k) := by
  intro o L S σ h H locs ls hP hO hS hL
  obtain ⟨hx, hb, hml, ho, hts, hK, hN, hG, hU, hV, hNc, hI, hA⟩ := C
  unfold xi_last at h
  split at h
  · next v i a S =>
    obtain ⟨⟨rfl, rfl⟩, h⟩ := h
    have hl : (xW G σ).length = 89 := by unfold xW; rw [xWl_len]; rfl
    refine va_last (ws := xW G σ ++ oW G cL cD o) (A := A0) hx hb hK (hP.app hO) (lD_inj hI hA) hS 89 3 (by rw [List.getElem?_append_right (by omega), hl]; rfl) rfl vp_in0 hd (fun H1 locs1 hP1 _ hS1 => ?_)
    have e : (xW G σ ++ oW G cL cD o).set 89 (G.2.1 89, .inl (cL, 1, .inr (.inl (vp_updL (lr o.1) 0 v)))) = xW G σ ++ oW G cL cD (v, o.2) := by
      rw [List.set_append_right _ _ (by omega), hl]
      congr 1
      rw [lr_upd]; rfl
    rw [show (0 : Int32).toNatClampNeg = 0 from rfl, e] at hP1
    refine hk _ _ _ _ h H1 locs1 ls (fun k q hq => hP1 k q (by rw [List.getElem?_append_left (List.getElem?_eq_some_iff.mp hq).1]; exact hq)) (fun k q hq => hP1 (89 + k) q (by rw [List.getElem?_append_right (by omega), hl, Nat.add_sub_cancel_left]; exact hq)) hS1 hL
  · exact h.elim
theorem l_dast  (C : LC G cL cD p R s m args c A0 cc nL) (hd : decode cc pc = .ok (.dastore, 1)) (hk : LTo G cL cD p e R s m args below meth c A0 nL Q x y (pc + 1) k) : LTo G cL cD p e R s m args below meth c A0 nL Q x y pc (xi_dast k) := by
  intro o L S σ h H locs ls hP hO hS hL
  obtain ⟨hx, hb, hml, ho, hts, hK, hN, hG, hU, hV, hNc, hI, hA⟩ := C
  unfold xi_dast at h
  split at h
  · next v i a S =>
    obtain ⟨⟨rfl, rfl⟩, h⟩ := h
    have hl : (xW G σ).length = 89 := by unfold xW; rw [xWl_len]; rfl
    refine va_dast (ws := xW G σ ++ oW G cL cD o) (A := A0) hx hb hK (hP.app hO) (lD_inj hI hA) hS 90 4 (by rw [List.getElem?_append_right (by omega), hl]; rfl) rfl vp_in0 hd (fun H1 locs1 hP1 _ hS1 => ?_)
    have e : (xW G σ ++ oW G cL cD o).set 90 (G.2.1 90, .inl (cD, 1, .inr (.inr (.inr (.inl (vf_upd (dr o.2) 0 v)))))) = xW G σ ++ oW G cL cD (o.1, v) := by
      rw [List.set_append_right _ _ (by omega), hl]
      congr 1
      rw [dr_upd]; rfl
    rw [show (0 : Int32).toNatClampNeg = 0 from rfl, e] at hP1
    refine hk _ _ _ _ h H1 locs1 ls (fun k q hq => hP1 k q (by rw [List.getElem?_append_left (List.getElem?_eq_some_iff.mp hq).1]; exact hq)) (fun k q hq => hP1 (89 + k) q (by rw [List.getElem?_append_right (by omega), hl, Nat.add_sub_cancel_left]; exact hq)) hS1 hL
  · exact h.elim
def xi_sld (xs : Nat → Int32) (N : Nat) (k : XK) : XK := fun L S σ => match S with
  | .int i :: .ref a :: S => (a = 91 ∧ vp_in i N) ∧ k L (.int (xs i.toNatClampNeg) :: S) σ
  | _ => False
def xi_sln (N : Nat) (k : XK) : XK := fun L S σ => match S with
  | .ref a :: S => a = 91 ∧ k L (.int (Int32.ofNat N) :: S) σ
  | _ => False
theorem l_sld {N : Nat} {xs : Nat → Int32} (C : LC G cL cD p R s m args c A0 cc nL) (hX : va_X (G.2.1 91) N xs s s.heap) (hXl : G.2.1 91 < s.heap.size) (hXA : ¬ A0 (G.2.1 91)) (hd : decode cc pc = .ok (.iaload, 1)) (hk : LTo G cL cD p e R s m args below meth c A0 nL Q x y (pc + 1) k) : LTo G cL cD p e R s m args below meth c A0 nL Q x y pc (fun o => xi_sld xs N (k o)) := by
  intro o L S σ h H locs ls hP hO hS hL
  obtain ⟨hx, hb, hml, ho, hts, hK, hN, hG, hU, hV, hNc, hI, hA⟩ := C
  unfold xi_sld at h
  split at h
  · obtain ⟨⟨rfl, h1⟩, h⟩ := h
    exact va_sld hx hb hX hXl hXA hS h1 hd (hk _ _ _ _ h H locs ls hP hO hS hL)
  · exact h.elim
theorem l_sln {N : Nat} {xs : Nat → Int32} (C : LC G cL cD p R s m args c A0 cc nL) (hX : va_X (G.2.1 91) N xs s s.heap) (hXl : G.2.1 91 < s.heap.size) (hXA : ¬ A0 (G.2.1 91)) (hd : decode cc pc = .ok (.arraylength, 1)) (hk : LTo G cL cD p e R s m args below meth c A0 nL Q x y (pc + 1) k) : LTo G cL cD p e R s m args below meth c A0 nL Q x y pc (fun o => xi_sln N (k o)) := by
  intro o L S σ h H locs ls hP hO hS hL
  obtain ⟨hx, hb, hml, ho, hts, hK, hN, hG, hU, hV, hNc, hI, hA⟩ := C
  unfold xi_sln at h
  split at h
  · obtain ⟨rfl, h⟩ := h
    exact va_slen hx hb hX hXl hXA hS hd (hk _ _ _ _ h H locs ls hP hO hS hL)
  · exact h.elim
theorem l_table {dflt lo hi : Int} {offs : Array Int} {len : Nat} (C : LC G cL cD p R s m args c A0 cc nL) (hd : decode cc pc = .ok (.tableswitch dflt lo hi offs, len)) {v : Int32} {o : OO} {L : List (Option Value)} {S : List Value} {σ : Sg} {off : Int} {tgt : Nat} (h1 : ¬ v.toInt < lo) (h2 : ¬ hi < v.toInt) (h3 : offs[(v.toInt - lo).toNat]? = some off) (ht : (pc : Int) + off = (tgt : Int))
    (h : LAt G cL cD p e R s m args below meth c A0 nL Q x y tgt o L S σ) : LAt G cL cD p e R s m args below meth c A0 nL Q x y pc o L (.int v :: S) σ := by
  intro H locs ls hP hO hS hL
  exact lv_tableIn C.1 C.2.1 hd h1 h2 h3 ht (h H locs ls hP hO hS hL)
theorem l_tableD {dflt lo hi : Int} {offs : Array Int} {len : Nat} (C : LC G cL cD p R s m args c A0 cc nL) (hd : decode cc pc = .ok (.tableswitch dflt lo hi offs, len)) {v : Int32} {o : OO} {L : List (Option Value)} {S : List Value} {σ : Sg} {tgt : Nat} (h1 : v.toInt < lo ∨ hi < v.toInt) (ht : (pc : Int) + dflt = (tgt : Int))
    (h : LAt G cL cD p e R s m args below meth c A0 nL Q x y tgt o L S σ) : LAt G cL cD p e R s m args below meth c A0 nL Q x y pc o L (.int v :: S) σ := by
  intro H locs ls hP hO hS hL
  exact lv_tableOut C.1 C.2.1 hd h1 ht (h H locs ls hP hO hS hL)
theorem l_wide {x' y' : Nat} (h1 : x ≤ x') (h2 : y ≤ y') (hk : LTo G cL cD p e R s m args below meth c A0 nL Q x' y' pc k) : LTo G cL cD p e R s m args below meth c A0 nL Q x y pc k := fun o L S σ h H locs ls hP hO hS hL => W.widen (k := x') (n := y') h1 h2 (hk o L S σ h H locs ls hP hO hS hL)
def xi_never : XK := fun _ _ _ => False
theorem l_never : LTo G cL cD p e R s m args below meth c A0 nL Q x y pc (fun o => xi_never) := fun _ _ _ _ h => h.elim
/-- script[i + j] != 0 as 0 or 1 -/
def xi_b01 (k : XK) : XK := fun L S σ => match S with
  | .int v :: S => k L (.int (b2i (!(v == 0))) :: S) σ
  | _ => False
theorem l_b01 {pc3 pc4 pc7 pc8 : Nat} (C : LC G cL cD p R s m args c A0 cc nL) (e3 : pc3 = pc + 3) (e4 : pc4 = pc + 4) (e7 : pc7 = pc + 7) (e8 : pc8 = pc + 8) (h0 : decode cc pc = .ok (.ifCond .eq 7, 3)) (h3 : decode cc pc3 = .ok (.iconst 1, 1)) (h4 : decode cc pc4 = .ok (.goto 4, 3)) (h7 : decode cc pc7 = .ok (.iconst 0, 1)) (hk : LTo G cL cD p e R s m args below meth c A0 nL Q x y pc8 k) : LTo G cL cD p e R s m args below meth c A0 nL Q x y pc (fun o => xi_b01 (k o)) := by
  subst e3 e4 e7 e8
  have hz : LTo G cL cD p e R s m args below meth c A0 nL Q x y pc (fun o => xi_ifeq (xi_ic 0 (k o)) (xi_ic 1 (k o))) := l_ifeq C h0 (tgt := pc + 7) (by push_cast; rfl) (l_iconst C h7 rfl hk) (l_iconst C h3 rfl (l_goto C h4 (tgt := pc + 8) (by push_cast; omega) hk))
  intro o L S σ h
  refine hz o L S σ ?_
  unfold xi_b01 at h
  unfold xi_ifeq
  split at h
  · next v S =>
    refine ⟨fun q => ?_, fun q => ?_⟩
    · rw [q] at h; exact h
    · have hv : (!(v == 0)) = true := by simpa using q
      rw [hv] at h; exact h
  · exact h.elim
/-- the same as a long -/
def xi_l01 (k : XK) : XK := fun L S σ => match S with
  | .int v :: S => k L (.long (if v = 0 then 0 else 1) :: S) σ
  | _ => False
theorem l_l01 {pc3 pc4 pc7 pc8 : Nat} (C : LC G cL cD p R s m args c A0 cc nL) (e3 : pc3 = pc + 3) (e4 : pc4 = pc + 4) (e7 : pc7 = pc + 7) (e8 : pc8 = pc + 8) (h0 : decode cc pc = .ok (.ifCond .eq 7, 3)) (h3 : decode cc pc3 = .ok (.lconst 1, 1)) (h4 : decode cc pc4 = .ok (.goto 4, 3)) (h7 : decode cc pc7 = .ok (.lconst 0, 1)) (hk : LTo G cL cD p e R s m args below meth c A0 nL Q x y pc8 k) : LTo G cL cD p e R s m args below meth c A0 nL Q x y pc (fun o => xi_l01 (k o)) := by
  subst e3 e4 e7 e8
  have hz : LTo G cL cD p e R s m args below meth c A0 nL Q x y pc (fun o => xi_ifeq (xi_lc 0 (k o)) (xi_lc 1 (k o))) := l_ifeq C h0 (tgt := pc + 7) (by push_cast; rfl) (l_lconst C h7 rfl hk) (l_lconst C h3 rfl (l_goto C h4 (tgt := pc + 8) (by push_cast; omega) hk))
  intro o L S σ h
  refine hz o L S σ ?_
  unfold xi_l01 at h
  unfold xi_ifeq
  split at h
  · next v S =>
    refine ⟨fun q => ?_, fun q => ?_⟩
    · rw [if_pos q] at h; exact h
    · rw [if_neg q] at h; exact h
  · exact h.elim
/-- script[i + j] -/
def xi_sc (xs : Nat → Int32) (N i j : Nat) (k : XK) : XK := fun L S σ => (xl L 0 = some (.ref 91) ∧ xl L 5 = some (.int (nI i)) ∧ i + j < N) ∧ k L (.int (xs (i + j)) :: S) σ
theorem sc_in {N i j : Nat} (hN : N ≤ 3584) (h : i + j < N) : vp_in (nI i + nI j) N ∧ (nI i + nI j).toNatClampNeg = i + j := by
  have e : nI i + nI j = nI (i + j) := nI_add i j
  have e2 : (nI (i + j)).toNatClampNeg = i + j := nI_clamp (by omega)
  rw [e]
  refine ⟨fun q => ?_, e2⟩
  rcases q with q | q
  · exact absurd ((nI_ltI (a := i + j) (b := 0) (by omega) (by omega)).mp q) (Nat.not_lt_zero _)
  · rw [e2] at q; omega
theorem l_sc {N i j : Nat} {xs : Nat → Int32} {pc1 pc3 pc4 pc5 pc6 : Nat} {nn : Int} (C : LC G cL cD p R s m args c A0 cc nL) (hX : N ≤ 3584 ∧ va_X (G.2.1 91) N xs s s.heap ∧ G.2.1 91 < s.heap.size ∧ ¬ A0 (G.2.1 91)) (e1 : pc1 = pc + 1) (e3 : pc3 = pc + 3) (e4 : pc4 = pc3 + 1) (e5 : pc5 = pc4 + 1) (e6 : pc6 = pc5 + 1) (h0 : decode cc pc = .ok (.aload_n 0, 1)) (h1 : decode cc pc1 = .ok (.iload 5, 2)) (h3 : decode cc pc3 = .ok (.iconst nn, 1)) (hn : Int32.ofInt nn = nI j) (h4 : decode cc pc4 = .ok (.iadd, 1)) (h5 : decode cc pc5 = .ok (.iaload, 1)) (hk : LTo G cL cD p e R s m args below meth c A0 nL Q x y pc6 k) : LTo G cL cD p e R s m args below meth c A0 nL Q x y pc (fun o => xi_sc xs N i j (k o)) := by
  subst e6 e5 e4 e3 e1
  intro o L S σ h
  obtain ⟨⟨f1, f2, f3⟩, h⟩ := h
  obtain ⟨g1, g2⟩ := sc_in hX.1 f3
  refine l_aload_n (i := 0) C h0 (l_iload C h1 (l_iconst C h3 hn (l_iadd C h4 (l_sld C hX.2.1 hX.2.2.1 hX.2.2.2 h5 hk)))) o L S σ ?_
  simp only [xi_aload, xi_iload, xi_ic, xi_iadd, xi_sld]
  rw [show ((0 : Fin 4) : Nat) = 0 from rfl, f1]
  dsimp only
  rw [f2]
  dsimp only
  rw [g2]
  exact ⟨⟨rfl, g1⟩, h⟩
theorem l_sc6 {N i j : Nat} {xs : Nat → Int32} {pc1 pc3 pc4 pc5 pc6 : Nat} {nn : Int} (C : LC G cL cD p R s m args c A0 cc nL) (hX : N ≤ 3584 ∧ va_X (G.2.1 91) N xs s s.heap ∧ G.2.1 91 < s.heap.size ∧ ¬ A0 (G.2.1 91)) (e1 : pc1 = pc + 1) (e3 : pc3 = pc + 3) (e4 : pc4 = pc3 + 2) (e5 : pc5 = pc4 + 1) (e6 : pc6 = pc5 + 1) (h0 : decode cc pc = .ok (.aload_n 0, 1)) (h1 : decode cc pc1 = .ok (.iload 5, 2)) (h3 : decode cc pc3 = .ok (.bipush nn, 2)) (hn : (Int8.ofInt nn).toInt32 = nI j) (h4 : decode cc pc4 = .ok (.iadd, 1)) (h5 : decode cc pc5 = .ok (.iaload, 1)) (hk : LTo G cL cD p e R s m args below meth c A0 nL Q x y pc6 k) : LTo G cL cD p e R s m args below meth c A0 nL Q x y pc (fun o => xi_sc xs N i j (k o)) := by
  subst e6 e5 e4 e3 e1
  intro o L S σ h
  obtain ⟨⟨f1, f2, f3⟩, h⟩ := h
  obtain ⟨g1, g2⟩ := sc_in hX.1 f3
  refine l_aload_n (i := 0) C h0 (l_iload C h1 (l_bipush C h3 hn (l_iadd C h4 (l_sld C hX.2.1 hX.2.2.1 hX.2.2.2 h5 hk)))) o L S σ ?_
  simp only [xi_aload, xi_iload, xi_ic, xi_iadd, xi_sld]
  rw [show ((0 : Fin 4) : Nat) = 0 from rfl, f1]
  dsimp only
  rw [f2]
  dsimp only
  rw [g2]
  exact ⟨⟨rfl, g1⟩, h⟩
/-- script[i + j] as a char -/
def chr (v : Int32) : Nat := v.toUInt32.toNat % 65536
theorem chr_lt {v : Int32} : chr v < 65536 := Nat.mod_lt _ (by decide)
theorem i2c_chr {v : Int32} : (v.toUInt32 % 65536).toInt32 = nI (chr v) := by
  have h1 : v.toUInt32 % 65536 = UInt32.ofNat (chr v) := by
    apply UInt32.toNat_inj.mp
    have h2 : chr v < 65536 := chr_lt
    rw [UInt32.toNat_mod, UInt32.toNat_ofNat_of_lt' (Nat.lt_of_lt_of_le h2 (by decide))]
    rfl
  rw [h1]
  rfl
def lRm (R : Room) (d : Nat) : Prop := d + 1 ≤ R.frames ∧ 40 * (d + 1) ≤ R.locals
theorem l_callV {d : Nat} {yy : XMth} {na ci idx : Nat} (C : LC G cL cD p R s m args c A0 cc nL) (hR : lRm R d) (hok : XOkV yy na ci) (hw : Cond.methodLink RL idx yy.1 ∈ x_tbl) (hxy : x ≤ R.cells ∧ y ≤ R.slots) (hd : decode cc pc = .ok (.invokevirtual idx, 3)) (hk : LTo G cL cD p e R s m args below meth c A0 nL Q x y (pc + 3) k) : LTo G cL cD p e R s m args below meth c A0 nL Q x y pc (fun o => xi_callV G d yy ci na (k o)) := by
  intro o L S σ h H locs ls hP hO hS hL
  obtain ⟨hx, hb, hml, ho, hts, hK, hN, hG, hU, hV, hNc, hI, hA⟩ := C
  have hD := xD_inj (σ := σ) hI
  have hK3 : va_K G.2.2.1 x_cl (x_tys G.2.2.2) s := hK.sub [0, 1, 2] rfl
  obtain ⟨⟨a1, a2, a3, a4⟩, a5, a6, T, N, a7⟩ := hok
  unfold xi_callV at h
  split at h
  · next As oo S' hp =>
    split at h
    · next hc =>
      rw [Bool.and_eq_true] at hc
      obtain ⟨R', hM, hR9⟩ := h
      obtain ⟨P, e1, e2, e3⟩ := xpop_spec na S [] hp
      rw [List.append_nil] at e1
      subst e1
      subst e3
      have hr9 := va_runV (C := yy.1.cls) (n := na) (nL := nL) (own := RL) (Ts := x_tbl) (As := As.map (xcv G.2.1)) (rest := S'.map (xcv G.2.1)) (b := G.2.1 oo) (bytes := yy.2.1) (maxL := yy.2.2.1) (ret := yy.2.2.2) (index := idx) (R := R) (cells := x) (slots := y) (locs := locs) (meth := meth) (below := below) (g := F0 m pc ls ((As.reverse ++ Value.ref oo :: S').map (xcv G.2.1))) (e := e) (H := H) ⟨hx, hb, hml, ho, hts⟩ hM ⟨callB_of na hts (XOk.good ⟨a1, a2, a3, a4⟩) rfl rfl rfl (hts _ a2) (hts _ hw) a3 ⟨hR.1, (by have := hR.2; show 8 + (yy.2.2.1 + 11) + 40 * d ≤ R.locals; omega)⟩, hts _ a5, hts _ a6⟩ ⟨xPre_blind, x_recv a7 hK3 hP hc.1, fun U hU9 hW => ⟨rfl, xPre_of hK3 hN hP hD hU9 hW⟩⟩ rfl (by rw [List.length_map]; exact e2) (by exact hL.2.1) (by simp [xcv]) (lv_room (xroom_spec _ _ hc.2)) hd ⟨hxy.1, hxy.2⟩
      intro T hT X
      obtain ⟨v, st₀, t, T', L9, h0, X', hL9, e4, e5, ⟨v', τ, hv, hp9, hb9, hF⟩, st⟩ := hr9 T hT X
      cases hv
      obtain ⟨k1, k2, k3⟩ := vx_keep (A0 := A0) h0 e4 hS (fun q _ z => hA q (xA_lA q z)) (fun q z => hA q (xA_lA q z)) hL9 hF
      have h9 := hk _ _ _ _ (hR9 v' τ hp9) T'.heap (locs ++ L9) ls (by rw [e4]; exact hb9) (oW_kept (σ := σ) (τ := τ) hI hO k2) k3 hL
      rw [← x_toList] at h9
      obtain ⟨t2, b1, b2⟩ := h9 T' rfl X'
      exact ⟨t2, st t2 b1, b2⟩
    · exact h.elim
  · exact h.elim
def lWs (y : XMth) (hh : List (Nat × Nat × Nat × Nat)) : List Cond := .codeWith y.1 y.2.1 y.2.2.1 y.2.2.2 hh :: x_tbl
def lPre (G : XG) (cL cD : ClassId) (σ : Sg) (o : OO) : State → Prop := fun U => va_P G.2.2.1 x_cl (xW G σ) U.heap ∧ va_P G.2.2.1 x_cl (oW G cL cD o) U.heap ∧ va_K G.2.2.1 x_cl (l_tys G cL cD) U ∧ (∀ w ∈ x_nst, va_Nw w U) ∧ xZU (lA G) U U.heap ∧ xZV (lA G) U U.heap ∧ lNc U
def LQ (G : XG) (cL cD : ClassId) (Rw : Int32 → OO → Sg → Prop) : Array Value → State → Outcome → State → Prop := fun _ st oc t =>
  ∃ (r : Int32) (o : OO) (τ : Sg), oc = .returned (some (.int r)) ∧ Rw r o τ ∧ va_P G.2.2.1 x_cl (xW G τ) t.heap ∧ va_P G.2.2.1 x_cl (oW G cL cD o) t.heap ∧ va_F (lA G) st t
def LM (G : XG) (cL cD : ClassId) (y : XMth) (hh : List (Nat × Nat × Nat × Nat)) (d K : Nat) (av : List Value) (σ : Sg) (o : OO) (Rw : Int32 → OO → Sg → Prop) : Prop :=
  Met G.1 y.1 (lWs y hh) (xRm2 d K) (va_Pc (av.map (xcv G.2.1)) (lPre G cL cD σ o)) (LQ G cL cD Rw) K (6 * K) (lA G)
theorem lNc.moved {s U : State} (hvm : s.vm.Alike U.vm) (h : lNc s) : lNc U := fun q hq => va_Nc.moved hvm (h q hq)
theorem xZU.narrow {A B : Nat → Prop} {U : State} {H : Heap} (h : xZU A U H) (hAB : ∀ q, B q → A q) : xZU B U H := ⟨h.1.narrow hAB, h.2⟩
theorem xZV.narrow {A B : Nat → Prop} {U : State} {H : Heap} (h : xZV A U H) (hAB : ∀ q, B q → A q) : xZV B U H := vx_Zq.narrow h hAB
theorem lPre_blind {av : List Value} {σ : Sg} {o : OO} : FrameBlind (va_Pc av (lPre G cL cD σ o)) := fun a U g mk h =>
  ⟨h.1, h.2.1, h.2.2.1, va_K.moved (u := U) (U := U.calling g mk a) (Vm.Alike.refl U.vm) h.2.2.2.1, xN_same (s := U) (U := U.calling g mk a) rfl h.2.2.2.2.1, xZU_moved (s := U) (U := U.calling g mk a) (State.WarmedH.refl U) h.2.2.2.2.2.1 (fun _ _ _ => rfl) rfl, xZV_moved (s := U) (U := U.calling g mk a) (Vm.Alike.refl U.vm) h.2.2.2.2.2.2.1 (fun _ _ _ => rfl) rfl, lNc.moved (s := U) (U := U.calling g mk a) (Vm.Alike.refl U.vm) h.2.2.2.2.2.2.2⟩
theorem l_lRm {d K : Nat} : lRm (xRm2 (d + 1) K) d := ⟨Nat.le_refl _, Nat.le_refl _⟩
/-- a call of a wrapper -/
def xi_callW (G : XG) (cL cD : ClassId) (d K' : Nat) (y : XMth) (hh : List (Nat × Nat × Nat × Nat)) (n : Nat) (k : LK) : LK := fun o L S σ => match xpop n S [] with
  | some (As, S') => (match xroom S' 8 with
    | true => ∃ Rw, LM G cL cD y hh d K' As σ o Rw ∧ ∀ r o' τ, Rw r o' τ → k o' L (.int r :: S') τ
    | false => False)
  | _ => False
def LOk (y : XMth) (hh : List (Nat × Nat × Nat × Nat)) (n : Nat) : Prop := Cond.codeWith y.1 y.2.1 y.2.2.1 y.2.2.2 hh ∈ x_tbl ∧ Cond.initialized y.1.cls ∈ x_tbl ∧ (y.1.cls ≠ "java/lang/invoke/MethodHandle" ∧ y.1.cls ≠ "java/lang/invoke/VarHandle" ∧ (parseMethodDescriptor y.1.desc).map (fun d => d.parameters.length) = some n) ∧ y.2.2.1 ≤ 21 ∧ Cond.static y.1 ∈ x_tbl
theorem l_callW {d K' : Nat} {yy : XMth} {hh : List (Nat × Nat × Nat × Nat)} {na idx : Nat} (C : LC G cL cD p R s m args c A0 cc nL) (hR : lRm R d) (hok : LOk yy hh na) (hw : Cond.methodLink RL idx yy.1 ∈ x_tbl) (hxy : x + K' ≤ R.cells ∧ y + 6 * K' ≤ R.slots) (hd : decode cc pc = .ok (.invokestatic idx, 3)) (hk : LTo G cL cD p e R s m args below meth c A0 nL Q (x + K') (y + 6 * K') (pc + 3) k) : LTo G cL cD p e R s m args below meth c A0 nL Q x y pc (xi_callW G cL cD d K' yy hh na k) := by
  intro o L S σ h H locs ls hP hO hS hL
  obtain ⟨hx, hb, hml, ho, hts, hK, hN, hG, hU, hV, hNc, hI, hA⟩ := C
  obtain ⟨a1, a2, a3, a4, a5⟩ := hok
  unfold xi_callW at h
  split at h
  · next As S' hp =>
    split at h
    · next hc =>
      obtain ⟨Rw, hM, hR9⟩ := h
      obtain ⟨P, e1, e2, e3⟩ := xpop_spec na S [] hp
      rw [List.append_nil] at e1
      subst e1
      subst e3
      have hgood : GoodIn x_tbl (va_wsS RL idx yy.1 (lWs yy hh)) := by
        intro w hw9
        have hm : w ∈ x_tbl := by
          rcases List.mem_append.mp hw9 with h | h
          · rcases List.mem_cons.mp h with rfl | h
            · exact hw
            · rcases List.mem_cons.mp h with rfl | h
              · exact a5
              · rcases List.mem_cons.mp h with rfl | h
                · exact a2
                · cases h
          · rcases List.mem_cons.mp h with rfl | h
            · exact a1
            · exact h
        exact ⟨hm, (x_tbl_good _ hm).2⟩
      have hr9 := vx_runSW (n := na) (nL := nL) (own := RL) (Ts := x_tbl) (As := As.map (xcv G.2.1)) (rest := S'.map (xcv G.2.1)) (bytes := yy.2.1) (maxL := yy.2.2.1) (ret := yy.2.2.2) (hh := hh) (index := idx) (R := R) (cells := x) (slots := y) (locs := locs) (meth := meth) (below := below) (g := F0 m pc ls ((As.reverse ++ S').map (xcv G.2.1))) (e := e) (H := H) ⟨hx, hb, hml, ho, hts⟩ hM (vx_cwSW na hts hgood rfl rfl rfl a3 ⟨hR.1, (by have := hR.2; show 8 + (yy.2.2.1 + 11) + 40 * d ≤ R.locals; omega)⟩) ⟨lPre_blind, fun U hU9 hW => ⟨rfl, by rw [hU9]; exact hP, by rw [hU9]; exact hO, va_K.moved hW.alike hK, xN_warm hW hN, (xZU_moved hW hU hS.2.1 hU9).narrow hA, (xZV_moved hW.alike hV hS.2.1 hU9).narrow hA, hNc.moved hW.alike⟩⟩ rfl (by rw [List.length_map]; exact e2) (by exact hL.2.1) (by simp) (lv_room (xroom_spec _ _ hc)) hd ⟨hxy.1, hxy.2⟩
      intro T hT X
      obtain ⟨v, st₀, t, T', L9, h0, X', hL9, e4, e5, ⟨r, o', τ, hv, hp9, hb9, hc9, hF⟩, st⟩ := hr9 T hT X
      cases hv
      obtain ⟨k1, k2, k3⟩ := vx_keep (A0 := A0) h0 e4 hS (fun q _ z => hA q z) (fun q z => hA q z) hL9 hF
      obtain ⟨t2, b1, b2⟩ := hk _ _ _ _ (hR9 r o' τ hp9) T'.heap (locs ++ L9) ls (by rw [e4]; exact hb9) (by rw [e4]; exact hc9) k3 hL T' rfl X'
      exact ⟨t2, st t2 b1, b2⟩
    · exact h.elim
  · exact h.elim
/-- the row of the table that takes E, and what stands there: it gives the number n -/
def LHd (cc : ByteArray) (nL : Nat) (hh : List (Nat × Nat × Nat × Nat)) (pc : Nat) (E : String) (n : Int32) : Prop :=
  ∃ (pre : List ExceptionTableEntry) (z : ExceptionTableEntry) (suf : List ExceptionTableEntry), tableOf hh = pre ++ z :: suf ∧ (∀ w ∈ pre, w.catchType ≠ 0 ∧ ∃ nm : String, Cond.classLink RL w.catchType nm ∈ x_tbl ∧ (E, nm) ∈ l_ncs) ∧ covers z pc = true ∧ z.catchType ≠ 0 ∧ Cond.classLink RL z.catchType E ∈ x_tbl ∧ Cond.castable E E ∈ x_dcl ∧
    ∃ (i ln : Nat) (nn : Int), i < nL ∧ ((∃ j : Fin 4, (j : Nat) = i ∧ ln = 1 ∧ decode cc z.handlerPc = .ok (.astore_n j, 1)) ∨ (ln = 2 ∧ decode cc z.handlerPc = .ok (.astore i, 2))) ∧ decode cc (z.handlerPc + ln) = .ok (.iconst nn, 1) ∧ Int32.ofInt nn = n ∧ decode cc (z.handlerPc + ln + 1) = .ok (.ireturn, 1)
/-- a call of a method of the class inside a wrapper: what it throws is caught there -/
def xi_callT (G : XG) (d : Nat) (y : XMth) (ci na K' : Nat) (names : List String) (Rw : Int32 → OO → Sg → Prop) (k : LK) : LK := fun o L S σ => match xpop na S [] with
  | some (As, .ref a :: S') => (match (xfld a ci 0).isSome && xroom S' 8 with
    | true => ∃ R' RX', XT G y d K' (.ref a :: As) σ R' RX' ∧ (∀ v τ, R' v τ → k o L (v.toList ++ S') τ) ∧ ∀ E τ, RX' E τ → ∃ j : Nat, names[j]? = some E ∧ Rw (nI (j + 1)) o τ
    | false => False)
  | _ => False
def LMQ (G : XG) (cL cD : ClassId) (below : List Frame) (args : Array Value) (s : State) (K : Nat) (Rw : Int32 → OO → Sg → Prop) : State → Prop := MQ below (LQ G cL cD Rw) args s K (6 * K) (lA G)
end LMI
section LMT
variable {G : XG} {cL cD : ClassId} {p : Program} {e : Env} {R : Room} {s : State} {m : MethodId} {args : Array Value} {below : List Frame} {meth : Method} {c : Code} {cc : ByteArray} {nL : Nat} {x y : Nat} {pc K : Nat} {k : LK} {Rw : Int32 → OO → Sg → Prop}
theorem l_iret (C : LC G cL cD p R s m args c (lA G) cc nL) (hret : meth.sig.returnType = some .int) (hlk : meth.locks = false) (hxy : x ≤ K ∧ y ≤ 6 * K) (hd : decode cc pc = .ok (.ireturn, 1)) : LTo G cL cD p e R s m args below meth c (lA G) nL (LMQ G cL cD below args s K Rw) x y pc (fun o => fun _ S σ => match S with
  | [.int v] => Rw v o σ
  | _ => False) := by
  intro o L S σ h H locs ls hP hO hS hL
  obtain ⟨hx, hb, hml, ho, hts, hK, hN, hG, hU, hV, hNc, hI, hA⟩ := C
  split at h
  · next v => exact W.widen (k := K) (n := 6 * K) hxy.1 hxy.2 (W.iret (v := v) hx hb hret (fun t ht hW => ⟨v, o, σ, rfl, h, by rw [ht]; exact hP, by rw [ht]; exact hO, hS.F ht⟩) hS.2.2 hd hlk)
  · exact h.elim
theorem l_callT {d K' : Nat} {yy : XMth} {hh : List (Nat × Nat × Nat × Nat)} {na ci idx : Nat} {names : List String} (C : LC G cL cD p R s m args c (lA G) cc nL) (hret : meth.sig.returnType = some .int) (hlk : meth.locks = false) (htab : c.exceptionTable.toList = tableOf hh) (hR : lRm R d) (hok : XOkV yy na ci) (hw : Cond.methodLink RL idx yy.1 ∈ x_tbl) (hK' : x + K' ≤ K ∧ y + 6 * K' ≤ 6 * K) (hxy : x + K' ≤ R.cells ∧ y + 6 * K' ≤ R.slots) (hd : decode cc pc = .ok (.invokevirtual idx, 3))
    (hh9 : ∀ (j : Nat) (E : String), names[j]? = some E → LHd cc nL hh pc E (nI (j + 1)))
    (hk : LTo G cL cD p e R s m args below meth c (lA G) nL (LMQ G cL cD below args s K Rw) (x + K') (y + 6 * K') (pc + 3) k) : LTo G cL cD p e R s m args below meth c (lA G) nL (LMQ G cL cD below args s K Rw) x y pc (xi_callT G d yy ci na K' names Rw k) := by
  intro o L S σ h H locs ls hP hO hS hL
  obtain ⟨hx, hb, hml, ho, hts, hK, hN, hG, hU, hV, hNc, hI, hA⟩ := C
  have hD := xD_inj (σ := σ) hI
  have hK3 : va_K G.2.2.1 x_cl (x_tys G.2.2.2) s := hK.sub [0, 1, 2] rfl
  obtain ⟨⟨a1, a2, a3, a4⟩, a5, a6, T, N, a7⟩ := hok
  unfold xi_callT at h
  split at h
  · next As oo S' hp =>
    split at h
    · next hc =>
      rw [Bool.and_eq_true] at hc
      obtain ⟨R', RX', hM, hR9, hRX⟩ := h
      obtain ⟨P, e1, e2, e3⟩ := xpop_spec na S [] hp
      rw [List.append_nil] at e1
      subst e1
      subst e3
      have hr9 := vx_runV (C := yy.1.cls) (n := na) (nL := nL) (own := RL) (Ts := x_tbl) (As := As.map (xcv G.2.1)) (rest := S'.map (xcv G.2.1)) (b := G.2.1 oo) (bytes := yy.2.1) (maxL := yy.2.2.1) (ret := yy.2.2.2) (index := idx) (R := R) (cells := x) (slots := y) (locs := locs) (meth := meth) (below := below) (g := F0 m pc ls ((As.reverse ++ Value.ref oo :: S').map (xcv G.2.1))) (e := e) (H := H) ⟨hx, hb, hml, ho, hts⟩ hM ⟨callB_of na hts (XOk.good ⟨a1, a2, a3, a4⟩) rfl rfl rfl (hts _ a2) (hts _ hw) a3 ⟨hR.1, (by have := hR.2; show 8 + (yy.2.2.1 + 11) + 40 * d ≤ R.locals; omega)⟩, hts _ a5, hts _ a6⟩ ⟨xPre2_blind, x_recv a7 hK3 hP hc.1, fun U hU9 hW => ⟨rfl, xPre_of hK3 hN hP hD hU9 hW, (xZU_moved hW hU hS.2.1 hU9).narrow xA_lA, (xZV_moved hW.alike hV hS.2.1 hU9).narrow xA_lA⟩⟩ rfl (by rw [List.length_map]; exact e2) (by exact hL.2.1) (by simp [xcv]) (lv_room (xroom_spec _ _ hc.2)) hd ⟨hxy.1, hxy.2⟩
      intro T hT X
      rcases hr9 T hT X with ⟨v, st₀, t, T', L9, h0, X', hL9, e4, e5, ⟨v', τ, hv, hp9, hb9, hF⟩, st⟩ | ⟨q, st₀, t, T', L9, E, ce, h0, X', hL9, e4, e5, ⟨τ, hp9, hb9, hF⟩, hce, hcv, hcl, st⟩
      · cases hv
        obtain ⟨k1, k2, k3⟩ := vx_keep (A0 := lA G) h0 e4 hS (fun q _ z => xA_lA q z) (fun q z => xA_lA q z) hL9 hF
        have h9 := hk _ _ _ _ (hR9 v' τ hp9) T'.heap (locs ++ L9) ls (by rw [e4]; exact hb9) (oW_kept (σ := σ) (τ := τ) hI hO k2) k3 hL
        rw [← x_toList] at h9
        obtain ⟨t2, b1, b2⟩ := h9 T' rfl X'
        exact ⟨t2, st t2 b1, b2⟩
      · obtain ⟨k1, k2, k3⟩ := vx_keep (A0 := lA G) h0 e4 hS (fun q _ z => xA_lA q z) (fun q z => xA_lA q z) hL9 hF
        obtain ⟨j, hj, hRw⟩ := hRX E τ hp9
        obtain ⟨pre, z, suf, g1, g2, g3, g4, g5, g6, i, ln, nn, g7, g8, g9, g10, g11⟩ := hh9 j E hj
        have hW9 : ∀ ls' : Array Slot, W p G.1 e R s m args below meth c T'.heap (locs ++ L9) (x + K') (y + 6 * K') (LMQ G cL cD below args s K Rw) (F0 m (z.handlerPc + ln) ls' []) := fun ls' =>
          lv_iconst hx hb g9 g10 (W.widen (k := K) (n := 6 * K) hK'.1 hK'.2 (W.iret (v := nI (j + 1)) hx hb hret (fun t9 ht9 _ => ⟨nI (j + 1), o, τ, rfl, hRw, by rw [ht9, e4]; exact hb9, by rw [ht9]; exact oW_kept (σ := σ) (τ := τ) hI hO k2, k3.F ht9⟩) k3.2.2 g11 hlk))
        have h9 : vx_W p G.1 e R s m args below meth c T'.heap (locs ++ L9) (x + K') (y + 6 * K') (LMQ G cL cD below args s K Rw) (F0 m pc ls (S'.map (xcv G.2.1))) q := by
          refine vx_catch (name := E) (E := E) (ce := ce) ho pre z suf (htab.trans g1) (fun w hw9 => Or.inr ?_) g3 g4 (hts _ g5) (va_any (x_dcl_on g6) (hU.2.1 _ g6)) (by rw [e4]; exact hce) hcv hcl ?_
          · obtain ⟨f1, nm, f2, f3⟩ := g2 w hw9
            exact ⟨f1, nm, hts _ f2, hNc _ f3⟩
          · rcases g8 with ⟨jj, f1, f2, f3⟩ | ⟨f2, f3⟩
            · rw [f2] at hW9
              exact lv_astore_n hx hb f3 f1 (lv_has_of hL.2 (fun q9 hq9 => absurd hq9 List.not_mem_nil)) g7 rfl (fun ls' _ => hW9 ls')
            · rw [f2] at hW9
              exact lv_astore hx hb f3 (lv_has_of hL.2 (fun q9 hq9 => absurd hq9 List.not_mem_nil)) g7 rfl (fun ls' _ => hW9 ls')
        obtain ⟨t2, b1, b2⟩ := h9 T' rfl X'
        exact ⟨t2, st.trans b1, b2⟩
    · exact h.elim
  · exact h.elim
/-- a wrapper from its entry -/
theorem lm_of {d : Nat} {yy : XMth} {hh : List (Nat × Nat × Nat × Nat)} {av : List Value} {σ : Sg} {o : OO} (hI : lInj G) (hG : G.1.stackTraces = false) (hcls : yy.1.cls = RL) (hrt : yy.2.2.2 = some .int) (hav : xplain av = true) (hlen : (lg_sl (av.map (xcv G.2.1))).length ≤ yy.2.2.1)
    (h : ∀ (p : Program) (e : Env) (s : State) (m : MethodId) (args : Array Value) (below : List Frame) (meth : Method) (c : Code), LC G cL cD p (xRm2 d K) s m args c (lA G) yy.2.1 yy.2.2.1 → meth.sig.returnType = some .int → meth.locks = false → c.exceptionTable.toList = tableOf hh →
      LAt G cL cD p e (xRm2 d K) s m args below meth c (lA G) yy.2.2.1 (LMQ G cL cD below args s K Rw) 0 0 0 o (xent av yy.2.2.1) [] σ) : LM G cL cD yy hh d K av σ o Rw := by
  refine va_MetW (cc := yy.2.1) (maxL := yy.2.2.1) (ret := yy.2.2.2) (hh := hh) (ws' := x_tbl) (by rw [hcls]; decide +kernel) rfl ?_
  intro p e s m args below meth c s₁ B hml hv
  obtain ⟨rfl, hP, hO, hK, hN, hU, hV, hNc⟩ := hv
  have hts := atoms_spec (ws := lWs yy hh) B.pre
  have hown : s.vm.findClass yy.1.cls = some m.cls := findClass_of_methodNamed B.named
  have hl := lv_entry (av.map (xcv G.2.1)) (n := yy.2.2.1) hlen
  have htab := vx_table (x := yy.1) B (hts _ List.mem_cons_self)
  rw [lg_entry_eq]
  exact h p e s m _ below meth c ⟨B.exec, B.bytes, hml, hown.symm ▸ hcls ▸ rfl, fun w hw => hts w (List.mem_cons_of_mem _ hw), hK, hN, hG, hU, hV, hNc, hI, fun _ z => z⟩ (B.returns.trans hrt) B.notSynchronized htab s.heap [] _ hP hO va_S.rf ⟨xent_len _ _, lv_has_of hl (xent_sub G.2.1 av yy.2.2.1 0 hav)⟩
end LMT
