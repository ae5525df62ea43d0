/-! what the methods answer: rows and tables -/
/-- it answers v, and the state is τ then -/
def xF (v : Option Value) (τ : Sg) : Option Value → Sg → Prop := fun v' τ' => v' = v ∧ τ' = τ
theorem xF_self {v : Option Value} {τ : Sg} : xF v τ v τ := ⟨rfl, rfl⟩
theorem x_F {G : XG} {d : Nat} {σ : Sg} {y : XMth} {av : List Value} {v : Option Value} {τ : Sg} {K : Option Value → Sg → Prop} (h : XM G y d av σ (xF v τ)) (k : K v τ) : ∃ R', XM G y d av σ R' ∧ ∀ v τ, R' v τ → K v τ :=
  ⟨_, h, fun v' τ' ⟨h1, h2⟩ => by rw [h1, h2]; exact k⟩
/-- fewer locals known -/
def xle : List (Option Value) → List (Option Value) → Prop
  | [], [] => True
  | none :: L, _ :: L' => xle L L'
  | some v :: L, w :: L' => w = some v ∧ xle L L'
  | _, _ => False
theorem xle_sub {ad : Nat → Nat} : ∀ {L L' : List (Option Value)}, xle L L' → L.length = L'.length ∧ ∀ k, ∀ q ∈ xlv ad k L, q ∈ xlv ad k L' := by
  intro L
  induction L with
  | nil => intro L' h; cases L' with
    | nil => exact ⟨rfl, fun k q hq => hq⟩
    | cons a L' => exact h.elim
  | cons a L ih =>
    intro L' h
    cases a with
    | none => cases L' with
      | nil => exact h.elim
      | cons w L' =>
        obtain ⟨h1, h2⟩ := ih (show xle L L' from h)
        refine ⟨by simp [h1], fun k q hq => ?_⟩
        have h3 := h2 (k + 1) q hq
        cases w with
        | none => exact h3
        | some w => exact List.mem_cons_of_mem _ h3
    | some v => cases L' with
      | nil => exact h.elim
      | cons w L' =>
        obtain ⟨rfl, hh⟩ := (show w = some v ∧ xle L L' from h)
        obtain ⟨h1, h2⟩ := ih hh
        refine ⟨by simp [h1], fun k q hq => ?_⟩
        rcases List.mem_cons.mp hq with e | e
        · exact List.mem_cons.mpr (Or.inl e)
        · exact List.mem_cons.mpr (Or.inr (h2 (k + 1) q e))
theorem x_forget {G : XG} {ow : String} {cc : ByteArray} {nL : Nat} {rt : Option FieldType} {d : Nat} {R : Option Value → Sg → Prop} {pc : Nat} {L L' : List (Option Value)} {S : List Value} {σ : Sg} (h : XAt G ow cc nL rt d R pc L S σ) (hl : xle L L') : XAt G ow cc nL rt d R pc L' S σ := by
  intro p e s m args below meth c hx hb hml hr ho hts hlk hK hN H locs ls hP hD hS hL
  obtain ⟨h1, h2⟩ := xle_sub (ad := G.2.1) hl
  exact h p e s m args below meth c hx hb hml hr ho hts hlk hK hN H locs ls hP hD hS ⟨h1.trans hL.1, lv_has_of hL.2 (h2 0)⟩
theorem loop_up {n : Nat} {P : Nat → Prop} (hs : ∀ j, j < n → P (j + 1) → P j) (he : P n) : ∀ j, j ≤ n → P j := by
  have key : ∀ k j, j + k = n → P j := by
    intro k
    induction k with
    | zero => intro j h; rw [show j = n by omega]; exact he
    | succ k ih => intro j h; exact hs j (by omega) (ih (j + 1) (by omega))
  intro j h
  exact key (n - j) j (by omega)
theorem nIm (j : Nat) (h : j < 2 ^ 31) : nI j ≠ -1 := by
  intro e
  have h1 := nI_toInt h
  rw [e] at h1
  have : (-1 : Int32).toInt = -1 := by decide
  omega
theorem nIm' (j : Nat) (h : j < 2 ^ 31) : (-1 : Int32) ≠ nI j := fun e => nIm j h e.symm
theorem vp_nI {j n : Nat} (h : j < n) (hn : n < 2 ^ 31) : vp_in (nI j) n := vp_in_nI h hn
theorem xup_self {σ : Sg} {o j : Nat} {x : Int32} (h : σ o j = x) : xup σ o j x = σ := by
  funext r i
  unfold xup
  split
  · next e =>
    subst e
    unfold upd
    split
    · next e => subst e; exact h.symm
    · rfl
  · rfl
section S20
variable {G : XG} {d : Nat} {σ : Sg}
/-- a row object r with its cells a, n of them -/
def IsRow (r a n : Nat) : Prop := xfld r 3 0 = some (some (.ref a)) ∧ xarr a = some (0, n) ∧ n < 2 ^ 20
/-- a table object t with its cells a: at most m rows of w -/
def IsTab (t a m w : Nat) : Prop := xfld t 6 0 = some (some (.ref a)) ∧ xfld t 6 1 = some (some (.int (nI m))) ∧ xfld t 6 2 = some (some (.int (nI w))) ∧ xfld t 6 3 = some none ∧ xarr a = some (0, m * w) ∧ m < 2 ^ 10 ∧ w < 2 ^ 10 ∧ m * w < 2 ^ 20
theorem sX3_get {r a n j : Nat} (h : IsRow r a n) (hj : j < n) : XM G mX3_get d [.ref r, .int (nI j)] σ (xF (some (.int (σ a j))) σ) := by
  refine xm_of (by decide +kernel) rfl (Nat.le_of_ble_eq_true rfl) ?_
  refine bX3_get_0 _ _ _ ?_
  obtain ⟨h1, h2, h3⟩ := h
  try simp only [xi_iload, xi_aload, xi_lload, xi_istore, xi_astore, xi_lstore, xi_ic, xi_lc, xi_iinc, xi_iadd, xi_isub, xi_imul, xi_iand, xi_iushr, xi_ineg, xi_idiv, xi_irem, xi_ladd, xi_lmul, xi_lrem, xi_lcmp, xi_i2l, xi_l2i, xi_i2c, xi_dup, xi_dup2, xi_pop, xi_ifeq, xi_ifne, xi_iflt, xi_ifge, xi_ifgt, xi_ifle, xi_iceq, xi_icne, xi_iclt, xi_icge, xi_icgt, xi_icle, xi_iret, xi_zret, xi_lret, xi_vret, xi_getf, xi_putf, xi_ald, xi_ast, xi_alen, xi_callV, xi_callS, xpop, xroom, xl, xst, xok1, xok2, xnarrow, xwide, xone, xent, List.replicate, Option.isSome_some, Bool.and_self, Bool.true_and, Bool.and_true, List.length_cons, List.length_nil, Nat.reduceAdd, Nat.reduceLT, decide_true, Bool.not_false, Nat.beq, Nat.ble, Option.toList, List.nil_append, List.cons_append, h1, h2]
  have e : Int32.ofNat n = nI n := rfl
  simp only [e, nI_pos (show j < 2 ^ 31 by omega), nI_leI (show n < 2 ^ 31 by omega) (show j < 2 ^ 31 by omega), nI_clamp (show j < 2 ^ 31 by omega)]
  exact ⟨fun q => q.elim, fun _ => ⟨fun q => absurd q (by omega), fun _ => ⟨vp_nI hj (by omega), xF_self⟩⟩⟩
theorem sX3_getN {r a n : Nat} (h : IsRow r a n) : XM G mX3_get d [.ref r, .int (-1)] σ (xF (some (.int (-1))) σ) := by
  refine xm_of (by decide +kernel) rfl (Nat.le_of_ble_eq_true rfl) ?_
  refine bX3_get_0 _ _ _ ?_
  obtain ⟨h1, h2, h3⟩ := h
  try simp only [xi_iload, xi_aload, xi_lload, xi_istore, xi_astore, xi_lstore, xi_ic, xi_lc, xi_iinc, xi_iadd, xi_isub, xi_imul, xi_iand, xi_iushr, xi_ineg, xi_idiv, xi_irem, xi_ladd, xi_lmul, xi_lrem, xi_lcmp, xi_i2l, xi_l2i, xi_i2c, xi_dup, xi_dup2, xi_pop, xi_ifeq, xi_ifne, xi_iflt, xi_ifge, xi_ifgt, xi_ifle, xi_iceq, xi_icne, xi_iclt, xi_icge, xi_icgt, xi_icle, xi_iret, xi_zret, xi_lret, xi_vret, xi_getf, xi_putf, xi_ald, xi_ast, xi_alen, xi_callV, xi_callS, xpop, xroom, xl, xst, xok1, xok2, xnarrow, xwide, xone, xent, List.replicate, Option.isSome_some, Bool.and_self, Bool.true_and, Bool.and_true, List.length_cons, List.length_nil, Nat.reduceAdd, Nat.reduceLT, decide_true, Bool.not_false, Nat.beq, Nat.ble, Option.toList, List.nil_append, List.cons_append, h1, h2]
  exact ⟨fun _ => xF_self, fun q => absurd (by decide) q⟩
theorem sX3_set {r a n j : Nat} {x : Int32} (h : IsRow r a n) (hj : j < n) : XM G mX3_set d [.ref r, .int (nI j), .int x] σ (xF none (xup σ a j x)) := by
  refine xm_of (by decide +kernel) rfl (Nat.le_of_ble_eq_true rfl) ?_
  refine bX3_set_0 _ _ _ ?_
  obtain ⟨h1, h2, h3⟩ := h
  try simp only [xi_iload, xi_aload, xi_lload, xi_istore, xi_astore, xi_lstore, xi_ic, xi_lc, xi_iinc, xi_iadd, xi_isub, xi_imul, xi_iand, xi_iushr, xi_ineg, xi_idiv, xi_irem, xi_ladd, xi_lmul, xi_lrem, xi_lcmp, xi_i2l, xi_l2i, xi_i2c, xi_dup, xi_dup2, xi_pop, xi_ifeq, xi_ifne, xi_iflt, xi_ifge, xi_ifgt, xi_ifle, xi_iceq, xi_icne, xi_iclt, xi_icge, xi_icgt, xi_icle, xi_iret, xi_zret, xi_lret, xi_vret, xi_getf, xi_putf, xi_ald, xi_ast, xi_alen, xi_callV, xi_callS, xpop, xroom, xl, xst, xok1, xok2, xnarrow, xwide, xone, xent, List.replicate, Option.isSome_some, Bool.and_self, Bool.true_and, Bool.and_true, List.length_cons, List.length_nil, Nat.reduceAdd, Nat.reduceLT, decide_true, Bool.not_false, Nat.beq, Nat.ble, Option.toList, List.nil_append, List.cons_append, h1, h2]
  have e : Int32.ofNat n = nI n := rfl
  simp only [e, nI_pos (show j < 2 ^ 31 by omega), nI_leI (show n < 2 ^ 31 by omega) (show j < 2 ^ 31 by omega), nI_clamp (show j < 2 ^ 31 by omega)]
  exact ⟨fun q => q.elim, fun _ => ⟨fun q => absurd q (by omega), fun _ => ⟨vp_nI hj (by omega), xF_self⟩⟩⟩
theorem sX6_get {t a m w i c : Nat} (h : IsTab t a m w) (hi : i < m) (hc : c < w) : XM G mX6_get d [.ref t, .int (nI i), .int (nI c)] σ (xF (some (.int (σ a (i * w + c)))) σ) := by
  refine xm_of (by decide +kernel) rfl (Nat.le_of_ble_eq_true rfl) ?_
  refine bX6_get_0 _ _ _ ?_
  obtain ⟨h1, h2, h3, h4, h5, h6, h7, h8⟩ := h
  have hb : i * w + c < m * w := by
    have : (i + 1) * w ≤ m * w := Nat.mul_le_mul_right w hi
    rw [Nat.add_mul] at this
    omega
  try simp only [xi_iload, xi_aload, xi_lload, xi_istore, xi_astore, xi_lstore, xi_ic, xi_lc, xi_iinc, xi_iadd, xi_isub, xi_imul, xi_iand, xi_iushr, xi_ineg, xi_idiv, xi_irem, xi_ladd, xi_lmul, xi_lrem, xi_lcmp, xi_i2l, xi_l2i, xi_i2c, xi_dup, xi_dup2, xi_pop, xi_ifeq, xi_ifne, xi_iflt, xi_ifge, xi_ifgt, xi_ifle, xi_iceq, xi_icne, xi_iclt, xi_icge, xi_icgt, xi_icle, xi_iret, xi_zret, xi_lret, xi_vret, xi_getf, xi_putf, xi_ald, xi_ast, xi_alen, xi_callV, xi_callS, xpop, xroom, xl, xst, xok1, xok2, xnarrow, xwide, xone, xent, List.replicate, Option.isSome_some, Bool.and_self, Bool.true_and, Bool.and_true, List.length_cons, List.length_nil, Nat.reduceAdd, Nat.reduceLT, decide_true, Bool.not_false, Nat.beq, Nat.ble, Option.toList, List.nil_append, List.cons_append, h1, h2, h3, h5]
  have e : Int32.ofNat (m * w) = nI (m * w) := rfl
  simp only [e, pk_mul, nI_add, nI_pos (show i < 2 ^ 31 by omega), nI_pos (show c < 2 ^ 31 by omega), nI_pos (show i * w + c < 2 ^ 31 by omega), nI_leI (show m < 2 ^ 31 by omega) (show i < 2 ^ 31 by omega), nI_ltI (show c < 2 ^ 31 by omega) (show w < 2 ^ 31 by omega),
    nI_leI (show m * w < 2 ^ 31 by omega) (show i * w + c < 2 ^ 31 by omega), nI_clamp (show i * w + c < 2 ^ 31 by omega)]
  refine ⟨fun q => q.elim, fun _ => ⟨fun q => absurd q (by omega), fun _ => ⟨fun q => q.elim, fun _ => ⟨fun _ => ⟨fun q => q.elim, fun _ => ⟨fun q => absurd q (by omega), fun _ => ⟨vp_nI hb (by omega), xF_self⟩⟩⟩, fun q => absurd hc q⟩⟩⟩⟩
theorem sX6_set {t a m w i c : Nat} {x : Int32} (h : IsTab t a m w) (hi : i < m) (hc : c < w) : XM G mX6_set d [.ref t, .int (nI i), .int (nI c), .int x] σ (xF none (xup σ a (i * w + c) x)) := by
  refine xm_of (by decide +kernel) rfl (Nat.le_of_ble_eq_true rfl) ?_
  refine bX6_set_0 _ _ _ ?_
  obtain ⟨h1, h2, h3, h4, h5, h6, h7, h8⟩ := h
  have hb : i * w + c < m * w := by
    have : (i + 1) * w ≤ m * w := Nat.mul_le_mul_right w hi
    rw [Nat.add_mul] at this
    omega
  try simp only [xi_iload, xi_aload, xi_lload, xi_istore, xi_astore, xi_lstore, xi_ic, xi_lc, xi_iinc, xi_iadd, xi_isub, xi_imul, xi_iand, xi_iushr, xi_ineg, xi_idiv, xi_irem, xi_ladd, xi_lmul, xi_lrem, xi_lcmp, xi_i2l, xi_l2i, xi_i2c, xi_dup, xi_dup2, xi_pop, xi_ifeq, xi_ifne, xi_iflt, xi_ifge, xi_ifgt, xi_ifle, xi_iceq, xi_icne, xi_iclt, xi_icge, xi_icgt, xi_icle, xi_iret, xi_zret, xi_lret, xi_vret, xi_getf, xi_putf, xi_ald, xi_ast, xi_alen, xi_callV, xi_callS, xpop, xroom, xl, xst, xok1, xok2, xnarrow, xwide, xone, xent, List.replicate, Option.isSome_some, Bool.and_self, Bool.true_and, Bool.and_true, List.length_cons, List.length_nil, Nat.reduceAdd, Nat.reduceLT, decide_true, Bool.not_false, Nat.beq, Nat.ble, Option.toList, List.nil_append, List.cons_append, h1, h2, h3, h5]
  have e : Int32.ofNat (m * w) = nI (m * w) := rfl
  simp only [e, pk_mul, nI_add, nI_pos (show i < 2 ^ 31 by omega), nI_pos (show c < 2 ^ 31 by omega), nI_pos (show i * w + c < 2 ^ 31 by omega), nI_leI (show m < 2 ^ 31 by omega) (show i < 2 ^ 31 by omega), nI_ltI (show c < 2 ^ 31 by omega) (show w < 2 ^ 31 by omega),
    nI_leI (show m * w < 2 ^ 31 by omega) (show i * w + c < 2 ^ 31 by omega), nI_clamp (show i * w + c < 2 ^ 31 by omega)]
  refine ⟨fun q => q.elim, fun _ => ⟨fun q => absurd q (by omega), fun _ => ⟨fun q => q.elim, fun _ => ⟨fun _ => ⟨fun q => q.elim, fun _ => ⟨fun q => absurd q (by omega), fun _ => ⟨vp_nI hb (by omega), xF_self⟩⟩⟩, fun q => absurd hc q⟩⟩⟩⟩
theorem sX6_isFull {t a m w n : Nat} (h : IsTab t a m w) (hn : σ t 3 = nI n) (hb : n < 2 ^ 31) : XM G mX6_isFull d [.ref t] σ (xF (some (.int (if m ≤ n then 1 else 0))) σ) := by
  refine xm_of (by decide +kernel) rfl (Nat.le_of_ble_eq_true rfl) ?_
  refine bX6_isFull_0 _ _ _ ?_
  obtain ⟨h1, h2, h3, h4, h5, h6, h7, h8⟩ := h
  try simp only [xi_iload, xi_aload, xi_lload, xi_istore, xi_astore, xi_lstore, xi_ic, xi_lc, xi_iinc, xi_iadd, xi_isub, xi_imul, xi_iand, xi_iushr, xi_ineg, xi_idiv, xi_irem, xi_ladd, xi_lmul, xi_lrem, xi_lcmp, xi_i2l, xi_l2i, xi_i2c, xi_dup, xi_dup2, xi_pop, xi_ifeq, xi_ifne, xi_iflt, xi_ifge, xi_ifgt, xi_ifle, xi_iceq, xi_icne, xi_iclt, xi_icge, xi_icgt, xi_icle, xi_iret, xi_zret, xi_lret, xi_vret, xi_getf, xi_putf, xi_ald, xi_ast, xi_alen, xi_callV, xi_callS, xpop, xroom, xl, xst, xok1, xok2, xnarrow, xwide, xone, xent, List.replicate, Option.isSome_some, Bool.and_self, Bool.true_and, Bool.and_true, List.length_cons, List.length_nil, Nat.reduceAdd, Nat.reduceLT, decide_true, Bool.not_false, Nat.beq, Nat.ble, Option.toList, List.nil_append, List.cons_append, h2, h4, hn]
  simp only [nI_ltI hb (show m < 2 ^ 31 by omega)]
  refine ⟨fun q => ⟨by decide +kernel, ?_⟩, fun q => ⟨by decide +kernel, ?_⟩⟩
  · rw [if_neg (by omega)]; exact xF_self
  · rw [if_pos (by omega)]; exact xF_self
theorem sX6_has {t a m w n : Nat} {i : Int32} (h : IsTab t a m w) (hn : σ t 3 = nI n) : XM G mX6_has d [.ref t, .int i] σ (xF (some (.int (if 0 ≤ i ∧ i < nI n then 1 else 0))) σ) := by
  refine xm_of (by decide +kernel) rfl (Nat.le_of_ble_eq_true rfl) ?_
  refine bX6_has_0 _ _ _ ?_
  obtain ⟨h1, h2, h3, h4, h5, h6, h7, h8⟩ := h
  try simp only [xi_iload, xi_aload, xi_lload, xi_istore, xi_astore, xi_lstore, xi_ic, xi_lc, xi_iinc, xi_iadd, xi_isub, xi_imul, xi_iand, xi_iushr, xi_ineg, xi_idiv, xi_irem, xi_ladd, xi_lmul, xi_lrem, xi_lcmp, xi_i2l, xi_l2i, xi_i2c, xi_dup, xi_dup2, xi_pop, xi_ifeq, xi_ifne, xi_iflt, xi_ifge, xi_ifgt, xi_ifle, xi_iceq, xi_icne, xi_iclt, xi_icge, xi_icgt, xi_icle, xi_iret, xi_zret, xi_lret, xi_vret, xi_getf, xi_putf, xi_ald, xi_ast, xi_alen, xi_callV, xi_callS, xpop, xroom, xl, xst, xok1, xok2, xnarrow, xwide, xone, xent, List.replicate, Option.isSome_some, Bool.and_self, Bool.true_and, Bool.and_true, List.length_cons, List.length_nil, Nat.reduceAdd, Nat.reduceLT, decide_true, Bool.not_false, Nat.beq, Nat.ble, Option.toList, List.nil_append, List.cons_append, h4, hn]
  refine ⟨fun q => ⟨by decide +kernel, ?_⟩, fun q => ⟨fun q2 => ⟨by decide +kernel, ?_⟩, fun q2 => ⟨by decide +kernel, ?_⟩⟩⟩
  · rw [if_neg (fun z => absurd z.1 (Int32.not_le.mpr q))]; exact xF_self
  · rw [if_neg (fun z => absurd z.2 (Int32.not_lt.mpr q2))]; exact xF_self
  · rw [if_pos ⟨Int32.not_lt.mp q, Int32.not_le.mp q2⟩]; exact xF_self
theorem sX6_add {t a m w n : Nat} (h : IsTab t a m w) (hn : σ t 3 = nI n) (hb : n < m) : XM G mX6_add d [.ref t] σ (xF (some (.int (nI n))) (xup σ t 3 (nI (n + 1)))) := by
  refine xm_of (by decide +kernel) rfl (Nat.le_of_ble_eq_true rfl) ?_
  refine bX6_add_0 _ _ _ ?_
  obtain ⟨h1, h2, h3, h4, h5, h6, h7, h8⟩ := h
  try simp only [xi_iload, xi_aload, xi_lload, xi_istore, xi_astore, xi_lstore, xi_ic, xi_lc, xi_iinc, xi_iadd, xi_isub, xi_imul, xi_iand, xi_iushr, xi_ineg, xi_idiv, xi_irem, xi_ladd, xi_lmul, xi_lrem, xi_lcmp, xi_i2l, xi_l2i, xi_i2c, xi_dup, xi_dup2, xi_pop, xi_ifeq, xi_ifne, xi_iflt, xi_ifge, xi_ifgt, xi_ifle, xi_iceq, xi_icne, xi_iclt, xi_icge, xi_icgt, xi_icle, xi_iret, xi_zret, xi_lret, xi_vret, xi_getf, xi_putf, xi_ald, xi_ast, xi_alen, xi_callV, xi_callS, xpop, xroom, xl, xst, xok1, xok2, xnarrow, xwide, xone, xent, List.replicate, Option.isSome_some, Bool.and_self, Bool.true_and, Bool.and_true, List.length_cons, List.length_nil, Nat.reduceAdd, Nat.reduceLT, decide_true, Bool.not_false, Nat.beq, Nat.ble, Option.toList, List.nil_append, List.cons_append, h2, h4, hn]
  simp only [nI_ltI (show n < 2 ^ 31 by omega) (show m < 2 ^ 31 by omega), nI_1]
  refine ⟨fun _ => ⟨xnok_i _, ?_⟩, fun q => absurd hb q⟩
  rw [xup_s]
  simp only [upd, if_true, nI_pred]
  exact xF_self
theorem sX6_keep {t a m w n k : Nat} (h : IsTab t a m w) (hn : σ t 3 = nI n) (hb : n ≤ m) (hk : k ≤ n) : XM G mX6_keep d [.ref t, .int (nI k)] σ (xF none (xup σ t 3 (nI k))) := by
  refine xm_of (by decide +kernel) rfl (Nat.le_of_ble_eq_true rfl) ?_
  refine bX6_keep_0 _ _ _ ?_
  obtain ⟨h1, h2, h3, h4, h5, h6, h7, h8⟩ := h
  try simp only [xi_iload, xi_aload, xi_lload, xi_istore, xi_astore, xi_lstore, xi_ic, xi_lc, xi_iinc, xi_iadd, xi_isub, xi_imul, xi_iand, xi_iushr, xi_ineg, xi_idiv, xi_irem, xi_ladd, xi_lmul, xi_lrem, xi_lcmp, xi_i2l, xi_l2i, xi_i2c, xi_dup, xi_dup2, xi_pop, xi_ifeq, xi_ifne, xi_iflt, xi_ifge, xi_ifgt, xi_ifle, xi_iceq, xi_icne, xi_iclt, xi_icge, xi_icgt, xi_icle, xi_iret, xi_zret, xi_lret, xi_vret, xi_getf, xi_putf, xi_ald, xi_ast, xi_alen, xi_callV, xi_callS, xpop, xroom, xl, xst, xok1, xok2, xnarrow, xwide, xone, xent, List.replicate, Option.isSome_some, Bool.and_self, Bool.true_and, Bool.and_true, List.length_cons, List.length_nil, Nat.reduceAdd, Nat.reduceLT, decide_true, Bool.not_false, Nat.beq, Nat.ble, Option.toList, List.nil_append, List.cons_append, h4, hn]
  simp only [nI_pos (show k < 2 ^ 31 by omega), nI_leI (show n < 2 ^ 31 by omega) (show k < 2 ^ 31 by omega)]
  refine ⟨fun q => q.elim, fun _ => ⟨fun q => ?_, fun q => ⟨xnok_i _, xF_self⟩⟩⟩
  have hkn : k = n := by omega
  subst hkn
  rw [xup_self hn]
  exact xF_self
end S20
