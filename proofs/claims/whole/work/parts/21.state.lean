/-! the inputs, as numbers: M field index; what the class holds of them, and what is well formed -/
abbrev YM : Type := Nat → Nat → Nat
abbrev nO (M : YM) : Nat := M 90 0
abbrev nS (M : YM) : Nat := M 90 1
abbrev nD (M : YM) : Nat := M 90 2
abbrev nC (M : YM) : Nat := M 90 3
abbrev nR (M : YM) : Nat := M 90 4
abbrev yMem (M : YM) : Nat → Nat := M 0
abbrev ySO (M : YM) : Nat → Nat := M 10
abbrev ySC (M : YM) : Nat → Nat := M 11
abbrev ySZ (M : YM) : Nat → Nat := M 12
abbrev ySA (M : YM) : Nat → Nat := M 13
abbrev yST (M : YM) : Nat → Nat := M 14
abbrev ySK (M : YM) : Nat → Nat := M 15
abbrev yDS (M : YM) : Nat → Nat := M 20
abbrev yDN (M : YM) : Nat → Nat := M 21
abbrev yDF (M : YM) : Nat → Nat := M 22
abbrev yDX (M : YM) : Nat → Nat := M 23
abbrev yDO (M : YM) : Nat → Nat := M 24
abbrev yCO (M : YM) : Nat → Nat := M 30
abbrev yCN (M : YM) : Nat → Nat := M 31
abbrev yCZ (M : YM) : Nat → Nat := M 32
abbrev yRS (M : YM) : Nat → Nat := M 40
abbrev yRF (M : YM) : Nat → Nat := M 41
abbrev yRN (M : YM) : Nat → Nat := M 42
abbrev yRK (M : YM) : Nat → Nat := M 43
/-- the common of an object for a name: its size, or 0 -/
abbrev yCM (M : YM) (o n : Nat) : Nat := M 92 (16 * o + n)
/-- where the class holds it -/
abbrev yIx (M : YM) (o n : Nat) : Nat := M 91 (16 * o + n)
def xwid (k : Nat) : Nat := match k with
  | 0 => 1
  | 1 => 6
  | 2 => 5
  | 3 => 3
  | _ => 4
def CI (σ : Sg) (M : YM) : Prop := (∀ k, k < 5 → σ (6 + k) 3 = nI (M 90 k)) ∧ ∀ k, k < 5 → ∀ j, j < M 90 k → ∀ c, c < xwid k → σ (31 + k) (j * xwid k + c) = nI (M (10 * k + c) j)
/-- how many references of a section stand before the place n -/
def yCount (p : Nat → Bool) : Nat → Nat
  | 0 => 0
  | n + 1 => yCount p n + (if p n = true then 1 else 0)
def anyB (p : Nat → Bool) : Nat → Bool
  | 0 => false
  | n + 1 => anyB p n || p n
theorem anyB_iff {p : Nat → Bool} : ∀ {n : Nat}, anyB p n = true ↔ ∃ j, j < n ∧ p j = true := by
  intro n
  induction n with
  | zero => simp [anyB]
  | succ n ih =>
    simp only [anyB, Bool.or_eq_true, ih]
    constructor
    · rintro (⟨j, h1, h2⟩ | h)
      · exact ⟨j, by omega, h2⟩
      · exact ⟨n, by omega, h⟩
    · rintro ⟨j, h1, h2⟩
      by_cases hj : j = n
      · subst hj; exact Or.inr h2
      · exact Or.inl ⟨j, by omega, h2⟩
theorem anyB_not {p : Nat → Bool} {n : Nat} : anyB p n = false ↔ ∀ j, j < n → p j = false := by
  rw [← Bool.not_eq_true, anyB_iff]
  constructor
  · intro h j hj
    cases hp : p j with
    | false => rfl
    | true => exact absurd ⟨j, hj, hp⟩ h
  · rintro h ⟨j, h1, h2⟩
    rw [h j h1] at h2
    cases h2
def b2i (b : Bool) : Int32 := if b = true then 1 else 0
theorem b2i_t : b2i true = 1 := rfl
theorem b2i_f : b2i false = 0 := rfl
/-- the first of the best by a key that is to be small -/
def bestD (p : Nat → Bool) (key : Nat → Nat) : Nat → Option Nat
  | 0 => none
  | n + 1 => if p n = true then (match bestD p key n with
    | none => some n
    | some b => if key n < key b then some n else some b) else bestD p key n
theorem bestD_lt {p : Nat → Bool} {key : Nat → Nat} : ∀ {n b : Nat}, bestD p key n = some b → b < n ∧ p b = true := by
  intro n
  induction n with
  | zero => intro b h; cases h
  | succ n ih =>
    intro b h
    unfold bestD at h
    split at h
    · next hp =>
      split at h
      · cases h; exact ⟨by omega, hp⟩
      · next c hc =>
        split at h
        · cases h; exact ⟨by omega, hp⟩
        · cases h; have := ih hc; exact ⟨by omega, this.2⟩
    · have := ih h; exact ⟨by omega, this.2⟩
def oI (o : Option Nat) : Int32 := match o with
  | none => -1
  | some j => nI j
/-- what the calls have told keeps the document's bounds -/
def WF (M : YM) : Prop :=
  (nO M ≤ 10 ∧ nS M ≤ 24 ∧ nD M ≤ 40 ∧ nC M ≤ 160 ∧ nR M ≤ 40) ∧ (∀ o, o < nO M → yMem M o ≤ 1) ∧
  (∀ s, s < nS M → ySO M s < nO M ∧ ySC M s ≤ 1 ∧ (1 ≤ ySZ M s ∧ ySZ M s ≤ 64) ∧ (ySA M s = 1 ∨ ySA M s = 2 ∨ ySA M s = 4 ∨ ySA M s = 8 ∨ ySA M s = 16) ∧ yST M s ≤ 999 ∧ ySK M s ≤ 1) ∧
  (∀ j, j < nD M → yDS M j < nS M ∧ yDN M j < 16 ∧ yDF M j < ySZ M (yDS M j) ∧ (yDX M j = 115 ∨ yDX M j = 119 ∨ yDX M j = 108) ∧ yDO M j = ySO M (yDS M j)) ∧
  (∀ c, c < nC M → yCO M c < nO M ∧ yCN M c < 16 ∧ (1 ≤ yCZ M c ∧ yCZ M c ≤ 64) ∧ yCM M (yCO M c) (yCN M c) = yCZ M c ∧ yIx M (yCO M c) (yCN M c) = c) ∧
  (∀ o n, o < nO M → n < 16 → 0 < yCM M o n → yIx M o n < nC M ∧ yCO M (yIx M o n) = o ∧ yCN M (yIx M o n) = n) ∧
  (∀ r, r < nR M → yRS M r < nS M ∧ yRF M r < ySZ M (yRS M r) ∧ yRN M r < 16 ∧ (yRK M r = 99 ∨ yRK M r = 97)) ∧
  (∀ j e, j < nD M → e < nD M → yDS M j = yDS M e → yDN M j = yDN M e → j = e) ∧
  (∀ r q, r < nR M → q < nR M → yRS M r = yRS M q → yRF M r = yRF M q → r = q) ∧
  (∀ s, yCount (fun r => yRS M r == s) (nR M) ≤ 4)
section S21
variable {G : XG} {d : Nat} {σ : Sg} {M : YM}
theorem CI.n {k : Nat} (h : CI σ M) (hk : k < 5) : σ (6 + k) 3 = nI (M 90 k) := h.1 k hk
theorem sX0_isMemberObject {j : Nat} (h : CI σ M) (w : WF M) (hj : j < nO M) : XM G mX0_isMemberObject (d + 1) [.ref 1, .int (nI j)] σ (xF (some (.int (b2i (yMem M j == 1)))) σ) := by
  refine xm_of (by decide +kernel) rfl (Nat.le_of_ble_eq_true rfl) ?_
  refine bX0_isMemberObject_0 _ _ _ ?_
  try simp only [xi_iload, xi_aload, xi_lload, xi_istore, xi_astore, xi_lstore, xi_ic, xi_lc, xi_iinc, xi_iadd, xi_isub, xi_imul, xi_iand, xi_iushr, xi_ineg, xi_idiv, xi_irem, xi_ladd, xi_lmul, xi_lrem, xi_lcmp, xi_i2l, xi_l2i, xi_i2c, xi_dup, xi_dup2, xi_pop, xi_ifeq, xi_ifne, xi_iflt, xi_ifge, xi_ifgt, xi_ifle, xi_iceq, xi_icne, xi_iclt, xi_icge, xi_icgt, xi_icle, xi_iret, xi_zret, xi_lret, xi_vret, xi_getf, xi_putf, xi_ald, xi_ast, xi_alen, xi_callV, xi_callS, xpop, xroom, xl, xst, xok1, xok2, xnarrow, xwide, xone, xent, List.replicate, Option.isSome_some, Bool.and_self, Bool.true_and, Bool.and_true, List.length_cons, List.length_nil, Nat.reduceAdd, Nat.reduceLT, decide_true, Bool.not_false, Nat.beq, Nat.ble, Option.toList, List.nil_append, List.cons_append, xf_0_0, xf_0_1, xf_0_2, xf_0_3, xf_0_4, xf_0_5, xf_0_6, xf_0_7, xf_0_8, xf_0_9, xf_1_0, xf_1_1, xf_1_2, xf_1_3, xf_1_4, xf_2_0, xf_2_1, xf_2_2, xf_2_3, xf_2_4, xf_2_5, xf_2_6, xf_2_7, xf_3_0, xf_3_1, xf_3_2, xf_3_3, xf_3_4, xf_3_5, xf_3_6, xf_3_7, xf_4_0, xf_4_1, xf_4_2, xf_4_3, xf_4_4, xf_4_5, xf_4_6, xf_5_0, xf_5_1, xf_5_2, xf_5_3, xf_5_4, xf_5_5, xf_5_6, xf_5_7, xf_6_3, xf_7_3, xf_8_3, xf_9_3, xf_10_3, xf_11_3, xf_12_3, xf_13_3, xf_14_3, xf_15_3, xf_16_3]
  have hb : nO M ≤ 10 := w.1.1
  refine x_F (sX6_get (i := j) (c := 0) tab6 (by omega) (by decide)) ?_
  have e := h.2 0 (by decide) j hj 0 (by decide)
  change σ 31 (j * 1 + 0) = nI (yMem M j) at e
  rw [e]
  have hv : yMem M j ≤ 1 := w.2.1 j hj
  try simp only [xi_iload, xi_aload, xi_lload, xi_istore, xi_astore, xi_lstore, xi_ic, xi_lc, xi_iinc, xi_iadd, xi_isub, xi_imul, xi_iand, xi_iushr, xi_ineg, xi_idiv, xi_irem, xi_ladd, xi_lmul, xi_lrem, xi_lcmp, xi_i2l, xi_l2i, xi_i2c, xi_dup, xi_dup2, xi_pop, xi_ifeq, xi_ifne, xi_iflt, xi_ifge, xi_ifgt, xi_ifle, xi_iceq, xi_icne, xi_iclt, xi_icge, xi_icgt, xi_icle, xi_iret, xi_zret, xi_lret, xi_vret, xi_getf, xi_putf, xi_ald, xi_ast, xi_alen, xi_callV, xi_callS, xpop, xroom, xl, xst, xok1, xok2, xnarrow, xwide, xone, xent, List.replicate, Option.isSome_some, Bool.and_self, Bool.true_and, Bool.and_true, List.length_cons, List.length_nil, Nat.reduceAdd, Nat.reduceLT, decide_true, Bool.not_false, Nat.beq, Nat.ble, Option.toList, List.nil_append, List.cons_append]
  rcases (show yMem M j = 0 ∨ yMem M j = 1 by omega) with q | q
  · rw [q]; exact ⟨fun _ => ⟨by decide +kernel, xF_self⟩, fun z => absurd z (by decide)⟩
  · rw [q]; exact ⟨fun z => absurd rfl z, fun _ => ⟨by decide +kernel, xF_self⟩⟩
theorem sX0_objectOf {j : Nat} (h : CI σ M) (w : WF M) (hj : j < nS M) : XM G mX0_objectOf (d + 1) [.ref 1, .int (nI j)] σ (xF (some (.int (nI (ySO M j)))) σ) := by
  refine xm_of (by decide +kernel) rfl (Nat.le_of_ble_eq_true rfl) ?_
  refine bX0_objectOf_0 _ _ _ ?_
  try simp only [xi_iload, xi_aload, xi_lload, xi_istore, xi_astore, xi_lstore, xi_ic, xi_lc, xi_iinc, xi_iadd, xi_isub, xi_imul, xi_iand, xi_iushr, xi_ineg, xi_idiv, xi_irem, xi_ladd, xi_lmul, xi_lrem, xi_lcmp, xi_i2l, xi_l2i, xi_i2c, xi_dup, xi_dup2, xi_pop, xi_ifeq, xi_ifne, xi_iflt, xi_ifge, xi_ifgt, xi_ifle, xi_iceq, xi_icne, xi_iclt, xi_icge, xi_icgt, xi_icle, xi_iret, xi_zret, xi_lret, xi_vret, xi_getf, xi_putf, xi_ald, xi_ast, xi_alen, xi_callV, xi_callS, xpop, xroom, xl, xst, xok1, xok2, xnarrow, xwide, xone, xent, List.replicate, Option.isSome_some, Bool.and_self, Bool.true_and, Bool.and_true, List.length_cons, List.length_nil, Nat.reduceAdd, Nat.reduceLT, decide_true, Bool.not_false, Nat.beq, Nat.ble, Option.toList, List.nil_append, List.cons_append, xf_0_0, xf_0_1, xf_0_2, xf_0_3, xf_0_4, xf_0_5, xf_0_6, xf_0_7, xf_0_8, xf_0_9, xf_1_0, xf_1_1, xf_1_2, xf_1_3, xf_1_4, xf_2_0, xf_2_1, xf_2_2, xf_2_3, xf_2_4, xf_2_5, xf_2_6, xf_2_7, xf_3_0, xf_3_1, xf_3_2, xf_3_3, xf_3_4, xf_3_5, xf_3_6, xf_3_7, xf_4_0, xf_4_1, xf_4_2, xf_4_3, xf_4_4, xf_4_5, xf_4_6, xf_5_0, xf_5_1, xf_5_2, xf_5_3, xf_5_4, xf_5_5, xf_5_6, xf_5_7, xf_6_3, xf_7_3, xf_8_3, xf_9_3, xf_10_3, xf_11_3, xf_12_3, xf_13_3, xf_14_3, xf_15_3, xf_16_3]
  have hb : nS M ≤ 24 := w.1.2.1
  refine x_F (sX6_get (i := j) (c := 0) tab7 (by omega) (by decide)) ?_
  have e := h.2 1 (by decide) j hj 0 (by decide)
  change σ 32 (j * 6 + 0) = nI (ySO M j) at e
  rw [e]
  exact xF_self
theorem sX0_isCodeSection {j : Nat} (h : CI σ M) (w : WF M) (hj : j < nS M) : XM G mX0_isCodeSection (d + 1) [.ref 1, .int (nI j)] σ (xF (some (.int (b2i (ySC M j == 1)))) σ) := by
  refine xm_of (by decide +kernel) rfl (Nat.le_of_ble_eq_true rfl) ?_
  refine bX0_isCodeSection_0 _ _ _ ?_
  try simp only [xi_iload, xi_aload, xi_lload, xi_istore, xi_astore, xi_lstore, xi_ic, xi_lc, xi_iinc, xi_iadd, xi_isub, xi_imul, xi_iand, xi_iushr, xi_ineg, xi_idiv, xi_irem, xi_ladd, xi_lmul, xi_lrem, xi_lcmp, xi_i2l, xi_l2i, xi_i2c, xi_dup, xi_dup2, xi_pop, xi_ifeq, xi_ifne, xi_iflt, xi_ifge, xi_ifgt, xi_ifle, xi_iceq, xi_icne, xi_iclt, xi_icge, xi_icgt, xi_icle, xi_iret, xi_zret, xi_lret, xi_vret, xi_getf, xi_putf, xi_ald, xi_ast, xi_alen, xi_callV, xi_callS, xpop, xroom, xl, xst, xok1, xok2, xnarrow, xwide, xone, xent, List.replicate, Option.isSome_some, Bool.and_self, Bool.true_and, Bool.and_true, List.length_cons, List.length_nil, Nat.reduceAdd, Nat.reduceLT, decide_true, Bool.not_false, Nat.beq, Nat.ble, Option.toList, List.nil_append, List.cons_append, xf_0_0, xf_0_1, xf_0_2, xf_0_3, xf_0_4, xf_0_5, xf_0_6, xf_0_7, xf_0_8, xf_0_9, xf_1_0, xf_1_1, xf_1_2, xf_1_3, xf_1_4, xf_2_0, xf_2_1, xf_2_2, xf_2_3, xf_2_4, xf_2_5, xf_2_6, xf_2_7, xf_3_0, xf_3_1, xf_3_2, xf_3_3, xf_3_4, xf_3_5, xf_3_6, xf_3_7, xf_4_0, xf_4_1, xf_4_2, xf_4_3, xf_4_4, xf_4_5, xf_4_6, xf_5_0, xf_5_1, xf_5_2, xf_5_3, xf_5_4, xf_5_5, xf_5_6, xf_5_7, xf_6_3, xf_7_3, xf_8_3, xf_9_3, xf_10_3, xf_11_3, xf_12_3, xf_13_3, xf_14_3, xf_15_3, xf_16_3]
  have hb : nS M ≤ 24 := w.1.2.1
  refine x_F (sX6_get (i := j) (c := 1) tab7 (by omega) (by decide)) ?_
  have e := h.2 1 (by decide) j hj 1 (by decide)
  change σ 32 (j * 6 + 1) = nI (ySC M j) at e
  rw [e]
  have hv : ySC M j ≤ 1 := (w.2.2.1 j hj).2.1
  try simp only [xi_iload, xi_aload, xi_lload, xi_istore, xi_astore, xi_lstore, xi_ic, xi_lc, xi_iinc, xi_iadd, xi_isub, xi_imul, xi_iand, xi_iushr, xi_ineg, xi_idiv, xi_irem, xi_ladd, xi_lmul, xi_lrem, xi_lcmp, xi_i2l, xi_l2i, xi_i2c, xi_dup, xi_dup2, xi_pop, xi_ifeq, xi_ifne, xi_iflt, xi_ifge, xi_ifgt, xi_ifle, xi_iceq, xi_icne, xi_iclt, xi_icge, xi_icgt, xi_icle, xi_iret, xi_zret, xi_lret, xi_vret, xi_getf, xi_putf, xi_ald, xi_ast, xi_alen, xi_callV, xi_callS, xpop, xroom, xl, xst, xok1, xok2, xnarrow, xwide, xone, xent, List.replicate, Option.isSome_some, Bool.and_self, Bool.true_and, Bool.and_true, List.length_cons, List.length_nil, Nat.reduceAdd, Nat.reduceLT, decide_true, Bool.not_false, Nat.beq, Nat.ble, Option.toList, List.nil_append, List.cons_append]
  rcases (show ySC M j = 0 ∨ ySC M j = 1 by omega) with q | q
  · rw [q]; exact ⟨fun _ => ⟨by decide +kernel, xF_self⟩, fun z => absurd z (by decide)⟩
  · rw [q]; exact ⟨fun z => absurd rfl z, fun _ => ⟨by decide +kernel, xF_self⟩⟩
theorem sX0_sizeOf {j : Nat} (h : CI σ M) (w : WF M) (hj : j < nS M) : XM G mX0_sizeOf (d + 1) [.ref 1, .int (nI j)] σ (xF (some (.int (nI (ySZ M j)))) σ) := by
  refine xm_of (by decide +kernel) rfl (Nat.le_of_ble_eq_true rfl) ?_
  refine bX0_sizeOf_0 _ _ _ ?_
  try simp only [xi_iload, xi_aload, xi_lload, xi_istore, xi_astore, xi_lstore, xi_ic, xi_lc, xi_iinc, xi_iadd, xi_isub, xi_imul, xi_iand, xi_iushr, xi_ineg, xi_idiv, xi_irem, xi_ladd, xi_lmul, xi_lrem, xi_lcmp, xi_i2l, xi_l2i, xi_i2c, xi_dup, xi_dup2, xi_pop, xi_ifeq, xi_ifne, xi_iflt, xi_ifge, xi_ifgt, xi_ifle, xi_iceq, xi_icne, xi_iclt, xi_icge, xi_icgt, xi_icle, xi_iret, xi_zret, xi_lret, xi_vret, xi_getf, xi_putf, xi_ald, xi_ast, xi_alen, xi_callV, xi_callS, xpop, xroom, xl, xst, xok1, xok2, xnarrow, xwide, xone, xent, List.replicate, Option.isSome_some, Bool.and_self, Bool.true_and, Bool.and_true, List.length_cons, List.length_nil, Nat.reduceAdd, Nat.reduceLT, decide_true, Bool.not_false, Nat.beq, Nat.ble, Option.toList, List.nil_append, List.cons_append, xf_0_0, xf_0_1, xf_0_2, xf_0_3, xf_0_4, xf_0_5, xf_0_6, xf_0_7, xf_0_8, xf_0_9, xf_1_0, xf_1_1, xf_1_2, xf_1_3, xf_1_4, xf_2_0, xf_2_1, xf_2_2, xf_2_3, xf_2_4, xf_2_5, xf_2_6, xf_2_7, xf_3_0, xf_3_1, xf_3_2, xf_3_3, xf_3_4, xf_3_5, xf_3_6, xf_3_7, xf_4_0, xf_4_1, xf_4_2, xf_4_3, xf_4_4, xf_4_5, xf_4_6, xf_5_0, xf_5_1, xf_5_2, xf_5_3, xf_5_4, xf_5_5, xf_5_6, xf_5_7, xf_6_3, xf_7_3, xf_8_3, xf_9_3, xf_10_3, xf_11_3, xf_12_3, xf_13_3, xf_14_3, xf_15_3, xf_16_3]
  have hb : nS M ≤ 24 := w.1.2.1
  refine x_F (sX6_get (i := j) (c := 2) tab7 (by omega) (by decide)) ?_
  have e := h.2 1 (by decide) j hj 2 (by decide)
  change σ 32 (j * 6 + 2) = nI (ySZ M j) at e
  rw [e]
  exact xF_self
theorem sX0_alignmentOf {j : Nat} (h : CI σ M) (w : WF M) (hj : j < nS M) : XM G mX0_alignmentOf (d + 1) [.ref 1, .int (nI j)] σ (xF (some (.int (nI (ySA M j)))) σ) := by
  refine xm_of (by decide +kernel) rfl (Nat.le_of_ble_eq_true rfl) ?_
  refine bX0_alignmentOf_0 _ _ _ ?_
  try simp only [xi_iload, xi_aload, xi_lload, xi_istore, xi_astore, xi_lstore, xi_ic, xi_lc, xi_iinc, xi_iadd, xi_isub, xi_imul, xi_iand, xi_iushr, xi_ineg, xi_idiv, xi_irem, xi_ladd, xi_lmul, xi_lrem, xi_lcmp, xi_i2l, xi_l2i, xi_i2c, xi_dup, xi_dup2, xi_pop, xi_ifeq, xi_ifne, xi_iflt, xi_ifge, xi_ifgt, xi_ifle, xi_iceq, xi_icne, xi_iclt, xi_icge, xi_icgt, xi_icle, xi_iret, xi_zret, xi_lret, xi_vret, xi_getf, xi_putf, xi_ald, xi_ast, xi_alen, xi_callV, xi_callS, xpop, xroom, xl, xst, xok1, xok2, xnarrow, xwide, xone, xent, List.replicate, Option.isSome_some, Bool.and_self, Bool.true_and, Bool.and_true, List.length_cons, List.length_nil, Nat.reduceAdd, Nat.reduceLT, decide_true, Bool.not_false, Nat.beq, Nat.ble, Option.toList, List.nil_append, List.cons_append, xf_0_0, xf_0_1, xf_0_2, xf_0_3, xf_0_4, xf_0_5, xf_0_6, xf_0_7, xf_0_8, xf_0_9, xf_1_0, xf_1_1, xf_1_2, xf_1_3, xf_1_4, xf_2_0, xf_2_1, xf_2_2, xf_2_3, xf_2_4, xf_2_5, xf_2_6, xf_2_7, xf_3_0, xf_3_1, xf_3_2, xf_3_3, xf_3_4, xf_3_5, xf_3_6, xf_3_7, xf_4_0, xf_4_1, xf_4_2, xf_4_3, xf_4_4, xf_4_5, xf_4_6, xf_5_0, xf_5_1, xf_5_2, xf_5_3, xf_5_4, xf_5_5, xf_5_6, xf_5_7, xf_6_3, xf_7_3, xf_8_3, xf_9_3, xf_10_3, xf_11_3, xf_12_3, xf_13_3, xf_14_3, xf_15_3, xf_16_3]
  have hb : nS M ≤ 24 := w.1.2.1
  refine x_F (sX6_get (i := j) (c := 3) tab7 (by omega) (by decide)) ?_
  have e := h.2 1 (by decide) j hj 3 (by decide)
  change σ 32 (j * 6 + 3) = nI (ySA M j) at e
  rw [e]
  exact xF_self
theorem sX0_contentOf {j : Nat} (h : CI σ M) (w : WF M) (hj : j < nS M) : XM G mX0_contentOf (d + 1) [.ref 1, .int (nI j)] σ (xF (some (.int (nI (yST M j)))) σ) := by
  refine xm_of (by decide +kernel) rfl (Nat.le_of_ble_eq_true rfl) ?_
  refine bX0_contentOf_0 _ _ _ ?_
  try simp only [xi_iload, xi_aload, xi_lload, xi_istore, xi_astore, xi_lstore, xi_ic, xi_lc, xi_iinc, xi_iadd, xi_isub, xi_imul, xi_iand, xi_iushr, xi_ineg, xi_idiv, xi_irem, xi_ladd, xi_lmul, xi_lrem, xi_lcmp, xi_i2l, xi_l2i, xi_i2c, xi_dup, xi_dup2, xi_pop, xi_ifeq, xi_ifne, xi_iflt, xi_ifge, xi_ifgt, xi_ifle, xi_iceq, xi_icne, xi_iclt, xi_icge, xi_icgt, xi_icle, xi_iret, xi_zret, xi_lret, xi_vret, xi_getf, xi_putf, xi_ald, xi_ast, xi_alen, xi_callV, xi_callS, xpop, xroom, xl, xst, xok1, xok2, xnarrow, xwide, xone, xent, List.replicate, Option.isSome_some, Bool.and_self, Bool.true_and, Bool.and_true, List.length_cons, List.length_nil, Nat.reduceAdd, Nat.reduceLT, decide_true, Bool.not_false, Nat.beq, Nat.ble, Option.toList, List.nil_append, List.cons_append, xf_0_0, xf_0_1, xf_0_2, xf_0_3, xf_0_4, xf_0_5, xf_0_6, xf_0_7, xf_0_8, xf_0_9, xf_1_0, xf_1_1, xf_1_2, xf_1_3, xf_1_4, xf_2_0, xf_2_1, xf_2_2, xf_2_3, xf_2_4, xf_2_5, xf_2_6, xf_2_7, xf_3_0, xf_3_1, xf_3_2, xf_3_3, xf_3_4, xf_3_5, xf_3_6, xf_3_7, xf_4_0, xf_4_1, xf_4_2, xf_4_3, xf_4_4, xf_4_5, xf_4_6, xf_5_0, xf_5_1, xf_5_2, xf_5_3, xf_5_4, xf_5_5, xf_5_6, xf_5_7, xf_6_3, xf_7_3, xf_8_3, xf_9_3, xf_10_3, xf_11_3, xf_12_3, xf_13_3, xf_14_3, xf_15_3, xf_16_3]
  have hb : nS M ≤ 24 := w.1.2.1
  refine x_F (sX6_get (i := j) (c := 4) tab7 (by omega) (by decide)) ?_
  have e := h.2 1 (by decide) j hj 4 (by decide)
  change σ 32 (j * 6 + 4) = nI (yST M j) at e
  rw [e]
  exact xF_self
theorem sX0_isKeptSection {j : Nat} (h : CI σ M) (w : WF M) (hj : j < nS M) : XM G mX0_isKeptSection (d + 1) [.ref 1, .int (nI j)] σ (xF (some (.int (b2i (ySK M j == 1)))) σ) := by
  refine xm_of (by decide +kernel) rfl (Nat.le_of_ble_eq_true rfl) ?_
  refine bX0_isKeptSection_0 _ _ _ ?_
  try simp only [xi_iload, xi_aload, xi_lload, xi_istore, xi_astore, xi_lstore, xi_ic, xi_lc, xi_iinc, xi_iadd, xi_isub, xi_imul, xi_iand, xi_iushr, xi_ineg, xi_idiv, xi_irem, xi_ladd, xi_lmul, xi_lrem, xi_lcmp, xi_i2l, xi_l2i, xi_i2c, xi_dup, xi_dup2, xi_pop, xi_ifeq, xi_ifne, xi_iflt, xi_ifge, xi_ifgt, xi_ifle, xi_iceq, xi_icne, xi_iclt, xi_icge, xi_icgt, xi_icle, xi_iret, xi_zret, xi_lret, xi_vret, xi_getf, xi_putf, xi_ald, xi_ast, xi_alen, xi_callV, xi_callS, xpop, xroom, xl, xst, xok1, xok2, xnarrow, xwide, xone, xent, List.replicate, Option.isSome_some, Bool.and_self, Bool.true_and, Bool.and_true, List.length_cons, List.length_nil, Nat.reduceAdd, Nat.reduceLT, decide_true, Bool.not_false, Nat.beq, Nat.ble, Option.toList, List.nil_append, List.cons_append, xf_0_0, xf_0_1, xf_0_2, xf_0_3, xf_0_4, xf_0_5, xf_0_6, xf_0_7, xf_0_8, xf_0_9, xf_1_0, xf_1_1, xf_1_2, xf_1_3, xf_1_4, xf_2_0, xf_2_1, xf_2_2, xf_2_3, xf_2_4, xf_2_5, xf_2_6, xf_2_7, xf_3_0, xf_3_1, xf_3_2, xf_3_3, xf_3_4, xf_3_5, xf_3_6, xf_3_7, xf_4_0, xf_4_1, xf_4_2, xf_4_3, xf_4_4, xf_4_5, xf_4_6, xf_5_0, xf_5_1, xf_5_2, xf_5_3, xf_5_4, xf_5_5, xf_5_6, xf_5_7, xf_6_3, xf_7_3, xf_8_3, xf_9_3, xf_10_3, xf_11_3, xf_12_3, xf_13_3, xf_14_3, xf_15_3, xf_16_3]
  have hb : nS M ≤ 24 := w.1.2.1
  refine x_F (sX6_get (i := j) (c := 5) tab7 (by omega) (by decide)) ?_
  have e := h.2 1 (by decide) j hj 5 (by decide)
  change σ 32 (j * 6 + 5) = nI (ySK M j) at e
  rw [e]
  have hv : ySK M j ≤ 1 := (w.2.2.1 j hj).2.2.2.2.2
  try simp only [xi_iload, xi_aload, xi_lload, xi_istore, xi_astore, xi_lstore, xi_ic, xi_lc, xi_iinc, xi_iadd, xi_isub, xi_imul, xi_iand, xi_iushr, xi_ineg, xi_idiv, xi_irem, xi_ladd, xi_lmul, xi_lrem, xi_lcmp, xi_i2l, xi_l2i, xi_i2c, xi_dup, xi_dup2, xi_pop, xi_ifeq, xi_ifne, xi_iflt, xi_ifge, xi_ifgt, xi_ifle, xi_iceq, xi_icne, xi_iclt, xi_icge, xi_icgt, xi_icle, xi_iret, xi_zret, xi_lret, xi_vret, xi_getf, xi_putf, xi_ald, xi_ast, xi_alen, xi_callV, xi_callS, xpop, xroom, xl, xst, xok1, xok2, xnarrow, xwide, xone, xent, List.replicate, Option.isSome_some, Bool.and_self, Bool.true_and, Bool.and_true, List.length_cons, List.length_nil, Nat.reduceAdd, Nat.reduceLT, decide_true, Bool.not_false, Nat.beq, Nat.ble, Option.toList, List.nil_append, List.cons_append]
  rcases (show ySK M j = 0 ∨ ySK M j = 1 by omega) with q | q
  · rw [q]; exact ⟨fun _ => ⟨by decide +kernel, xF_self⟩, fun z => absurd z (by decide)⟩
  · rw [q]; exact ⟨fun z => absurd rfl z, fun _ => ⟨by decide +kernel, xF_self⟩⟩
theorem sX0_definerOf {j : Nat} (h : CI σ M) (w : WF M) (hj : j < nD M) : XM G mX0_definerOf (d + 1) [.ref 1, .int (nI j)] σ (xF (some (.int (nI (yDS M j)))) σ) := by
  refine xm_of (by decide +kernel) rfl (Nat.le_of_ble_eq_true rfl) ?_
  refine bX0_definerOf_0 _ _ _ ?_
  try simp only [xi_iload, xi_aload, xi_lload, xi_istore, xi_astore, xi_lstore, xi_ic, xi_lc, xi_iinc, xi_iadd, xi_isub, xi_imul, xi_iand, xi_iushr, xi_ineg, xi_idiv, xi_irem, xi_ladd, xi_lmul, xi_lrem, xi_lcmp, xi_i2l, xi_l2i, xi_i2c, xi_dup, xi_dup2, xi_pop, xi_ifeq, xi_ifne, xi_iflt, xi_ifge, xi_ifgt, xi_ifle, xi_iceq, xi_icne, xi_iclt, xi_icge, xi_icgt, xi_icle, xi_iret, xi_zret, xi_lret, xi_vret, xi_getf, xi_putf, xi_ald, xi_ast, xi_alen, xi_callV, xi_callS, xpop, xroom, xl, xst, xok1, xok2, xnarrow, xwide, xone, xent, List.replicate, Option.isSome_some, Bool.and_self, Bool.true_and, Bool.and_true, List.length_cons, List.length_nil, Nat.reduceAdd, Nat.reduceLT, decide_true, Bool.not_false, Nat.beq, Nat.ble, Option.toList, List.nil_append, List.cons_append, xf_0_0, xf_0_1, xf_0_2, xf_0_3, xf_0_4, xf_0_5, xf_0_6, xf_0_7, xf_0_8, xf_0_9, xf_1_0, xf_1_1, xf_1_2, xf_1_3, xf_1_4, xf_2_0, xf_2_1, xf_2_2, xf_2_3, xf_2_4, xf_2_5, xf_2_6, xf_2_7, xf_3_0, xf_3_1, xf_3_2, xf_3_3, xf_3_4, xf_3_5, xf_3_6, xf_3_7, xf_4_0, xf_4_1, xf_4_2, xf_4_3, xf_4_4, xf_4_5, xf_4_6, xf_5_0, xf_5_1, xf_5_2, xf_5_3, xf_5_4, xf_5_5, xf_5_6, xf_5_7, xf_6_3, xf_7_3, xf_8_3, xf_9_3, xf_10_3, xf_11_3, xf_12_3, xf_13_3, xf_14_3, xf_15_3, xf_16_3]
  have hb : nD M ≤ 40 := w.1.2.2.1
  refine x_F (sX6_get (i := j) (c := 0) tab8 (by omega) (by decide)) ?_
  have e := h.2 2 (by decide) j hj 0 (by decide)
  change σ 33 (j * 5 + 0) = nI (yDS M j) at e
  rw [e]
  exact xF_self
theorem sX0_nameDefined {j : Nat} (h : CI σ M) (w : WF M) (hj : j < nD M) : XM G mX0_nameDefined (d + 1) [.ref 1, .int (nI j)] σ (xF (some (.int (nI (yDN M j)))) σ) := by
  refine xm_of (by decide +kernel) rfl (Nat.le_of_ble_eq_true rfl) ?_
  refine bX0_nameDefined_0 _ _ _ ?_
  try simp only [xi_iload, xi_aload, xi_lload, xi_istore, xi_astore, xi_lstore, xi_ic, xi_lc, xi_iinc, xi_iadd, xi_isub, xi_imul, xi_iand, xi_iushr, xi_ineg, xi_idiv, xi_irem, xi_ladd, xi_lmul, xi_lrem, xi_lcmp, xi_i2l, xi_l2i, xi_i2c, xi_dup, xi_dup2, xi_pop, xi_ifeq, xi_ifne, xi_iflt, xi_ifge, xi_ifgt, xi_ifle, xi_iceq, xi_icne, xi_iclt, xi_icge, xi_icgt, xi_icle, xi_iret, xi_zret, xi_lret, xi_vret, xi_getf, xi_putf, xi_ald, xi_ast, xi_alen, xi_callV, xi_callS, xpop, xroom, xl, xst, xok1, xok2, xnarrow, xwide, xone, xent, List.replicate, Option.isSome_some, Bool.and_self, Bool.true_and, Bool.and_true, List.length_cons, List.length_nil, Nat.reduceAdd, Nat.reduceLT, decide_true, Bool.not_false, Nat.beq, Nat.ble, Option.toList, List.nil_append, List.cons_append, xf_0_0, xf_0_1, xf_0_2, xf_0_3, xf_0_4, xf_0_5, xf_0_6, xf_0_7, xf_0_8, xf_0_9, xf_1_0, xf_1_1, xf_1_2, xf_1_3, xf_1_4, xf_2_0, xf_2_1, xf_2_2, xf_2_3, xf_2_4, xf_2_5, xf_2_6, xf_2_7, xf_3_0, xf_3_1, xf_3_2, xf_3_3, xf_3_4, xf_3_5, xf_3_6, xf_3_7, xf_4_0, xf_4_1, xf_4_2, xf_4_3, xf_4_4, xf_4_5, xf_4_6, xf_5_0, xf_5_1, xf_5_2, xf_5_3, xf_5_4, xf_5_5, xf_5_6, xf_5_7, xf_6_3, xf_7_3, xf_8_3, xf_9_3, xf_10_3, xf_11_3, xf_12_3, xf_13_3, xf_14_3, xf_15_3, xf_16_3]
  have hb : nD M ≤ 40 := w.1.2.2.1
  refine x_F (sX6_get (i := j) (c := 1) tab8 (by omega) (by decide)) ?_
  have e := h.2 2 (by decide) j hj 1 (by decide)
  change σ 33 (j * 5 + 1) = nI (yDN M j) at e
  rw [e]
  exact xF_self
theorem sX0_offsetDefined {j : Nat} (h : CI σ M) (w : WF M) (hj : j < nD M) : XM G mX0_offsetDefined (d + 1) [.ref 1, .int (nI j)] σ (xF (some (.int (nI (yDF M j)))) σ) := by
  refine xm_of (by decide +kernel) rfl (Nat.le_of_ble_eq_true rfl) ?_
  refine bX0_offsetDefined_0 _ _ _ ?_
  try simp only [xi_iload, xi_aload, xi_lload, xi_istore, xi_astore, xi_lstore, xi_ic, xi_lc, xi_iinc, xi_iadd, xi_isub, xi_imul, xi_iand, xi_iushr, xi_ineg, xi_idiv, xi_irem, xi_ladd, xi_lmul, xi_lrem, xi_lcmp, xi_i2l, xi_l2i, xi_i2c, xi_dup, xi_dup2, xi_pop, xi_ifeq, xi_ifne, xi_iflt, xi_ifge, xi_ifgt, xi_ifle, xi_iceq, xi_icne, xi_iclt, xi_icge, xi_icgt, xi_icle, xi_iret, xi_zret, xi_lret, xi_vret, xi_getf, xi_putf, xi_ald, xi_ast, xi_alen, xi_callV, xi_callS, xpop, xroom, xl, xst, xok1, xok2, xnarrow, xwide, xone, xent, List.replicate, Option.isSome_some, Bool.and_self, Bool.true_and, Bool.and_true, List.length_cons, List.length_nil, Nat.reduceAdd, Nat.reduceLT, decide_true, Bool.not_false, Nat.beq, Nat.ble, Option.toList, List.nil_append, List.cons_append, xf_0_0, xf_0_1, xf_0_2, xf_0_3, xf_0_4, xf_0_5, xf_0_6, xf_0_7, xf_0_8, xf_0_9, xf_1_0, xf_1_1, xf_1_2, xf_1_3, xf_1_4, xf_2_0, xf_2_1, xf_2_2, xf_2_3, xf_2_4, xf_2_5, xf_2_6, xf_2_7, xf_3_0, xf_3_1, xf_3_2, xf_3_3, xf_3_4, xf_3_5, xf_3_6, xf_3_7, xf_4_0, xf_4_1, xf_4_2, xf_4_3, xf_4_4, xf_4_5, xf_4_6, xf_5_0, xf_5_1, xf_5_2, xf_5_3, xf_5_4, xf_5_5, xf_5_6, xf_5_7, xf_6_3, xf_7_3, xf_8_3, xf_9_3, xf_10_3, xf_11_3, xf_12_3, xf_13_3, xf_14_3, xf_15_3, xf_16_3]
  have hb : nD M ≤ 40 := w.1.2.2.1
  refine x_F (sX6_get (i := j) (c := 2) tab8 (by omega) (by decide)) ?_
  have e := h.2 2 (by decide) j hj 2 (by decide)
  change σ 33 (j * 5 + 2) = nI (yDF M j) at e
  rw [e]
  exact xF_self
theorem sX0_strengthOf {j : Nat} (h : CI σ M) (w : WF M) (hj : j < nD M) : XM G mX0_strengthOf (d + 1) [.ref 1, .int (nI j)] σ (xF (some (.int (nI (yDX M j)))) σ) := by
  refine xm_of (by decide +kernel) rfl (Nat.le_of_ble_eq_true rfl) ?_
  refine bX0_strengthOf_0 _ _ _ ?_
  try simp only [xi_iload, xi_aload, xi_lload, xi_istore, xi_astore, xi_lstore, xi_ic, xi_lc, xi_iinc, xi_iadd, xi_isub, xi_imul, xi_iand, xi_iushr, xi_ineg, xi_idiv, xi_irem, xi_ladd, xi_lmul, xi_lrem, xi_lcmp, xi_i2l, xi_l2i, xi_i2c, xi_dup, xi_dup2, xi_pop, xi_ifeq, xi_ifne, xi_iflt, xi_ifge, xi_ifgt, xi_ifle, xi_iceq, xi_icne, xi_iclt, xi_icge, xi_icgt, xi_icle, xi_iret, xi_zret, xi_lret, xi_vret, xi_getf, xi_putf, xi_ald, xi_ast, xi_alen, xi_callV, xi_callS, xpop, xroom, xl, xst, xok1, xok2, xnarrow, xwide, xone, xent, List.replicate, Option.isSome_some, Bool.and_self, Bool.true_and, Bool.and_true, List.length_cons, List.length_nil, Nat.reduceAdd, Nat.reduceLT, decide_true, Bool.not_false, Nat.beq, Nat.ble, Option.toList, List.nil_append, List.cons_append, xf_0_0, xf_0_1, xf_0_2, xf_0_3, xf_0_4, xf_0_5, xf_0_6, xf_0_7, xf_0_8, xf_0_9, xf_1_0, xf_1_1, xf_1_2, xf_1_3, xf_1_4, xf_2_0, xf_2_1, xf_2_2, xf_2_3, xf_2_4, xf_2_5, xf_2_6, xf_2_7, xf_3_0, xf_3_1, xf_3_2, xf_3_3, xf_3_4, xf_3_5, xf_3_6, xf_3_7, xf_4_0, xf_4_1, xf_4_2, xf_4_3, xf_4_4, xf_4_5, xf_4_6, xf_5_0, xf_5_1, xf_5_2, xf_5_3, xf_5_4, xf_5_5, xf_5_6, xf_5_7, xf_6_3, xf_7_3, xf_8_3, xf_9_3, xf_10_3, xf_11_3, xf_12_3, xf_13_3, xf_14_3, xf_15_3, xf_16_3]
  have hb : nD M ≤ 40 := w.1.2.2.1
  refine x_F (sX6_get (i := j) (c := 3) tab8 (by omega) (by decide)) ?_
  have e := h.2 2 (by decide) j hj 3 (by decide)
  change σ 33 (j * 5 + 3) = nI (yDX M j) at e
  rw [e]
  exact xF_self
theorem sX0_objectDefining {j : Nat} (h : CI σ M) (w : WF M) (hj : j < nD M) : XM G mX0_objectDefining (d + 1) [.ref 1, .int (nI j)] σ (xF (some (.int (nI (yDO M j)))) σ) := by
  refine xm_of (by decide +kernel) rfl (Nat.le_of_ble_eq_true rfl) ?_
  refine bX0_objectDefining_0 _ _ _ ?_
  try simp only [xi_iload, xi_aload, xi_lload, xi_istore, xi_astore, xi_lstore, xi_ic, xi_lc, xi_iinc, xi_iadd, xi_isub, xi_imul, xi_iand, xi_iushr, xi_ineg, xi_idiv, xi_irem, xi_ladd, xi_lmul, xi_lrem, xi_lcmp, xi_i2l, xi_l2i, xi_i2c, xi_dup, xi_dup2, xi_pop, xi_ifeq, xi_ifne, xi_iflt, xi_ifge, xi_ifgt, xi_ifle, xi_iceq, xi_icne, xi_iclt, xi_icge, xi_icgt, xi_icle, xi_iret, xi_zret, xi_lret, xi_vret, xi_getf, xi_putf, xi_ald, xi_ast, xi_alen, xi_callV, xi_callS, xpop, xroom, xl, xst, xok1, xok2, xnarrow, xwide, xone, xent, List.replicate, Option.isSome_some, Bool.and_self, Bool.true_and, Bool.and_true, List.length_cons, List.length_nil, Nat.reduceAdd, Nat.reduceLT, decide_true, Bool.not_false, Nat.beq, Nat.ble, Option.toList, List.nil_append, List.cons_append, xf_0_0, xf_0_1, xf_0_2, xf_0_3, xf_0_4, xf_0_5, xf_0_6, xf_0_7, xf_0_8, xf_0_9, xf_1_0, xf_1_1, xf_1_2, xf_1_3, xf_1_4, xf_2_0, xf_2_1, xf_2_2, xf_2_3, xf_2_4, xf_2_5, xf_2_6, xf_2_7, xf_3_0, xf_3_1, xf_3_2, xf_3_3, xf_3_4, xf_3_5, xf_3_6, xf_3_7, xf_4_0, xf_4_1, xf_4_2, xf_4_3, xf_4_4, xf_4_5, xf_4_6, xf_5_0, xf_5_1, xf_5_2, xf_5_3, xf_5_4, xf_5_5, xf_5_6, xf_5_7, xf_6_3, xf_7_3, xf_8_3, xf_9_3, xf_10_3, xf_11_3, xf_12_3, xf_13_3, xf_14_3, xf_15_3, xf_16_3]
  have hb : nD M ≤ 40 := w.1.2.2.1
  refine x_F (sX6_get (i := j) (c := 4) tab8 (by omega) (by decide)) ?_
  have e := h.2 2 (by decide) j hj 4 (by decide)
  change σ 33 (j * 5 + 4) = nI (yDO M j) at e
  rw [e]
  exact xF_self
theorem sX0_commonObject {j : Nat} (h : CI σ M) (w : WF M) (hj : j < nC M) : XM G mX0_commonObject (d + 1) [.ref 1, .int (nI j)] σ (xF (some (.int (nI (yCO M j)))) σ) := by
  refine xm_of (by decide +kernel) rfl (Nat.le_of_ble_eq_true rfl) ?_
  refine bX0_commonObject_0 _ _ _ ?_
  try simp only [xi_iload, xi_aload, xi_lload, xi_istore, xi_astore, xi_lstore, xi_ic, xi_lc, xi_iinc, xi_iadd, xi_isub, xi_imul, xi_iand, xi_iushr, xi_ineg, xi_idiv, xi_irem, xi_ladd, xi_lmul, xi_lrem, xi_lcmp, xi_i2l, xi_l2i, xi_i2c, xi_dup, xi_dup2, xi_pop, xi_ifeq, xi_ifne, xi_iflt, xi_ifge, xi_ifgt, xi_ifle, xi_iceq, xi_icne, xi_iclt, xi_icge, xi_icgt, xi_icle, xi_iret, xi_zret, xi_lret, xi_vret, xi_getf, xi_putf, xi_ald, xi_ast, xi_alen, xi_callV, xi_callS, xpop, xroom, xl, xst, xok1, xok2, xnarrow, xwide, xone, xent, List.replicate, Option.isSome_some, Bool.and_self, Bool.true_and, Bool.and_true, List.length_cons, List.length_nil, Nat.reduceAdd, Nat.reduceLT, decide_true, Bool.not_false, Nat.beq, Nat.ble, Option.toList, List.nil_append, List.cons_append, xf_0_0, xf_0_1, xf_0_2, xf_0_3, xf_0_4, xf_0_5, xf_0_6, xf_0_7, xf_0_8, xf_0_9, xf_1_0, xf_1_1, xf_1_2, xf_1_3, xf_1_4, xf_2_0, xf_2_1, xf_2_2, xf_2_3, xf_2_4, xf_2_5, xf_2_6, xf_2_7, xf_3_0, xf_3_1, xf_3_2, xf_3_3, xf_3_4, xf_3_5, xf_3_6, xf_3_7, xf_4_0, xf_4_1, xf_4_2, xf_4_3, xf_4_4, xf_4_5, xf_4_6, xf_5_0, xf_5_1, xf_5_2, xf_5_3, xf_5_4, xf_5_5, xf_5_6, xf_5_7, xf_6_3, xf_7_3, xf_8_3, xf_9_3, xf_10_3, xf_11_3, xf_12_3, xf_13_3, xf_14_3, xf_15_3, xf_16_3]
  have hb : nC M ≤ 160 := w.1.2.2.2.1
  refine x_F (sX6_get (i := j) (c := 0) tab9 (by omega) (by decide)) ?_
  have e := h.2 3 (by decide) j hj 0 (by decide)
  change σ 34 (j * 3 + 0) = nI (yCO M j) at e
  rw [e]
  exact xF_self
theorem sX0_commonName {j : Nat} (h : CI σ M) (w : WF M) (hj : j < nC M) : XM G mX0_commonName (d + 1) [.ref 1, .int (nI j)] σ (xF (some (.int (nI (yCN M j)))) σ) := by
  refine xm_of (by decide +kernel) rfl (Nat.le_of_ble_eq_true rfl) ?_
  refine bX0_commonName_0 _ _ _ ?_
  try simp only [xi_iload, xi_aload, xi_lload, xi_istore, xi_astore, xi_lstore, xi_ic, xi_lc, xi_iinc, xi_iadd, xi_isub, xi_imul, xi_iand, xi_iushr, xi_ineg, xi_idiv, xi_irem, xi_ladd, xi_lmul, xi_lrem, xi_lcmp, xi_i2l, xi_l2i, xi_i2c, xi_dup, xi_dup2, xi_pop, xi_ifeq, xi_ifne, xi_iflt, xi_ifge, xi_ifgt, xi_ifle, xi_iceq, xi_icne, xi_iclt, xi_icge, xi_icgt, xi_icle, xi_iret, xi_zret, xi_lret, xi_vret, xi_getf, xi_putf, xi_ald, xi_ast, xi_alen, xi_callV, xi_callS, xpop, xroom, xl, xst, xok1, xok2, xnarrow, xwide, xone, xent, List.replicate, Option.isSome_some, Bool.and_self, Bool.true_and, Bool.and_true, List.length_cons, List.length_nil, Nat.reduceAdd, Nat.reduceLT, decide_true, Bool.not_false, Nat.beq, Nat.ble, Option.toList, List.nil_append, List.cons_append, xf_0_0, xf_0_1, xf_0_2, xf_0_3, xf_0_4, xf_0_5, xf_0_6, xf_0_7, xf_0_8, xf_0_9, xf_1_0, xf_1_1, xf_1_2, xf_1_3, xf_1_4, xf_2_0, xf_2_1, xf_2_2, xf_2_3, xf_2_4, xf_2_5, xf_2_6, xf_2_7, xf_3_0, xf_3_1, xf_3_2, xf_3_3, xf_3_4, xf_3_5, xf_3_6, xf_3_7, xf_4_0, xf_4_1, xf_4_2, xf_4_3, xf_4_4, xf_4_5, xf_4_6, xf_5_0, xf_5_1, xf_5_2, xf_5_3, xf_5_4, xf_5_5, xf_5_6, xf_5_7, xf_6_3, xf_7_3, xf_8_3, xf_9_3, xf_10_3, xf_11_3, xf_12_3, xf_13_3, xf_14_3, xf_15_3, xf_16_3]
  have hb : nC M ≤ 160 := w.1.2.2.2.1
  refine x_F (sX6_get (i := j) (c := 1) tab9 (by omega) (by decide)) ?_
  have e := h.2 3 (by decide) j hj 1 (by decide)
  change σ 34 (j * 3 + 1) = nI (yCN M j) at e
  rw [e]
  exact xF_self
theorem sX0_commonSize {j : Nat} (h : CI σ M) (w : WF M) (hj : j < nC M) : XM G mX0_commonSize (d + 1) [.ref 1, .int (nI j)] σ (xF (some (.int (nI (yCZ M j)))) σ) := by
  refine xm_of (by decide +kernel) rfl (Nat.le_of_ble_eq_true rfl) ?_
  refine bX0_commonSize_0 _ _ _ ?_
  try simp only [xi_iload, xi_aload, xi_lload, xi_istore, xi_astore, xi_lstore, xi_ic, xi_lc, xi_iinc, xi_iadd, xi_isub, xi_imul, xi_iand, xi_iushr, xi_ineg, xi_idiv, xi_irem, xi_ladd, xi_lmul, xi_lrem, xi_lcmp, xi_i2l, xi_l2i, xi_i2c, xi_dup, xi_dup2, xi_pop, xi_ifeq, xi_ifne, xi_iflt, xi_ifge, xi_ifgt, xi_ifle, xi_iceq, xi_icne, xi_iclt, xi_icge, xi_icgt, xi_icle, xi_iret, xi_zret, xi_lret, xi_vret, xi_getf, xi_putf, xi_ald, xi_ast, xi_alen, xi_callV, xi_callS, xpop, xroom, xl, xst, xok1, xok2, xnarrow, xwide, xone, xent, List.replicate, Option.isSome_some, Bool.and_self, Bool.true_and, Bool.and_true, List.length_cons, List.length_nil, Nat.reduceAdd, Nat.reduceLT, decide_true, Bool.not_false, Nat.beq, Nat.ble, Option.toList, List.nil_append, List.cons_append, xf_0_0, xf_0_1, xf_0_2, xf_0_3, xf_0_4, xf_0_5, xf_0_6, xf_0_7, xf_0_8, xf_0_9, xf_1_0, xf_1_1, xf_1_2, xf_1_3, xf_1_4, xf_2_0, xf_2_1, xf_2_2, xf_2_3, xf_2_4, xf_2_5, xf_2_6, xf_2_7, xf_3_0, xf_3_1, xf_3_2, xf_3_3, xf_3_4, xf_3_5, xf_3_6, xf_3_7, xf_4_0, xf_4_1, xf_4_2, xf_4_3, xf_4_4, xf_4_5, xf_4_6, xf_5_0, xf_5_1, xf_5_2, xf_5_3, xf_5_4, xf_5_5, xf_5_6, xf_5_7, xf_6_3, xf_7_3, xf_8_3, xf_9_3, xf_10_3, xf_11_3, xf_12_3, xf_13_3, xf_14_3, xf_15_3, xf_16_3]
  have hb : nC M ≤ 160 := w.1.2.2.2.1
  refine x_F (sX6_get (i := j) (c := 2) tab9 (by omega) (by decide)) ?_
  have e := h.2 3 (by decide) j hj 2 (by decide)
  change σ 34 (j * 3 + 2) = nI (yCZ M j) at e
  rw [e]
  exact xF_self
theorem sX0_sectionOf {j : Nat} (h : CI σ M) (w : WF M) (hj : j < nR M) : XM G mX0_sectionOf (d + 1) [.ref 1, .int (nI j)] σ (xF (some (.int (nI (yRS M j)))) σ) := by
  refine xm_of (by decide +kernel) rfl (Nat.le_of_ble_eq_true rfl) ?_
  refine bX0_sectionOf_0 _ _ _ ?_
  try simp only [xi_iload, xi_aload, xi_lload, xi_istore, xi_astore, xi_lstore, xi_ic, xi_lc, xi_iinc, xi_iadd, xi_isub, xi_imul, xi_iand, xi_iushr, xi_ineg, xi_idiv, xi_irem, xi_ladd, xi_lmul, xi_lrem, xi_lcmp, xi_i2l, xi_l2i, xi_i2c, xi_dup, xi_dup2, xi_pop, xi_ifeq, xi_ifne, xi_iflt, xi_ifge, xi_ifgt, xi_ifle, xi_iceq, xi_icne, xi_iclt, xi_icge, xi_icgt, xi_icle, xi_iret, xi_zret, xi_lret, xi_vret, xi_getf, xi_putf, xi_ald, xi_ast, xi_alen, xi_callV, xi_callS, xpop, xroom, xl, xst, xok1, xok2, xnarrow, xwide, xone, xent, List.replicate, Option.isSome_some, Bool.and_self, Bool.true_and, Bool.and_true, List.length_cons, List.length_nil, Nat.reduceAdd, Nat.reduceLT, decide_true, Bool.not_false, Nat.beq, Nat.ble, Option.toList, List.nil_append, List.cons_append, xf_0_0, xf_0_1, xf_0_2, xf_0_3, xf_0_4, xf_0_5, xf_0_6, xf_0_7, xf_0_8, xf_0_9, xf_1_0, xf_1_1, xf_1_2, xf_1_3, xf_1_4, xf_2_0, xf_2_1, xf_2_2, xf_2_3, xf_2_4, xf_2_5, xf_2_6, xf_2_7, xf_3_0, xf_3_1, xf_3_2, xf_3_3, xf_3_4, xf_3_5, xf_3_6, xf_3_7, xf_4_0, xf_4_1, xf_4_2, xf_4_3, xf_4_4, xf_4_5, xf_4_6, xf_5_0, xf_5_1, xf_5_2, xf_5_3, xf_5_4, xf_5_5, xf_5_6, xf_5_7, xf_6_3, xf_7_3, xf_8_3, xf_9_3, xf_10_3, xf_11_3, xf_12_3, xf_13_3, xf_14_3, xf_15_3, xf_16_3]
  have hb : nR M ≤ 40 := w.1.2.2.2.2
  refine x_F (sX6_get (i := j) (c := 0) tab10 (by omega) (by decide)) ?_
  have e := h.2 4 (by decide) j hj 0 (by decide)
  change σ 35 (j * 4 + 0) = nI (yRS M j) at e
  rw [e]
  exact xF_self
theorem sX0_offsetOf {j : Nat} (h : CI σ M) (w : WF M) (hj : j < nR M) : XM G mX0_offsetOf (d + 1) [.ref 1, .int (nI j)] σ (xF (some (.int (nI (yRF M j)))) σ) := by
  refine xm_of (by decide +kernel) rfl (Nat.le_of_ble_eq_true rfl) ?_
  refine bX0_offsetOf_0 _ _ _ ?_
  try simp only [xi_iload, xi_aload, xi_lload, xi_istore, xi_astore, xi_lstore, xi_ic, xi_lc, xi_iinc, xi_iadd, xi_isub, xi_imul, xi_iand, xi_iushr, xi_ineg, xi_idiv, xi_irem, xi_ladd, xi_lmul, xi_lrem, xi_lcmp, xi_i2l, xi_l2i, xi_i2c, xi_dup, xi_dup2, xi_pop, xi_ifeq, xi_ifne, xi_iflt, xi_ifge, xi_ifgt, xi_ifle, xi_iceq, xi_icne, xi_iclt, xi_icge, xi_icgt, xi_icle, xi_iret, xi_zret, xi_lret, xi_vret, xi_getf, xi_putf, xi_ald, xi_ast, xi_alen, xi_callV, xi_callS, xpop, xroom, xl, xst, xok1, xok2, xnarrow, xwide, xone, xent, List.replicate, Option.isSome_some, Bool.and_self, Bool.true_and, Bool.and_true, List.length_cons, List.length_nil, Nat.reduceAdd, Nat.reduceLT, decide_true, Bool.not_false, Nat.beq, Nat.ble, Option.toList, List.nil_append, List.cons_append, xf_0_0, xf_0_1, xf_0_2, xf_0_3, xf_0_4, xf_0_5, xf_0_6, xf_0_7, xf_0_8, xf_0_9, xf_1_0, xf_1_1, xf_1_2, xf_1_3, xf_1_4, xf_2_0, xf_2_1, xf_2_2, xf_2_3, xf_2_4, xf_2_5, xf_2_6, xf_2_7, xf_3_0, xf_3_1, xf_3_2, xf_3_3, xf_3_4, xf_3_5, xf_3_6, xf_3_7, xf_4_0, xf_4_1, xf_4_2, xf_4_3, xf_4_4, xf_4_5, xf_4_6, xf_5_0, xf_5_1, xf_5_2, xf_5_3, xf_5_4, xf_5_5, xf_5_6, xf_5_7, xf_6_3, xf_7_3, xf_8_3, xf_9_3, xf_10_3, xf_11_3, xf_12_3, xf_13_3, xf_14_3, xf_15_3, xf_16_3]
  have hb : nR M ≤ 40 := w.1.2.2.2.2
  refine x_F (sX6_get (i := j) (c := 1) tab10 (by omega) (by decide)) ?_
  have e := h.2 4 (by decide) j hj 1 (by decide)
  change σ 35 (j * 4 + 1) = nI (yRF M j) at e
  rw [e]
  exact xF_self
theorem sX0_nameOf {j : Nat} (h : CI σ M) (w : WF M) (hj : j < nR M) : XM G mX0_nameOf (d + 1) [.ref 1, .int (nI j)] σ (xF (some (.int (nI (yRN M j)))) σ) := by
  refine xm_of (by decide +kernel) rfl (Nat.le_of_ble_eq_true rfl) ?_
  refine bX0_nameOf_0 _ _ _ ?_
  try simp only [xi_iload, xi_aload, xi_lload, xi_istore, xi_astore, xi_lstore, xi_ic, xi_lc, xi_iinc, xi_iadd, xi_isub, xi_imul, xi_iand, xi_iushr, xi_ineg, xi_idiv, xi_irem, xi_ladd, xi_lmul, xi_lrem, xi_lcmp, xi_i2l, xi_l2i, xi_i2c, xi_dup, xi_dup2, xi_pop, xi_ifeq, xi_ifne, xi_iflt, xi_ifge, xi_ifgt, xi_ifle, xi_iceq, xi_icne, xi_iclt, xi_icge, xi_icgt, xi_icle, xi_iret, xi_zret, xi_lret, xi_vret, xi_getf, xi_putf, xi_ald, xi_ast, xi_alen, xi_callV, xi_callS, xpop, xroom, xl, xst, xok1, xok2, xnarrow, xwide, xone, xent, List.replicate, Option.isSome_some, Bool.and_self, Bool.true_and, Bool.and_true, List.length_cons, List.length_nil, Nat.reduceAdd, Nat.reduceLT, decide_true, Bool.not_false, Nat.beq, Nat.ble, Option.toList, List.nil_append, List.cons_append, xf_0_0, xf_0_1, xf_0_2, xf_0_3, xf_0_4, xf_0_5, xf_0_6, xf_0_7, xf_0_8, xf_0_9, xf_1_0, xf_1_1, xf_1_2, xf_1_3, xf_1_4, xf_2_0, xf_2_1, xf_2_2, xf_2_3, xf_2_4, xf_2_5, xf_2_6, xf_2_7, xf_3_0, xf_3_1, xf_3_2, xf_3_3, xf_3_4, xf_3_5, xf_3_6, xf_3_7, xf_4_0, xf_4_1, xf_4_2, xf_4_3, xf_4_4, xf_4_5, xf_4_6, xf_5_0, xf_5_1, xf_5_2, xf_5_3, xf_5_4, xf_5_5, xf_5_6, xf_5_7, xf_6_3, xf_7_3, xf_8_3, xf_9_3, xf_10_3, xf_11_3, xf_12_3, xf_13_3, xf_14_3, xf_15_3, xf_16_3]
  have hb : nR M ≤ 40 := w.1.2.2.2.2
  refine x_F (sX6_get (i := j) (c := 2) tab10 (by omega) (by decide)) ?_
  have e := h.2 4 (by decide) j hj 2 (by decide)
  change σ 35 (j * 4 + 2) = nI (yRN M j) at e
  rw [e]
  exact xF_self
theorem sX0_isCall {j : Nat} (h : CI σ M) (w : WF M) (hj : j < nR M) : XM G mX0_isCall (d + 1) [.ref 1, .int (nI j)] σ (xF (some (.int (b2i (yRK M j == 99)))) σ) := by
  refine xm_of (by decide +kernel) rfl (Nat.le_of_ble_eq_true rfl) ?_
  refine bX0_isCall_0 _ _ _ ?_
  try simp only [xi_iload, xi_aload, xi_lload, xi_istore, xi_astore, xi_lstore, xi_ic, xi_lc, xi_iinc, xi_iadd, xi_isub, xi_imul, xi_iand, xi_iushr, xi_ineg, xi_idiv, xi_irem, xi_ladd, xi_lmul, xi_lrem, xi_lcmp, xi_i2l, xi_l2i, xi_i2c, xi_dup, xi_dup2, xi_pop, xi_ifeq, xi_ifne, xi_iflt, xi_ifge, xi_ifgt, xi_ifle, xi_iceq, xi_icne, xi_iclt, xi_icge, xi_icgt, xi_icle, xi_iret, xi_zret, xi_lret, xi_vret, xi_getf, xi_putf, xi_ald, xi_ast, xi_alen, xi_callV, xi_callS, xpop, xroom, xl, xst, xok1, xok2, xnarrow, xwide, xone, xent, List.replicate, Option.isSome_some, Bool.and_self, Bool.true_and, Bool.and_true, List.length_cons, List.length_nil, Nat.reduceAdd, Nat.reduceLT, decide_true, Bool.not_false, Nat.beq, Nat.ble, Option.toList, List.nil_append, List.cons_append, xf_0_0, xf_0_1, xf_0_2, xf_0_3, xf_0_4, xf_0_5, xf_0_6, xf_0_7, xf_0_8, xf_0_9, xf_1_0, xf_1_1, xf_1_2, xf_1_3, xf_1_4, xf_2_0, xf_2_1, xf_2_2, xf_2_3, xf_2_4, xf_2_5, xf_2_6, xf_2_7, xf_3_0, xf_3_1, xf_3_2, xf_3_3, xf_3_4, xf_3_5, xf_3_6, xf_3_7, xf_4_0, xf_4_1, xf_4_2, xf_4_3, xf_4_4, xf_4_5, xf_4_6, xf_5_0, xf_5_1, xf_5_2, xf_5_3, xf_5_4, xf_5_5, xf_5_6, xf_5_7, xf_6_3, xf_7_3, xf_8_3, xf_9_3, xf_10_3, xf_11_3, xf_12_3, xf_13_3, xf_14_3, xf_15_3, xf_16_3]
  have hb : nR M ≤ 40 := w.1.2.2.2.2
  refine x_F (sX6_get (i := j) (c := 3) tab10 (by omega) (by decide)) ?_
  have e := h.2 4 (by decide) j hj 3 (by decide)
  change σ 35 (j * 4 + 3) = nI (yRK M j) at e
  rw [e]
  try simp only [xi_iload, xi_aload, xi_lload, xi_istore, xi_astore, xi_lstore, xi_ic, xi_lc, xi_iinc, xi_iadd, xi_isub, xi_imul, xi_iand, xi_iushr, xi_ineg, xi_idiv, xi_irem, xi_ladd, xi_lmul, xi_lrem, xi_lcmp, xi_i2l, xi_l2i, xi_i2c, xi_dup, xi_dup2, xi_pop, xi_ifeq, xi_ifne, xi_iflt, xi_ifge, xi_ifgt, xi_ifle, xi_iceq, xi_icne, xi_iclt, xi_icge, xi_icgt, xi_icle, xi_iret, xi_zret, xi_lret, xi_vret, xi_getf, xi_putf, xi_ald, xi_ast, xi_alen, xi_callV, xi_callS, xpop, xroom, xl, xst, xok1, xok2, xnarrow, xwide, xone, xent, List.replicate, Option.isSome_some, Bool.and_self, Bool.true_and, Bool.and_true, List.length_cons, List.length_nil, Nat.reduceAdd, Nat.reduceLT, decide_true, Bool.not_false, Nat.beq, Nat.ble, Option.toList, List.nil_append, List.cons_append]
  rcases (w.2.2.2.2.2.2.1 j hj).2.2.2 with q | q
  · rw [q]; exact ⟨fun z => absurd rfl z, fun _ => ⟨by decide +kernel, xF_self⟩⟩
  · rw [q]; exact ⟨fun _ => ⟨by decide +kernel, xF_self⟩, fun z => absurd z (by decide)⟩
end S21
