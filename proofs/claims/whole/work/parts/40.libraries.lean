/-! libraries: N mirrors the class's cells -/
section S40
variable {G : XG} {d : Nat} {σ τ : Sg} {N : YM}
def libc (c i : Nat) : Bool := match c with
  | 13 => i == 3
  | 15 => i == 3
  | 38 => decide (i < 128)
  | 39 => decide (i < 64)
  | 40 => decide (i < 8)
  | 41 => decide (i < 1280)
  | 51 => decide (i < 8)
  | 52 => decide (i < 8)
  | 53 => decide (i < 8)
  | 54 => decide (i < 8)
  | _ => false
def LI (σ : Sg) (N : YM) : Prop := ∀ c i, libc c i = true → σ c i = nI (N c i)
def yU (N : YM) (f i v : Nat) : YM := fun g j => if g = f ∧ j = i then v else N g j
abbrev libl : List Nat := [13, 15, 38, 39, 40, 41, 51, 52, 53, 54]
theorem LI.up {c i v : Nat} (h : LI σ N) : LI (xup σ c i (nI v)) (yU N c i v) := by
  intro c2 i2 hc
  rw [xup_ap]
  unfold yU
  by_cases hq : c2 = c ∧ i2 = i
  · rw [if_pos hq, if_pos hq]
  · rw [if_neg hq, if_neg hq]; exact h c2 i2 hc
theorem LI.congr {N' : YM} (h : LI σ N) (he : ∀ c i, libc c i = true → N c i = N' c i) : LI σ N' := fun c i hc => by rw [← he c i hc]; exact h c i hc
theorem LI.same {l : List Nat} (h : LI σ N) (hs : xsame l σ τ) (hl : l.all (fun r => !libl.contains r) = true) : LI τ N := by
  intro c i hc
  have h2 : l.contains c = false := by
    cases hcc : l.contains c with
    | false => rfl
    | true =>
      have h3 := List.all_eq_true.mp hl c (by simpa using hcc)
      unfold libc at hc
      split at hc <;> first | (exact absurd h3 (by decide)) | cases hc
  rw [hs.at h2]
  exact h c i hc
abbrev nL (N : YM) : Nat := N 13 3
abbrev nSt (N : YM) : Nat := N 15 3
theorem LI.nL (h : LI σ N) : σ 13 3 = nI (nL N) := h 13 3 rfl
theorem LI.nS (h : LI σ N) : σ 15 3 = nI (nSt N) := h 15 3 rfl
theorem LI.ver (h : LI σ N) {l n : Nat} (hl : l < 8) (hn : n < 16) : σ 38 (l * 16 + n) = nI (N 38 (l * 16 + n)) := h 38 _ (by simp [libc]; omega)
theorem LI.need (h : LI σ N) {l n : Nat} (hl : l < 8) (hn : n < 8) : σ 39 (l * 8 + n) = nI (N 39 (l * 8 + n)) := h 39 _ (by simp [libc]; omega)
theorem LI.ord (h : LI σ N) {k : Nat} (hk : k < 8) : σ 40 (k * 1 + 0) = nI (N 40 k) := by
  rw [show k * 1 + 0 = k by omega]
  exact h 40 k (by simp [libc]; omega)
theorem LI.bnd (h : LI σ N) {r v : Nat} (hr : r < 128) (hv : v < 10) : σ 41 (r * 10 + v) = nI (N 41 (r * 10 + v)) := h 41 _ (by simp [libc]; omega)
theorem LI.cnt (h : LI σ N) {k : Nat} (hk : k < 8) : σ 51 k = nI (N 51 k) := h 51 _ (by simp [libc]; omega)
theorem LI.uw (h : LI σ N) {k : Nat} (hk : k < 8) : σ 52 k = nI (N 52 k) := h 52 _ (by simp [libc]; omega)
theorem LI.pl (h : LI σ N) {k : Nat} (hk : k < 8) : σ 53 k = nI (N 53 k) := h 53 _ (by simp [libc]; omega)
theorem LI.lv (h : LI σ N) {k : Nat} (hk : k < 8) : σ 54 k = nI (N 54 k) := h 54 _ (by simp [libc]; omega)
def yLd (N : YM) (l : Nat) : Bool := anyB (fun k => N 40 k == l) (nSt N)
def yNd (N : YM) (l o : Nat) : Bool := N 39 (l * 8 + o) == 1
theorem sX2_isFull (h : LI σ N) (hb : nL N ≤ 8) : XM G mX2_isFull (d + 1) [.ref 5] σ (xF (some (.int (if 8 ≤ nL N then 1 else 0))) σ) := by
  refine xm_of (by decide +kernel) rfl (Nat.le_of_ble_eq_true rfl) ?_
  refine bX2_isFull_0 _ _ _ ?_
  try simp only [xi_iload, xi_aload, xi_lload, xi_istore, xi_astore, xi_lstore, xi_ic, xi_lc, xi_iinc, xi_iadd, xi_isub, xi_imul, xi_iand, xi_iushr, xi_ineg, xi_idiv, xi_irem, xi_ladd, xi_lmul, xi_lrem, xi_lcmp, xi_i2l, xi_l2i, xi_i2c, xi_dup, xi_dup2, xi_pop, xi_ifeq, xi_ifne, xi_iflt, xi_ifge, xi_ifgt, xi_ifle, xi_iceq, xi_icne, xi_iclt, xi_icge, xi_icgt, xi_icle, xi_iret, xi_zret, xi_lret, xi_vret, xi_getf, xi_putf, xi_ald, xi_ast, xi_alen, xi_callV, xi_callS, xpop, xroom, xl, xst, xok1, xok2, xnarrow, xwide, xone, xent, List.replicate, Option.isSome_some, Bool.and_self, Bool.true_and, Bool.and_true, List.length_cons, List.length_nil, Nat.reduceAdd, Nat.reduceLT, decide_true, Bool.not_false, Nat.beq, Nat.ble, Option.toList, List.nil_append, List.cons_append, xf_0_0, xf_0_1, xf_0_2, xf_0_3, xf_0_4, xf_0_5, xf_0_6, xf_0_7, xf_0_8, xf_0_9, xf_1_0, xf_1_1, xf_1_2, xf_1_3, xf_1_4, xf_2_0, xf_2_1, xf_2_2, xf_2_3, xf_2_4, xf_2_5, xf_2_6, xf_2_7, xf_3_0, xf_3_1, xf_3_2, xf_3_3, xf_3_4, xf_3_5, xf_3_6, xf_3_7, xf_4_0, xf_4_1, xf_4_2, xf_4_3, xf_4_4, xf_4_5, xf_4_6, xf_5_0, xf_5_1, xf_5_2, xf_5_3, xf_5_4, xf_5_5, xf_5_6, xf_5_7, xf_6_3, xf_7_3, xf_8_3, xf_9_3, xf_10_3, xf_11_3, xf_12_3, xf_13_3, xf_14_3, xf_15_3, xf_16_3]
  refine x_F (sX6_isFull tab13 h.nL (by omega)) ?_
  try simp only [xi_iload, xi_aload, xi_lload, xi_istore, xi_astore, xi_lstore, xi_ic, xi_lc, xi_iinc, xi_iadd, xi_isub, xi_imul, xi_iand, xi_iushr, xi_ineg, xi_idiv, xi_irem, xi_ladd, xi_lmul, xi_lrem, xi_lcmp, xi_i2l, xi_l2i, xi_i2c, xi_dup, xi_dup2, xi_pop, xi_ifeq, xi_ifne, xi_iflt, xi_ifge, xi_ifgt, xi_ifle, xi_iceq, xi_icne, xi_iclt, xi_icge, xi_icgt, xi_icle, xi_iret, xi_zret, xi_lret, xi_vret, xi_getf, xi_putf, xi_ald, xi_ast, xi_alen, xi_callV, xi_callS, xpop, xroom, xl, xst, xok1, xok2, xnarrow, xwide, xone, xent, List.replicate, Option.isSome_some, Bool.and_self, Bool.true_and, Bool.and_true, List.length_cons, List.length_nil, Nat.reduceAdd, Nat.reduceLT, decide_true, Bool.not_false, Nat.beq, Nat.ble, Option.toList, List.nil_append, List.cons_append, xf_0_0, xf_0_1, xf_0_2, xf_0_3, xf_0_4, xf_0_5, xf_0_6, xf_0_7, xf_0_8, xf_0_9, xf_1_0, xf_1_1, xf_1_2, xf_1_3, xf_1_4, xf_2_0, xf_2_1, xf_2_2, xf_2_3, xf_2_4, xf_2_5, xf_2_6, xf_2_7, xf_3_0, xf_3_1, xf_3_2, xf_3_3, xf_3_4, xf_3_5, xf_3_6, xf_3_7, xf_4_0, xf_4_1, xf_4_2, xf_4_3, xf_4_4, xf_4_5, xf_4_6, xf_5_0, xf_5_1, xf_5_2, xf_5_3, xf_5_4, xf_5_5, xf_5_6, xf_5_7, xf_6_3, xf_7_3, xf_8_3, xf_9_3, xf_10_3, xf_11_3, xf_12_3, xf_13_3, xf_14_3, xf_15_3, xf_16_3]
  refine ⟨?_, xF_self⟩
  split <;> decide +kernel
theorem sX2_insert (h : LI σ N) (hb : nL N < 8) : XM G mX2_insert (d + 1) [.ref 5] σ (xF (some (.int (nI (nL N)))) (xup σ 13 3 (nI (nL N + 1)))) := by
  refine xm_of (by decide +kernel) rfl (Nat.le_of_ble_eq_true rfl) ?_
  refine bX2_insert_0 _ _ _ ?_
  try simp only [xi_iload, xi_aload, xi_lload, xi_istore, xi_astore, xi_lstore, xi_ic, xi_lc, xi_iinc, xi_iadd, xi_isub, xi_imul, xi_iand, xi_iushr, xi_ineg, xi_idiv, xi_irem, xi_ladd, xi_lmul, xi_lrem, xi_lcmp, xi_i2l, xi_l2i, xi_i2c, xi_dup, xi_dup2, xi_pop, xi_ifeq, xi_ifne, xi_iflt, xi_ifge, xi_ifgt, xi_ifle, xi_iceq, xi_icne, xi_iclt, xi_icge, xi_icgt, xi_icle, xi_iret, xi_zret, xi_lret, xi_vret, xi_getf, xi_putf, xi_ald, xi_ast, xi_alen, xi_callV, xi_callS, xpop, xroom, xl, xst, xok1, xok2, xnarrow, xwide, xone, xent, List.replicate, Option.isSome_some, Bool.and_self, Bool.true_and, Bool.and_true, List.length_cons, List.length_nil, Nat.reduceAdd, Nat.reduceLT, decide_true, Bool.not_false, Nat.beq, Nat.ble, Option.toList, List.nil_append, List.cons_append, xf_0_0, xf_0_1, xf_0_2, xf_0_3, xf_0_4, xf_0_5, xf_0_6, xf_0_7, xf_0_8, xf_0_9, xf_1_0, xf_1_1, xf_1_2, xf_1_3, xf_1_4, xf_2_0, xf_2_1, xf_2_2, xf_2_3, xf_2_4, xf_2_5, xf_2_6, xf_2_7, xf_3_0, xf_3_1, xf_3_2, xf_3_3, xf_3_4, xf_3_5, xf_3_6, xf_3_7, xf_4_0, xf_4_1, xf_4_2, xf_4_3, xf_4_4, xf_4_5, xf_4_6, xf_5_0, xf_5_1, xf_5_2, xf_5_3, xf_5_4, xf_5_5, xf_5_6, xf_5_7, xf_6_3, xf_7_3, xf_8_3, xf_9_3, xf_10_3, xf_11_3, xf_12_3, xf_13_3, xf_14_3, xf_15_3, xf_16_3]
  refine x_F (sX6_add tab13 h.nL hb) ?_
  try simp only [xi_iload, xi_aload, xi_lload, xi_istore, xi_astore, xi_lstore, xi_ic, xi_lc, xi_iinc, xi_iadd, xi_isub, xi_imul, xi_iand, xi_iushr, xi_ineg, xi_idiv, xi_irem, xi_ladd, xi_lmul, xi_lrem, xi_lcmp, xi_i2l, xi_l2i, xi_i2c, xi_dup, xi_dup2, xi_pop, xi_ifeq, xi_ifne, xi_iflt, xi_ifge, xi_ifgt, xi_ifle, xi_iceq, xi_icne, xi_iclt, xi_icge, xi_icgt, xi_icle, xi_iret, xi_zret, xi_lret, xi_vret, xi_getf, xi_putf, xi_ald, xi_ast, xi_alen, xi_callV, xi_callS, xpop, xroom, xl, xst, xok1, xok2, xnarrow, xwide, xone, xent, List.replicate, Option.isSome_some, Bool.and_self, Bool.true_and, Bool.and_true, List.length_cons, List.length_nil, Nat.reduceAdd, Nat.reduceLT, decide_true, Bool.not_false, Nat.beq, Nat.ble, Option.toList, List.nil_append, List.cons_append, xf_0_0, xf_0_1, xf_0_2, xf_0_3, xf_0_4, xf_0_5, xf_0_6, xf_0_7, xf_0_8, xf_0_9, xf_1_0, xf_1_1, xf_1_2, xf_1_3, xf_1_4, xf_2_0, xf_2_1, xf_2_2, xf_2_3, xf_2_4, xf_2_5, xf_2_6, xf_2_7, xf_3_0, xf_3_1, xf_3_2, xf_3_3, xf_3_4, xf_3_5, xf_3_6, xf_3_7, xf_4_0, xf_4_1, xf_4_2, xf_4_3, xf_4_4, xf_4_5, xf_4_6, xf_5_0, xf_5_1, xf_5_2, xf_5_3, xf_5_4, xf_5_5, xf_5_6, xf_5_7, xf_6_3, xf_7_3, xf_8_3, xf_9_3, xf_10_3, xf_11_3, xf_12_3, xf_13_3, xf_14_3, xf_15_3, xf_16_3]
  exact xF_self
theorem sX2_isLoaded {l : Nat} (h : LI σ N) (hs : nSt N ≤ 8) (ho : ∀ k, k < nSt N → N 40 k < 8) (hl : l < 2 ^ 31) : XM G mX2_isLoaded (d + 1) [.ref 5, .int (nI l)] σ (xF (some (.int (b2i (yLd N l)))) σ) := by
  refine xm_of (by decide +kernel) rfl (Nat.le_of_ble_eq_true rfl) ?_
  refine bX2_isLoaded_0 _ _ _ ?_
  have hc := h.nS
  try simp only [xi_iload, xi_aload, xi_lload, xi_istore, xi_astore, xi_lstore, xi_ic, xi_lc, xi_iinc, xi_iadd, xi_isub, xi_imul, xi_iand, xi_iushr, xi_ineg, xi_idiv, xi_irem, xi_ladd, xi_lmul, xi_lrem, xi_lcmp, xi_i2l, xi_l2i, xi_i2c, xi_dup, xi_dup2, xi_pop, xi_ifeq, xi_ifne, xi_iflt, xi_ifge, xi_ifgt, xi_ifle, xi_iceq, xi_icne, xi_iclt, xi_icge, xi_icgt, xi_icle, xi_iret, xi_zret, xi_lret, xi_vret, xi_getf, xi_putf, xi_ald, xi_ast, xi_alen, xi_callV, xi_callS, xpop, xroom, xl, xst, xok1, xok2, xnarrow, xwide, xone, xent, List.replicate, Option.isSome_some, Bool.and_self, Bool.true_and, Bool.and_true, List.length_cons, List.length_nil, Nat.reduceAdd, Nat.reduceLT, decide_true, Bool.not_false, Nat.beq, Nat.ble, Option.toList, List.nil_append, List.cons_append]
  unfold yLd
  generalize hP : (fun k => N 40 k == l) = P
  have key : ∀ j, j ≤ nSt N → anyB P j = false → AX2_isLoaded G (d + 1) (xF (some (.int (b2i (anyB P (nSt N))))) σ) 2 [some (.ref 5), some (.int (nI l)), some (.int (nI j))] [] σ := by
    refine loop_up (fun j hj ih ha => ?_) (fun ha => ?_)
    · refine bX2_isLoaded_2 _ _ _ ?_
      have ho2 := ho j hj
      try simp only [xi_iload, xi_aload, xi_lload, xi_istore, xi_astore, xi_lstore, xi_ic, xi_lc, xi_iinc, xi_iadd, xi_isub, xi_imul, xi_iand, xi_iushr, xi_ineg, xi_idiv, xi_irem, xi_ladd, xi_lmul, xi_lrem, xi_lcmp, xi_i2l, xi_l2i, xi_i2c, xi_dup, xi_dup2, xi_pop, xi_ifeq, xi_ifne, xi_iflt, xi_ifge, xi_ifgt, xi_ifle, xi_iceq, xi_icne, xi_iclt, xi_icge, xi_icgt, xi_icle, xi_iret, xi_zret, xi_lret, xi_vret, xi_getf, xi_putf, xi_ald, xi_ast, xi_alen, xi_callV, xi_callS, xpop, xroom, xl, xst, xok1, xok2, xnarrow, xwide, xone, xent, List.replicate, Option.isSome_some, Bool.and_self, Bool.true_and, Bool.and_true, List.length_cons, List.length_nil, Nat.reduceAdd, Nat.reduceLT, decide_true, Bool.not_false, Nat.beq, Nat.ble, Option.toList, List.nil_append, List.cons_append, xf_0_0, xf_0_1, xf_0_2, xf_0_3, xf_0_4, xf_0_5, xf_0_6, xf_0_7, xf_0_8, xf_0_9, xf_1_0, xf_1_1, xf_1_2, xf_1_3, xf_1_4, xf_2_0, xf_2_1, xf_2_2, xf_2_3, xf_2_4, xf_2_5, xf_2_6, xf_2_7, xf_3_0, xf_3_1, xf_3_2, xf_3_3, xf_3_4, xf_3_5, xf_3_6, xf_3_7, xf_4_0, xf_4_1, xf_4_2, xf_4_3, xf_4_4, xf_4_5, xf_4_6, xf_5_0, xf_5_1, xf_5_2, xf_5_3, xf_5_4, xf_5_5, xf_5_6, xf_5_7, xf_6_3, xf_7_3, xf_8_3, xf_9_3, xf_10_3, xf_11_3, xf_12_3, xf_13_3, xf_14_3, xf_15_3, xf_16_3, hc, nI_1]
      refine ⟨fun q => absurd q (nI_ge hj (by omega)), fun _ => x_F (sX6_get (i := j) (c := 0) tab15 (by omega) (by decide)) ?_⟩
      rw [h.ord (by omega)]
      try simp only [xi_iload, xi_aload, xi_lload, xi_istore, xi_astore, xi_lstore, xi_ic, xi_lc, xi_iinc, xi_iadd, xi_isub, xi_imul, xi_iand, xi_iushr, xi_ineg, xi_idiv, xi_irem, xi_ladd, xi_lmul, xi_lrem, xi_lcmp, xi_i2l, xi_l2i, xi_i2c, xi_dup, xi_dup2, xi_pop, xi_ifeq, xi_ifne, xi_iflt, xi_ifge, xi_ifgt, xi_ifle, xi_iceq, xi_icne, xi_iclt, xi_icge, xi_icgt, xi_icle, xi_iret, xi_zret, xi_lret, xi_vret, xi_getf, xi_putf, xi_ald, xi_ast, xi_alen, xi_callV, xi_callS, xpop, xroom, xl, xst, xok1, xok2, xnarrow, xwide, xone, xent, List.replicate, Option.isSome_some, Bool.and_self, Bool.true_and, Bool.and_true, List.length_cons, List.length_nil, Nat.reduceAdd, Nat.reduceLT, decide_true, Bool.not_false, Nat.beq, Nat.ble, Option.toList, List.nil_append, List.cons_append, xf_0_0, xf_0_1, xf_0_2, xf_0_3, xf_0_4, xf_0_5, xf_0_6, xf_0_7, xf_0_8, xf_0_9, xf_1_0, xf_1_1, xf_1_2, xf_1_3, xf_1_4, xf_2_0, xf_2_1, xf_2_2, xf_2_3, xf_2_4, xf_2_5, xf_2_6, xf_2_7, xf_3_0, xf_3_1, xf_3_2, xf_3_3, xf_3_4, xf_3_5, xf_3_6, xf_3_7, xf_4_0, xf_4_1, xf_4_2, xf_4_3, xf_4_4, xf_4_5, xf_4_6, xf_5_0, xf_5_1, xf_5_2, xf_5_3, xf_5_4, xf_5_5, xf_5_6, xf_5_7, xf_6_3, xf_7_3, xf_8_3, xf_9_3, xf_10_3, xf_11_3, xf_12_3, xf_13_3, xf_14_3, xf_15_3, xf_16_3, nI_1]
      try simp (disch := omega) only [nI_leI, nI_ltI, nI_eq, nI_pos, nI_1, nI_add, pk_mul, nIm, nIm', not_false_eq_true, not_true_eq_false, false_implies, true_implies, and_true, true_and, b2i_t, b2i_f]
      refine ⟨fun q => ih (anyB_s ha (by rw [← hP]; simp [q])), fun q => ⟨by decide +kernel, ?_⟩⟩
      rw [anyB_at (p := P) hj (by rw [← hP]; simp [q])]
      exact xF_self
    · refine bX2_isLoaded_2 _ _ _ ?_
      try simp only [xi_iload, xi_aload, xi_lload, xi_istore, xi_astore, xi_lstore, xi_ic, xi_lc, xi_iinc, xi_iadd, xi_isub, xi_imul, xi_iand, xi_iushr, xi_ineg, xi_idiv, xi_irem, xi_ladd, xi_lmul, xi_lrem, xi_lcmp, xi_i2l, xi_l2i, xi_i2c, xi_dup, xi_dup2, xi_pop, xi_ifeq, xi_ifne, xi_iflt, xi_ifge, xi_ifgt, xi_ifle, xi_iceq, xi_icne, xi_iclt, xi_icge, xi_icgt, xi_icle, xi_iret, xi_zret, xi_lret, xi_vret, xi_getf, xi_putf, xi_ald, xi_ast, xi_alen, xi_callV, xi_callS, xpop, xroom, xl, xst, xok1, xok2, xnarrow, xwide, xone, xent, List.replicate, Option.isSome_some, Bool.and_self, Bool.true_and, Bool.and_true, List.length_cons, List.length_nil, Nat.reduceAdd, Nat.reduceLT, decide_true, Bool.not_false, Nat.beq, Nat.ble, Option.toList, List.nil_append, List.cons_append, xf_0_0, xf_0_1, xf_0_2, xf_0_3, xf_0_4, xf_0_5, xf_0_6, xf_0_7, xf_0_8, xf_0_9, xf_1_0, xf_1_1, xf_1_2, xf_1_3, xf_1_4, xf_2_0, xf_2_1, xf_2_2, xf_2_3, xf_2_4, xf_2_5, xf_2_6, xf_2_7, xf_3_0, xf_3_1, xf_3_2, xf_3_3, xf_3_4, xf_3_5, xf_3_6, xf_3_7, xf_4_0, xf_4_1, xf_4_2, xf_4_3, xf_4_4, xf_4_5, xf_4_6, xf_5_0, xf_5_1, xf_5_2, xf_5_3, xf_5_4, xf_5_5, xf_5_6, xf_5_7, xf_6_3, xf_7_3, xf_8_3, xf_9_3, xf_10_3, xf_11_3, xf_12_3, xf_13_3, xf_14_3, xf_15_3, xf_16_3, hc]
      refine ⟨fun _ => ⟨by decide +kernel, ?_⟩, fun q => absurd (nI_le (Nat.le_refl _) (by omega)) q⟩
      rw [ha]
      exact xF_self
  exact x_forget (key 0 (by omega) rfl) (by simp [xle, nI_0])
theorem sX2_isNeeding {l o : Nat} (h : LI σ N) (hl : l < 8) (ho : o < 8) (hn : N 39 (l * 8 + o) ≤ 1) : XM G mX2_isNeeding (d + 1) [.ref 5, .int (nI l), .int (nI o)] σ (xF (some (.int (b2i (yNd N l o)))) σ) := by
  refine xm_of (by decide +kernel) rfl (Nat.le_of_ble_eq_true rfl) ?_
  refine bX2_isNeeding_0 _ _ _ ?_
  try simp only [xi_iload, xi_aload, xi_lload, xi_istore, xi_astore, xi_lstore, xi_ic, xi_lc, xi_iinc, xi_iadd, xi_isub, xi_imul, xi_iand, xi_iushr, xi_ineg, xi_idiv, xi_irem, xi_ladd, xi_lmul, xi_lrem, xi_lcmp, xi_i2l, xi_l2i, xi_i2c, xi_dup, xi_dup2, xi_pop, xi_ifeq, xi_ifne, xi_iflt, xi_ifge, xi_ifgt, xi_ifle, xi_iceq, xi_icne, xi_iclt, xi_icge, xi_icgt, xi_icle, xi_iret, xi_zret, xi_lret, xi_vret, xi_getf, xi_putf, xi_ald, xi_ast, xi_alen, xi_callV, xi_callS, xpop, xroom, xl, xst, xok1, xok2, xnarrow, xwide, xone, xent, List.replicate, Option.isSome_some, Bool.and_self, Bool.true_and, Bool.and_true, List.length_cons, List.length_nil, Nat.reduceAdd, Nat.reduceLT, decide_true, Bool.not_false, Nat.beq, Nat.ble, Option.toList, List.nil_append, List.cons_append, xf_0_0, xf_0_1, xf_0_2, xf_0_3, xf_0_4, xf_0_5, xf_0_6, xf_0_7, xf_0_8, xf_0_9, xf_1_0, xf_1_1, xf_1_2, xf_1_3, xf_1_4, xf_2_0, xf_2_1, xf_2_2, xf_2_3, xf_2_4, xf_2_5, xf_2_6, xf_2_7, xf_3_0, xf_3_1, xf_3_2, xf_3_3, xf_3_4, xf_3_5, xf_3_6, xf_3_7, xf_4_0, xf_4_1, xf_4_2, xf_4_3, xf_4_4, xf_4_5, xf_4_6, xf_5_0, xf_5_1, xf_5_2, xf_5_3, xf_5_4, xf_5_5, xf_5_6, xf_5_7, xf_6_3, xf_7_3, xf_8_3, xf_9_3, xf_10_3, xf_11_3, xf_12_3, xf_13_3, xf_14_3, xf_15_3, xf_16_3]
  refine x_F (sX6_get (i := l) (c := o) tab14 hl ho) ?_
  rw [h.need hl ho]
  try simp only [xi_iload, xi_aload, xi_lload, xi_istore, xi_astore, xi_lstore, xi_ic, xi_lc, xi_iinc, xi_iadd, xi_isub, xi_imul, xi_iand, xi_iushr, xi_ineg, xi_idiv, xi_irem, xi_ladd, xi_lmul, xi_lrem, xi_lcmp, xi_i2l, xi_l2i, xi_i2c, xi_dup, xi_dup2, xi_pop, xi_ifeq, xi_ifne, xi_iflt, xi_ifge, xi_ifgt, xi_ifle, xi_iceq, xi_icne, xi_iclt, xi_icge, xi_icgt, xi_icle, xi_iret, xi_zret, xi_lret, xi_vret, xi_getf, xi_putf, xi_ald, xi_ast, xi_alen, xi_callV, xi_callS, xpop, xroom, xl, xst, xok1, xok2, xnarrow, xwide, xone, xent, List.replicate, Option.isSome_some, Bool.and_self, Bool.true_and, Bool.and_true, List.length_cons, List.length_nil, Nat.reduceAdd, Nat.reduceLT, decide_true, Bool.not_false, Nat.beq, Nat.ble, Option.toList, List.nil_append, List.cons_append, xf_0_0, xf_0_1, xf_0_2, xf_0_3, xf_0_4, xf_0_5, xf_0_6, xf_0_7, xf_0_8, xf_0_9, xf_1_0, xf_1_1, xf_1_2, xf_1_3, xf_1_4, xf_2_0, xf_2_1, xf_2_2, xf_2_3, xf_2_4, xf_2_5, xf_2_6, xf_2_7, xf_3_0, xf_3_1, xf_3_2, xf_3_3, xf_3_4, xf_3_5, xf_3_6, xf_3_7, xf_4_0, xf_4_1, xf_4_2, xf_4_3, xf_4_4, xf_4_5, xf_4_6, xf_5_0, xf_5_1, xf_5_2, xf_5_3, xf_5_4, xf_5_5, xf_5_6, xf_5_7, xf_6_3, xf_7_3, xf_8_3, xf_9_3, xf_10_3, xf_11_3, xf_12_3, xf_13_3, xf_14_3, xf_15_3, xf_16_3]
  unfold yNd
  rcases (show N 39 (l * 8 + o) = 0 ∨ N 39 (l * 8 + o) = 1 by omega) with q | q
  · rw [q]; exact ⟨fun _ => ⟨by decide +kernel, xF_self⟩, fun z => absurd z (by decide)⟩
  · rw [q]; exact ⟨fun z => absurd rfl z, fun _ => ⟨by decide +kernel, xF_self⟩⟩
theorem sX2_needsOf {l : Nat} (h : LI σ N) (hb : nL N ≤ 8) (hl : l < 8) (hn : ∀ z, N 39 z ≤ 1) : XM G mX2_needsOf (d + 2) [.ref 5, .int (nI l)] σ (xF (some (.int (nI (yCount (yNd N l) (nL N))))) σ) := by
  refine xm_of (by decide +kernel) rfl (Nat.le_of_ble_eq_true rfl) ?_
  refine bX2_needsOf_0 _ _ _ ?_
  have hc := h.nL
  try simp only [xi_iload, xi_aload, xi_lload, xi_istore, xi_astore, xi_lstore, xi_ic, xi_lc, xi_iinc, xi_iadd, xi_isub, xi_imul, xi_iand, xi_iushr, xi_ineg, xi_idiv, xi_irem, xi_ladd, xi_lmul, xi_lrem, xi_lcmp, xi_i2l, xi_l2i, xi_i2c, xi_dup, xi_dup2, xi_pop, xi_ifeq, xi_ifne, xi_iflt, xi_ifge, xi_ifgt, xi_ifle, xi_iceq, xi_icne, xi_iclt, xi_icge, xi_icgt, xi_icle, xi_iret, xi_zret, xi_lret, xi_vret, xi_getf, xi_putf, xi_ald, xi_ast, xi_alen, xi_callV, xi_callS, xpop, xroom, xl, xst, xok1, xok2, xnarrow, xwide, xone, xent, List.replicate, Option.isSome_some, Bool.and_self, Bool.true_and, Bool.and_true, List.length_cons, List.length_nil, Nat.reduceAdd, Nat.reduceLT, decide_true, Bool.not_false, Nat.beq, Nat.ble, Option.toList, List.nil_append, List.cons_append]
  have key : ∀ j, j ≤ nL N → AX2_needsOf G (d + 1 + 1) (xF (some (.int (nI (yCount (yNd N l) (nL N))))) σ) 4 [some (.ref 5), some (.int (nI l)), some (.int (nI (yCount (yNd N l) j))), some (.int (nI j))] [] σ := by
    refine loop_up (fun j hj ih => ?_) ?_
    · refine bX2_needsOf_4 _ _ _ ?_
      try simp only [xi_iload, xi_aload, xi_lload, xi_istore, xi_astore, xi_lstore, xi_ic, xi_lc, xi_iinc, xi_iadd, xi_isub, xi_imul, xi_iand, xi_iushr, xi_ineg, xi_idiv, xi_irem, xi_ladd, xi_lmul, xi_lrem, xi_lcmp, xi_i2l, xi_l2i, xi_i2c, xi_dup, xi_dup2, xi_pop, xi_ifeq, xi_ifne, xi_iflt, xi_ifge, xi_ifgt, xi_ifle, xi_iceq, xi_icne, xi_iclt, xi_icge, xi_icgt, xi_icle, xi_iret, xi_zret, xi_lret, xi_vret, xi_getf, xi_putf, xi_ald, xi_ast, xi_alen, xi_callV, xi_callS, xpop, xroom, xl, xst, xok1, xok2, xnarrow, xwide, xone, xent, List.replicate, Option.isSome_some, Bool.and_self, Bool.true_and, Bool.and_true, List.length_cons, List.length_nil, Nat.reduceAdd, Nat.reduceLT, decide_true, Bool.not_false, Nat.beq, Nat.ble, Option.toList, List.nil_append, List.cons_append, xf_0_0, xf_0_1, xf_0_2, xf_0_3, xf_0_4, xf_0_5, xf_0_6, xf_0_7, xf_0_8, xf_0_9, xf_1_0, xf_1_1, xf_1_2, xf_1_3, xf_1_4, xf_2_0, xf_2_1, xf_2_2, xf_2_3, xf_2_4, xf_2_5, xf_2_6, xf_2_7, xf_3_0, xf_3_1, xf_3_2, xf_3_3, xf_3_4, xf_3_5, xf_3_6, xf_3_7, xf_4_0, xf_4_1, xf_4_2, xf_4_3, xf_4_4, xf_4_5, xf_4_6, xf_5_0, xf_5_1, xf_5_2, xf_5_3, xf_5_4, xf_5_5, xf_5_6, xf_5_7, xf_6_3, xf_7_3, xf_8_3, xf_9_3, xf_10_3, xf_11_3, xf_12_3, xf_13_3, xf_14_3, xf_15_3, xf_16_3, hc, nI_1]
      refine ⟨fun q => absurd q (nI_ge hj (by omega)), fun _ => x_F (sX2_isNeeding h hl (by omega) (hn _)) ?_⟩
      try simp only [xi_iload, xi_aload, xi_lload, xi_istore, xi_astore, xi_lstore, xi_ic, xi_lc, xi_iinc, xi_iadd, xi_isub, xi_imul, xi_iand, xi_iushr, xi_ineg, xi_idiv, xi_irem, xi_ladd, xi_lmul, xi_lrem, xi_lcmp, xi_i2l, xi_l2i, xi_i2c, xi_dup, xi_dup2, xi_pop, xi_ifeq, xi_ifne, xi_iflt, xi_ifge, xi_ifgt, xi_ifle, xi_iceq, xi_icne, xi_iclt, xi_icge, xi_icgt, xi_icle, xi_iret, xi_zret, xi_lret, xi_vret, xi_getf, xi_putf, xi_ald, xi_ast, xi_alen, xi_callV, xi_callS, xpop, xroom, xl, xst, xok1, xok2, xnarrow, xwide, xone, xent, List.replicate, Option.isSome_some, Bool.and_self, Bool.true_and, Bool.and_true, List.length_cons, List.length_nil, Nat.reduceAdd, Nat.reduceLT, decide_true, Bool.not_false, Nat.beq, Nat.ble, Option.toList, List.nil_append, List.cons_append, xf_0_0, xf_0_1, xf_0_2, xf_0_3, xf_0_4, xf_0_5, xf_0_6, xf_0_7, xf_0_8, xf_0_9, xf_1_0, xf_1_1, xf_1_2, xf_1_3, xf_1_4, xf_2_0, xf_2_1, xf_2_2, xf_2_3, xf_2_4, xf_2_5, xf_2_6, xf_2_7, xf_3_0, xf_3_1, xf_3_2, xf_3_3, xf_3_4, xf_3_5, xf_3_6, xf_3_7, xf_4_0, xf_4_1, xf_4_2, xf_4_3, xf_4_4, xf_4_5, xf_4_6, xf_5_0, xf_5_1, xf_5_2, xf_5_3, xf_5_4, xf_5_5, xf_5_6, xf_5_7, xf_6_3, xf_7_3, xf_8_3, xf_9_3, xf_10_3, xf_11_3, xf_12_3, xf_13_3, xf_14_3, xf_15_3, xf_16_3, nI_1]
      rw [yCount] at ih
      cases hq : yNd N l j with
      | false =>
        rw [hq, if_neg (by decide), Nat.add_zero] at ih
        refine ⟨fun _ => ?_, fun q => absurd rfl q⟩
        rw [Int32.add_zero]
        exact ih
      | true =>
        rw [hq, if_pos rfl] at ih
        exact ⟨fun q => absurd q (by decide), fun _ => ih⟩
    · refine bX2_needsOf_4 _ _ _ ?_
      try simp only [xi_iload, xi_aload, xi_lload, xi_istore, xi_astore, xi_lstore, xi_ic, xi_lc, xi_iinc, xi_iadd, xi_isub, xi_imul, xi_iand, xi_iushr, xi_ineg, xi_idiv, xi_irem, xi_ladd, xi_lmul, xi_lrem, xi_lcmp, xi_i2l, xi_l2i, xi_i2c, xi_dup, xi_dup2, xi_pop, xi_ifeq, xi_ifne, xi_iflt, xi_ifge, xi_ifgt, xi_ifle, xi_iceq, xi_icne, xi_iclt, xi_icge, xi_icgt, xi_icle, xi_iret, xi_zret, xi_lret, xi_vret, xi_getf, xi_putf, xi_ald, xi_ast, xi_alen, xi_callV, xi_callS, xpop, xroom, xl, xst, xok1, xok2, xnarrow, xwide, xone, xent, List.replicate, Option.isSome_some, Bool.and_self, Bool.true_and, Bool.and_true, List.length_cons, List.length_nil, Nat.reduceAdd, Nat.reduceLT, decide_true, Bool.not_false, Nat.beq, Nat.ble, Option.toList, List.nil_append, List.cons_append, xf_0_0, xf_0_1, xf_0_2, xf_0_3, xf_0_4, xf_0_5, xf_0_6, xf_0_7, xf_0_8, xf_0_9, xf_1_0, xf_1_1, xf_1_2, xf_1_3, xf_1_4, xf_2_0, xf_2_1, xf_2_2, xf_2_3, xf_2_4, xf_2_5, xf_2_6, xf_2_7, xf_3_0, xf_3_1, xf_3_2, xf_3_3, xf_3_4, xf_3_5, xf_3_6, xf_3_7, xf_4_0, xf_4_1, xf_4_2, xf_4_3, xf_4_4, xf_4_5, xf_4_6, xf_5_0, xf_5_1, xf_5_2, xf_5_3, xf_5_4, xf_5_5, xf_5_6, xf_5_7, xf_6_3, xf_7_3, xf_8_3, xf_9_3, xf_10_3, xf_11_3, xf_12_3, xf_13_3, xf_14_3, xf_15_3, xf_16_3, hc]
      exact ⟨fun _ => xF_self, fun q => absurd (nI_le (Nat.le_refl _) (by omega)) q⟩
  exact x_forget (key 0 (by omega)) (by simp [xle, nI_0, yCount])
/-- what a library needs is counted once more -/
def yRaise (N : YM) (l : Nat) : Nat → YM
  | 0 => N
  | k + 1 => if yNd N l k = true then yU (yRaise N l k) 51 k (N 51 k + 1) else yRaise N l k
theorem yRaise_ot {l c : Nat} (hc : c ≠ 51) : ∀ {k : Nat}, yRaise N l k c = N c := by
  intro k
  induction k with
  | zero => rfl
  | succ k ih =>
    unfold yRaise
    split
    · funext i
      unfold yU
      rw [if_neg (fun z => hc z.1), ih]
    · exact ih
theorem yRaise_at {l i : Nat} : ∀ {k : Nat}, yRaise N l k 51 i = if i < k ∧ yNd N l i = true then N 51 i + 1 else N 51 i := by
  intro k
  induction k with
  | zero => rw [if_neg (fun z => Nat.not_lt_zero _ z.1)]; rfl
  | succ k ih =>
    unfold yRaise
    by_cases hq : yNd N l k = true
    · rw [if_pos hq]
      unfold yU
      by_cases hik : i = k
      · subst hik
        rw [if_pos ⟨rfl, rfl⟩, if_pos ⟨by omega, hq⟩]
      · rw [if_neg (fun z => hik z.2), ih]
        by_cases h2 : i < k ∧ yNd N l i = true
        · rw [if_pos h2, if_pos ⟨by omega, h2.2⟩]
        · rw [if_neg h2, if_neg (fun z => h2 ⟨by omega, z.2⟩)]
    · rw [if_neg hq, ih]
      by_cases h2 : i < k ∧ yNd N l i = true
      · rw [if_pos h2, if_pos ⟨by omega, h2.2⟩]
      · rw [if_neg h2, if_neg (fun z => h2 ⟨by
          have : i ≠ k := fun e => hq (by rw [← e]; exact z.2)
          omega, z.2⟩)]
theorem sX2_raiseNeeded {l : Nat} (h : LI σ N) (hb : nL N ≤ 8) (hl : l < 8) (hn : ∀ z, N 39 z ≤ 1) : XM G mX2_raiseNeeded (d + 2) [.ref 5, .int (nI l)] σ (fun v τ => v = none ∧ xsame [51] σ τ ∧ LI τ (yRaise N l (nL N))) := by
  refine xm_of (by decide +kernel) rfl (Nat.le_of_ble_eq_true rfl) ?_
  refine bX2_raiseNeeded_0 _ _ _ ?_
  try simp only [xi_iload, xi_aload, xi_lload, xi_istore, xi_astore, xi_lstore, xi_ic, xi_lc, xi_iinc, xi_iadd, xi_isub, xi_imul, xi_iand, xi_iushr, xi_ineg, xi_idiv, xi_irem, xi_ladd, xi_lmul, xi_lrem, xi_lcmp, xi_i2l, xi_l2i, xi_i2c, xi_dup, xi_dup2, xi_pop, xi_ifeq, xi_ifne, xi_iflt, xi_ifge, xi_ifgt, xi_ifle, xi_iceq, xi_icne, xi_iclt, xi_icge, xi_icgt, xi_icle, xi_iret, xi_zret, xi_lret, xi_vret, xi_getf, xi_putf, xi_ald, xi_ast, xi_alen, xi_callV, xi_callS, xpop, xroom, xl, xst, xok1, xok2, xnarrow, xwide, xone, xent, List.replicate, Option.isSome_some, Bool.and_self, Bool.true_and, Bool.and_true, List.length_cons, List.length_nil, Nat.reduceAdd, Nat.reduceLT, decide_true, Bool.not_false, Nat.beq, Nat.ble, Option.toList, List.nil_append, List.cons_append]
  have key : ∀ j, j ≤ nL N → ∀ τ, xsame [51] σ τ → LI τ (yRaise N l j) → AX2_raiseNeeded G (d + 1 + 1) (fun v τ => v = none ∧ xsame [51] σ τ ∧ LI τ (yRaise N l (nL N))) 2 [some (.ref 5), some (.int (nI l)), some (.int (nI j))] [] τ := by
    refine loop_up (fun j hj ih τ hs hI => ?_) (fun τ hs hI => ?_)
    · refine bX2_raiseNeeded_2 _ _ _ ?_
      have hc : τ 13 3 = nI (nL N) := by
        rw [hI.nL]
        show nI (yRaise N l _ 13 3) = _
        rw [yRaise_ot (by decide)]
      have e39 : yRaise N l j 39 = N 39 := yRaise_ot (by decide)
      try simp only [xi_iload, xi_aload, xi_lload, xi_istore, xi_astore, xi_lstore, xi_ic, xi_lc, xi_iinc, xi_iadd, xi_isub, xi_imul, xi_iand, xi_iushr, xi_ineg, xi_idiv, xi_irem, xi_ladd, xi_lmul, xi_lrem, xi_lcmp, xi_i2l, xi_l2i, xi_i2c, xi_dup, xi_dup2, xi_pop, xi_ifeq, xi_ifne, xi_iflt, xi_ifge, xi_ifgt, xi_ifle, xi_iceq, xi_icne, xi_iclt, xi_icge, xi_icgt, xi_icle, xi_iret, xi_zret, xi_lret, xi_vret, xi_getf, xi_putf, xi_ald, xi_ast, xi_alen, xi_callV, xi_callS, xpop, xroom, xl, xst, xok1, xok2, xnarrow, xwide, xone, xent, List.replicate, Option.isSome_some, Bool.and_self, Bool.true_and, Bool.and_true, List.length_cons, List.length_nil, Nat.reduceAdd, Nat.reduceLT, decide_true, Bool.not_false, Nat.beq, Nat.ble, Option.toList, List.nil_append, List.cons_append, xf_0_0, xf_0_1, xf_0_2, xf_0_3, xf_0_4, xf_0_5, xf_0_6, xf_0_7, xf_0_8, xf_0_9, xf_1_0, xf_1_1, xf_1_2, xf_1_3, xf_1_4, xf_2_0, xf_2_1, xf_2_2, xf_2_3, xf_2_4, xf_2_5, xf_2_6, xf_2_7, xf_3_0, xf_3_1, xf_3_2, xf_3_3, xf_3_4, xf_3_5, xf_3_6, xf_3_7, xf_4_0, xf_4_1, xf_4_2, xf_4_3, xf_4_4, xf_4_5, xf_4_6, xf_5_0, xf_5_1, xf_5_2, xf_5_3, xf_5_4, xf_5_5, xf_5_6, xf_5_7, xf_6_3, xf_7_3, xf_8_3, xf_9_3, xf_10_3, xf_11_3, xf_12_3, xf_13_3, xf_14_3, xf_15_3, xf_16_3, hc, nI_1]
      refine ⟨fun q => absurd q (nI_ge hj (by omega)), fun _ => x_F (sX2_isNeeding hI hl (by omega) (by rw [e39]; exact hn _)) ?_⟩
      have e1 : yNd (yRaise N l j) l j = yNd N l j := by unfold yNd; rw [e39]
      rw [e1]
      try simp only [xi_iload, xi_aload, xi_lload, xi_istore, xi_astore, xi_lstore, xi_ic, xi_lc, xi_iinc, xi_iadd, xi_isub, xi_imul, xi_iand, xi_iushr, xi_ineg, xi_idiv, xi_irem, xi_ladd, xi_lmul, xi_lrem, xi_lcmp, xi_i2l, xi_l2i, xi_i2c, xi_dup, xi_dup2, xi_pop, xi_ifeq, xi_ifne, xi_iflt, xi_ifge, xi_ifgt, xi_ifle, xi_iceq, xi_icne, xi_iclt, xi_icge, xi_icgt, xi_icle, xi_iret, xi_zret, xi_lret, xi_vret, xi_getf, xi_putf, xi_ald, xi_ast, xi_alen, xi_callV, xi_callS, xpop, xroom, xl, xst, xok1, xok2, xnarrow, xwide, xone, xent, List.replicate, Option.isSome_some, Bool.and_self, Bool.true_and, Bool.and_true, List.length_cons, List.length_nil, Nat.reduceAdd, Nat.reduceLT, decide_true, Bool.not_false, Nat.beq, Nat.ble, Option.toList, List.nil_append, List.cons_append, xf_0_0, xf_0_1, xf_0_2, xf_0_3, xf_0_4, xf_0_5, xf_0_6, xf_0_7, xf_0_8, xf_0_9, xf_1_0, xf_1_1, xf_1_2, xf_1_3, xf_1_4, xf_2_0, xf_2_1, xf_2_2, xf_2_3, xf_2_4, xf_2_5, xf_2_6, xf_2_7, xf_3_0, xf_3_1, xf_3_2, xf_3_3, xf_3_4, xf_3_5, xf_3_6, xf_3_7, xf_4_0, xf_4_1, xf_4_2, xf_4_3, xf_4_4, xf_4_5, xf_4_6, xf_5_0, xf_5_1, xf_5_2, xf_5_3, xf_5_4, xf_5_5, xf_5_6, xf_5_7, xf_6_3, xf_7_3, xf_8_3, xf_9_3, xf_10_3, xf_11_3, xf_12_3, xf_13_3, xf_14_3, xf_15_3, xf_16_3, nI_1]
      rw [b2i_ne]
      refine ⟨fun q => ?_, fun q => x_F (sX3_get row26 (by omega)) ?_⟩
      · rw [yRaise, if_neg (by rw [q]; decide)] at ih
        exact ih τ hs hI
      · have hq : yNd N l j = true := by simpa using q
        rw [hI.cnt (by omega), yRaise_at, if_neg (by omega)]
        try simp only [xi_iload, xi_aload, xi_lload, xi_istore, xi_astore, xi_lstore, xi_ic, xi_lc, xi_iinc, xi_iadd, xi_isub, xi_imul, xi_iand, xi_iushr, xi_ineg, xi_idiv, xi_irem, xi_ladd, xi_lmul, xi_lrem, xi_lcmp, xi_i2l, xi_l2i, xi_i2c, xi_dup, xi_dup2, xi_pop, xi_ifeq, xi_ifne, xi_iflt, xi_ifge, xi_ifgt, xi_ifle, xi_iceq, xi_icne, xi_iclt, xi_icge, xi_icgt, xi_icle, xi_iret, xi_zret, xi_lret, xi_vret, xi_getf, xi_putf, xi_ald, xi_ast, xi_alen, xi_callV, xi_callS, xpop, xroom, xl, xst, xok1, xok2, xnarrow, xwide, xone, xent, List.replicate, Option.isSome_some, Bool.and_self, Bool.true_and, Bool.and_true, List.length_cons, List.length_nil, Nat.reduceAdd, Nat.reduceLT, decide_true, Bool.not_false, Nat.beq, Nat.ble, Option.toList, List.nil_append, List.cons_append, xf_0_0, xf_0_1, xf_0_2, xf_0_3, xf_0_4, xf_0_5, xf_0_6, xf_0_7, xf_0_8, xf_0_9, xf_1_0, xf_1_1, xf_1_2, xf_1_3, xf_1_4, xf_2_0, xf_2_1, xf_2_2, xf_2_3, xf_2_4, xf_2_5, xf_2_6, xf_2_7, xf_3_0, xf_3_1, xf_3_2, xf_3_3, xf_3_4, xf_3_5, xf_3_6, xf_3_7, xf_4_0, xf_4_1, xf_4_2, xf_4_3, xf_4_4, xf_4_5, xf_4_6, xf_5_0, xf_5_1, xf_5_2, xf_5_3, xf_5_4, xf_5_5, xf_5_6, xf_5_7, xf_6_3, xf_7_3, xf_8_3, xf_9_3, xf_10_3, xf_11_3, xf_12_3, xf_13_3, xf_14_3, xf_15_3, xf_16_3, nI_1]
        refine x_F (sX3_set row26 (by omega)) ?_
        try simp only [xi_iload, xi_aload, xi_lload, xi_istore, xi_astore, xi_lstore, xi_ic, xi_lc, xi_iinc, xi_iadd, xi_isub, xi_imul, xi_iand, xi_iushr, xi_ineg, xi_idiv, xi_irem, xi_ladd, xi_lmul, xi_lrem, xi_lcmp, xi_i2l, xi_l2i, xi_i2c, xi_dup, xi_dup2, xi_pop, xi_ifeq, xi_ifne, xi_iflt, xi_ifge, xi_ifgt, xi_ifle, xi_iceq, xi_icne, xi_iclt, xi_icge, xi_icgt, xi_icle, xi_iret, xi_zret, xi_lret, xi_vret, xi_getf, xi_putf, xi_ald, xi_ast, xi_alen, xi_callV, xi_callS, xpop, xroom, xl, xst, xok1, xok2, xnarrow, xwide, xone, xent, List.replicate, Option.isSome_some, Bool.and_self, Bool.true_and, Bool.and_true, List.length_cons, List.length_nil, Nat.reduceAdd, Nat.reduceLT, decide_true, Bool.not_false, Nat.beq, Nat.ble, Option.toList, List.nil_append, List.cons_append, xf_0_0, xf_0_1, xf_0_2, xf_0_3, xf_0_4, xf_0_5, xf_0_6, xf_0_7, xf_0_8, xf_0_9, xf_1_0, xf_1_1, xf_1_2, xf_1_3, xf_1_4, xf_2_0, xf_2_1, xf_2_2, xf_2_3, xf_2_4, xf_2_5, xf_2_6, xf_2_7, xf_3_0, xf_3_1, xf_3_2, xf_3_3, xf_3_4, xf_3_5, xf_3_6, xf_3_7, xf_4_0, xf_4_1, xf_4_2, xf_4_3, xf_4_4, xf_4_5, xf_4_6, xf_5_0, xf_5_1, xf_5_2, xf_5_3, xf_5_4, xf_5_5, xf_5_6, xf_5_7, xf_6_3, xf_7_3, xf_8_3, xf_9_3, xf_10_3, xf_11_3, xf_12_3, xf_13_3, xf_14_3, xf_15_3, xf_16_3, nI_1]
        rw [yRaise, if_pos hq] at ih
        exact ih _ (hs.tr (xsame.up rfl)) hI.up
    · refine bX2_raiseNeeded_2 _ _ _ ?_
      have hc : τ 13 3 = nI (nL N) := by
        rw [hI.nL]
        show nI (yRaise N l _ 13 3) = _
        rw [yRaise_ot (by decide)]
      try simp only [xi_iload, xi_aload, xi_lload, xi_istore, xi_astore, xi_lstore, xi_ic, xi_lc, xi_iinc, xi_iadd, xi_isub, xi_imul, xi_iand, xi_iushr, xi_ineg, xi_idiv, xi_irem, xi_ladd, xi_lmul, xi_lrem, xi_lcmp, xi_i2l, xi_l2i, xi_i2c, xi_dup, xi_dup2, xi_pop, xi_ifeq, xi_ifne, xi_iflt, xi_ifge, xi_ifgt, xi_ifle, xi_iceq, xi_icne, xi_iclt, xi_icge, xi_icgt, xi_icle, xi_iret, xi_zret, xi_lret, xi_vret, xi_getf, xi_putf, xi_ald, xi_ast, xi_alen, xi_callV, xi_callS, xpop, xroom, xl, xst, xok1, xok2, xnarrow, xwide, xone, xent, List.replicate, Option.isSome_some, Bool.and_self, Bool.true_and, Bool.and_true, List.length_cons, List.length_nil, Nat.reduceAdd, Nat.reduceLT, decide_true, Bool.not_false, Nat.beq, Nat.ble, Option.toList, List.nil_append, List.cons_append, xf_0_0, xf_0_1, xf_0_2, xf_0_3, xf_0_4, xf_0_5, xf_0_6, xf_0_7, xf_0_8, xf_0_9, xf_1_0, xf_1_1, xf_1_2, xf_1_3, xf_1_4, xf_2_0, xf_2_1, xf_2_2, xf_2_3, xf_2_4, xf_2_5, xf_2_6, xf_2_7, xf_3_0, xf_3_1, xf_3_2, xf_3_3, xf_3_4, xf_3_5, xf_3_6, xf_3_7, xf_4_0, xf_4_1, xf_4_2, xf_4_3, xf_4_4, xf_4_5, xf_4_6, xf_5_0, xf_5_1, xf_5_2, xf_5_3, xf_5_4, xf_5_5, xf_5_6, xf_5_7, xf_6_3, xf_7_3, xf_8_3, xf_9_3, xf_10_3, xf_11_3, xf_12_3, xf_13_3, xf_14_3, xf_15_3, xf_16_3, hc]
      exact ⟨fun _ => ⟨trivial, hs, hI⟩, fun q => absurd (nI_le (Nat.le_refl _) (by omega)) q⟩
  exact x_forget (key 0 (by omega) σ xsame.rf h) (by simp [xle, nI_0])
end S40
