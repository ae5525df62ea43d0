/-! the law's tails: what stands behind the two calls of a case (written by wip/gen/lawtails.py) -/
section S99s
variable {G : XG}
def uThr (G : XG) (A B : LK) : LK := fun o => xi_aload 2 (xi_callV G 0 mX8_thrown 8 0 (xi_iload 6 (xi_iceq (xi_iload 6 (xi_ifne (B o) (A o))) xi_never)))
def uInt (k : LK) : LK := fun o => xi_aload 3 (xi_ic 0 (xi_lald (fun o => xi_iload 7 (xi_i2l (xi_lcmp (xi_ifeq (k o) xi_never)))) o))
def uBool (k : LK) : LK := fun o => xi_aload 3 (xi_ic 0 (xi_lald (fun o => xi_iload 7 (xi_l01 (xi_lcmp (xi_ifeq (k o) xi_never)))) o))
def uLong (k : LK) : LK := fun o => xi_aload 3 (xi_ic 0 (xi_lald (fun o => xi_lload 7 (xi_lcmp (xi_ifeq (k o) xi_never))) o))
def uFlt (k : LK) : LK := fun o => xi_aload 4 (xi_ic 0 (xi_dald (fun o => xi_fload 7 (xi_f2d (xi_dcmp .l (xi_ifeq (k o) xi_never)))) o))
def uDbl (k : LK) : LK := fun o => xi_aload 4 (xi_ic 0 (xi_dald (fun o => xi_dload 7 (xi_dcmp .l (xi_ifeq (k o) xi_never))) o))
variable {σ : Sg} {d : Nat} {o : OO} {k A B : LK} {a0 a1 a2 a3 a4 a5 a6 a7 a8 : Option Value}
theorem sX8_thrown : XM G mX8_thrown d [.ref 30] σ (xF (some (.int (σ 30 50))) σ) := by
  refine xm_of (by decide +kernel) rfl (Nat.le_of_ble_eq_true rfl) ?_
  refine bX8_thrown_0 _ _ _ ?_
  try simp only [xi_iload, xi_aload, xi_lload, xi_istore, xi_astore, xi_lstore, xi_ic, xi_lc, xi_iinc, xi_iadd, xi_isub, xi_imul, xi_iand, xi_iushr, xi_ineg, xi_idiv, xi_irem, xi_ladd, xi_lmul, xi_lrem, xi_lcmp, xi_i2l, xi_l2i, xi_i2c, xi_dup, xi_dup2, xi_pop, xi_ifeq, xi_ifne, xi_iflt, xi_ifge, xi_ifgt, xi_ifle, xi_iceq, xi_icne, xi_iclt, xi_icge, xi_icgt, xi_icle, xi_iret, xi_zret, xi_lret, xi_vret, xi_getf, xi_putf, xi_ald, xi_ast, xi_alen, xi_callV, xi_callS, xpop, xroom, xl, xst, xok1, xok2, xnarrow, xwide, xone, xent, List.replicate, Option.isSome_some, Bool.and_self, Bool.true_and, Bool.and_true, List.length_cons, List.length_nil, Nat.reduceAdd, Nat.reduceLT, decide_true, Bool.not_false, Nat.beq, Nat.ble, Option.toList, List.nil_append, List.cons_append, xf_30_50]
  exact ⟨rfl, rfl⟩
theorem u_thr {n : Nat} (hn : n ≤ 7) (ht : σ 30 50 = nI n) (h0 : n = 0 → A o [a0, a1, some (.ref 30), a3, a4, a5, some (.int (nI n)), a7, a8] [] σ) (h1 : B o [a0, a1, some (.ref 30), a3, a4, a5, some (.int (nI n)), a7, a8] [] σ) :
    uThr G A B o [a0, a1, some (.ref 30), a3, a4, a5, some (.int (nI n)), a7, a8] [] σ := by
  unfold uThr
  try simp only [xi_iload, xi_aload, xi_lload, xi_istore, xi_astore, xi_lstore, xi_ic, xi_lc, xi_iinc, xi_iadd, xi_isub, xi_imul, xi_iand, xi_iushr, xi_ineg, xi_idiv, xi_irem, xi_ladd, xi_lmul, xi_lrem, xi_lcmp, xi_i2l, xi_l2i, xi_i2c, xi_dup, xi_dup2, xi_pop, xi_ifeq, xi_ifne, xi_iflt, xi_ifge, xi_ifgt, xi_ifle, xi_iceq, xi_icne, xi_iclt, xi_icge, xi_icgt, xi_icle, xi_iret, xi_zret, xi_lret, xi_vret, xi_getf, xi_putf, xi_ald, xi_ast, xi_alen, xi_callV, xi_callS, xpop, xroom, xl, xst, xok1, xok2, xnarrow, xwide, xone, xent, List.replicate, Option.isSome_some, Bool.and_self, Bool.true_and, Bool.and_true, List.length_cons, List.length_nil, Nat.reduceAdd, Nat.reduceLT, decide_true, Bool.not_false, Nat.beq, Nat.ble, Option.toList, List.nil_append, List.cons_append, xf_30_0]
  refine x_F sX8_thrown ?_
  try simp only [xi_iload, xi_aload, xi_lload, xi_istore, xi_astore, xi_lstore, xi_ic, xi_lc, xi_iinc, xi_iadd, xi_isub, xi_imul, xi_iand, xi_iushr, xi_ineg, xi_idiv, xi_irem, xi_ladd, xi_lmul, xi_lrem, xi_lcmp, xi_i2l, xi_l2i, xi_i2c, xi_dup, xi_dup2, xi_pop, xi_ifeq, xi_ifne, xi_iflt, xi_ifge, xi_ifgt, xi_ifle, xi_iceq, xi_icne, xi_iclt, xi_icge, xi_icgt, xi_icle, xi_iret, xi_zret, xi_lret, xi_vret, xi_getf, xi_putf, xi_ald, xi_ast, xi_alen, xi_callV, xi_callS, xpop, xroom, xl, xst, xok1, xok2, xnarrow, xwide, xone, xent, List.replicate, Option.isSome_some, Bool.and_self, Bool.true_and, Bool.and_true, List.length_cons, List.length_nil, Nat.reduceAdd, Nat.reduceLT, decide_true, Bool.not_false, Nat.beq, Nat.ble, Option.toList, List.nil_append, List.cons_append, xi_never]
  rw [ht]
  refine ⟨fun _ => ⟨fun _ => h1, fun q => h0 ?_⟩, fun q => absurd rfl q⟩
  exact (nI_eq (a := n) (b := 0) (by omega) (by omega)).mp q
theorem lg_cmp_self {x : Int64} : lg_cmp x x = 0 := by
  unfold lg_cmp
  simp
theorem u_int {v : Int32} (hv : o.1 = v.toInt64) (hk : k o [a0, a1, a2, some (.ref 89), a4, a5, a6, some (.int v), a8] [] σ) : uInt k o [a0, a1, a2, some (.ref 89), a4, a5, a6, some (.int v), a8] [] σ := by
  unfold uInt
  try simp only [xi_iload, xi_aload, xi_lload, xi_istore, xi_astore, xi_lstore, xi_ic, xi_lc, xi_iinc, xi_iadd, xi_isub, xi_imul, xi_iand, xi_iushr, xi_ineg, xi_idiv, xi_irem, xi_ladd, xi_lmul, xi_lrem, xi_lcmp, xi_i2l, xi_l2i, xi_i2c, xi_dup, xi_dup2, xi_pop, xi_ifeq, xi_ifne, xi_iflt, xi_ifge, xi_ifgt, xi_ifle, xi_iceq, xi_icne, xi_iclt, xi_icge, xi_icgt, xi_icle, xi_iret, xi_zret, xi_lret, xi_vret, xi_getf, xi_putf, xi_ald, xi_ast, xi_alen, xi_callV, xi_callS, xpop, xroom, xl, xst, xok1, xok2, xnarrow, xwide, xone, xent, List.replicate, Option.isSome_some, Bool.and_self, Bool.true_and, Bool.and_true, List.length_cons, List.length_nil, Nat.reduceAdd, Nat.reduceLT, decide_true, Bool.not_false, Nat.beq, Nat.ble, Option.toList, List.nil_append, List.cons_append, xi_lald, xi_never]
  rw [hv, lg_cmp_self]
  exact ⟨⟨trivial, trivial⟩, fun _ => hk, fun q => absurd rfl q⟩
theorem u_bool {v : Int32} (hb : v = 0 ∨ v = 1) (hv : o.1 = v.toInt64) (hk : k o [a0, a1, a2, some (.ref 89), a4, a5, a6, some (.int v), a8] [] σ) : uBool k o [a0, a1, a2, some (.ref 89), a4, a5, a6, some (.int v), a8] [] σ := by
  unfold uBool
  try simp only [xi_iload, xi_aload, xi_lload, xi_istore, xi_astore, xi_lstore, xi_ic, xi_lc, xi_iinc, xi_iadd, xi_isub, xi_imul, xi_iand, xi_iushr, xi_ineg, xi_idiv, xi_irem, xi_ladd, xi_lmul, xi_lrem, xi_lcmp, xi_i2l, xi_l2i, xi_i2c, xi_dup, xi_dup2, xi_pop, xi_ifeq, xi_ifne, xi_iflt, xi_ifge, xi_ifgt, xi_ifle, xi_iceq, xi_icne, xi_iclt, xi_icge, xi_icgt, xi_icle, xi_iret, xi_zret, xi_lret, xi_vret, xi_getf, xi_putf, xi_ald, xi_ast, xi_alen, xi_callV, xi_callS, xpop, xroom, xl, xst, xok1, xok2, xnarrow, xwide, xone, xent, List.replicate, Option.isSome_some, Bool.and_self, Bool.true_and, Bool.and_true, List.length_cons, List.length_nil, Nat.reduceAdd, Nat.reduceLT, decide_true, Bool.not_false, Nat.beq, Nat.ble, Option.toList, List.nil_append, List.cons_append, xi_lald, xi_never, xi_l01]
  have e : (if v = 0 then (0 : Int64) else 1) = v.toInt64 := by
    rcases hb with rfl | rfl
    · rfl
    · rfl
  rw [hv, e, lg_cmp_self]
  exact ⟨⟨trivial, trivial⟩, fun _ => hk, fun q => absurd rfl q⟩
theorem u_long {v : Int64} (hv : o.1 = v) (hk : k o [a0, a1, a2, some (.ref 89), a4, a5, a6, some (.long v), a8] [] σ) : uLong k o [a0, a1, a2, some (.ref 89), a4, a5, a6, some (.long v), a8] [] σ := by
  unfold uLong
  try simp only [xi_iload, xi_aload, xi_lload, xi_istore, xi_astore, xi_lstore, xi_ic, xi_lc, xi_iinc, xi_iadd, xi_isub, xi_imul, xi_iand, xi_iushr, xi_ineg, xi_idiv, xi_irem, xi_ladd, xi_lmul, xi_lrem, xi_lcmp, xi_i2l, xi_l2i, xi_i2c, xi_dup, xi_dup2, xi_pop, xi_ifeq, xi_ifne, xi_iflt, xi_ifge, xi_ifgt, xi_ifle, xi_iceq, xi_icne, xi_iclt, xi_icge, xi_icgt, xi_icle, xi_iret, xi_zret, xi_lret, xi_vret, xi_getf, xi_putf, xi_ald, xi_ast, xi_alen, xi_callV, xi_callS, xpop, xroom, xl, xst, xok1, xok2, xnarrow, xwide, xone, xent, List.replicate, Option.isSome_some, Bool.and_self, Bool.true_and, Bool.and_true, List.length_cons, List.length_nil, Nat.reduceAdd, Nat.reduceLT, decide_true, Bool.not_false, Nat.beq, Nat.ble, Option.toList, List.nil_append, List.cons_append, xi_lald, xi_never]
  rw [hv, lg_cmp_self]
  exact ⟨⟨trivial, trivial⟩, fun _ => hk, fun q => absurd rfl q⟩
theorem u_flt {v : UInt32} (h1 : vf_n64 (FP.f2d v)) (h2 : FP.dcmp (FP.f2d v) (FP.f2d v) = some .eq) (hv : o.2 = FP.f2d v) (hk : k o [a0, a1, a2, a3, some (.ref 90), a5, a6, some (.float v), a8] [] σ) : uFlt k o [a0, a1, a2, a3, some (.ref 90), a5, a6, some (.float v), a8] [] σ := by
  unfold uFlt
  try simp only [xi_iload, xi_aload, xi_lload, xi_istore, xi_astore, xi_lstore, xi_ic, xi_lc, xi_iinc, xi_iadd, xi_isub, xi_imul, xi_iand, xi_iushr, xi_ineg, xi_idiv, xi_irem, xi_ladd, xi_lmul, xi_lrem, xi_lcmp, xi_i2l, xi_l2i, xi_i2c, xi_dup, xi_dup2, xi_pop, xi_ifeq, xi_ifne, xi_iflt, xi_ifge, xi_ifgt, xi_ifle, xi_iceq, xi_icne, xi_iclt, xi_icge, xi_icgt, xi_icle, xi_iret, xi_zret, xi_lret, xi_vret, xi_getf, xi_putf, xi_ald, xi_ast, xi_alen, xi_callV, xi_callS, xpop, xroom, xl, xst, xok1, xok2, xnarrow, xwide, xone, xent, List.replicate, Option.isSome_some, Bool.and_self, Bool.true_and, Bool.and_true, List.length_cons, List.length_nil, Nat.reduceAdd, Nat.reduceLT, decide_true, Bool.not_false, Nat.beq, Nat.ble, Option.toList, List.nil_append, List.cons_append, xi_dald, xi_never, xi_fload, xi_f2d, xi_dcmp]
  rw [hv, h2]
  exact ⟨⟨trivial, trivial⟩, h1, fun _ => hk, fun q => absurd rfl q⟩
theorem u_dbl {v : UInt64} (h2 : FP.dcmp v v = some .eq) (hv : o.2 = v) (hk : k o [a0, a1, a2, a3, some (.ref 90), a5, a6, some (.double v), a8] [] σ) : uDbl k o [a0, a1, a2, a3, some (.ref 90), a5, a6, some (.double v), a8] [] σ := by
  unfold uDbl
  try simp only [xi_iload, xi_aload, xi_lload, xi_istore, xi_astore, xi_lstore, xi_ic, xi_lc, xi_iinc, xi_iadd, xi_isub, xi_imul, xi_iand, xi_iushr, xi_ineg, xi_idiv, xi_irem, xi_ladd, xi_lmul, xi_lrem, xi_lcmp, xi_i2l, xi_l2i, xi_i2c, xi_dup, xi_dup2, xi_pop, xi_ifeq, xi_ifne, xi_iflt, xi_ifge, xi_ifgt, xi_ifle, xi_iceq, xi_icne, xi_iclt, xi_icge, xi_icgt, xi_icle, xi_iret, xi_zret, xi_lret, xi_vret, xi_getf, xi_putf, xi_ald, xi_ast, xi_alen, xi_callV, xi_callS, xpop, xroom, xl, xst, xok1, xok2, xnarrow, xwide, xone, xent, List.replicate, Option.isSome_some, Bool.and_self, Bool.true_and, Bool.and_true, List.length_cons, List.length_nil, Nat.reduceAdd, Nat.reduceLT, decide_true, Bool.not_false, Nat.beq, Nat.ble, Option.toList, List.nil_append, List.cons_append, xi_dald, xi_never, xi_dload, xi_dcmp]
  rw [hv, h2]
  exact ⟨⟨trivial, trivial⟩, fun _ => hk, fun q => absurd rfl q⟩
end S99s
