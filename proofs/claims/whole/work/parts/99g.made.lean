/-! what the constructors make -/
section S99g
variable {l : Launch} {D : va_G} {cA : Nat → ClassId} {sz d : Nat} {sh : List MkSh} {o : Nat}
theorem cRow {n : Nat} (hn : n ≤ 2000) (h : sh[o]? = some (Sum.inr (3, [.null]))) : MkM l D cA sz mX3_init (d + 1) 1 n [.ref o, .int (nI n)] sh (fun sh' => sh' = (sh ++ [(Sum.inl (0, n) : MkSh)]).set o (Sum.inr (3, [.ref sh.length]))) := by
  refine mk_of (by decide +kernel) rfl rfl rfl (Nat.le_of_ble_eq_true rfl) ?_
  refine bM_X3 hn _ _ _ ?_
  have ho := (List.getElem?_eq_some_iff.mp h).1
  have h2 : (sh ++ [(Sum.inl (0, n) : MkSh)])[o]? = some (Sum.inr (3, [.null])) := by rw [List.getElem?_append_left ho]; exact h
  have key : mi_putf (.array .int) 3 0 (mi_ret fun sh' => sh' = (sh ++ [(Sum.inl (0, n) : MkSh)]).set o (Sum.inr (3, [.ref sh.length]))) [some (.ref o), some (.int (nI n))] [.ref sh.length, .ref o] (sh ++ [(Sum.inl (0, n) : MkSh)]) := by
    simp only [mi_putf, h2, mi_ret]
    exact ⟨trivial, by decide, fun ad => ⟨rfl, rfl⟩, rfl⟩
  try simp only [xi_iload, xi_aload, xi_lload, xi_istore, xi_astore, xi_lstore, xi_ic, xi_lc, xi_iinc, xi_iadd, xi_isub, xi_imul, xi_iand, xi_iushr, xi_ineg, xi_idiv, xi_irem, xi_ladd, xi_lmul, xi_lrem, xi_lcmp, xi_i2l, xi_l2i, xi_i2c, xi_dup, xi_dup2, xi_pop, xi_ifeq, xi_ifne, xi_iflt, xi_ifge, xi_ifgt, xi_ifle, xi_iceq, xi_icne, xi_iclt, xi_icge, xi_icgt, xi_icle, xi_iret, xi_zret, xi_lret, xi_vret, xi_getf, xi_putf, xi_ald, xi_ast, xi_alen, xi_callV, xi_callS, xpop, xroom, xl, xst, xok1, xok2, xnarrow, xwide, xone, xent, List.replicate, Option.isSome_some, Bool.and_self, Bool.true_and, Bool.and_true, List.length_cons, List.length_nil, Nat.reduceAdd, Nat.reduceLT, decide_true, Bool.not_false, Nat.beq, Nat.ble, Option.toList, List.nil_append, List.cons_append, mi_aload, mi_obj, mi_iload, mi_ifle, mi_ic, mi_newa]
  refine ⟨fun q => ?_, fun q => ⟨trivial, key⟩⟩
  have hz : n = 0 := by
    by_cases e : n = 0
    · exact e
    · exact absurd q (nI_nle (by omega) (by omega))
  exact ⟨by rw [hz]; rfl, key⟩
theorem cTable {m w : Nat} (hn : m * w ≤ 2000) (hm : m ≤ 2000) (hw : w ≤ 2000) (h : sh[o]? = some (Sum.inr (6, [.null, .int 0, .int 0, .int 0]))) : MkM l D cA sz mX6_init (d + 1) 1 (m * w) [.ref o, .int (nI m), .int (nI w)] sh (fun sh' => sh' = (sh ++ [(Sum.inl (0, m * w) : MkSh)]).set o (Sum.inr (6, [.ref sh.length, .int (nI m), .int (nI w), .int 0]))) := by
  refine mk_of (by decide +kernel) rfl rfl rfl (Nat.le_of_ble_eq_true rfl) ?_
  refine bM_X6 hn _ _ _ ?_
  have ho := (List.getElem?_eq_some_iff.mp h).1
  have hl : o < (sh ++ [(Sum.inl (0, m * w) : MkSh)]).length := by rw [List.length_append]; omega
  have h2 : (sh ++ [(Sum.inl (0, m * w) : MkSh)])[o]? = some (Sum.inr (6, [.null, .int 0, .int 0, .int 0])) := by rw [List.getElem?_append_left ho]; exact h
  try simp only [xi_iload, xi_aload, xi_lload, xi_istore, xi_astore, xi_lstore, xi_ic, xi_lc, xi_iinc, xi_iadd, xi_isub, xi_imul, xi_iand, xi_iushr, xi_ineg, xi_idiv, xi_irem, xi_ladd, xi_lmul, xi_lrem, xi_lcmp, xi_i2l, xi_l2i, xi_i2c, xi_dup, xi_dup2, xi_pop, xi_ifeq, xi_ifne, xi_iflt, xi_ifge, xi_ifgt, xi_ifle, xi_iceq, xi_icne, xi_iclt, xi_icge, xi_icgt, xi_icle, xi_iret, xi_zret, xi_lret, xi_vret, xi_getf, xi_putf, xi_ald, xi_ast, xi_alen, xi_callV, xi_callS, xpop, xroom, xl, xst, xok1, xok2, xnarrow, xwide, xone, xent, List.replicate, Option.isSome_some, Bool.and_self, Bool.true_and, Bool.and_true, List.length_cons, List.length_nil, Nat.reduceAdd, Nat.reduceLT, decide_true, Bool.not_false, Nat.beq, Nat.ble, Option.toList, List.nil_append, List.cons_append, mi_aload, mi_obj, mi_iload, mi_ifle, mi_ic, mi_newa, mi_imul, mi_istore, pk_mul]
  have key : ∀ L, xl L 0 = some (.ref o) → xl L 1 = some (.int (nI m)) → xl L 2 = some (.int (nI w)) → mi_putf (.array .int) 6 0 (mi_aload 0 (mi_iload 1 (mi_putf .int 6 1 (mi_aload 0 (mi_iload 2 (mi_putf .int 6 2 (mi_ret fun sh' => sh' = (sh ++ [(Sum.inl (0, m * w) : MkSh)]).set o (Sum.inr (6, [.ref sh.length, .int (nI m), .int (nI w), .int 0]))))))))) L [.ref sh.length, .ref o] (sh ++ [(Sum.inl (0, m * w) : MkSh)]) := by
    intro L l0 l1 l2
    simp only [mi_putf, mi_aload, mi_iload, l0, l1, l2, h2, mi_ret, List.getElem?_set_self hl, List.set_set, List.set_cons_zero, List.set_cons_succ, List.length_cons, List.length_nil]
    exact ⟨trivial, by decide, fun ad => ⟨rfl, rfl⟩, trivial, by decide, fun ad => ⟨rfl, rfl⟩, trivial, by decide, fun ad => ⟨rfl, rfl⟩, trivial⟩
  refine ⟨fun q => ?_, fun q => ⟨trivial, key _ rfl rfl rfl⟩⟩
  have hz : m * w = 0 := by
    by_cases e : m * w = 0
    · exact e
    · exact absurd q (nI_nle (by omega) (by omega))
  exact ⟨by rw [hz]; rfl, key _ rfl rfl rfl⟩
theorem cInputs : MkM l D cA sz mX0_init (d + 2) 10 1014 [.ref 1] [Sum.inr (7, [.null, .null, .null, .null, .null, .int 0, .int 0, .int 0, .int 0, .int 0]), Sum.inr (0, [.null, .null, .null, .null, .null])] (fun sh' => sh' = [Sum.inr (7, [.null, .null, .null, .null, .null, .int 0, .int 0, .int 0, .int 0, .int 0]), Sum.inr (0, [.ref 2, .ref 4, .ref 6, .ref 8, .ref 10]),
    Sum.inr (6, [.ref 3, .int 10, .int 1, .int 0]), Sum.inl (0, 10), Sum.inr (6, [.ref 5, .int 24, .int 6, .int 0]), Sum.inl (0, 144), Sum.inr (6, [.ref 7, .int 40, .int 5, .int 0]), Sum.inl (0, 200), Sum.inr (6, [.ref 9, .int 160, .int 3, .int 0]), Sum.inl (0, 480), Sum.inr (6, [.ref 11, .int 40, .int 4, .int 0]), Sum.inl (0, 160)]) := by
  refine mk_of (by decide +kernel) rfl rfl rfl (Nat.le_of_ble_eq_true rfl) ?_
  refine bM_X0 _ _ _ ?_
  try simp only [xi_iload, xi_aload, xi_lload, xi_istore, xi_astore, xi_lstore, xi_ic, xi_lc, xi_iinc, xi_iadd, xi_isub, xi_imul, xi_iand, xi_iushr, xi_ineg, xi_idiv, xi_irem, xi_ladd, xi_lmul, xi_lrem, xi_lcmp, xi_i2l, xi_l2i, xi_i2c, xi_dup, xi_dup2, xi_pop, xi_ifeq, xi_ifne, xi_iflt, xi_ifge, xi_ifgt, xi_ifle, xi_iceq, xi_icne, xi_iclt, xi_icge, xi_icgt, xi_icle, xi_iret, xi_zret, xi_lret, xi_vret, xi_getf, xi_putf, xi_ald, xi_ast, xi_alen, xi_callV, xi_callS, xpop, xroom, xl, xst, xok1, xok2, xnarrow, xwide, xone, xent, List.replicate, Option.isSome_some, Bool.and_self, Bool.true_and, Bool.and_true, List.length_cons, List.length_nil, Nat.reduceAdd, Nat.reduceLT, decide_true, Bool.not_false, Nat.beq, Nat.ble, Option.toList, List.nil_append, List.cons_append, mi_aload, mi_obj, mi_ic, mi_new, mi_dup, mi_ctor, xone]
  refine ⟨_, cTable (m := 10) (w := 1) (by decide) (by decide) (by decide) rfl, ?_⟩
  rintro sh' rfl
  try simp only [xi_iload, xi_aload, xi_lload, xi_istore, xi_astore, xi_lstore, xi_ic, xi_lc, xi_iinc, xi_iadd, xi_isub, xi_imul, xi_iand, xi_iushr, xi_ineg, xi_idiv, xi_irem, xi_ladd, xi_lmul, xi_lrem, xi_lcmp, xi_i2l, xi_l2i, xi_i2c, xi_dup, xi_dup2, xi_pop, xi_ifeq, xi_ifne, xi_iflt, xi_ifge, xi_ifgt, xi_ifle, xi_iceq, xi_icne, xi_iclt, xi_icge, xi_icgt, xi_icle, xi_iret, xi_zret, xi_lret, xi_vret, xi_getf, xi_putf, xi_ald, xi_ast, xi_alen, xi_callV, xi_callS, xpop, xroom, xl, xst, xok1, xok2, xnarrow, xwide, xone, xent, List.replicate, Option.isSome_some, Bool.and_self, Bool.true_and, Bool.and_true, List.length_cons, List.length_nil, Nat.reduceAdd, Nat.reduceLT, decide_true, Bool.not_false, Nat.beq, Nat.ble, Option.toList, List.nil_append, List.cons_append, mi_aload, mi_obj, mi_ic, mi_new, mi_dup, mi_ctor, mi_ret, xone, mi_putf, List.length_append, List.length_set, List.set]
  refine ⟨rfl, by decide, fun ad => ⟨rfl, rfl⟩, _, cTable (m := 24) (w := 6) (by decide) (by decide) (by decide) rfl, ?_⟩
  rintro sh' rfl
  try simp only [xi_iload, xi_aload, xi_lload, xi_istore, xi_astore, xi_lstore, xi_ic, xi_lc, xi_iinc, xi_iadd, xi_isub, xi_imul, xi_iand, xi_iushr, xi_ineg, xi_idiv, xi_irem, xi_ladd, xi_lmul, xi_lrem, xi_lcmp, xi_i2l, xi_l2i, xi_i2c, xi_dup, xi_dup2, xi_pop, xi_ifeq, xi_ifne, xi_iflt, xi_ifge, xi_ifgt, xi_ifle, xi_iceq, xi_icne, xi_iclt, xi_icge, xi_icgt, xi_icle, xi_iret, xi_zret, xi_lret, xi_vret, xi_getf, xi_putf, xi_ald, xi_ast, xi_alen, xi_callV, xi_callS, xpop, xroom, xl, xst, xok1, xok2, xnarrow, xwide, xone, xent, List.replicate, Option.isSome_some, Bool.and_self, Bool.true_and, Bool.and_true, List.length_cons, List.length_nil, Nat.reduceAdd, Nat.reduceLT, decide_true, Bool.not_false, Nat.beq, Nat.ble, Option.toList, List.nil_append, List.cons_append, mi_aload, mi_obj, mi_ic, mi_new, mi_dup, mi_ctor, mi_ret, xone, mi_putf, List.length_append, List.length_set, List.set]
  refine ⟨rfl, by decide, fun ad => ⟨rfl, rfl⟩, _, cTable (m := 40) (w := 5) (by decide) (by decide) (by decide) rfl, ?_⟩
  rintro sh' rfl
  try simp only [xi_iload, xi_aload, xi_lload, xi_istore, xi_astore, xi_lstore, xi_ic, xi_lc, xi_iinc, xi_iadd, xi_isub, xi_imul, xi_iand, xi_iushr, xi_ineg, xi_idiv, xi_irem, xi_ladd, xi_lmul, xi_lrem, xi_lcmp, xi_i2l, xi_l2i, xi_i2c, xi_dup, xi_dup2, xi_pop, xi_ifeq, xi_ifne, xi_iflt, xi_ifge, xi_ifgt, xi_ifle, xi_iceq, xi_icne, xi_iclt, xi_icge, xi_icgt, xi_icle, xi_iret, xi_zret, xi_lret, xi_vret, xi_getf, xi_putf, xi_ald, xi_ast, xi_alen, xi_callV, xi_callS, xpop, xroom, xl, xst, xok1, xok2, xnarrow, xwide, xone, xent, List.replicate, Option.isSome_some, Bool.and_self, Bool.true_and, Bool.and_true, List.length_cons, List.length_nil, Nat.reduceAdd, Nat.reduceLT, decide_true, Bool.not_false, Nat.beq, Nat.ble, Option.toList, List.nil_append, List.cons_append, mi_aload, mi_obj, mi_ic, mi_new, mi_dup, mi_ctor, mi_ret, xone, mi_putf, List.length_append, List.length_set, List.set]
  refine ⟨rfl, by decide, fun ad => ⟨rfl, rfl⟩, _, cTable (m := 160) (w := 3) (by decide) (by decide) (by decide) rfl, ?_⟩
  rintro sh' rfl
  try simp only [xi_iload, xi_aload, xi_lload, xi_istore, xi_astore, xi_lstore, xi_ic, xi_lc, xi_iinc, xi_iadd, xi_isub, xi_imul, xi_iand, xi_iushr, xi_ineg, xi_idiv, xi_irem, xi_ladd, xi_lmul, xi_lrem, xi_lcmp, xi_i2l, xi_l2i, xi_i2c, xi_dup, xi_dup2, xi_pop, xi_ifeq, xi_ifne, xi_iflt, xi_ifge, xi_ifgt, xi_ifle, xi_iceq, xi_icne, xi_iclt, xi_icge, xi_icgt, xi_icle, xi_iret, xi_zret, xi_lret, xi_vret, xi_getf, xi_putf, xi_ald, xi_ast, xi_alen, xi_callV, xi_callS, xpop, xroom, xl, xst, xok1, xok2, xnarrow, xwide, xone, xent, List.replicate, Option.isSome_some, Bool.and_self, Bool.true_and, Bool.and_true, List.length_cons, List.length_nil, Nat.reduceAdd, Nat.reduceLT, decide_true, Bool.not_false, Nat.beq, Nat.ble, Option.toList, List.nil_append, List.cons_append, mi_aload, mi_obj, mi_ic, mi_new, mi_dup, mi_ctor, mi_ret, xone, mi_putf, List.length_append, List.length_set, List.set]
  refine ⟨rfl, by decide, fun ad => ⟨rfl, rfl⟩, _, cTable (m := 40) (w := 4) (by decide) (by decide) (by decide) rfl, ?_⟩
  rintro sh' rfl
  try simp only [xi_iload, xi_aload, xi_lload, xi_istore, xi_astore, xi_lstore, xi_ic, xi_lc, xi_iinc, xi_iadd, xi_isub, xi_imul, xi_iand, xi_iushr, xi_ineg, xi_idiv, xi_irem, xi_ladd, xi_lmul, xi_lrem, xi_lcmp, xi_i2l, xi_l2i, xi_i2c, xi_dup, xi_dup2, xi_pop, xi_ifeq, xi_ifne, xi_iflt, xi_ifge, xi_ifgt, xi_ifle, xi_iceq, xi_icne, xi_iclt, xi_icge, xi_icgt, xi_icle, xi_iret, xi_zret, xi_lret, xi_vret, xi_getf, xi_putf, xi_ald, xi_ast, xi_alen, xi_callV, xi_callS, xpop, xroom, xl, xst, xok1, xok2, xnarrow, xwide, xone, xent, List.replicate, Option.isSome_some, Bool.and_self, Bool.true_and, Bool.and_true, List.length_cons, List.length_nil, Nat.reduceAdd, Nat.reduceLT, decide_true, Bool.not_false, Nat.beq, Nat.ble, Option.toList, List.nil_append, List.cons_append, mi_aload, mi_obj, mi_ic, mi_new, mi_dup, mi_ctor, mi_ret, xone, mi_putf, List.length_append, List.length_set, List.set]
  refine ⟨rfl, by decide, fun ad => ⟨rfl, rfl⟩, ?_⟩
  rfl
end S99g
