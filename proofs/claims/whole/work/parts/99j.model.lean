/-! what LinkerYardModel() makes: its last loop -/
section S99j
variable {l : Launch} {D : va_G} {cA : Nat → ClassId} {sz d : Nat}
theorem mk_same {ow : String} {cc : ByteArray} {nL Mc Ms uc us pc : Nat} {R : List MkSh → Prop} {L : List (Option Value)} {S : List Value} {σ τ : List MkSh} (h : mkW sz cA σ = mkW sz cA τ) (hl : σ.length = τ.length) (k : MkAt l D cA sz ow cc nL d Mc Ms R uc us pc L S τ) : MkAt l D cA sz ow cc nL d Mc Ms R uc us pc L S σ := by
  intro p e s m args below meth c hx hb hml hr ho hts hlk hK hN hIn hAr hsz hMc hMs H locs ls hH hP hS hL
  exact k p e s m args below meth c hx hb hml hr ho hts hlk hK hN hIn hAr hsz hMc hMs H locs ls (by rw [← hl]; exact hH) (by rw [← h]; exact hP) hS hL
theorem mk_zero {sh : List MkSh} {b n : Nat} (hb : sh[b]? = some (Sum.inl (0, n))) : mkW sz cA sh = mkW sz cA (sh.set b (Sum.inl (3 + 0, n))) := by
  rw [← mkW_set hb, mkE_3]
  apply List.ext_getElem?
  intro i
  have e := mkW_get (sz := sz) (cA := cA) (sh := sh) (i := b)
  rw [hb] at e
  have hl : b < (mkW sz cA sh).length := (List.getElem?_eq_some_iff.mp e).1
  by_cases hi : i = b
  · subst hi
    rw [List.getElem?_set_self hl, e]
    simp [mkE]
  · rw [List.getElem?_set_ne (Ne.symm hi)]
theorem mFill {sh : List MkSh} {b : Nat} {fs : List Value} (ho : sh[54]? = some (Sum.inr (8, fs))) (hf : fs[46]? = some (.ref b)) (hb : sh[b]? = some (Sum.inl (0, 1280))) : MkAt l D cA sz RX8 prog_10_method_1_code 2 (d + 1) 34 2668 (fun sh' => sh' = sh.set b (Sum.inl (3 + 1280, 1280))) 34 2668 304 [some (.ref 54), some (.int (nI 0))] [] sh := by
  have hbl := (List.getElem?_eq_some_iff.mp hb).1
  have hne : b ≠ 54 := fun e => by rw [e, ho] at hb; cases hb
  have key : ∀ j, j ≤ 1280 → MkAt l D cA sz RX8 prog_10_method_1_code 2 (d + 1) 34 2668 (fun sh' => sh' = sh.set b (Sum.inl (3 + 1280, 1280))) 34 2668 304 [some (.ref 54), some (.int (nI j))] [] (sh.set b (Sum.inl (3 + j, 1280))) := by
    refine loop_up (fun j hj ih => ?_) ?_
    · refine bM_X8b _ _ _ ?_
      have h54 : (sh.set b (Sum.inl (3 + j, 1280)))[54]? = some (Sum.inr (8, fs)) := by rw [List.getElem?_set_ne hne]; exact ho
      have hbb : (sh.set b (Sum.inl (3 + j, 1280)))[b]? = some (Sum.inl (3 + j, 1280)) := List.getElem?_set_self hbl
      try simp only [xi_iload, xi_aload, xi_lload, xi_istore, xi_astore, xi_lstore, xi_ic, xi_lc, xi_iinc, xi_iadd, xi_isub, xi_imul, xi_iand, xi_iushr, xi_ineg, xi_idiv, xi_irem, xi_ladd, xi_lmul, xi_lrem, xi_lcmp, xi_i2l, xi_l2i, xi_i2c, xi_dup, xi_dup2, xi_pop, xi_ifeq, xi_ifne, xi_iflt, xi_ifge, xi_ifgt, xi_ifle, xi_iceq, xi_icne, xi_iclt, xi_icge, xi_icgt, xi_icle, xi_iret, xi_zret, xi_lret, xi_vret, xi_getf, xi_putf, xi_ald, xi_ast, xi_alen, xi_callV, xi_callS, xpop, xroom, xl, xst, xok1, xok2, xnarrow, xwide, xone, xent, List.replicate, Option.isSome_some, Bool.and_self, Bool.true_and, Bool.and_true, List.length_cons, List.length_nil, Nat.reduceAdd, Nat.reduceLT, decide_true, Bool.not_false, Nat.beq, Nat.ble, Option.toList, List.nil_append, List.cons_append, mi_iload, mi_aload, mi_getf, mi_alen, mi_icge, mi_ret, mi_ic, mi_fill, mi_iinc, h54]
      refine ⟨trivial, _, hf, j, 1280, hbb, fun q => absurd q (nI_ge hj (by omega)), fun _ => ⟨trivial, _, hf, j, 1280, hbb, rfl, rfl, hj, by omega, ?_⟩⟩
      rw [List.set_set, nI_1]
      exact ih
    · refine bM_X8b _ _ _ ?_
      have h54 : (sh.set b (Sum.inl (3 + 1280, 1280)))[54]? = some (Sum.inr (8, fs)) := by rw [List.getElem?_set_ne hne]; exact ho
      have hbb : (sh.set b (Sum.inl (3 + 1280, 1280)))[b]? = some (Sum.inl (3 + 1280, 1280)) := List.getElem?_set_self hbl
      try simp only [xi_iload, xi_aload, xi_lload, xi_istore, xi_astore, xi_lstore, xi_ic, xi_lc, xi_iinc, xi_iadd, xi_isub, xi_imul, xi_iand, xi_iushr, xi_ineg, xi_idiv, xi_irem, xi_ladd, xi_lmul, xi_lrem, xi_lcmp, xi_i2l, xi_l2i, xi_i2c, xi_dup, xi_dup2, xi_pop, xi_ifeq, xi_ifne, xi_iflt, xi_ifge, xi_ifgt, xi_ifle, xi_iceq, xi_icne, xi_iclt, xi_icge, xi_icgt, xi_icle, xi_iret, xi_zret, xi_lret, xi_vret, xi_getf, xi_putf, xi_ald, xi_ast, xi_alen, xi_callV, xi_callS, xpop, xroom, xl, xst, xok1, xok2, xnarrow, xwide, xone, xent, List.replicate, Option.isSome_some, Bool.and_self, Bool.true_and, Bool.and_true, List.length_cons, List.length_nil, Nat.reduceAdd, Nat.reduceLT, decide_true, Bool.not_false, Nat.beq, Nat.ble, Option.toList, List.nil_append, List.cons_append, mi_iload, mi_aload, mi_getf, mi_alen, mi_icge, mi_ret, mi_ic, mi_fill, mi_iinc, h54]
      exact ⟨trivial, _, hf, 1280, 1280, hbb, fun _ => trivial, fun q => absurd (nI_le (Nat.le_refl _) (by omega)) q⟩
  exact mk_same (mk_zero hb) (by rw [List.length_set]) (key 0 (by omega))
end S99j
