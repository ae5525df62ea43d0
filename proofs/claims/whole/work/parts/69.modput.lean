/-! the reference: libraries need, are put on, bind -/
section S69
variable {G : XG} {d : Nat} {σ τ ρ : Sg} {M N : YM} {B : Nat} {js l : List Nat} {S : YS}
theorem MN.u39 {z v : Nat} (h : MN σ N) : MN (xup σ 82 z (b2i (v == 1))) (yU N 39 z v) := by
  obtain ⟨⟨h45, h43⟩, h81, h82, h83, h84, h85, h86⟩ := h
  refine ⟨⟨by rw [xup_n (by decide)]; exact h45, by rw [xup_n (by decide)]; exact h43⟩, by rw [xup_n (by decide)]; exact h81, fun i hi => ?_, by rw [xup_n (by decide)]; exact h83, by rw [xup_n (by decide)]; exact h84, by rw [xup_n (by decide)]; exact h85, by rw [xup_n (by decide)]; exact h86⟩
  rw [xup_ap]
  unfold yU
  by_cases hij : i = z
  · rw [if_pos ⟨rfl, hij⟩, if_pos ⟨rfl, hij⟩]
  · rw [if_neg (fun q => hij q.2), if_neg (fun q => hij q.2)]; exact h82 i hi
theorem MN.u51 {z v : Nat} (h : MN σ N) : MN (xup σ 83 z (nI v)) (yU N 51 z v) := by
  obtain ⟨⟨h45, h43⟩, h81, h82, h83, h84, h85, h86⟩ := h
  refine ⟨⟨by rw [xup_n (by decide)]; exact h45, by rw [xup_n (by decide)]; exact h43⟩, by rw [xup_n (by decide)]; exact h81, by rw [xup_n (by decide)]; exact h82, fun i hi => ?_, by rw [xup_n (by decide)]; exact h84, by rw [xup_n (by decide)]; exact h85, by rw [xup_n (by decide)]; exact h86⟩
  rw [xup_ap]
  unfold yU
  by_cases hij : i = z
  · rw [if_pos ⟨rfl, hij⟩, if_pos ⟨rfl, hij⟩]
  · rw [if_neg (fun q => hij q.2), if_neg (fun q => hij q.2)]; exact h83 i hi
theorem MN.u52 {z v : Nat} (h : MN σ N) : MN (xup σ 85 z (b2i (v == 1))) (yU N 52 z v) := by
  obtain ⟨⟨h45, h43⟩, h81, h82, h83, h84, h85, h86⟩ := h
  refine ⟨⟨by rw [xup_n (by decide)]; exact h45, by rw [xup_n (by decide)]; exact h43⟩, by rw [xup_n (by decide)]; exact h81, by rw [xup_n (by decide)]; exact h82, by rw [xup_n (by decide)]; exact h83, by rw [xup_n (by decide)]; exact h84, fun i hi => ?_, by rw [xup_n (by decide)]; exact h86⟩
  rw [xup_ap]
  unfold yU
  by_cases hij : i = z
  · rw [if_pos ⟨rfl, hij⟩, if_pos ⟨rfl, hij⟩]
  · rw [if_neg (fun q => hij q.2), if_neg (fun q => hij q.2)]; exact h85 i hi
theorem MN.u41 {z v : Nat} (h : MN σ N) : MN (xup σ 86 z (pI v)) (yU N 41 z v) := by
  obtain ⟨⟨h45, h43⟩, h81, h82, h83, h84, h85, h86⟩ := h
  refine ⟨⟨by rw [xup_n (by decide)]; exact h45, by rw [xup_n (by decide)]; exact h43⟩, by rw [xup_n (by decide)]; exact h81, by rw [xup_n (by decide)]; exact h82, by rw [xup_n (by decide)]; exact h83, by rw [xup_n (by decide)]; exact h84, by rw [xup_n (by decide)]; exact h85, fun i hi => ?_⟩
  rw [xup_ap]
  unfold yU
  by_cases hij : i = z
  · rw [if_pos ⟨rfl, hij⟩, if_pos ⟨rfl, hij⟩]
  · rw [if_neg (fun q => hij q.2), if_neg (fun q => hij q.2)]; exact h86 i hi
theorem MN.u40 {x : Nat} (h : MN σ N) : MN (xup (xup σ 84 (nSt N) (nI x)) 30 43 (nI (nSt N + 1))) (yU (yU N 15 3 (nSt N + 1)) 40 (nSt N) x) := by
  obtain ⟨⟨h45, h43⟩, h81, h82, h83, h84, h85, h86⟩ := h
  refine ⟨⟨by rw [xu_f (by decide), xup_n (by decide)]; exact h45, by rw [xu_e]; rfl⟩, by rw [xup_n (by decide), xup_n (by decide)]; exact h81, by rw [xup_n (by decide), xup_n (by decide)]; exact h82, by rw [xup_n (by decide), xup_n (by decide)]; exact h83, fun i hi => ?_, by rw [xup_n (by decide), xup_n (by decide)]; exact h85, by rw [xup_n (by decide), xup_n (by decide)]; exact h86⟩
  have hi2 : i < nSt N + 1 := hi
  rw [xup_n (by decide), xup_ap]
  unfold yU
  by_cases hij : i = nSt N
  · rw [if_pos ⟨rfl, hij⟩, if_pos ⟨rfl, hij⟩]
  · rw [if_neg (fun q => hij q.2), if_neg (fun q => hij q.2), if_neg (fun q => by omega)]; exact h84 i (by omega)
theorem sX8_need {x y : Int32} (z : ZM σ S) (w : ZW S B) : XM G mX8_need (d + 2) [.ref 30, .int x, .int y] σ (PM σ (oNed S x y)) := by
  refine xm_of (by decide +kernel) rfl (Nat.le_of_ble_eq_true rfl) ?_
  refine bX8_need_0 _ _ _ ?_
  have p := w.2.1.1
  have hb := p.1
  have hst := p.le
  have h39 := p.2.1
  have hMN := z.1.2
  obtain ⟨⟨h45, h43⟩, h81, h82, h83, h84, h85, h86⟩ := id hMN
  try simp only [xi_iload, xi_aload, xi_lload, xi_istore, xi_astore, xi_lstore, xi_ic, xi_lc, xi_iinc, xi_iadd, xi_isub, xi_imul, xi_iand, xi_iushr, xi_ineg, xi_idiv, xi_irem, xi_ladd, xi_lmul, xi_lrem, xi_lcmp, xi_i2l, xi_l2i, xi_i2c, xi_dup, xi_dup2, xi_pop, xi_ifeq, xi_ifne, xi_iflt, xi_ifge, xi_ifgt, xi_ifle, xi_iceq, xi_icne, xi_iclt, xi_icge, xi_icgt, xi_icle, xi_iret, xi_zret, xi_lret, xi_vret, xi_getf, xi_putf, xi_ald, xi_ast, xi_alen, xi_callV, xi_callS, xpop, xroom, xl, xst, xok1, xok2, xnarrow, xwide, xone, xent, List.replicate, Option.isSome_some, Bool.and_self, Bool.true_and, Bool.and_true, List.length_cons, List.length_nil, Nat.reduceAdd, Nat.reduceLT, decide_true, Bool.not_false, Nat.beq, Nat.ble, Option.toList, List.nil_append, List.cons_append, xf_30_0, xf_30_1, xf_30_2, xf_30_3, xf_30_4, xf_30_5, xf_30_6, xf_30_7, xf_30_8, xf_30_9, xf_30_10, xf_30_11, xf_30_12, xf_30_13, xf_30_14, xf_30_15, xf_30_16, xf_30_17, xf_30_18, xf_30_19, xf_30_20, xf_30_21, xf_30_22, xf_30_23, xf_30_24, xf_30_25, xf_30_26, xf_30_27, xf_30_28, xf_30_29, xf_30_30, xf_30_31, xf_30_32, xf_30_33, xf_30_34, xf_30_35, xf_30_36, xf_30_37, xf_30_38, xf_30_39, xf_30_40, xf_30_41, xf_30_42, xf_30_43, xf_30_44, xf_30_45, xf_30_46, xf_30_47, xf_30_48, xf_30_49, xf_30_50, xa_55, xa_56, xa_57, xa_58, xa_59, xa_60, xa_61, xa_62, xa_63, xa_64, xa_65, xa_66, xa_67, xa_68, xa_69, xa_70, xa_71, xa_72, xa_73, xa_74, xa_75, xa_76, xa_77, xa_78, xa_79, xa_80, xa_81, xa_82, xa_83, xa_84, xa_85, xa_86, xa_87, xa_88]
  refine x_F (sX8_isLibrary z.1.2 hb) ?_
  rcases rng_cases (x := x) (n := nL S.2.1) (by omega) with ⟨hr, hn⟩ | ⟨j, hj, rfl, hr⟩
  · have e : oNed S x y = (1, 0, S) := by simp only [oNed, hr]
    rw [hr, e]
    try simp only [xi_iload, xi_aload, xi_lload, xi_istore, xi_astore, xi_lstore, xi_ic, xi_lc, xi_iinc, xi_iadd, xi_isub, xi_imul, xi_iand, xi_iushr, xi_ineg, xi_idiv, xi_irem, xi_ladd, xi_lmul, xi_lrem, xi_lcmp, xi_i2l, xi_l2i, xi_i2c, xi_dup, xi_dup2, xi_pop, xi_ifeq, xi_ifne, xi_iflt, xi_ifge, xi_ifgt, xi_ifle, xi_iceq, xi_icne, xi_iclt, xi_icge, xi_icgt, xi_icle, xi_iret, xi_zret, xi_lret, xi_vret, xi_getf, xi_putf, xi_ald, xi_ast, xi_alen, xi_callV, xi_callS, xpop, xroom, xl, xst, xok1, xok2, xnarrow, xwide, xone, xent, List.replicate, Option.isSome_some, Bool.and_self, Bool.true_and, Bool.and_true, List.length_cons, List.length_nil, Nat.reduceAdd, Nat.reduceLT, decide_true, Bool.not_false, Nat.beq, Nat.ble, Option.toList, List.nil_append, List.cons_append, xf_30_0, xf_30_1, xf_30_2, xf_30_3, xf_30_4, xf_30_5, xf_30_6, xf_30_7, xf_30_8, xf_30_9, xf_30_10, xf_30_11, xf_30_12, xf_30_13, xf_30_14, xf_30_15, xf_30_16, xf_30_17, xf_30_18, xf_30_19, xf_30_20, xf_30_21, xf_30_22, xf_30_23, xf_30_24, xf_30_25, xf_30_26, xf_30_27, xf_30_28, xf_30_29, xf_30_30, xf_30_31, xf_30_32, xf_30_33, xf_30_34, xf_30_35, xf_30_36, xf_30_37, xf_30_38, xf_30_39, xf_30_40, xf_30_41, xf_30_42, xf_30_43, xf_30_44, xf_30_45, xf_30_46, xf_30_47, xf_30_48, xf_30_49, xf_30_50, xa_55, xa_56, xa_57, xa_58, xa_59, xa_60, xa_61, xa_62, xa_63, xa_64, xa_65, xa_66, xa_67, xa_68, xa_69, xa_70, xa_71, xa_72, xa_73, xa_74, xa_75, xa_76, xa_77, xa_78, xa_79, xa_80, xa_81, xa_82, xa_83, xa_84, xa_85, xa_86, xa_87, xa_88, Option.isSome_none]
    exact ⟨fun _ => ⟨xnok_i _, PM.of z.t xmod.t xu50 (fun q => by cases q)⟩, fun q => absurd (by rfl) q⟩
  · rw [hr]
    try simp only [xi_iload, xi_aload, xi_lload, xi_istore, xi_astore, xi_lstore, xi_ic, xi_lc, xi_iinc, xi_iadd, xi_isub, xi_imul, xi_iand, xi_iushr, xi_ineg, xi_idiv, xi_irem, xi_ladd, xi_lmul, xi_lrem, xi_lcmp, xi_i2l, xi_l2i, xi_i2c, xi_dup, xi_dup2, xi_pop, xi_ifeq, xi_ifne, xi_iflt, xi_ifge, xi_ifgt, xi_ifle, xi_iceq, xi_icne, xi_iclt, xi_icge, xi_icgt, xi_icle, xi_iret, xi_zret, xi_lret, xi_vret, xi_getf, xi_putf, xi_ald, xi_ast, xi_alen, xi_callV, xi_callS, xpop, xroom, xl, xst, xok1, xok2, xnarrow, xwide, xone, xent, List.replicate, Option.isSome_some, Bool.and_self, Bool.true_and, Bool.and_true, List.length_cons, List.length_nil, Nat.reduceAdd, Nat.reduceLT, decide_true, Bool.not_false, Nat.beq, Nat.ble, Option.toList, List.nil_append, List.cons_append, xf_30_0, xf_30_1, xf_30_2, xf_30_3, xf_30_4, xf_30_5, xf_30_6, xf_30_7, xf_30_8, xf_30_9, xf_30_10, xf_30_11, xf_30_12, xf_30_13, xf_30_14, xf_30_15, xf_30_16, xf_30_17, xf_30_18, xf_30_19, xf_30_20, xf_30_21, xf_30_22, xf_30_23, xf_30_24, xf_30_25, xf_30_26, xf_30_27, xf_30_28, xf_30_29, xf_30_30, xf_30_31, xf_30_32, xf_30_33, xf_30_34, xf_30_35, xf_30_36, xf_30_37, xf_30_38, xf_30_39, xf_30_40, xf_30_41, xf_30_42, xf_30_43, xf_30_44, xf_30_45, xf_30_46, xf_30_47, xf_30_48, xf_30_49, xf_30_50, xa_55, xa_56, xa_57, xa_58, xa_59, xa_60, xa_61, xa_62, xa_63, xa_64, xa_65, xa_66, xa_67, xa_68, xa_69, xa_70, xa_71, xa_72, xa_73, xa_74, xa_75, xa_76, xa_77, xa_78, xa_79, xa_80, xa_81, xa_82, xa_83, xa_84, xa_85, xa_86, xa_87, xa_88]
    refine ⟨fun q => absurd q (by decide), fun _ => x_F (sX8_isLibrary z.1.2 hb) ?_⟩
    rcases rng_cases (x := y) (n := nL S.2.1) (by omega) with ⟨hr2, hn⟩ | ⟨k, hk, rfl, hr2⟩
    · have e : oNed S (nI j) y = (1, 0, S) := by simp only [oNed, hr, hr2]
      rw [hr2, e]
      try simp only [xi_iload, xi_aload, xi_lload, xi_istore, xi_astore, xi_lstore, xi_ic, xi_lc, xi_iinc, xi_iadd, xi_isub, xi_imul, xi_iand, xi_iushr, xi_ineg, xi_idiv, xi_irem, xi_ladd, xi_lmul, xi_lrem, xi_lcmp, xi_i2l, xi_l2i, xi_i2c, xi_dup, xi_dup2, xi_pop, xi_ifeq, xi_ifne, xi_iflt, xi_ifge, xi_ifgt, xi_ifle, xi_iceq, xi_icne, xi_iclt, xi_icge, xi_icgt, xi_icle, xi_iret, xi_zret, xi_lret, xi_vret, xi_getf, xi_putf, xi_ald, xi_ast, xi_alen, xi_callV, xi_callS, xpop, xroom, xl, xst, xok1, xok2, xnarrow, xwide, xone, xent, List.replicate, Option.isSome_some, Bool.and_self, Bool.true_and, Bool.and_true, List.length_cons, List.length_nil, Nat.reduceAdd, Nat.reduceLT, decide_true, Bool.not_false, Nat.beq, Nat.ble, Option.toList, List.nil_append, List.cons_append, xf_30_0, xf_30_1, xf_30_2, xf_30_3, xf_30_4, xf_30_5, xf_30_6, xf_30_7, xf_30_8, xf_30_9, xf_30_10, xf_30_11, xf_30_12, xf_30_13, xf_30_14, xf_30_15, xf_30_16, xf_30_17, xf_30_18, xf_30_19, xf_30_20, xf_30_21, xf_30_22, xf_30_23, xf_30_24, xf_30_25, xf_30_26, xf_30_27, xf_30_28, xf_30_29, xf_30_30, xf_30_31, xf_30_32, xf_30_33, xf_30_34, xf_30_35, xf_30_36, xf_30_37, xf_30_38, xf_30_39, xf_30_40, xf_30_41, xf_30_42, xf_30_43, xf_30_44, xf_30_45, xf_30_46, xf_30_47, xf_30_48, xf_30_49, xf_30_50, xa_55, xa_56, xa_57, xa_58, xa_59, xa_60, xa_61, xa_62, xa_63, xa_64, xa_65, xa_66, xa_67, xa_68, xa_69, xa_70, xa_71, xa_72, xa_73, xa_74, xa_75, xa_76, xa_77, xa_78, xa_79, xa_80, xa_81, xa_82, xa_83, xa_84, xa_85, xa_86, xa_87, xa_88, Option.isSome_none]
      exact ⟨fun q => absurd (by rfl) q, fun _ => ⟨xnok_i _, PM.of z.t xmod.t xu50 (fun q => by cases q)⟩⟩
    · rw [hr2]
      have eo : oNed S (nI j) (nI k) = if j = k then (2, 0, S) else if yLd S.2.1 j = true then (3, 0, S) else if yNd S.2.1 j k = true then (4, 0, S) else (0, nI (yCount (yNd (yU S.2.1 39 (j * 8 + k) 1) j) (nL S.2.1)), lib S (yU S.2.1 39 (j * 8 + k) 1)) := by simp only [oNed, hr, hr2]
      have hkk : ∀ i : Nat, 0 < i → i < 10 → oNed S (nI j) (nI k) = (i, 0, S) → ∀ x3, AX8_need G (d + 1 + 1) (PM σ (oNed S (nI j) (nI k))) 67 [some (.ref 30), some (.int (nI j)), some (.int (nI k)), x3, none, none] [.int (nI i), .ref 30] σ := by
        intro i h0 hk e x3
        rw [e]
        refine bX8_need_67 _ _ _ ?_
        try simp only [xi_iload, xi_aload, xi_lload, xi_istore, xi_astore, xi_lstore, xi_ic, xi_lc, xi_iinc, xi_iadd, xi_isub, xi_imul, xi_iand, xi_iushr, xi_ineg, xi_idiv, xi_irem, xi_ladd, xi_lmul, xi_lrem, xi_lcmp, xi_i2l, xi_l2i, xi_i2c, xi_dup, xi_dup2, xi_pop, xi_ifeq, xi_ifne, xi_iflt, xi_ifge, xi_ifgt, xi_ifle, xi_iceq, xi_icne, xi_iclt, xi_icge, xi_icgt, xi_icle, xi_iret, xi_zret, xi_lret, xi_vret, xi_getf, xi_putf, xi_ald, xi_ast, xi_alen, xi_callV, xi_callS, xpop, xroom, xl, xst, xok1, xok2, xnarrow, xwide, xone, xent, List.replicate, Option.isSome_some, Bool.and_self, Bool.true_and, Bool.and_true, List.length_cons, List.length_nil, Nat.reduceAdd, Nat.reduceLT, decide_true, Bool.not_false, Nat.beq, Nat.ble, Option.toList, List.nil_append, List.cons_append, xf_30_0, xf_30_1, xf_30_2, xf_30_3, xf_30_4, xf_30_5, xf_30_6, xf_30_7, xf_30_8, xf_30_9, xf_30_10, xf_30_11, xf_30_12, xf_30_13, xf_30_14, xf_30_15, xf_30_16, xf_30_17, xf_30_18, xf_30_19, xf_30_20, xf_30_21, xf_30_22, xf_30_23, xf_30_24, xf_30_25, xf_30_26, xf_30_27, xf_30_28, xf_30_29, xf_30_30, xf_30_31, xf_30_32, xf_30_33, xf_30_34, xf_30_35, xf_30_36, xf_30_37, xf_30_38, xf_30_39, xf_30_40, xf_30_41, xf_30_42, xf_30_43, xf_30_44, xf_30_45, xf_30_46, xf_30_47, xf_30_48, xf_30_49, xf_30_50, xa_55, xa_56, xa_57, xa_58, xa_59, xa_60, xa_61, xa_62, xa_63, xa_64, xa_65, xa_66, xa_67, xa_68, xa_69, xa_70, xa_71, xa_72, xa_73, xa_74, xa_75, xa_76, xa_77, xa_78, xa_79, xa_80, xa_81, xa_82, xa_83, xa_84, xa_85, xa_86, xa_87, xa_88, xu50]
        exact ⟨xnok_i _, fun q => absurd q (nI_nle h0 (by omega)), fun _ => PM.of z.t xmod.t xu50 (fun q => by dsimp only at q; omega)⟩
      have e8 : 8 * j + k = j * 8 + k := by omega
      have ne : (S.2.1 39 (j * 8 + k) == 1) = yNd S.2.1 j k := rfl
      try simp only [xi_iload, xi_aload, xi_lload, xi_istore, xi_astore, xi_lstore, xi_ic, xi_lc, xi_iinc, xi_iadd, xi_isub, xi_imul, xi_iand, xi_iushr, xi_ineg, xi_idiv, xi_irem, xi_ladd, xi_lmul, xi_lrem, xi_lcmp, xi_i2l, xi_l2i, xi_i2c, xi_dup, xi_dup2, xi_pop, xi_ifeq, xi_ifne, xi_iflt, xi_ifge, xi_ifgt, xi_ifle, xi_iceq, xi_icne, xi_iclt, xi_icge, xi_icgt, xi_icle, xi_iret, xi_zret, xi_lret, xi_vret, xi_getf, xi_putf, xi_ald, xi_ast, xi_alen, xi_callV, xi_callS, xpop, xroom, xl, xst, xok1, xok2, xnarrow, xwide, xone, xent, List.replicate, Option.isSome_some, Bool.and_self, Bool.true_and, Bool.and_true, List.length_cons, List.length_nil, Nat.reduceAdd, Nat.reduceLT, decide_true, Bool.not_false, Nat.beq, Nat.ble, Option.toList, List.nil_append, List.cons_append, xf_30_0, xf_30_1, xf_30_2, xf_30_3, xf_30_4, xf_30_5, xf_30_6, xf_30_7, xf_30_8, xf_30_9, xf_30_10, xf_30_11, xf_30_12, xf_30_13, xf_30_14, xf_30_15, xf_30_16, xf_30_17, xf_30_18, xf_30_19, xf_30_20, xf_30_21, xf_30_22, xf_30_23, xf_30_24, xf_30_25, xf_30_26, xf_30_27, xf_30_28, xf_30_29, xf_30_30, xf_30_31, xf_30_32, xf_30_33, xf_30_34, xf_30_35, xf_30_36, xf_30_37, xf_30_38, xf_30_39, xf_30_40, xf_30_41, xf_30_42, xf_30_43, xf_30_44, xf_30_45, xf_30_46, xf_30_47, xf_30_48, xf_30_49, xf_30_50, xa_55, xa_56, xa_57, xa_58, xa_59, xa_60, xa_61, xa_62, xa_63, xa_64, xa_65, xa_66, xa_67, xa_68, xa_69, xa_70, xa_71, xa_72, xa_73, xa_74, xa_75, xa_76, xa_77, xa_78, xa_79, xa_80, xa_81, xa_82, xa_83, xa_84, xa_85, xa_86, xa_87, xa_88, q8]
      simp (disch := omega) only [pk_mul, nI_add, e8, h82, ne, vp_nI, nI_clamp, true_and, nI_eq]
      refine ⟨fun _ => ⟨fun q => ?_, fun q => hkk 2 (by omega) (by omega) (by rw [eo, if_pos q]) _⟩, fun q => absurd q (by decide)⟩
      refine x_F (sX8_placeIn (x := j) hMN (by omega) (fun i hi => by have := p.2.2.1 i hi; omega) (by omega)) ?_
      try simp only [xi_iload, xi_aload, xi_lload, xi_istore, xi_astore, xi_lstore, xi_ic, xi_lc, xi_iinc, xi_iadd, xi_isub, xi_imul, xi_iand, xi_iushr, xi_ineg, xi_idiv, xi_irem, xi_ladd, xi_lmul, xi_lrem, xi_lcmp, xi_i2l, xi_l2i, xi_i2c, xi_dup, xi_dup2, xi_pop, xi_ifeq, xi_ifne, xi_iflt, xi_ifge, xi_ifgt, xi_ifle, xi_iceq, xi_icne, xi_iclt, xi_icge, xi_icgt, xi_icle, xi_iret, xi_zret, xi_lret, xi_vret, xi_getf, xi_putf, xi_ald, xi_ast, xi_alen, xi_callV, xi_callS, xpop, xroom, xl, xst, xok1, xok2, xnarrow, xwide, xone, xent, List.replicate, Option.isSome_some, Bool.and_self, Bool.true_and, Bool.and_true, List.length_cons, List.length_nil, Nat.reduceAdd, Nat.reduceLT, decide_true, Bool.not_false, Nat.beq, Nat.ble, Option.toList, List.nil_append, List.cons_append]
      rw [oI_none (place_lt (by omega)), place_ld, b2i_ne]
      refine ⟨fun q2 => ⟨fun q3 => ?_, fun q3 => hkk 4 (by omega) (by omega) (by rw [eo, if_neg q, if_neg (by rw [q2]; decide), if_pos (by simpa using q3)]) _⟩, fun q2 => hkk 3 (by omega) (by omega) (by rw [eo, if_neg q, if_pos (by simpa using q2)]) _⟩
      rw [eo, if_neg q, if_neg (by rw [q2]; decide), if_neg (by rw [q3]; decide)]
      refine bX8_need_67 _ _ _ ?_
      try simp only [xi_iload, xi_aload, xi_lload, xi_istore, xi_astore, xi_lstore, xi_ic, xi_lc, xi_iinc, xi_iadd, xi_isub, xi_imul, xi_iand, xi_iushr, xi_ineg, xi_idiv, xi_irem, xi_ladd, xi_lmul, xi_lrem, xi_lcmp, xi_i2l, xi_l2i, xi_i2c, xi_dup, xi_dup2, xi_pop, xi_ifeq, xi_ifne, xi_iflt, xi_ifge, xi_ifgt, xi_ifle, xi_iceq, xi_icne, xi_iclt, xi_icge, xi_icgt, xi_icle, xi_iret, xi_zret, xi_lret, xi_vret, xi_getf, xi_putf, xi_ald, xi_ast, xi_alen, xi_callV, xi_callS, xpop, xroom, xl, xst, xok1, xok2, xnarrow, xwide, xone, xent, List.replicate, Option.isSome_some, Bool.and_self, Bool.true_and, Bool.and_true, List.length_cons, List.length_nil, Nat.reduceAdd, Nat.reduceLT, decide_true, Bool.not_false, Nat.beq, Nat.ble, Option.toList, List.nil_append, List.cons_append, xf_30_0, xf_30_1, xf_30_2, xf_30_3, xf_30_4, xf_30_5, xf_30_6, xf_30_7, xf_30_8, xf_30_9, xf_30_10, xf_30_11, xf_30_12, xf_30_13, xf_30_14, xf_30_15, xf_30_16, xf_30_17, xf_30_18, xf_30_19, xf_30_20, xf_30_21, xf_30_22, xf_30_23, xf_30_24, xf_30_25, xf_30_26, xf_30_27, xf_30_28, xf_30_29, xf_30_30, xf_30_31, xf_30_32, xf_30_33, xf_30_34, xf_30_35, xf_30_36, xf_30_37, xf_30_38, xf_30_39, xf_30_40, xf_30_41, xf_30_42, xf_30_43, xf_30_44, xf_30_45, xf_30_46, xf_30_47, xf_30_48, xf_30_49, xf_30_50, xa_55, xa_56, xa_57, xa_58, xa_59, xa_60, xa_61, xa_62, xa_63, xa_64, xa_65, xa_66, xa_67, xa_68, xa_69, xa_70, xa_71, xa_72, xa_73, xa_74, xa_75, xa_76, xa_77, xa_78, xa_79, xa_80, xa_81, xa_82, xa_83, xa_84, xa_85, xa_86, xa_87, xa_88, q8]
      simp (disch := omega) only [pk_mul, nI_add, e8, xup_n, xu_f, xu_e, vp_nI, nI_clamp, true_and, ev1]
      refine ⟨xnok_i _, fun _ => ?_, fun q => absurd (by decide) q⟩
      have hN : MN (xup (xup σ 30 50 0) 82 (j * 8 + k) (b2i true)) (yU S.2.1 39 (j * 8 + k) 1) := MN.u39 (v := 1) (hMN.s30 (xs30.up (js := [50]) (l := []) rfl) (by decide) (by decide))
      generalize hN' : yU S.2.1 39 (j * 8 + k) 1 = N' at hN
      have e1 : nL N' = nL S.2.1 := by rw [← hN']; rfl
      have hs : xs30 [50] [82] σ (xup (xup σ 30 50 0) 82 (j * 8 + k) (b2i true)) := (xs30.up rfl).tr (xs30.upc rfl rfl)
      have t50 : xup (xup σ 30 50 0) 82 (j * 8 + k) (b2i true) 30 50 = nI 0 := by rw [xup_n (by decide), xu_e]; rfl
      generalize xup (xup σ 30 50 0) 82 (j * 8 + k) (b2i true) = τ at hN hs t50
      obtain ⟨⟨t45, t43⟩, t81, t82, t83, t84, t85, t86⟩ := id hN
      have eC : ∀ i, yCount (yNd N' j) (i + 1) = yCount (yNd N' j) i + (if yNd N' j i = true then 1 else 0) := fun i => rfl
      have h97 : ∀ i, i ≤ nL S.2.1 → AX8_need G (d + 1 + 1) (PM σ (0, nI (yCount (yNd N' j) (nL S.2.1)), lib S N')) 97 [some (.ref 30), some (.int (nI j)), some (.int (nI k)), some (.int (b2i (yNd S.2.1 j k))), some (.int (nI (yCount (yNd N' j) i))), some (.int (nI i))] [] τ := by
        refine loop_up (fun i hi ih => ?_) ?_
        · refine bX8_need_97 _ _ _ ?_
          have e8' : 8 * j + i = j * 8 + i := by omega
          have ne' : (N' 39 (j * 8 + i) == 1) = yNd N' j i := rfl
          rw [eC i] at ih
          try simp only [xi_iload, xi_aload, xi_lload, xi_istore, xi_astore, xi_lstore, xi_ic, xi_lc, xi_iinc, xi_iadd, xi_isub, xi_imul, xi_iand, xi_iushr, xi_ineg, xi_idiv, xi_irem, xi_ladd, xi_lmul, xi_lrem, xi_lcmp, xi_i2l, xi_l2i, xi_i2c, xi_dup, xi_dup2, xi_pop, xi_ifeq, xi_ifne, xi_iflt, xi_ifge, xi_ifgt, xi_ifle, xi_iceq, xi_icne, xi_iclt, xi_icge, xi_icgt, xi_icle, xi_iret, xi_zret, xi_lret, xi_vret, xi_getf, xi_putf, xi_ald, xi_ast, xi_alen, xi_callV, xi_callS, xpop, xroom, xl, xst, xok1, xok2, xnarrow, xwide, xone, xent, List.replicate, Option.isSome_some, Bool.and_self, Bool.true_and, Bool.and_true, List.length_cons, List.length_nil, Nat.reduceAdd, Nat.reduceLT, decide_true, Bool.not_false, Nat.beq, Nat.ble, Option.toList, List.nil_append, List.cons_append, xf_30_0, xf_30_1, xf_30_2, xf_30_3, xf_30_4, xf_30_5, xf_30_6, xf_30_7, xf_30_8, xf_30_9, xf_30_10, xf_30_11, xf_30_12, xf_30_13, xf_30_14, xf_30_15, xf_30_16, xf_30_17, xf_30_18, xf_30_19, xf_30_20, xf_30_21, xf_30_22, xf_30_23, xf_30_24, xf_30_25, xf_30_26, xf_30_27, xf_30_28, xf_30_29, xf_30_30, xf_30_31, xf_30_32, xf_30_33, xf_30_34, xf_30_35, xf_30_36, xf_30_37, xf_30_38, xf_30_39, xf_30_40, xf_30_41, xf_30_42, xf_30_43, xf_30_44, xf_30_45, xf_30_46, xf_30_47, xf_30_48, xf_30_49, xf_30_50, xa_55, xa_56, xa_57, xa_58, xa_59, xa_60, xa_61, xa_62, xa_63, xa_64, xa_65, xa_66, xa_67, xa_68, xa_69, xa_70, xa_71, xa_72, xa_73, xa_74, xa_75, xa_76, xa_77, xa_78, xa_79, xa_80, xa_81, xa_82, xa_83, xa_84, xa_85, xa_86, xa_87, xa_88, q8, t45]
          simp (disch := omega) only [pk_mul, nI_add, e8', t82, ne', vp_nI, nI_clamp, true_and, nI_leI, nI_1, b2i_ne, Int32.add_zero]
          refine ⟨fun q => absurd q (by omega), fun _ => ⟨fun q => ?_, fun q => ?_⟩⟩
          · rw [if_neg (by rw [q]; decide), Nat.add_zero] at ih; exact ih
          · rw [if_pos (by simpa using q)] at ih; exact ih
        · refine bX8_need_97 _ _ _ ?_
          try simp only [xi_iload, xi_aload, xi_lload, xi_istore, xi_astore, xi_lstore, xi_ic, xi_lc, xi_iinc, xi_iadd, xi_isub, xi_imul, xi_iand, xi_iushr, xi_ineg, xi_idiv, xi_irem, xi_ladd, xi_lmul, xi_lrem, xi_lcmp, xi_i2l, xi_l2i, xi_i2c, xi_dup, xi_dup2, xi_pop, xi_ifeq, xi_ifne, xi_iflt, xi_ifge, xi_ifgt, xi_ifle, xi_iceq, xi_icne, xi_iclt, xi_icge, xi_icgt, xi_icle, xi_iret, xi_zret, xi_lret, xi_vret, xi_getf, xi_putf, xi_ald, xi_ast, xi_alen, xi_callV, xi_callS, xpop, xroom, xl, xst, xok1, xok2, xnarrow, xwide, xone, xent, List.replicate, Option.isSome_some, Bool.and_self, Bool.true_and, Bool.and_true, List.length_cons, List.length_nil, Nat.reduceAdd, Nat.reduceLT, decide_true, Bool.not_false, Nat.beq, Nat.ble, Option.toList, List.nil_append, List.cons_append, xf_30_0, xf_30_1, xf_30_2, xf_30_3, xf_30_4, xf_30_5, xf_30_6, xf_30_7, xf_30_8, xf_30_9, xf_30_10, xf_30_11, xf_30_12, xf_30_13, xf_30_14, xf_30_15, xf_30_16, xf_30_17, xf_30_18, xf_30_19, xf_30_20, xf_30_21, xf_30_22, xf_30_23, xf_30_24, xf_30_25, xf_30_26, xf_30_27, xf_30_28, xf_30_29, xf_30_30, xf_30_31, xf_30_32, xf_30_33, xf_30_34, xf_30_35, xf_30_36, xf_30_37, xf_30_38, xf_30_39, xf_30_40, xf_30_41, xf_30_42, xf_30_43, xf_30_44, xf_30_45, xf_30_46, xf_30_47, xf_30_48, xf_30_49, xf_30_50, xa_55, xa_56, xa_57, xa_58, xa_59, xa_60, xa_61, xa_62, xa_63, xa_64, xa_65, xa_66, xa_67, xa_68, xa_69, xa_70, xa_71, xa_72, xa_73, xa_74, xa_75, xa_76, xa_77, xa_78, xa_79, xa_80, xa_81, xa_82, xa_83, xa_84, xa_85, xa_86, xa_87, xa_88, t45]
          rw [e1]
          exact ⟨fun _ => PM.of (ZM_lib z hN hs (by decide) (by decide)) (xmod.of hs (by decide)) t50 (fun _ => rfl), fun q => absurd (nI_le (Nat.le_refl _) (by omega)) q⟩
      exact x_forget (h97 0 (by omega)) (by simp [xle, xst, nI_0, yCount])
theorem sX8_puts : ∀ (f : Nat) {d x : Nat} {σ : Sg} {N : YM}, yFree N ≤ f → MN σ N → PS N → x < nL N → N 52 x = 0 → yLd N x = false → XM G mX8_puts (d + f + 1) [.ref 30, .int (nI x)] σ (fun v τ => v = none ∧ xs30 [43] [83, 84, 85] σ τ ∧ MN τ (yPut f x N)) := by
  intro f
  induction f with
  | zero =>
    intro d x σ N hf hI p hl hu h0
    exfalso
    have : 0 < yFree N := yCount_one.mpr ⟨x, hl, by rw [decide_eq_true_eq]; exact hu⟩
    omega
  | succ f ih =>
    intro d x σ N hf hI p hl hu h0
    refine xm_of (by decide +kernel) rfl (Nat.le_of_ble_eq_true rfl) ?_
    refine bX8_puts_0 (d := d + f + 1) _ _ _ ?_
    have hb := p.1
    generalize hR : (fun (v : Option Value) (τ : Sg) => v = none ∧ xs30 [43] [83, 84, 85] σ τ ∧ MN τ (yPut (f + 1) x N)) = R
    have hloop := PGo_putL (f := f) p hl hu h0
    have hfree : ∀ j, j ≤ nL N → yFree (yPutL (yPut f) x j (yU N 52 x 1)) ≤ f := by
      intro j hj
      have hg := hloop j hj
      have e1 : yFree (yPutL (yPut f) x j (yU N 52 x 1)) = yCount (fun k => decide ((yU N 52 x 1) 52 k = 0)) (nL N) := by
        unfold yFree
        rw [hg.nL, hg.2.1]
        rfl
      rw [e1]
      have : yCount (fun k => decide ((yU N 52 x 1) 52 k = 0)) (nL N) < yFree N := yCount_lt (fun k _ hk => by
        rw [decide_eq_true_eq] at hk ⊢
        unfold yU at hk
        by_cases hkx : k = x
        · rw [hkx]; exact hu
        · rw [if_neg (fun q => hkx q.2)] at hk; exact hk) ⟨x, hl, by rw [decide_eq_true_eq]; exact hu, by rw [decide_eq_false_iff_not]; unfold yU; rw [if_pos ⟨rfl, rfl⟩]; omega⟩
      omega
    have raise : ∀ Nq τq, xs30 [43] [83, 84, 85] σ τq → MN τq Nq → nL Nq ≤ 8 → yRaise Nq x (nL Nq) = yPut (f + 1) x N → ∀ j, j ≤ nL Nq → ∀ τ, xs30 [43] [83, 84, 85] σ τ → MN τ (yRaise Nq x j) → AX8_puts G (d + f + 1 + 1) R 89 [some (.ref 30), some (.int (nI x)), some (.int (nI j))] [] τ := by
      intro Nq τq hsq hq hbq he
      have hx8 : x < 8 := by omega
      refine loop_up (fun j hj ihj τ hs hJ => ?_) (fun τ hs hJ => ?_)
      · refine bX8_puts_89 (d := d + f + 1) _ _ _ ?_
        obtain ⟨⟨t45, t43⟩, t81, t82, t83, t84, t85, t86⟩ := id hJ
        have e13 : nL (yRaise Nq x j) = nL Nq := congrFun (yRaise_ot (by decide)) 3
        have e39 : yRaise Nq x j 39 = Nq 39 := yRaise_ot (by decide)
        have e51 : yRaise Nq x j 51 j = Nq 51 j := by rw [yRaise_at, if_neg (by omega)]
        have e8 : 8 * x + j = x * 8 + j := by omega
        have ne : (yRaise Nq x j 39 (x * 8 + j) == 1) = yNd Nq x j := by rw [e39]; rfl
        rw [e13] at t45
        try simp only [xi_iload, xi_aload, xi_lload, xi_istore, xi_astore, xi_lstore, xi_ic, xi_lc, xi_iinc, xi_iadd, xi_isub, xi_imul, xi_iand, xi_iushr, xi_ineg, xi_idiv, xi_irem, xi_ladd, xi_lmul, xi_lrem, xi_lcmp, xi_i2l, xi_l2i, xi_i2c, xi_dup, xi_dup2, xi_pop, xi_ifeq, xi_ifne, xi_iflt, xi_ifge, xi_ifgt, xi_ifle, xi_iceq, xi_icne, xi_iclt, xi_icge, xi_icgt, xi_icle, xi_iret, xi_zret, xi_lret, xi_vret, xi_getf, xi_putf, xi_ald, xi_ast, xi_alen, xi_callV, xi_callS, xpop, xroom, xl, xst, xok1, xok2, xnarrow, xwide, xone, xent, List.replicate, Option.isSome_some, Bool.and_self, Bool.true_and, Bool.and_true, List.length_cons, List.length_nil, Nat.reduceAdd, Nat.reduceLT, decide_true, Bool.not_false, Nat.beq, Nat.ble, Option.toList, List.nil_append, List.cons_append, xf_30_0, xf_30_1, xf_30_2, xf_30_3, xf_30_4, xf_30_5, xf_30_6, xf_30_7, xf_30_8, xf_30_9, xf_30_10, xf_30_11, xf_30_12, xf_30_13, xf_30_14, xf_30_15, xf_30_16, xf_30_17, xf_30_18, xf_30_19, xf_30_20, xf_30_21, xf_30_22, xf_30_23, xf_30_24, xf_30_25, xf_30_26, xf_30_27, xf_30_28, xf_30_29, xf_30_30, xf_30_31, xf_30_32, xf_30_33, xf_30_34, xf_30_35, xf_30_36, xf_30_37, xf_30_38, xf_30_39, xf_30_40, xf_30_41, xf_30_42, xf_30_43, xf_30_44, xf_30_45, xf_30_46, xf_30_47, xf_30_48, xf_30_49, xf_30_50, xa_55, xa_56, xa_57, xa_58, xa_59, xa_60, xa_61, xa_62, xa_63, xa_64, xa_65, xa_66, xa_67, xa_68, xa_69, xa_70, xa_71, xa_72, xa_73, xa_74, xa_75, xa_76, xa_77, xa_78, xa_79, xa_80, xa_81, xa_82, xa_83, xa_84, xa_85, xa_86, xa_87, xa_88, q8, t45]
        simp (disch := omega) only [pk_mul, nI_add, e8, t82, t83, e51, ne, vp_nI, nI_clamp, true_and, nI_leI, nI_1, b2i_ne, Int32.add_zero]
        refine ⟨fun q => absurd q (by omega), fun _ => ⟨fun q => ?_, fun q => ?_⟩⟩
        · rw [xup_self (by rw [t83 j (by omega), e51])]
          rw [yRaise, if_neg (by rw [q]; decide)] at ihj
          exact ihj τ hs hJ
        · rw [yRaise, if_pos (by simpa using q)] at ihj
          exact ihj _ (hs.tr (xs30.upc rfl rfl)) (hJ.u51)
      · refine bX8_puts_89 (d := d + f + 1) _ _ _ ?_
        obtain ⟨⟨t45, t43⟩, -⟩ := id hJ
        have e13 : nL (yRaise Nq x (nL Nq)) = nL Nq := congrFun (yRaise_ot (by decide)) 3
        rw [e13] at t45
        try simp only [xi_iload, xi_aload, xi_lload, xi_istore, xi_astore, xi_lstore, xi_ic, xi_lc, xi_iinc, xi_iadd, xi_isub, xi_imul, xi_iand, xi_iushr, xi_ineg, xi_idiv, xi_irem, xi_ladd, xi_lmul, xi_lrem, xi_lcmp, xi_i2l, xi_l2i, xi_i2c, xi_dup, xi_dup2, xi_pop, xi_ifeq, xi_ifne, xi_iflt, xi_ifge, xi_ifgt, xi_ifle, xi_iceq, xi_icne, xi_iclt, xi_icge, xi_icgt, xi_icle, xi_iret, xi_zret, xi_lret, xi_vret, xi_getf, xi_putf, xi_ald, xi_ast, xi_alen, xi_callV, xi_callS, xpop, xroom, xl, xst, xok1, xok2, xnarrow, xwide, xone, xent, List.replicate, Option.isSome_some, Bool.and_self, Bool.true_and, Bool.and_true, List.length_cons, List.length_nil, Nat.reduceAdd, Nat.reduceLT, decide_true, Bool.not_false, Nat.beq, Nat.ble, Option.toList, List.nil_append, List.cons_append, xf_30_0, xf_30_1, xf_30_2, xf_30_3, xf_30_4, xf_30_5, xf_30_6, xf_30_7, xf_30_8, xf_30_9, xf_30_10, xf_30_11, xf_30_12, xf_30_13, xf_30_14, xf_30_15, xf_30_16, xf_30_17, xf_30_18, xf_30_19, xf_30_20, xf_30_21, xf_30_22, xf_30_23, xf_30_24, xf_30_25, xf_30_26, xf_30_27, xf_30_28, xf_30_29, xf_30_30, xf_30_31, xf_30_32, xf_30_33, xf_30_34, xf_30_35, xf_30_36, xf_30_37, xf_30_38, xf_30_39, xf_30_40, xf_30_41, xf_30_42, xf_30_43, xf_30_44, xf_30_45, xf_30_46, xf_30_47, xf_30_48, xf_30_49, xf_30_50, xa_55, xa_56, xa_57, xa_58, xa_59, xa_60, xa_61, xa_62, xa_63, xa_64, xa_65, xa_66, xa_67, xa_68, xa_69, xa_70, xa_71, xa_72, xa_73, xa_74, xa_75, xa_76, xa_77, xa_78, xa_79, xa_80, xa_81, xa_82, xa_83, xa_84, xa_85, xa_86, xa_87, xa_88, t45]
        rw [← hR]
        exact ⟨fun _ => ⟨rfl, hs, by rw [← he]; exact hJ⟩, fun q => absurd (nI_le (Nat.le_refl _) (by omega)) q⟩
    have key : ∀ j, j ≤ nL N → ∀ τ, xs30 [43] [83, 84, 85] σ τ → MN τ (yPutL (yPut f) x j (yU N 52 x 1)) → AX8_puts G (d + f + 1 + 1) R 9 [some (.ref 30), some (.int (nI x)), some (.int (nI j))] [] τ := by
      refine loop_up (fun j hj ihj τ hs hJ => ?_) (fun τ hs hJ => ?_)
      · refine bX8_puts_9 (d := d + f + 1) _ _ _ ?_
        have hg := hloop j (by omega)
        have hfr := hfree j (by omega)
        generalize hNj : yPutL (yPut f) x j (yU N 52 x 1) = Nj at hJ hg hfr
        have hps := hg.1
        have hnl : nL Nj = nL N := hg.nL
        have hstl := hps.le
        have hJ0 := hJ
        obtain ⟨⟨t45, t43⟩, t81, t82, t83, t84, t85, t86⟩ := id hJ
        rw [hnl] at t45
        have e8 : 8 * x + j = x * 8 + j := by omega
        have ne : (Nj 39 (x * 8 + j) == 1) = yNd Nj x j := rfl
        have hskip : ¬ (yNd Nj x j = true ∧ yLd Nj j = false ∧ Nj 52 j ≠ 1) → AX8_puts G (d + f + 1 + 1) R 9 [some (.ref 30), some (.int (nI x)), some (.int (nI (j + 1)))] [] τ := by
          intro hno
          refine ihj τ hs ?_
          rw [yPutL, hNj, if_neg hno]
          exact hJ
        try simp only [xi_iload, xi_aload, xi_lload, xi_istore, xi_astore, xi_lstore, xi_ic, xi_lc, xi_iinc, xi_iadd, xi_isub, xi_imul, xi_iand, xi_iushr, xi_ineg, xi_idiv, xi_irem, xi_ladd, xi_lmul, xi_lrem, xi_lcmp, xi_i2l, xi_l2i, xi_i2c, xi_dup, xi_dup2, xi_pop, xi_ifeq, xi_ifne, xi_iflt, xi_ifge, xi_ifgt, xi_ifle, xi_iceq, xi_icne, xi_iclt, xi_icge, xi_icgt, xi_icle, xi_iret, xi_zret, xi_lret, xi_vret, xi_getf, xi_putf, xi_ald, xi_ast, xi_alen, xi_callV, xi_callS, xpop, xroom, xl, xst, xok1, xok2, xnarrow, xwide, xone, xent, List.replicate, Option.isSome_some, Bool.and_self, Bool.true_and, Bool.and_true, List.length_cons, List.length_nil, Nat.reduceAdd, Nat.reduceLT, decide_true, Bool.not_false, Nat.beq, Nat.ble, Option.toList, List.nil_append, List.cons_append, xf_30_0, xf_30_1, xf_30_2, xf_30_3, xf_30_4, xf_30_5, xf_30_6, xf_30_7, xf_30_8, xf_30_9, xf_30_10, xf_30_11, xf_30_12, xf_30_13, xf_30_14, xf_30_15, xf_30_16, xf_30_17, xf_30_18, xf_30_19, xf_30_20, xf_30_21, xf_30_22, xf_30_23, xf_30_24, xf_30_25, xf_30_26, xf_30_27, xf_30_28, xf_30_29, xf_30_30, xf_30_31, xf_30_32, xf_30_33, xf_30_34, xf_30_35, xf_30_36, xf_30_37, xf_30_38, xf_30_39, xf_30_40, xf_30_41, xf_30_42, xf_30_43, xf_30_44, xf_30_45, xf_30_46, xf_30_47, xf_30_48, xf_30_49, xf_30_50, xa_55, xa_56, xa_57, xa_58, xa_59, xa_60, xa_61, xa_62, xa_63, xa_64, xa_65, xa_66, xa_67, xa_68, xa_69, xa_70, xa_71, xa_72, xa_73, xa_74, xa_75, xa_76, xa_77, xa_78, xa_79, xa_80, xa_81, xa_82, xa_83, xa_84, xa_85, xa_86, xa_87, xa_88, q8, t45]
        simp (disch := omega) only [pk_mul, nI_add, e8, t82, ne, vp_nI, nI_clamp, true_and, nI_leI, nI_1, b2i_ne]
        refine ⟨fun q => absurd q (by omega), fun _ => ⟨fun q => hskip (fun z => by rw [z.1] at q; cases q), fun q => x_F (sX8_placeIn (x := j) hJ0 (by omega) (fun k hk => by have := hps.2.2.1 k hk; omega) (by omega)) ?_⟩⟩
        try simp only [xi_iload, xi_aload, xi_lload, xi_istore, xi_astore, xi_lstore, xi_ic, xi_lc, xi_iinc, xi_iadd, xi_isub, xi_imul, xi_iand, xi_iushr, xi_ineg, xi_idiv, xi_irem, xi_ladd, xi_lmul, xi_lrem, xi_lcmp, xi_i2l, xi_l2i, xi_i2c, xi_dup, xi_dup2, xi_pop, xi_ifeq, xi_ifne, xi_iflt, xi_ifge, xi_ifgt, xi_ifle, xi_iceq, xi_icne, xi_iclt, xi_icge, xi_icgt, xi_icle, xi_iret, xi_zret, xi_lret, xi_vret, xi_getf, xi_putf, xi_ald, xi_ast, xi_alen, xi_callV, xi_callS, xpop, xroom, xl, xst, xok1, xok2, xnarrow, xwide, xone, xent, List.replicate, Option.isSome_some, Bool.and_self, Bool.true_and, Bool.and_true, List.length_cons, List.length_nil, Nat.reduceAdd, Nat.reduceLT, decide_true, Bool.not_false, Nat.beq, Nat.ble, Option.toList, List.nil_append, List.cons_append]
        simp (disch := omega) only [t85, b2i_ne, vp_nI, nI_clamp, true_and, nI_1]
        rw [oI_none (place_lt (by omega)), place_ld]
        refine ⟨fun q2 => hskip (fun z => by rw [z.2.1] at q2; exact q2 rfl), fun q2 => ⟨fun q3 => hskip (fun z => z.2.2 (by simpa using q3)), fun q3 => ?_⟩⟩
        have h52 := hps.2.2.2.2.1 j
        have hn1 : Nj 52 j ≠ 1 := by simpa using q3
        refine x_R (ih (d := d) hfr hJ0 hps (by omega) (by omega) q2) (fun v ρ hρ => ?_)
        obtain ⟨rfl, hs2, hJ2⟩ := hρ
        try simp only [xi_iload, xi_aload, xi_lload, xi_istore, xi_astore, xi_lstore, xi_ic, xi_lc, xi_iinc, xi_iadd, xi_isub, xi_imul, xi_iand, xi_iushr, xi_ineg, xi_idiv, xi_irem, xi_ladd, xi_lmul, xi_lrem, xi_lcmp, xi_i2l, xi_l2i, xi_i2c, xi_dup, xi_dup2, xi_pop, xi_ifeq, xi_ifne, xi_iflt, xi_ifge, xi_ifgt, xi_ifle, xi_iceq, xi_icne, xi_iclt, xi_icge, xi_icgt, xi_icle, xi_iret, xi_zret, xi_lret, xi_vret, xi_getf, xi_putf, xi_ald, xi_ast, xi_alen, xi_callV, xi_callS, xpop, xroom, xl, xst, xok1, xok2, xnarrow, xwide, xone, xent, List.replicate, Option.isSome_some, Bool.and_self, Bool.true_and, Bool.and_true, List.length_cons, List.length_nil, Nat.reduceAdd, Nat.reduceLT, decide_true, Bool.not_false, Nat.beq, Nat.ble, Option.toList, List.nil_append, List.cons_append, nI_1]
        refine ihj ρ (hs.tr hs2) ?_
        rw [yPutL, hNj, if_pos ⟨by simpa using q, q2, hn1⟩]
        exact hJ2
      · refine bX8_puts_9 (d := d + f + 1) _ _ _ ?_
        have hg := hloop (nL N) (Nat.le_refl _)
        generalize hNj : yPutL (yPut f) x (nL N) (yU N 52 x 1) = Nj at hJ hg
        have hps := hg.1
        have hnl : nL Nj = nL N := hg.nL
        have hu2 : Nj 52 x = 1 := by
          rw [hg.2.1]
          unfold yU
          rw [if_pos ⟨rfl, rfl⟩]
        have h02 := hps.2.2.2.2.2 x (by omega) hu2
        have hroom := hps.room (by omega) h02
        obtain ⟨⟨t45, t43⟩, t81, t82, t83, t84, t85, t86⟩ := id hJ
        rw [hnl] at t45
        have hJ3 : MN (xup τ 85 x (b2i false)) (yU Nj 52 x 0) := MN.u52 (v := 0) hJ
        have hJ4 := MN.u40 (x := x) hJ3
        have e43 : ∀ v : Int32, xup τ 85 x v 30 43 = nI (nSt Nj) := fun v => by rw [xup_n (by decide)]; exact t43
        try simp only [xi_iload, xi_aload, xi_lload, xi_istore, xi_astore, xi_lstore, xi_ic, xi_lc, xi_iinc, xi_iadd, xi_isub, xi_imul, xi_iand, xi_iushr, xi_ineg, xi_idiv, xi_irem, xi_ladd, xi_lmul, xi_lrem, xi_lcmp, xi_i2l, xi_l2i, xi_i2c, xi_dup, xi_dup2, xi_pop, xi_ifeq, xi_ifne, xi_iflt, xi_ifge, xi_ifgt, xi_ifle, xi_iceq, xi_icne, xi_iclt, xi_icge, xi_icgt, xi_icle, xi_iret, xi_zret, xi_lret, xi_vret, xi_getf, xi_putf, xi_ald, xi_ast, xi_alen, xi_callV, xi_callS, xpop, xroom, xl, xst, xok1, xok2, xnarrow, xwide, xone, xent, List.replicate, Option.isSome_some, Bool.and_self, Bool.true_and, Bool.and_true, List.length_cons, List.length_nil, Nat.reduceAdd, Nat.reduceLT, decide_true, Bool.not_false, Nat.beq, Nat.ble, Option.toList, List.nil_append, List.cons_append, xf_30_0, xf_30_1, xf_30_2, xf_30_3, xf_30_4, xf_30_5, xf_30_6, xf_30_7, xf_30_8, xf_30_9, xf_30_10, xf_30_11, xf_30_12, xf_30_13, xf_30_14, xf_30_15, xf_30_16, xf_30_17, xf_30_18, xf_30_19, xf_30_20, xf_30_21, xf_30_22, xf_30_23, xf_30_24, xf_30_25, xf_30_26, xf_30_27, xf_30_28, xf_30_29, xf_30_30, xf_30_31, xf_30_32, xf_30_33, xf_30_34, xf_30_35, xf_30_36, xf_30_37, xf_30_38, xf_30_39, xf_30_40, xf_30_41, xf_30_42, xf_30_43, xf_30_44, xf_30_45, xf_30_46, xf_30_47, xf_30_48, xf_30_49, xf_30_50, xa_55, xa_56, xa_57, xa_58, xa_59, xa_60, xa_61, xa_62, xa_63, xa_64, xa_65, xa_66, xa_67, xa_68, xa_69, xa_70, xa_71, xa_72, xa_73, xa_74, xa_75, xa_76, xa_77, xa_78, xa_79, xa_80, xa_81, xa_82, xa_83, xa_84, xa_85, xa_86, xa_87, xa_88, t45]
        simp (disch := omega) only [xup_n, xu_f, xu_e, t43, vp_nI, nI_clamp, true_and, nI_1, ev0]
        refine ⟨fun _ => ⟨xnok_i _, ?_⟩, fun q => absurd (nI_le (Nat.le_refl _) (by omega)) q⟩
        have hs4 : xs30 [43] [83, 84, 85] σ (xup (xup (xup τ 85 x (b2i false)) 84 (nSt Nj) (nI x)) 30 43 (nI (nSt Nj + 1))) := hs.tr ((xs30.upc rfl rfl).tr ((xs30.upc rfl rfl).tr (xs30.up rfl)))
        have hr := raise (yU (yU (yU Nj 52 x 0) 15 3 (nSt Nj + 1)) 40 (nSt Nj) x) _ hs4 hJ4 (show nL Nj ≤ 8 by omega) (by rw [yPut, hNj]; rfl) 0 (by omega) _ hs4 hJ4
        exact x_forget hr (by simp [xle, xst, nI_0])
    try simp only [xi_iload, xi_aload, xi_lload, xi_istore, xi_astore, xi_lstore, xi_ic, xi_lc, xi_iinc, xi_iadd, xi_isub, xi_imul, xi_iand, xi_iushr, xi_ineg, xi_idiv, xi_irem, xi_ladd, xi_lmul, xi_lrem, xi_lcmp, xi_i2l, xi_l2i, xi_i2c, xi_dup, xi_dup2, xi_pop, xi_ifeq, xi_ifne, xi_iflt, xi_ifge, xi_ifgt, xi_ifle, xi_iceq, xi_icne, xi_iclt, xi_icge, xi_icgt, xi_icle, xi_iret, xi_zret, xi_lret, xi_vret, xi_getf, xi_putf, xi_ald, xi_ast, xi_alen, xi_callV, xi_callS, xpop, xroom, xl, xst, xok1, xok2, xnarrow, xwide, xone, xent, List.replicate, Option.isSome_some, Bool.and_self, Bool.true_and, Bool.and_true, List.length_cons, List.length_nil, Nat.reduceAdd, Nat.reduceLT, decide_true, Bool.not_false, Nat.beq, Nat.ble, Option.toList, List.nil_append, List.cons_append, xf_30_0, xf_30_1, xf_30_2, xf_30_3, xf_30_4, xf_30_5, xf_30_6, xf_30_7, xf_30_8, xf_30_9, xf_30_10, xf_30_11, xf_30_12, xf_30_13, xf_30_14, xf_30_15, xf_30_16, xf_30_17, xf_30_18, xf_30_19, xf_30_20, xf_30_21, xf_30_22, xf_30_23, xf_30_24, xf_30_25, xf_30_26, xf_30_27, xf_30_28, xf_30_29, xf_30_30, xf_30_31, xf_30_32, xf_30_33, xf_30_34, xf_30_35, xf_30_36, xf_30_37, xf_30_38, xf_30_39, xf_30_40, xf_30_41, xf_30_42, xf_30_43, xf_30_44, xf_30_45, xf_30_46, xf_30_47, xf_30_48, xf_30_49, xf_30_50, xa_55, xa_56, xa_57, xa_58, xa_59, xa_60, xa_61, xa_62, xa_63, xa_64, xa_65, xa_66, xa_67, xa_68, xa_69, xa_70, xa_71, xa_72, xa_73, xa_74, xa_75, xa_76, xa_77, xa_78, xa_79, xa_80, xa_81, xa_82, xa_83, xa_84, xa_85, xa_86, xa_87, xa_88]
    simp (disch := omega) only [vp_nI, nI_clamp, true_and, ev1]
    have hI1 : MN (xup σ 85 x (b2i true)) (yU N 52 x 1) := MN.u52 (v := 1) hI
    exact x_forget (key 0 (by omega) _ (xs30.upc rfl rfl) hI1) (by simp [xle, xst, nI_0])
theorem sX8_load {x : Int32} (z : ZM σ S) (w : ZW S B) : XM G mX8_load (d + 12) [.ref 30, .int x] σ (PM σ (oLod S x)) := by
  refine xm_of (by decide +kernel) rfl (Nat.le_of_ble_eq_true rfl) ?_
  refine bX8_load_0 (d := d + 11) _ _ _ ?_
  have p := w.2.1.1
  have hb := p.1
  have hst := p.le
  try simp only [xi_iload, xi_aload, xi_lload, xi_istore, xi_astore, xi_lstore, xi_ic, xi_lc, xi_iinc, xi_iadd, xi_isub, xi_imul, xi_iand, xi_iushr, xi_ineg, xi_idiv, xi_irem, xi_ladd, xi_lmul, xi_lrem, xi_lcmp, xi_i2l, xi_l2i, xi_i2c, xi_dup, xi_dup2, xi_pop, xi_ifeq, xi_ifne, xi_iflt, xi_ifge, xi_ifgt, xi_ifle, xi_iceq, xi_icne, xi_iclt, xi_icge, xi_icgt, xi_icle, xi_iret, xi_zret, xi_lret, xi_vret, xi_getf, xi_putf, xi_ald, xi_ast, xi_alen, xi_callV, xi_callS, xpop, xroom, xl, xst, xok1, xok2, xnarrow, xwide, xone, xent, List.replicate, Option.isSome_some, Bool.and_self, Bool.true_and, Bool.and_true, List.length_cons, List.length_nil, Nat.reduceAdd, Nat.reduceLT, decide_true, Bool.not_false, Nat.beq, Nat.ble, Option.toList, List.nil_append, List.cons_append, xf_30_0, xf_30_1, xf_30_2, xf_30_3, xf_30_4, xf_30_5, xf_30_6, xf_30_7, xf_30_8, xf_30_9, xf_30_10, xf_30_11, xf_30_12, xf_30_13, xf_30_14, xf_30_15, xf_30_16, xf_30_17, xf_30_18, xf_30_19, xf_30_20, xf_30_21, xf_30_22, xf_30_23, xf_30_24, xf_30_25, xf_30_26, xf_30_27, xf_30_28, xf_30_29, xf_30_30, xf_30_31, xf_30_32, xf_30_33, xf_30_34, xf_30_35, xf_30_36, xf_30_37, xf_30_38, xf_30_39, xf_30_40, xf_30_41, xf_30_42, xf_30_43, xf_30_44, xf_30_45, xf_30_46, xf_30_47, xf_30_48, xf_30_49, xf_30_50, xa_55, xa_56, xa_57, xa_58, xa_59, xa_60, xa_61, xa_62, xa_63, xa_64, xa_65, xa_66, xa_67, xa_68, xa_69, xa_70, xa_71, xa_72, xa_73, xa_74, xa_75, xa_76, xa_77, xa_78, xa_79, xa_80, xa_81, xa_82, xa_83, xa_84, xa_85, xa_86, xa_87, xa_88]
  refine x_F (sX8_isLibrary z.1.2 hb) ?_
  rcases rng_cases (x := x) (n := nL S.2.1) (by omega) with ⟨hr, hn⟩ | ⟨j, hj, rfl, hr⟩
  · have e : oLod S x = (1, 0, S) := by simp only [oLod, hr]
    rw [hr, e]
    try simp only [xi_iload, xi_aload, xi_lload, xi_istore, xi_astore, xi_lstore, xi_ic, xi_lc, xi_iinc, xi_iadd, xi_isub, xi_imul, xi_iand, xi_iushr, xi_ineg, xi_idiv, xi_irem, xi_ladd, xi_lmul, xi_lrem, xi_lcmp, xi_i2l, xi_l2i, xi_i2c, xi_dup, xi_dup2, xi_pop, xi_ifeq, xi_ifne, xi_iflt, xi_ifge, xi_ifgt, xi_ifle, xi_iceq, xi_icne, xi_iclt, xi_icge, xi_icgt, xi_icle, xi_iret, xi_zret, xi_lret, xi_vret, xi_getf, xi_putf, xi_ald, xi_ast, xi_alen, xi_callV, xi_callS, xpop, xroom, xl, xst, xok1, xok2, xnarrow, xwide, xone, xent, List.replicate, Option.isSome_some, Bool.and_self, Bool.true_and, Bool.and_true, List.length_cons, List.length_nil, Nat.reduceAdd, Nat.reduceLT, decide_true, Bool.not_false, Nat.beq, Nat.ble, Option.toList, List.nil_append, List.cons_append, xf_30_0, xf_30_1, xf_30_2, xf_30_3, xf_30_4, xf_30_5, xf_30_6, xf_30_7, xf_30_8, xf_30_9, xf_30_10, xf_30_11, xf_30_12, xf_30_13, xf_30_14, xf_30_15, xf_30_16, xf_30_17, xf_30_18, xf_30_19, xf_30_20, xf_30_21, xf_30_22, xf_30_23, xf_30_24, xf_30_25, xf_30_26, xf_30_27, xf_30_28, xf_30_29, xf_30_30, xf_30_31, xf_30_32, xf_30_33, xf_30_34, xf_30_35, xf_30_36, xf_30_37, xf_30_38, xf_30_39, xf_30_40, xf_30_41, xf_30_42, xf_30_43, xf_30_44, xf_30_45, xf_30_46, xf_30_47, xf_30_48, xf_30_49, xf_30_50, xa_55, xa_56, xa_57, xa_58, xa_59, xa_60, xa_61, xa_62, xa_63, xa_64, xa_65, xa_66, xa_67, xa_68, xa_69, xa_70, xa_71, xa_72, xa_73, xa_74, xa_75, xa_76, xa_77, xa_78, xa_79, xa_80, xa_81, xa_82, xa_83, xa_84, xa_85, xa_86, xa_87, xa_88, Option.isSome_none]
    refine ⟨fun _ => ?_, fun q => absurd (by rfl) q⟩
    refine bX8_load_14 (d := d + 11) _ _ _ ?_
    try simp only [xi_iload, xi_aload, xi_lload, xi_istore, xi_astore, xi_lstore, xi_ic, xi_lc, xi_iinc, xi_iadd, xi_isub, xi_imul, xi_iand, xi_iushr, xi_ineg, xi_idiv, xi_irem, xi_ladd, xi_lmul, xi_lrem, xi_lcmp, xi_i2l, xi_l2i, xi_i2c, xi_dup, xi_dup2, xi_pop, xi_ifeq, xi_ifne, xi_iflt, xi_ifge, xi_ifgt, xi_ifle, xi_iceq, xi_icne, xi_iclt, xi_icge, xi_icgt, xi_icle, xi_iret, xi_zret, xi_lret, xi_vret, xi_getf, xi_putf, xi_ald, xi_ast, xi_alen, xi_callV, xi_callS, xpop, xroom, xl, xst, xok1, xok2, xnarrow, xwide, xone, xent, List.replicate, Option.isSome_some, Bool.and_self, Bool.true_and, Bool.and_true, List.length_cons, List.length_nil, Nat.reduceAdd, Nat.reduceLT, decide_true, Bool.not_false, Nat.beq, Nat.ble, Option.toList, List.nil_append, List.cons_append, xf_30_0, xf_30_1, xf_30_2, xf_30_3, xf_30_4, xf_30_5, xf_30_6, xf_30_7, xf_30_8, xf_30_9, xf_30_10, xf_30_11, xf_30_12, xf_30_13, xf_30_14, xf_30_15, xf_30_16, xf_30_17, xf_30_18, xf_30_19, xf_30_20, xf_30_21, xf_30_22, xf_30_23, xf_30_24, xf_30_25, xf_30_26, xf_30_27, xf_30_28, xf_30_29, xf_30_30, xf_30_31, xf_30_32, xf_30_33, xf_30_34, xf_30_35, xf_30_36, xf_30_37, xf_30_38, xf_30_39, xf_30_40, xf_30_41, xf_30_42, xf_30_43, xf_30_44, xf_30_45, xf_30_46, xf_30_47, xf_30_48, xf_30_49, xf_30_50, xa_55, xa_56, xa_57, xa_58, xa_59, xa_60, xa_61, xa_62, xa_63, xa_64, xa_65, xa_66, xa_67, xa_68, xa_69, xa_70, xa_71, xa_72, xa_73, xa_74, xa_75, xa_76, xa_77, xa_78, xa_79, xa_80, xa_81, xa_82, xa_83, xa_84, xa_85, xa_86, xa_87, xa_88, xu50]
    exact ⟨xnok_i _, fun q => absurd q (by decide), fun _ => PM.of z.t xmod.t xu50 (fun q => by cases q)⟩
  · have e : oLod S (nI j) = (0, nI (nSt (yLoad S.2.1 j) - nSt S.2.1), lib S (yLoad S.2.1 j)) := by simp only [oLod, hr]
    rw [hr, e]
    try simp only [xi_iload, xi_aload, xi_lload, xi_istore, xi_astore, xi_lstore, xi_ic, xi_lc, xi_iinc, xi_iadd, xi_isub, xi_imul, xi_iand, xi_iushr, xi_ineg, xi_idiv, xi_irem, xi_ladd, xi_lmul, xi_lrem, xi_lcmp, xi_i2l, xi_l2i, xi_i2c, xi_dup, xi_dup2, xi_pop, xi_ifeq, xi_ifne, xi_iflt, xi_ifge, xi_ifgt, xi_ifle, xi_iceq, xi_icne, xi_iclt, xi_icge, xi_icgt, xi_icle, xi_iret, xi_zret, xi_lret, xi_vret, xi_getf, xi_putf, xi_ald, xi_ast, xi_alen, xi_callV, xi_callS, xpop, xroom, xl, xst, xok1, xok2, xnarrow, xwide, xone, xent, List.replicate, Option.isSome_some, Bool.and_self, Bool.true_and, Bool.and_true, List.length_cons, List.length_nil, Nat.reduceAdd, Nat.reduceLT, decide_true, Bool.not_false, Nat.beq, Nat.ble, Option.toList, List.nil_append, List.cons_append, xf_30_0, xf_30_1, xf_30_2, xf_30_3, xf_30_4, xf_30_5, xf_30_6, xf_30_7, xf_30_8, xf_30_9, xf_30_10, xf_30_11, xf_30_12, xf_30_13, xf_30_14, xf_30_15, xf_30_16, xf_30_17, xf_30_18, xf_30_19, xf_30_20, xf_30_21, xf_30_22, xf_30_23, xf_30_24, xf_30_25, xf_30_26, xf_30_27, xf_30_28, xf_30_29, xf_30_30, xf_30_31, xf_30_32, xf_30_33, xf_30_34, xf_30_35, xf_30_36, xf_30_37, xf_30_38, xf_30_39, xf_30_40, xf_30_41, xf_30_42, xf_30_43, xf_30_44, xf_30_45, xf_30_46, xf_30_47, xf_30_48, xf_30_49, xf_30_50, xa_55, xa_56, xa_57, xa_58, xa_59, xa_60, xa_61, xa_62, xa_63, xa_64, xa_65, xa_66, xa_67, xa_68, xa_69, xa_70, xa_71, xa_72, xa_73, xa_74, xa_75, xa_76, xa_77, xa_78, xa_79, xa_80, xa_81, xa_82, xa_83, xa_84, xa_85, xa_86, xa_87, xa_88]
    refine ⟨fun q => absurd q (by decide), fun _ => ?_⟩
    refine bX8_load_14 (d := d + 11) _ _ _ ?_
    have z1 : ZM (xup σ 30 50 0) S := z.t
    have hs1 : xs30 [50, 43] [83, 84, 85] σ (xup σ 30 50 0) := xs30.up rfl
    have x50 : xup σ 30 50 0 30 50 = nI 0 := by rw [xu50]; rfl
    have t43 := z1.1.2.1.2
    try simp only [xi_iload, xi_aload, xi_lload, xi_istore, xi_astore, xi_lstore, xi_ic, xi_lc, xi_iinc, xi_iadd, xi_isub, xi_imul, xi_iand, xi_iushr, xi_ineg, xi_idiv, xi_irem, xi_ladd, xi_lmul, xi_lrem, xi_lcmp, xi_i2l, xi_l2i, xi_i2c, xi_dup, xi_dup2, xi_pop, xi_ifeq, xi_ifne, xi_iflt, xi_ifge, xi_ifgt, xi_ifle, xi_iceq, xi_icne, xi_iclt, xi_icge, xi_icgt, xi_icle, xi_iret, xi_zret, xi_lret, xi_vret, xi_getf, xi_putf, xi_ald, xi_ast, xi_alen, xi_callV, xi_callS, xpop, xroom, xl, xst, xok1, xok2, xnarrow, xwide, xone, xent, List.replicate, Option.isSome_some, Bool.and_self, Bool.true_and, Bool.and_true, List.length_cons, List.length_nil, Nat.reduceAdd, Nat.reduceLT, decide_true, Bool.not_false, Nat.beq, Nat.ble, Option.toList, List.nil_append, List.cons_append, xf_30_0, xf_30_1, xf_30_2, xf_30_3, xf_30_4, xf_30_5, xf_30_6, xf_30_7, xf_30_8, xf_30_9, xf_30_10, xf_30_11, xf_30_12, xf_30_13, xf_30_14, xf_30_15, xf_30_16, xf_30_17, xf_30_18, xf_30_19, xf_30_20, xf_30_21, xf_30_22, xf_30_23, xf_30_24, xf_30_25, xf_30_26, xf_30_27, xf_30_28, xf_30_29, xf_30_30, xf_30_31, xf_30_32, xf_30_33, xf_30_34, xf_30_35, xf_30_36, xf_30_37, xf_30_38, xf_30_39, xf_30_40, xf_30_41, xf_30_42, xf_30_43, xf_30_44, xf_30_45, xf_30_46, xf_30_47, xf_30_48, xf_30_49, xf_30_50, xa_55, xa_56, xa_57, xa_58, xa_59, xa_60, xa_61, xa_62, xa_63, xa_64, xa_65, xa_66, xa_67, xa_68, xa_69, xa_70, xa_71, xa_72, xa_73, xa_74, xa_75, xa_76, xa_77, xa_78, xa_79, xa_80, xa_81, xa_82, xa_83, xa_84, xa_85, xa_86, xa_87, xa_88, xu50]
    rw [t43]
    refine ⟨xnok_i _, fun _ => ?_, fun q => absurd (by decide) q⟩
    generalize xup σ 30 50 0 = τ at z1 hs1 x50
    have hu : S.2.1 52 j = 0 := w.2.1.2.1 j
    have h45 : ∀ N1 ρ, nSt S.2.1 ≤ nSt N1 → N1 = (if yLd S.2.1 j = true then S.2.1 else yPut 9 j S.2.1) → MN ρ N1 → xs30 [50, 43] [83, 84, 85] σ ρ → ρ 30 50 = nI 0 → AX8_load G (d + 11 + 1) (PM σ (0, nI (nSt (yLoad S.2.1 j) - nSt S.2.1), lib S (yLoad S.2.1 j))) 45 [some (.ref 30), some (.int (nI j)), some (.int (nI (nSt S.2.1)))] [] ρ := by
      intro N1 ρ hle hN1 hJ hs h50
      refine bX8_load_45 (d := d + 11) _ _ _ ?_
      have hyl : yLoad S.2.1 j = yU N1 51 j (N1 51 j + 1) := by unfold yLoad; rw [hN1]
      obtain ⟨⟨r45, r43⟩, r81, r82, r83, r84, r85, r86⟩ := id hJ
      try simp only [xi_iload, xi_aload, xi_lload, xi_istore, xi_astore, xi_lstore, xi_ic, xi_lc, xi_iinc, xi_iadd, xi_isub, xi_imul, xi_iand, xi_iushr, xi_ineg, xi_idiv, xi_irem, xi_ladd, xi_lmul, xi_lrem, xi_lcmp, xi_i2l, xi_l2i, xi_i2c, xi_dup, xi_dup2, xi_pop, xi_ifeq, xi_ifne, xi_iflt, xi_ifge, xi_ifgt, xi_ifle, xi_iceq, xi_icne, xi_iclt, xi_icge, xi_icgt, xi_icle, xi_iret, xi_zret, xi_lret, xi_vret, xi_getf, xi_putf, xi_ald, xi_ast, xi_alen, xi_callV, xi_callS, xpop, xroom, xl, xst, xok1, xok2, xnarrow, xwide, xone, xent, List.replicate, Option.isSome_some, Bool.and_self, Bool.true_and, Bool.and_true, List.length_cons, List.length_nil, Nat.reduceAdd, Nat.reduceLT, decide_true, Bool.not_false, Nat.beq, Nat.ble, Option.toList, List.nil_append, List.cons_append, xf_30_0, xf_30_1, xf_30_2, xf_30_3, xf_30_4, xf_30_5, xf_30_6, xf_30_7, xf_30_8, xf_30_9, xf_30_10, xf_30_11, xf_30_12, xf_30_13, xf_30_14, xf_30_15, xf_30_16, xf_30_17, xf_30_18, xf_30_19, xf_30_20, xf_30_21, xf_30_22, xf_30_23, xf_30_24, xf_30_25, xf_30_26, xf_30_27, xf_30_28, xf_30_29, xf_30_30, xf_30_31, xf_30_32, xf_30_33, xf_30_34, xf_30_35, xf_30_36, xf_30_37, xf_30_38, xf_30_39, xf_30_40, xf_30_41, xf_30_42, xf_30_43, xf_30_44, xf_30_45, xf_30_46, xf_30_47, xf_30_48, xf_30_49, xf_30_50, xa_55, xa_56, xa_57, xa_58, xa_59, xa_60, xa_61, xa_62, xa_63, xa_64, xa_65, xa_66, xa_67, xa_68, xa_69, xa_70, xa_71, xa_72, xa_73, xa_74, xa_75, xa_76, xa_77, xa_78, xa_79, xa_80, xa_81, xa_82, xa_83, xa_84, xa_85, xa_86, xa_87, xa_88]
      simp (disch := omega) only [xup_n, r83, r43, vp_nI, nI_clamp, true_and, nI_1]
      rw [nI_sub hle, hyl]
      have hs2 : xs30 [50, 43] [83, 84, 85] σ (xup ρ 83 j (nI (N1 51 j + 1))) := hs.tr (xs30.upc rfl rfl)
      exact PM.of (ZM_lib z (MN.u51 hJ) hs2 (by decide) (by decide)) (xmod.of hs2 (by decide)) (by rw [xup_n (by decide)]; exact h50) (fun _ => rfl)
    refine x_F (sX8_placeIn (x := j) z1.1.2 (by omega) (fun k hk => by have := p.2.2.1 k hk; omega) (by omega)) ?_
    try simp only [xi_iload, xi_aload, xi_lload, xi_istore, xi_astore, xi_lstore, xi_ic, xi_lc, xi_iinc, xi_iadd, xi_isub, xi_imul, xi_iand, xi_iushr, xi_ineg, xi_idiv, xi_irem, xi_ladd, xi_lmul, xi_lrem, xi_lcmp, xi_i2l, xi_l2i, xi_i2c, xi_dup, xi_dup2, xi_pop, xi_ifeq, xi_ifne, xi_iflt, xi_ifge, xi_ifgt, xi_ifle, xi_iceq, xi_icne, xi_iclt, xi_icge, xi_icgt, xi_icle, xi_iret, xi_zret, xi_lret, xi_vret, xi_getf, xi_putf, xi_ald, xi_ast, xi_alen, xi_callV, xi_callS, xpop, xroom, xl, xst, xok1, xok2, xnarrow, xwide, xone, xent, List.replicate, Option.isSome_some, Bool.and_self, Bool.true_and, Bool.and_true, List.length_cons, List.length_nil, Nat.reduceAdd, Nat.reduceLT, decide_true, Bool.not_false, Nat.beq, Nat.ble, Option.toList, List.nil_append, List.cons_append]
    rw [oI_none (place_lt (by omega)), place_ld]
    refine ⟨fun q => ?_, fun q => ?_⟩
    · have hq : yLd S.2.1 j = true := by simpa using q
      exact h45 S.2.1 τ (Nat.le_refl _) (by rw [if_pos hq]) z1.1.2 hs1 x50
    · have hg := PGo_put 9 p hj hu q
      have hfr : yFree S.2.1 ≤ 9 := by have := yFree_le (N := S.2.1); omega
      refine x_R (sX8_puts 9 (d := d + 1) hfr z1.1.2 p hj hu q) (fun v ρ hρ => ?_)
      obtain ⟨rfl, hs2, hJ2⟩ := hρ
      try simp only [xi_iload, xi_aload, xi_lload, xi_istore, xi_astore, xi_lstore, xi_ic, xi_lc, xi_iinc, xi_iadd, xi_isub, xi_imul, xi_iand, xi_iushr, xi_ineg, xi_idiv, xi_irem, xi_ladd, xi_lmul, xi_lrem, xi_lcmp, xi_i2l, xi_l2i, xi_i2c, xi_dup, xi_dup2, xi_pop, xi_ifeq, xi_ifne, xi_iflt, xi_ifge, xi_ifgt, xi_ifle, xi_iceq, xi_icne, xi_iclt, xi_icge, xi_icgt, xi_icle, xi_iret, xi_zret, xi_lret, xi_vret, xi_getf, xi_putf, xi_ald, xi_ast, xi_alen, xi_callV, xi_callS, xpop, xroom, xl, xst, xok1, xok2, xnarrow, xwide, xone, xent, List.replicate, Option.isSome_some, Bool.and_self, Bool.true_and, Bool.and_true, List.length_cons, List.length_nil, Nat.reduceAdd, Nat.reduceLT, decide_true, Bool.not_false, Nat.beq, Nat.ble, Option.toList, List.nil_append, List.cons_append]
      exact h45 (yPut 9 j S.2.1) ρ hg.2.2.2.1 (by rw [if_neg (by rw [q]; decide)]) hJ2 (hs1.tr (hs2.wk (by decide) (by decide))) (by rw [hs2.f rfl]; exact x50)
end S69
