/-! the class: link -/
section S97
variable {G : XG} {d : Nat} {σ τ ρ : Sg} {M N : YM} {B : Nat} {S : YS} {l l' : List Nat}
theorem sT7_link (hG : G.1.stackTraces = false) (z : ZC σ S) (w : ZW S B) {x : Int32} : XT G mX7_link (d + 11) 1 [.ref 0, .int x] σ (PC σ (oLnk S x)) (PCX σ [EIAE] (oLnk S x)) := by
  refine xt_of hG (by decide +kernel) rfl (Nat.le_of_ble_eq_true rfl) ?_
  refine bT7_link (d := d + 2) _ _ _ ?_
  obtain ⟨b1, b2, b3, b4, b5⟩ := w.1.1.1
  obtain ⟨⟨c1, c1'⟩, ⟨c2, c2'⟩, c3, c3'⟩ := w.2.2.1
  try simp only [xi_iload, xi_aload, xi_lload, xi_istore, xi_astore, xi_lstore, xi_ic, xi_lc, xi_iinc, xi_iadd, xi_isub, xi_imul, xi_iand, xi_iushr, xi_ineg, xi_idiv, xi_irem, xi_ladd, xi_lmul, xi_lrem, xi_lcmp, xi_i2l, xi_l2i, xi_i2c, xi_dup, xi_dup2, xi_pop, xi_ifeq, xi_ifne, xi_iflt, xi_ifge, xi_ifgt, xi_ifle, xi_iceq, xi_icne, xi_iclt, xi_icge, xi_icgt, xi_icle, xi_iret, xi_zret, xi_lret, xi_vret, xi_getf, xi_putf, xi_ald, xi_ast, xi_alen, xi_callV, xi_callS, xpop, xroom, xl, xst, xok1, xok2, xnarrow, xwide, xone, xent, List.replicate, Option.isSome_some, Bool.and_self, Bool.true_and, Bool.and_true, List.length_cons, List.length_nil, Nat.reduceAdd, Nat.reduceLT, decide_true, Bool.not_false, Nat.beq, Nat.ble, Option.toList, List.nil_append, List.cons_append, xf_0_0, xf_0_1, xf_0_2, xf_0_3, xf_0_4, xf_0_5, xf_0_6, xf_0_7, xf_0_8, xf_0_9, xf_1_0, xf_1_1, xf_1_2, xf_1_3, xf_1_4, xf_2_0, xf_2_1, xf_2_2, xf_2_3, xf_2_4, xf_2_5, xf_2_6, xf_2_7, xf_3_0, xf_3_1, xf_3_2, xf_3_3, xf_3_4, xf_3_5, xf_3_6, xf_3_7, xf_4_0, xf_4_1, xf_4_2, xf_4_3, xf_4_4, xf_4_5, xf_4_6, xf_5_0, xf_5_1, xf_5_2, xf_5_3, xf_5_4, xf_5_5, xf_5_6, xf_5_7, xf_6_3, xf_7_3, xf_8_3, xf_9_3, xf_10_3, xf_11_3, xf_12_3, xf_13_3, xf_14_3, xf_15_3, xf_16_3, xi_throw, xi_callVT]
  refine x_req (sT7_requireName hG) (fun hp => ?_) (fun hn => pcx (n := 1) (by simp only [oLnk, no_some hn]) ⟨by decide, rfl⟩ z)
  obtain ⟨root, hroot, rfl, hr⟩ := rng_ok (by omega) hp
  clear hp
  have eo : oLnk S (nI root) = (0, yLnk S.1 S.2.2.1.1 S.2.2.1.2.1 S.2.2.1.2.2 root, (S.1, S.2.1, S.2.2.1, if yLnk S.1 S.2.2.1.1 S.2.2.1.2.1 S.2.2.1.2.2 root = 45 then some root else none, S.2.2.2.2)) := by simp only [oLnk, hr]
  have hend : ∀ (τ : Sg) (y : Int32), ¬ y = 45 → yLnk S.1 S.2.2.1.1 S.2.2.1.2.1 S.2.2.1.2.2 root = y → ZC τ (unl S S.1) → xcls σ τ → PC σ (oLnk S (nI root)) (some (.int y)) τ := by
    intro τ y hy e zz hx
    rw [eo, e, if_neg hy]
    exact ⟨rfl, rfl, zz, hx⟩
  try simp only [xi_iload, xi_aload, xi_lload, xi_istore, xi_astore, xi_lstore, xi_ic, xi_lc, xi_iinc, xi_iadd, xi_isub, xi_imul, xi_iand, xi_iushr, xi_ineg, xi_idiv, xi_irem, xi_ladd, xi_lmul, xi_lrem, xi_lcmp, xi_i2l, xi_l2i, xi_i2c, xi_dup, xi_dup2, xi_pop, xi_ifeq, xi_ifne, xi_iflt, xi_ifge, xi_ifgt, xi_ifle, xi_iceq, xi_icne, xi_iclt, xi_icge, xi_icgt, xi_icle, xi_iret, xi_zret, xi_lret, xi_vret, xi_getf, xi_putf, xi_ald, xi_ast, xi_alen, xi_callV, xi_callS, xpop, xroom, xl, xst, xok1, xok2, xnarrow, xwide, xone, xent, List.replicate, Option.isSome_some, Bool.and_self, Bool.true_and, Bool.and_true, List.length_cons, List.length_nil, Nat.reduceAdd, Nat.reduceLT, decide_true, Bool.not_false, Nat.beq, Nat.ble, Option.toList, List.nil_append, List.cons_append, xf_0_0, xf_0_1, xf_0_2, xf_0_3, xf_0_4, xf_0_5, xf_0_6, xf_0_7, xf_0_8, xf_0_9, xf_1_0, xf_1_1, xf_1_2, xf_1_3, xf_1_4, xf_2_0, xf_2_1, xf_2_2, xf_2_3, xf_2_4, xf_2_5, xf_2_6, xf_2_7, xf_3_0, xf_3_1, xf_3_2, xf_3_3, xf_3_4, xf_3_5, xf_3_6, xf_3_7, xf_4_0, xf_4_1, xf_4_2, xf_4_3, xf_4_4, xf_4_5, xf_4_6, xf_5_0, xf_5_1, xf_5_2, xf_5_3, xf_5_4, xf_5_5, xf_5_6, xf_5_7, xf_6_3, xf_7_3, xf_8_3, xf_9_3, xf_10_3, xf_11_3, xf_12_3, xf_13_3, xf_14_3, xf_15_3, xf_16_3, xi_throw, xi_callVT]
  refine ⟨xnok_z (Or.inl rfl), _, sX5_takeObjects (d := d + 5) (CI.same z.1.1 xsm1 rfl) w.1.1 hroot, ?_⟩
  rintro v τ1 ⟨rfl, hs1, hT1⟩
  have hs01 := (xsm1 (σ := σ) (o := 0) (j := 8) (x := 0)).app hs1
  have hI1 := CI.same z.1.1 hs01 rfl
  try simp only [xi_iload, xi_aload, xi_lload, xi_istore, xi_astore, xi_lstore, xi_ic, xi_lc, xi_iinc, xi_iadd, xi_isub, xi_imul, xi_iand, xi_iushr, xi_ineg, xi_idiv, xi_irem, xi_ladd, xi_lmul, xi_lrem, xi_lcmp, xi_i2l, xi_l2i, xi_i2c, xi_dup, xi_dup2, xi_pop, xi_ifeq, xi_ifne, xi_iflt, xi_ifge, xi_ifgt, xi_ifle, xi_iceq, xi_icne, xi_iclt, xi_icge, xi_icgt, xi_icle, xi_iret, xi_zret, xi_lret, xi_vret, xi_getf, xi_putf, xi_ald, xi_ast, xi_alen, xi_callV, xi_callS, xpop, xroom, xl, xst, xok1, xok2, xnarrow, xwide, xone, xent, List.replicate, Option.isSome_some, Bool.and_self, Bool.true_and, Bool.and_true, List.length_cons, List.length_nil, Nat.reduceAdd, Nat.reduceLT, decide_true, Bool.not_false, Nat.beq, Nat.ble, Option.toList, List.nil_append, List.cons_append, xf_0_0, xf_0_1, xf_0_2, xf_0_3, xf_0_4, xf_0_5, xf_0_6, xf_0_7, xf_0_8, xf_0_9, xf_1_0, xf_1_1, xf_1_2, xf_1_3, xf_1_4, xf_2_0, xf_2_1, xf_2_2, xf_2_3, xf_2_4, xf_2_5, xf_2_6, xf_2_7, xf_3_0, xf_3_1, xf_3_2, xf_3_3, xf_3_4, xf_3_5, xf_3_6, xf_3_7, xf_4_0, xf_4_1, xf_4_2, xf_4_3, xf_4_4, xf_4_5, xf_4_6, xf_5_0, xf_5_1, xf_5_2, xf_5_3, xf_5_4, xf_5_5, xf_5_6, xf_5_7, xf_6_3, xf_7_3, xf_8_3, xf_9_3, xf_10_3, xf_11_3, xf_12_3, xf_13_3, xf_14_3, xf_15_3, xf_16_3, xi_throw, xi_callVT]
  refine x_F (sX5_hasDouble (d := d + 8) hI1 w.1.1 hT1) ?_
  try simp only [xi_iload, xi_aload, xi_lload, xi_istore, xi_astore, xi_lstore, xi_ic, xi_lc, xi_iinc, xi_iadd, xi_isub, xi_imul, xi_iand, xi_iushr, xi_ineg, xi_idiv, xi_irem, xi_ladd, xi_lmul, xi_lrem, xi_lcmp, xi_i2l, xi_l2i, xi_i2c, xi_dup, xi_dup2, xi_pop, xi_ifeq, xi_ifne, xi_iflt, xi_ifge, xi_ifgt, xi_ifle, xi_iceq, xi_icne, xi_iclt, xi_icge, xi_icgt, xi_icle, xi_iret, xi_zret, xi_lret, xi_vret, xi_getf, xi_putf, xi_ald, xi_ast, xi_alen, xi_callV, xi_callS, xpop, xroom, xl, xst, xok1, xok2, xnarrow, xwide, xone, xent, List.replicate, Option.isSome_some, Bool.and_self, Bool.true_and, Bool.and_true, List.length_cons, List.length_nil, Nat.reduceAdd, Nat.reduceLT, decide_true, Bool.not_false, Nat.beq, Nat.ble, Option.toList, List.nil_append, List.cons_append, xf_0_0, xf_0_1, xf_0_2, xf_0_3, xf_0_4, xf_0_5, xf_0_6, xf_0_7, xf_0_8, xf_0_9, xf_1_0, xf_1_1, xf_1_2, xf_1_3, xf_1_4, xf_2_0, xf_2_1, xf_2_2, xf_2_3, xf_2_4, xf_2_5, xf_2_6, xf_2_7, xf_3_0, xf_3_1, xf_3_2, xf_3_3, xf_3_4, xf_3_5, xf_3_6, xf_3_7, xf_4_0, xf_4_1, xf_4_2, xf_4_3, xf_4_4, xf_4_5, xf_4_6, xf_5_0, xf_5_1, xf_5_2, xf_5_3, xf_5_4, xf_5_5, xf_5_6, xf_5_7, xf_6_3, xf_7_3, xf_8_3, xf_9_3, xf_10_3, xf_11_3, xf_12_3, xf_13_3, xf_14_3, xf_15_3, xf_16_3, xi_throw, xi_callVT]
  have e00 : ∀ j, j ≠ 8 → τ1 0 j = σ 0 j := fun j hj => by rw [hs1.at rfl]; exact up08 hj
  have e08 : τ1 0 8 = 0 := by rw [hs1.at rfl]; exact up088
  cases hD : yDbl S.1 (kT S.1 root) with
  | true =>
    refine ⟨fun q => absurd q (by decide), fun _ => ⟨by decide +kernel, hend τ1 100 (by decide) (by unfold yLnk; rw [if_pos hD]) ?_ (xcls.of hs01 rfl)⟩⟩
    exact ZC_unl z hs01 rfl rfl e00 e08 hI1 (z.2.2.2.1.same hs01 rfl rfl rfl (Nat.le_refl _))
  | false =>
    refine ⟨fun _ => ⟨_, sX5_resolve (d := d + 5) hI1 w.1.1 hT1 hroot, ?_⟩, fun q => absurd rfl q⟩
    rintro v τ2 ⟨rfl, hs2, hS2, hG2, h72⟩
    have hs02 := hs01.app hs2
    have hI2 := CI.same z.1.1 hs02 rfl
    have hT2 := hT1.same hs2 rfl
    try simp only [xi_iload, xi_aload, xi_lload, xi_istore, xi_astore, xi_lstore, xi_ic, xi_lc, xi_iinc, xi_iadd, xi_isub, xi_imul, xi_iand, xi_iushr, xi_ineg, xi_idiv, xi_irem, xi_ladd, xi_lmul, xi_lrem, xi_lcmp, xi_i2l, xi_l2i, xi_i2c, xi_dup, xi_dup2, xi_pop, xi_ifeq, xi_ifne, xi_iflt, xi_ifge, xi_ifgt, xi_ifle, xi_iceq, xi_icne, xi_iclt, xi_icge, xi_icgt, xi_icle, xi_iret, xi_zret, xi_lret, xi_vret, xi_getf, xi_putf, xi_ald, xi_ast, xi_alen, xi_callV, xi_callS, xpop, xroom, xl, xst, xok1, xok2, xnarrow, xwide, xone, xent, List.replicate, Option.isSome_some, Bool.and_self, Bool.true_and, Bool.and_true, List.length_cons, List.length_nil, Nat.reduceAdd, Nat.reduceLT, decide_true, Bool.not_false, Nat.beq, Nat.ble, Option.toList, List.nil_append, List.cons_append, xf_0_0, xf_0_1, xf_0_2, xf_0_3, xf_0_4, xf_0_5, xf_0_6, xf_0_7, xf_0_8, xf_0_9, xf_1_0, xf_1_1, xf_1_2, xf_1_3, xf_1_4, xf_2_0, xf_2_1, xf_2_2, xf_2_3, xf_2_4, xf_2_5, xf_2_6, xf_2_7, xf_3_0, xf_3_1, xf_3_2, xf_3_3, xf_3_4, xf_3_5, xf_3_6, xf_3_7, xf_4_0, xf_4_1, xf_4_2, xf_4_3, xf_4_4, xf_4_5, xf_4_6, xf_5_0, xf_5_1, xf_5_2, xf_5_3, xf_5_4, xf_5_5, xf_5_6, xf_5_7, xf_6_3, xf_7_3, xf_8_3, xf_9_3, xf_10_3, xf_11_3, xf_12_3, xf_13_3, xf_14_3, xf_15_3, xf_16_3, xi_throw, xi_callVT]
    refine ⟨_, sX5_enliven (d := d + 7) hI2 w.1.1 hT2 hG2 hroot h72, ?_⟩
    rintro v τ3 ⟨rfl, hs3, hL3⟩
    have hs03 := hs02.app hs3
    have hI3 := CI.same z.1.1 hs03 rfl
    have hG3 := hG2.same hs3 rfl
    have hS3 := hS2.same hs3 rfl
    have hT3 := hT2.same hs3 rfl
    have h73 : τ3 2 7 = gC S.1 (yStand S.1 (kT S.1 root) root) := by rw [hs3.at rfl]; exact h72
    try simp only [xi_iload, xi_aload, xi_lload, xi_istore, xi_astore, xi_lstore, xi_ic, xi_lc, xi_iinc, xi_iadd, xi_isub, xi_imul, xi_iand, xi_iushr, xi_ineg, xi_idiv, xi_irem, xi_ladd, xi_lmul, xi_lrem, xi_lcmp, xi_i2l, xi_l2i, xi_i2c, xi_dup, xi_dup2, xi_pop, xi_ifeq, xi_ifne, xi_iflt, xi_ifge, xi_ifgt, xi_ifle, xi_iceq, xi_icne, xi_iclt, xi_icge, xi_icgt, xi_icle, xi_iret, xi_zret, xi_lret, xi_vret, xi_getf, xi_putf, xi_ald, xi_ast, xi_alen, xi_callV, xi_callS, xpop, xroom, xl, xst, xok1, xok2, xnarrow, xwide, xone, xent, List.replicate, Option.isSome_some, Bool.and_self, Bool.true_and, Bool.and_true, List.length_cons, List.length_nil, Nat.reduceAdd, Nat.reduceLT, decide_true, Bool.not_false, Nat.beq, Nat.ble, Option.toList, List.nil_append, List.cons_append, xf_0_0, xf_0_1, xf_0_2, xf_0_3, xf_0_4, xf_0_5, xf_0_6, xf_0_7, xf_0_8, xf_0_9, xf_1_0, xf_1_1, xf_1_2, xf_1_3, xf_1_4, xf_2_0, xf_2_1, xf_2_2, xf_2_3, xf_2_4, xf_2_5, xf_2_6, xf_2_7, xf_3_0, xf_3_1, xf_3_2, xf_3_3, xf_3_4, xf_3_5, xf_3_6, xf_3_7, xf_4_0, xf_4_1, xf_4_2, xf_4_3, xf_4_4, xf_4_5, xf_4_6, xf_5_0, xf_5_1, xf_5_2, xf_5_3, xf_5_4, xf_5_5, xf_5_6, xf_5_7, xf_6_3, xf_7_3, xf_8_3, xf_9_3, xf_10_3, xf_11_3, xf_12_3, xf_13_3, xf_14_3, xf_15_3, xf_16_3, xi_throw, xi_callVT]
    refine x_F (sX5_lacksGoal (d := d + 8) hI3 w.1.1 hL3 hG3 hroot h73) ?_
    try simp only [xi_iload, xi_aload, xi_lload, xi_istore, xi_astore, xi_lstore, xi_ic, xi_lc, xi_iinc, xi_iadd, xi_isub, xi_imul, xi_iand, xi_iushr, xi_ineg, xi_idiv, xi_irem, xi_ladd, xi_lmul, xi_lrem, xi_lcmp, xi_i2l, xi_l2i, xi_i2c, xi_dup, xi_dup2, xi_pop, xi_ifeq, xi_ifne, xi_iflt, xi_ifge, xi_ifgt, xi_ifle, xi_iceq, xi_icne, xi_iclt, xi_icge, xi_icgt, xi_icle, xi_iret, xi_zret, xi_lret, xi_vret, xi_getf, xi_putf, xi_ald, xi_ast, xi_alen, xi_callV, xi_callS, xpop, xroom, xl, xst, xok1, xok2, xnarrow, xwide, xone, xent, List.replicate, Option.isSome_some, Bool.and_self, Bool.true_and, Bool.and_true, List.length_cons, List.length_nil, Nat.reduceAdd, Nat.reduceLT, decide_true, Bool.not_false, Nat.beq, Nat.ble, Option.toList, List.nil_append, List.cons_append, xf_0_0, xf_0_1, xf_0_2, xf_0_3, xf_0_4, xf_0_5, xf_0_6, xf_0_7, xf_0_8, xf_0_9, xf_1_0, xf_1_1, xf_1_2, xf_1_3, xf_1_4, xf_2_0, xf_2_1, xf_2_2, xf_2_3, xf_2_4, xf_2_5, xf_2_6, xf_2_7, xf_3_0, xf_3_1, xf_3_2, xf_3_3, xf_3_4, xf_3_5, xf_3_6, xf_3_7, xf_4_0, xf_4_1, xf_4_2, xf_4_3, xf_4_4, xf_4_5, xf_4_6, xf_5_0, xf_5_1, xf_5_2, xf_5_3, xf_5_4, xf_5_5, xf_5_6, xf_5_7, xf_6_3, xf_7_3, xf_8_3, xf_9_3, xf_10_3, xf_11_3, xf_12_3, xf_13_3, xf_14_3, xf_15_3, xf_16_3, xi_throw, xi_callVT]
    cases hLk : yLack S.1 (kT S.1 root) root (kA S.1 root) with
    | true =>
      refine ⟨fun q => absurd q (by decide), fun _ => ⟨by decide +kernel, hend τ3 117 (by decide) (by unfold yLnk; rw [if_neg (by rw [hD]; decide), if_pos hLk]) ?_ (xcls.of hs03 rfl)⟩⟩
      exact ZC_unl z hs03 rfl rfl (fun j hj => by rw [hs3.at rfl, hs2.at rfl]; exact e00 j hj) (by rw [hs3.at rfl, hs2.at rfl]; exact e08) hI3 (z.2.2.2.1.same hs03 rfl rfl rfl (Nat.le_refl _))
    | false =>
      obtain ⟨hgo, hgl⟩ := link_go w.1.1 hLk
      refine ⟨fun _ => ⟨_, sX1_fold (d := d + 5) hI3 w.1.1 hL3 hG3, ?_⟩, fun q => absurd rfl q⟩
      rintro v τ4 ⟨rfl, hs4, hD4, hz4⟩
      have hs04 := hs03.app hs4
      have hI4 := CI.same z.1.1 hs04 rfl
      have hG4 := hG3.same hs4 rfl
      have hS4 := hS3.same hs4 rfl
      have hT4 := hT3.same hs4 rfl
      have hL4 := hL3.same hs4 rfl rfl
      have e4 : ∀ j, τ4 0 j = τ1 0 j := fun j => by rw [hs4.at rfl, hs3.at rfl, hs2.at rfl]
      try simp only [xi_iload, xi_aload, xi_lload, xi_istore, xi_astore, xi_lstore, xi_ic, xi_lc, xi_iinc, xi_iadd, xi_isub, xi_imul, xi_iand, xi_iushr, xi_ineg, xi_idiv, xi_irem, xi_ladd, xi_lmul, xi_lrem, xi_lcmp, xi_i2l, xi_l2i, xi_i2c, xi_dup, xi_dup2, xi_pop, xi_ifeq, xi_ifne, xi_iflt, xi_ifge, xi_ifgt, xi_ifle, xi_iceq, xi_icne, xi_iclt, xi_icge, xi_icgt, xi_icle, xi_iret, xi_zret, xi_lret, xi_vret, xi_getf, xi_putf, xi_ald, xi_ast, xi_alen, xi_callV, xi_callS, xpop, xroom, xl, xst, xok1, xok2, xnarrow, xwide, xone, xent, List.replicate, Option.isSome_some, Bool.and_self, Bool.true_and, Bool.and_true, List.length_cons, List.length_nil, Nat.reduceAdd, Nat.reduceLT, decide_true, Bool.not_false, Nat.beq, Nat.ble, Option.toList, List.nil_append, List.cons_append, xf_0_0, xf_0_1, xf_0_2, xf_0_3, xf_0_4, xf_0_5, xf_0_6, xf_0_7, xf_0_8, xf_0_9, xf_1_0, xf_1_1, xf_1_2, xf_1_3, xf_1_4, xf_2_0, xf_2_1, xf_2_2, xf_2_3, xf_2_4, xf_2_5, xf_2_6, xf_2_7, xf_3_0, xf_3_1, xf_3_2, xf_3_3, xf_3_4, xf_3_5, xf_3_6, xf_3_7, xf_4_0, xf_4_1, xf_4_2, xf_4_3, xf_4_4, xf_4_5, xf_4_6, xf_5_0, xf_5_1, xf_5_2, xf_5_3, xf_5_4, xf_5_5, xf_5_6, xf_5_7, xf_6_3, xf_7_3, xf_8_3, xf_9_3, xf_10_3, xf_11_3, xf_12_3, xf_13_3, xf_14_3, xf_15_3, xf_16_3, xi_throw, xi_callVT]
      rw [e4, e00 7 (by omega), z.2.1.2.2.1]
      refine ⟨_, sX1_settle (d := d + 5) (P := kP S.1 root) hI4 w.1.1 hS4 hG4 hL4 hD4 rfl hgo c3' (by obtain ⟨n, hn, e⟩ := z.2.2.1; exact ⟨n, hn, by rw [hs04.at rfl]; exact e⟩), ?_⟩
      rintro v τ5 ⟨rfl, hs5, hIs, hLay, hz5⟩
      have hs05 := hs04.app hs5
      have hI5 := CI.same z.1.1 hs05 rfl
      have e5 : ∀ j, τ5 0 j = τ1 0 j := fun j => by rw [hs5.at rfl]; exact e4 j
      have hil := ySet_il (T := kT S.1 root) (A := kA S.1 root) (P := kP S.1 root) (reach := S.2.2.1.2.2) w.1.1 (Nat.le_refl (nR S.1))
      have hL40 : kL S.1 root S.2.2.1.2.2 ≤ 40 := hil.1
      have hcz : CZr τ5 S.1 := fun s h1 h2 => by
        have h9 := z.2.2.2.1 s h1 h2
        have g1 : τ3 48 s = σ 48 s := by rw [hs03.at rfl]
        have g2 : τ4 49 s = σ 49 s := by rw [hs04.at rfl]
        have g3 : τ5 48 s = τ4 48 s := by rw [hs5.at rfl]
        rw [g3, hz4 s h1, g1, hz5 s h1, g2, hs05.at rfl]
        exact h9
      have hunl : ZC τ5 (unl S S.1) := by
        obtain ⟨⟨-, z2⟩, ⟨a5, a6, a7, a8, a9⟩, -, -, -⟩ := z
        exact ⟨⟨hI5, z2.same hs05 rfl⟩, ⟨by rw [e5, e00 5 (by omega)]; exact a5, by rw [e5, e00 6 (by omega)]; exact a6, by rw [e5, e00 7 (by omega)]; exact a7, by rw [e5]; exact e08, by rw [e5, e00 9 (by omega)]; exact a9⟩, ⟨_, hL40, hIs.1⟩, hcz, fun root h => by cases h⟩
      have hx5 : xcls σ τ5 := xcls.of hs05 rfl
      have b6 := ySecAt_le (P := kP S.1 root) (il := kI S.1 root S.2.2.1.2.2) (cb := true) w.1.1 hL40 (nS S.1) (Nat.le_refl _)
      have b7 := ySecAt_le (P := kP S.1 root) (il := kI S.1 root S.2.2.1.2.2) (cb := false) w.1.1 hL40 (nS S.1) (Nat.le_refl _)
      have b8 := yComAt_le (T := kT S.1 root) (A := kA S.1 root) w.1.1 (f := ySecAt S.1 (kP S.1 root) (kI S.1 root S.2.2.1.2.2) (kL S.1 root S.2.2.1.2.2) false (nS S.1)) 16 (Nat.le_refl _)
      have e36 : τ5 3 6 = nI (ySecAt S.1 (kP S.1 root) (kI S.1 root S.2.2.1.2.2) (kL S.1 root S.2.2.1.2.2) true (nS S.1)) := hLay.2.2.1
      have e37 : τ5 3 7 = nI (yComAt S.1 (kT S.1 root) (kA S.1 root) (ySecAt S.1 (kP S.1 root) (kI S.1 root S.2.2.1.2.2) (kL S.1 root S.2.2.1.2.2) false (nS S.1)) 16) := hLay.2.2.2
      have e05 : τ5 0 5 = nI S.2.2.1.1 := by rw [e5, e00 5 (by omega)]; exact z.2.1.1
      have e06 : τ5 0 6 = nI S.2.2.1.2.1 := by rw [e5, e00 6 (by omega)]; exact z.2.1.2.1
      have hy : yLnk S.1 S.2.2.1.1 S.2.2.1.2.1 S.2.2.1.2.2 root = if S.2.2.1.1 < ySecAt S.1 (kP S.1 root) (kI S.1 root S.2.2.1.2.2) (kL S.1 root S.2.2.1.2.2) true (nS S.1) ∨ 1000 + S.2.2.1.2.1 < yComAt S.1 (kT S.1 root) (kA S.1 root) (ySecAt S.1 (kP S.1 root) (kI S.1 root S.2.2.1.2.2) (kL S.1 root S.2.2.1.2.2) false (nS S.1)) 16 then 114 else 45 := by
        unfold yLnk; rw [if_neg (by rw [hD]; decide), if_neg (by rw [hLk]; decide)]
      try simp only [xi_iload, xi_aload, xi_lload, xi_istore, xi_astore, xi_lstore, xi_ic, xi_lc, xi_iinc, xi_iadd, xi_isub, xi_imul, xi_iand, xi_iushr, xi_ineg, xi_idiv, xi_irem, xi_ladd, xi_lmul, xi_lrem, xi_lcmp, xi_i2l, xi_l2i, xi_i2c, xi_dup, xi_dup2, xi_pop, xi_ifeq, xi_ifne, xi_iflt, xi_ifge, xi_ifgt, xi_ifle, xi_iceq, xi_icne, xi_iclt, xi_icge, xi_icgt, xi_icle, xi_iret, xi_zret, xi_lret, xi_vret, xi_getf, xi_putf, xi_ald, xi_ast, xi_alen, xi_callV, xi_callS, xpop, xroom, xl, xst, xok1, xok2, xnarrow, xwide, xone, xent, List.replicate, Option.isSome_some, Bool.and_self, Bool.true_and, Bool.and_true, List.length_cons, List.length_nil, Nat.reduceAdd, Nat.reduceLT, decide_true, Bool.not_false, Nat.beq, Nat.ble, Option.toList, List.nil_append, List.cons_append, xf_0_0, xf_0_1, xf_0_2, xf_0_3, xf_0_4, xf_0_5, xf_0_6, xf_0_7, xf_0_8, xf_0_9, xf_1_0, xf_1_1, xf_1_2, xf_1_3, xf_1_4, xf_2_0, xf_2_1, xf_2_2, xf_2_3, xf_2_4, xf_2_5, xf_2_6, xf_2_7, xf_3_0, xf_3_1, xf_3_2, xf_3_3, xf_3_4, xf_3_5, xf_3_6, xf_3_7, xf_4_0, xf_4_1, xf_4_2, xf_4_3, xf_4_4, xf_4_5, xf_4_6, xf_5_0, xf_5_1, xf_5_2, xf_5_3, xf_5_4, xf_5_5, xf_5_6, xf_5_7, xf_6_3, xf_7_3, xf_8_3, xf_9_3, xf_10_3, xf_11_3, xf_12_3, xf_13_3, xf_14_3, xf_15_3, xf_16_3, xi_throw, xi_callVT, e36, e37, e05, e06]
      rw [show (1000 : Int32) = nI 1000 from rfl, nI_add, nI_ltI (by omega) (by omega), nI_leI (by omega) (by omega)]
      refine ⟨fun q => ⟨by decide +kernel, hend τ5 114 (by decide) (by rw [hy, if_pos (Or.inl q)]) hunl hx5⟩, fun q => ⟨fun q2 => ?_, fun q2 => ⟨by decide +kernel, hend τ5 114 (by decide) (by rw [hy, if_pos (Or.inr (by omega))]) hunl hx5⟩⟩⟩
      have h45 : yLnk S.1 S.2.2.1.1 S.2.2.1.2.1 S.2.2.1.2.2 root = 45 := by rw [hy, if_neg (by omega)]
      refine ⟨xnok_z (Or.inr rfl), by decide +kernel, ?_⟩
      rw [eo, h45, if_pos rfl]
      have hs6 : xsame [0] τ5 (xup τ5 0 8 1) := xsm1
      have k0 : ∀ j, j ≠ 8 → xup τ5 0 8 1 0 j = τ5 0 j := fun j hj => by rw [xup_s]; exact if_neg hj
      obtain ⟨⟨-, u2⟩, ⟨u5, u6, u7, u8, u9⟩, ⟨u11n, u11, u11e⟩, uz, -⟩ := hunl
      have hX : CX τ5 S.1 (kT S.1 root) (kA S.1 root) (kP S.1 root) (kI S.1 root S.2.2.1.2.2) (kL S.1 root S.2.2.1.2.2) := ⟨hI5, hT4.same hs5 rfl, hS4.same hs5 rfl, hG4.same hs5 rfl, hL4.same hs5 rfl rfl, hD4.same hs5 rfl, hIs, hLay⟩
      have h75 : τ5 2 7 = gC S.1 (yStand S.1 (kT S.1 root) root) := by rw [hs5.at rfl, hs4.at rfl]; exact h73
      exact ⟨rfl, rfl, ⟨⟨hI5.same hs6 rfl, u2.same hs6 rfl⟩, ⟨by rw [k0 5 (by omega)]; exact u5, by rw [k0 6 (by omega)]; exact u6, by rw [k0 7 (by omega)]; exact u7, by rw [xup_s]; exact if_pos rfl, by rw [k0 9 (by omega)]; exact u9⟩, ⟨u11n, u11, by rw [hs6.at rfl]; exact u11e⟩, uz.same hs6 rfl rfl rfl (Nat.le_refl _), fun r hr9 => by
        cases hr9
        exact ⟨hX.same hs6 rfl, by rw [hs6.at rfl]; exact h75⟩⟩, xcls.of (hs05.app hs6) rfl⟩
end S97
