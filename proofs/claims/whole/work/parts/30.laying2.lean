/-! laying, the sections and the commons -/
section S30
variable {G : XG} {d : Nat} {σ : Sg} {M : YM} {T A P : Nat → Bool} {il : Nat → Nat} {L : Nat}
theorem sX1_laySections {cb : Bool} (h : CI σ M) (w : WF M) (hd : CD σ M T A) (hil : ILok M il L) (hi : CIs σ il L) (hP : P = yLaid M T A) : XM G mX1_laySections (d + 3) [.ref 3, .int (b2i cb), .int (nI (ySecAt M P il L cb 0))] σ (fun v τ => v = some (.int (nI (ySecAt M P il L cb (nS M)))) ∧ xsame [36, 49] σ τ ∧ CIs τ il L ∧ ((∀ s, s < nS M → P s = true → (ySC M s == 1) = cb → τ 49 s = nI (yAdr M P il L s)) ∧ ∀ k, k < L → P (yRS M (il k)) = true → (ySC M (yRS M (il k)) == 1) = cb → τ 36 (k * 2 + 1) = nI (yIsA M P il L k)) ∧ (∀ s, (ySC M s == 1) ≠ cb ∨ nS M ≤ s → τ 49 s = σ 49 s) ∧ ∀ k, (ySC M (yRS M (il k)) == 1) ≠ cb → τ 36 (k * 2 + 1) = σ 36 (k * 2 + 1)) := by
  generalize hR : (fun (v : Option Value) (τ : Sg) => v = some (.int (nI (ySecAt M P il L cb (nS M)))) ∧ xsame [36, 49] σ τ ∧ CIs τ il L ∧ ((∀ s, s < nS M → P s = true → (ySC M s == 1) = cb → τ 49 s = nI (yAdr M P il L s)) ∧ ∀ k, k < L → P (yRS M (il k)) = true → (ySC M (yRS M (il k)) == 1) = cb → τ 36 (k * 2 + 1) = nI (yIsA M P il L k)) ∧ (∀ s, (ySC M s == 1) ≠ cb ∨ nS M ≤ s → τ 49 s = σ 49 s) ∧ ∀ k, (ySC M (yRS M (il k)) == 1) ≠ cb → τ 36 (k * 2 + 1) = σ 36 (k * 2 + 1)) = R
  refine xm_of (by decide +kernel) rfl (Nat.le_of_ble_eq_true rfl) ?_
  refine bX1_laySections_0 _ _ _ ?_
  have hb2 : nS M ≤ 24 := w.1.2.1
  have hL := hil.1
  try simp only [xi_iload, xi_aload, xi_lload, xi_istore, xi_astore, xi_lstore, xi_ic, xi_lc, xi_iinc, xi_iadd, xi_isub, xi_imul, xi_iand, xi_iushr, xi_ineg, xi_idiv, xi_irem, xi_ladd, xi_lmul, xi_lrem, xi_lcmp, xi_i2l, xi_l2i, xi_i2c, xi_dup, xi_dup2, xi_pop, xi_ifeq, xi_ifne, xi_iflt, xi_ifge, xi_ifgt, xi_ifle, xi_iceq, xi_icne, xi_iclt, xi_icge, xi_icgt, xi_icle, xi_iret, xi_zret, xi_lret, xi_vret, xi_getf, xi_putf, xi_ald, xi_ast, xi_alen, xi_callV, xi_callS, xpop, xroom, xl, xst, xok1, xok2, xnarrow, xwide, xone, xent, List.replicate, Option.isSome_some, Bool.and_self, Bool.true_and, Bool.and_true, List.length_cons, List.length_nil, Nat.reduceAdd, Nat.reduceLT, decide_true, Bool.not_false, Nat.beq, Nat.ble, Option.toList, List.nil_append, List.cons_append]
  have key : ∀ j, j ≤ nS M → ∀ τ, xsame [36, 49] σ τ → CIs τ il L → ((∀ s, s < j → P s = true → (ySC M s == 1) = cb → τ 49 s = nI (yAdr M P il L s)) ∧ ∀ k, k < L → yRS M (il k) < j → P (yRS M (il k)) = true → (ySC M (yRS M (il k)) == 1) = cb → τ 36 (k * 2 + 1) = nI (yIsA M P il L k)) → ((∀ s, (ySC M s == 1) ≠ cb ∨ nS M ≤ s → τ 49 s = σ 49 s) ∧ ∀ k, (ySC M (yRS M (il k)) == 1) ≠ cb → τ 36 (k * 2 + 1) = σ 36 (k * 2 + 1)) → AX1_laySections G (d + 2 + 1) R 5 [some (.ref 3), some (.int (b2i cb)), none, some (.int (nI (ySecAt M P il L cb j))), some (.int (nI j)), none] [] τ := by
    refine loop_up (fun j hj ih τ hs hC h1 h2 => ?_) (fun τ hs hC h1 h2 => ?_)
    · refine bX1_laySections_5 _ _ _ ?_
      have hI := h.same hs (by decide)
      have hD := hd.same hs (by decide)
      have hc : τ 7 3 = nI (nS M) := hI.1 1 (by decide)
      have hat := ySecAt_le w (P := P) (il := il) (cb := cb) hL j (by omega)
      have haw := (w.2.2.1 j hj).2.2.2.1
      have hzw := (w.2.2.1 j hj).2.2.1
      have haa := yAdr_le w (P := P) (il := il) hL hj
      have hskip : ¬ (P j = true ∧ (ySC M j == 1) = cb) → AX1_laySections G (d + 2 + 1) R 5 [some (.ref 3), some (.int (b2i cb)), none, some (.int (nI (ySecAt M P il L cb j))), some (.int (nI (j + 1))), none] [] τ := by
        intro hn
        have e : ySecAt M P il L cb (j + 1) = ySecAt M P il L cb j := by rw [ySecAt, if_neg hn]
        rw [e] at ih
        refine ih τ hs hC ⟨fun s hsj h3 h4 => ?_, fun k hk hkj h3 h4 => ?_⟩ h2
        · by_cases hsj2 : s = j
          · subst hsj2; exact absurd ⟨h3, h4⟩ hn
          · exact h1.1 s (by omega) h3 h4
        · by_cases hsj2 : yRS M (il k) = j
          · rw [← hsj2] at hn; exact absurd ⟨h3, h4⟩ hn
          · exact h1.2 k hk (by omega) h3 h4
      try simp only [xi_iload, xi_aload, xi_lload, xi_istore, xi_astore, xi_lstore, xi_ic, xi_lc, xi_iinc, xi_iadd, xi_isub, xi_imul, xi_iand, xi_iushr, xi_ineg, xi_idiv, xi_irem, xi_ladd, xi_lmul, xi_lrem, xi_lcmp, xi_i2l, xi_l2i, xi_i2c, xi_dup, xi_dup2, xi_pop, xi_ifeq, xi_ifne, xi_iflt, xi_ifge, xi_ifgt, xi_ifle, xi_iceq, xi_icne, xi_iclt, xi_icge, xi_icgt, xi_icle, xi_iret, xi_zret, xi_lret, xi_vret, xi_getf, xi_putf, xi_ald, xi_ast, xi_alen, xi_callV, xi_callS, xpop, xroom, xl, xst, xok1, xok2, xnarrow, xwide, xone, xent, List.replicate, Option.isSome_some, Bool.and_self, Bool.true_and, Bool.and_true, List.length_cons, List.length_nil, Nat.reduceAdd, Nat.reduceLT, decide_true, Bool.not_false, Nat.beq, Nat.ble, Option.toList, List.nil_append, List.cons_append, xf_0_0, xf_0_1, xf_0_2, xf_0_3, xf_0_4, xf_0_5, xf_0_6, xf_0_7, xf_0_8, xf_0_9, xf_1_0, xf_1_1, xf_1_2, xf_1_3, xf_1_4, xf_2_0, xf_2_1, xf_2_2, xf_2_3, xf_2_4, xf_2_5, xf_2_6, xf_2_7, xf_3_0, xf_3_1, xf_3_2, xf_3_3, xf_3_4, xf_3_5, xf_3_6, xf_3_7, xf_4_0, xf_4_1, xf_4_2, xf_4_3, xf_4_4, xf_4_5, xf_4_6, xf_5_0, xf_5_1, xf_5_2, xf_5_3, xf_5_4, xf_5_5, xf_5_6, xf_5_7, xf_6_3, xf_7_3, xf_8_3, xf_9_3, xf_10_3, xf_11_3, xf_12_3, xf_13_3, xf_14_3, xf_15_3, xf_16_3, hc]
      refine ⟨fun q => absurd q (nI_ge hj (by omega)), fun _ => x_F (sX1_isLaid w hD hj) ?_⟩
      rw [← hP]
      try simp only [xi_iload, xi_aload, xi_lload, xi_istore, xi_astore, xi_lstore, xi_ic, xi_lc, xi_iinc, xi_iadd, xi_isub, xi_imul, xi_iand, xi_iushr, xi_ineg, xi_idiv, xi_irem, xi_ladd, xi_lmul, xi_lrem, xi_lcmp, xi_i2l, xi_l2i, xi_i2c, xi_dup, xi_dup2, xi_pop, xi_ifeq, xi_ifne, xi_iflt, xi_ifge, xi_ifgt, xi_ifle, xi_iceq, xi_icne, xi_iclt, xi_icge, xi_icgt, xi_icle, xi_iret, xi_zret, xi_lret, xi_vret, xi_getf, xi_putf, xi_ald, xi_ast, xi_alen, xi_callV, xi_callS, xpop, xroom, xl, xst, xok1, xok2, xnarrow, xwide, xone, xent, List.replicate, Option.isSome_some, Bool.and_self, Bool.true_and, Bool.and_true, List.length_cons, List.length_nil, Nat.reduceAdd, Nat.reduceLT, decide_true, Bool.not_false, Nat.beq, Nat.ble, Option.toList, List.nil_append, List.cons_append, xf_0_0, xf_0_1, xf_0_2, xf_0_3, xf_0_4, xf_0_5, xf_0_6, xf_0_7, xf_0_8, xf_0_9, xf_1_0, xf_1_1, xf_1_2, xf_1_3, xf_1_4, xf_2_0, xf_2_1, xf_2_2, xf_2_3, xf_2_4, xf_2_5, xf_2_6, xf_2_7, xf_3_0, xf_3_1, xf_3_2, xf_3_3, xf_3_4, xf_3_5, xf_3_6, xf_3_7, xf_4_0, xf_4_1, xf_4_2, xf_4_3, xf_4_4, xf_4_5, xf_4_6, xf_5_0, xf_5_1, xf_5_2, xf_5_3, xf_5_4, xf_5_5, xf_5_6, xf_5_7, xf_6_3, xf_7_3, xf_8_3, xf_9_3, xf_10_3, xf_11_3, xf_12_3, xf_13_3, xf_14_3, xf_15_3, xf_16_3, nI_1]
      rw [b2i_ne]
      refine ⟨fun q => hskip (fun z => by rw [z.1] at q; cases q), fun q => x_F (sX0_isCodeSection hI w hj) ?_⟩
      try simp only [xi_iload, xi_aload, xi_lload, xi_istore, xi_astore, xi_lstore, xi_ic, xi_lc, xi_iinc, xi_iadd, xi_isub, xi_imul, xi_iand, xi_iushr, xi_ineg, xi_idiv, xi_irem, xi_ladd, xi_lmul, xi_lrem, xi_lcmp, xi_i2l, xi_l2i, xi_i2c, xi_dup, xi_dup2, xi_pop, xi_ifeq, xi_ifne, xi_iflt, xi_ifge, xi_ifgt, xi_ifle, xi_iceq, xi_icne, xi_iclt, xi_icge, xi_icgt, xi_icle, xi_iret, xi_zret, xi_lret, xi_vret, xi_getf, xi_putf, xi_ald, xi_ast, xi_alen, xi_callV, xi_callS, xpop, xroom, xl, xst, xok1, xok2, xnarrow, xwide, xone, xent, List.replicate, Option.isSome_some, Bool.and_self, Bool.true_and, Bool.and_true, List.length_cons, List.length_nil, Nat.reduceAdd, Nat.reduceLT, decide_true, Bool.not_false, Nat.beq, Nat.ble, Option.toList, List.nil_append, List.cons_append, xf_0_0, xf_0_1, xf_0_2, xf_0_3, xf_0_4, xf_0_5, xf_0_6, xf_0_7, xf_0_8, xf_0_9, xf_1_0, xf_1_1, xf_1_2, xf_1_3, xf_1_4, xf_2_0, xf_2_1, xf_2_2, xf_2_3, xf_2_4, xf_2_5, xf_2_6, xf_2_7, xf_3_0, xf_3_1, xf_3_2, xf_3_3, xf_3_4, xf_3_5, xf_3_6, xf_3_7, xf_4_0, xf_4_1, xf_4_2, xf_4_3, xf_4_4, xf_4_5, xf_4_6, xf_5_0, xf_5_1, xf_5_2, xf_5_3, xf_5_4, xf_5_5, xf_5_6, xf_5_7, xf_6_3, xf_7_3, xf_8_3, xf_9_3, xf_10_3, xf_11_3, xf_12_3, xf_13_3, xf_14_3, xf_15_3, xf_16_3, nI_1]
      rw [b2i_inj]
      refine ⟨fun q2 => hskip (fun z => q2 z.2), fun q2 => x_F (sX0_alignmentOf hI w hj) ?_⟩
      have hgo : P j = true ∧ (ySC M j == 1) = cb := ⟨by simpa using q, q2⟩
      have e : ySecAt M P il L cb (j + 1) = yAl (ySecAt M P il L cb j) (ySA M j) + ySZ M j + 2 * nIs M il j L := by rw [ySecAt, if_pos hgo]
      have ea : yAl (ySecAt M P il L cb j) (ySA M j) = yAdr M P il L j := by unfold yAdr; rw [q2]
      rw [e, ea] at ih
      try simp only [xi_iload, xi_aload, xi_lload, xi_istore, xi_astore, xi_lstore, xi_ic, xi_lc, xi_iinc, xi_iadd, xi_isub, xi_imul, xi_iand, xi_iushr, xi_ineg, xi_idiv, xi_irem, xi_ladd, xi_lmul, xi_lrem, xi_lcmp, xi_i2l, xi_l2i, xi_i2c, xi_dup, xi_dup2, xi_pop, xi_ifeq, xi_ifne, xi_iflt, xi_ifge, xi_ifgt, xi_ifle, xi_iceq, xi_icne, xi_iclt, xi_icge, xi_icgt, xi_icle, xi_iret, xi_zret, xi_lret, xi_vret, xi_getf, xi_putf, xi_ald, xi_ast, xi_alen, xi_callV, xi_callS, xpop, xroom, xl, xst, xok1, xok2, xnarrow, xwide, xone, xent, List.replicate, Option.isSome_some, Bool.and_self, Bool.true_and, Bool.and_true, List.length_cons, List.length_nil, Nat.reduceAdd, Nat.reduceLT, decide_true, Bool.not_false, Nat.beq, Nat.ble, Option.toList, List.nil_append, List.cons_append, xf_0_0, xf_0_1, xf_0_2, xf_0_3, xf_0_4, xf_0_5, xf_0_6, xf_0_7, xf_0_8, xf_0_9, xf_1_0, xf_1_1, xf_1_2, xf_1_3, xf_1_4, xf_2_0, xf_2_1, xf_2_2, xf_2_3, xf_2_4, xf_2_5, xf_2_6, xf_2_7, xf_3_0, xf_3_1, xf_3_2, xf_3_3, xf_3_4, xf_3_5, xf_3_6, xf_3_7, xf_4_0, xf_4_1, xf_4_2, xf_4_3, xf_4_4, xf_4_5, xf_4_6, xf_5_0, xf_5_1, xf_5_2, xf_5_3, xf_5_4, xf_5_5, xf_5_6, xf_5_7, xf_6_3, xf_7_3, xf_8_3, xf_9_3, xf_10_3, xf_11_3, xf_12_3, xf_13_3, xf_14_3, xf_15_3, xf_16_3, nI_1]
      refine x_F (sX1_alignedUp (by omega) haw) ?_
      rw [ea]
      try simp only [xi_iload, xi_aload, xi_lload, xi_istore, xi_astore, xi_lstore, xi_ic, xi_lc, xi_iinc, xi_iadd, xi_isub, xi_imul, xi_iand, xi_iushr, xi_ineg, xi_idiv, xi_irem, xi_ladd, xi_lmul, xi_lrem, xi_lcmp, xi_i2l, xi_l2i, xi_i2c, xi_dup, xi_dup2, xi_pop, xi_ifeq, xi_ifne, xi_iflt, xi_ifge, xi_ifgt, xi_ifle, xi_iceq, xi_icne, xi_iclt, xi_icge, xi_icgt, xi_icle, xi_iret, xi_zret, xi_lret, xi_vret, xi_getf, xi_putf, xi_ald, xi_ast, xi_alen, xi_callV, xi_callS, xpop, xroom, xl, xst, xok1, xok2, xnarrow, xwide, xone, xent, List.replicate, Option.isSome_some, Bool.and_self, Bool.true_and, Bool.and_true, List.length_cons, List.length_nil, Nat.reduceAdd, Nat.reduceLT, decide_true, Bool.not_false, Nat.beq, Nat.ble, Option.toList, List.nil_append, List.cons_append, xf_0_0, xf_0_1, xf_0_2, xf_0_3, xf_0_4, xf_0_5, xf_0_6, xf_0_7, xf_0_8, xf_0_9, xf_1_0, xf_1_1, xf_1_2, xf_1_3, xf_1_4, xf_2_0, xf_2_1, xf_2_2, xf_2_3, xf_2_4, xf_2_5, xf_2_6, xf_2_7, xf_3_0, xf_3_1, xf_3_2, xf_3_3, xf_3_4, xf_3_5, xf_3_6, xf_3_7, xf_4_0, xf_4_1, xf_4_2, xf_4_3, xf_4_4, xf_4_5, xf_4_6, xf_5_0, xf_5_1, xf_5_2, xf_5_3, xf_5_4, xf_5_5, xf_5_6, xf_5_7, xf_6_3, xf_7_3, xf_8_3, xf_9_3, xf_10_3, xf_11_3, xf_12_3, xf_13_3, xf_14_3, xf_15_3, xf_16_3, nI_1]
      refine x_F (sX3_set row24 (by omega)) ?_
      generalize hτ1 : xup τ 49 j (nI (yAdr M P il L j)) = τ1
      have hs1 : xsame [36, 49] σ τ1 := by rw [← hτ1]; exact hs.tr (xsame.up rfl)
      have hI1 := h.same hs1 (by decide)
      have hC1 : CIs τ1 il L := by rw [← hτ1]; exact ⟨by rw [xup_ap, if_neg (by omega)]; exact hC.1, fun k hk => by rw [xup_ap, if_neg (by omega)]; exact hC.2 k hk⟩
      try simp only [xi_iload, xi_aload, xi_lload, xi_istore, xi_astore, xi_lstore, xi_ic, xi_lc, xi_iinc, xi_iadd, xi_isub, xi_imul, xi_iand, xi_iushr, xi_ineg, xi_idiv, xi_irem, xi_ladd, xi_lmul, xi_lrem, xi_lcmp, xi_i2l, xi_l2i, xi_i2c, xi_dup, xi_dup2, xi_pop, xi_ifeq, xi_ifne, xi_iflt, xi_ifge, xi_ifgt, xi_ifle, xi_iceq, xi_icne, xi_iclt, xi_icge, xi_icgt, xi_icle, xi_iret, xi_zret, xi_lret, xi_vret, xi_getf, xi_putf, xi_ald, xi_ast, xi_alen, xi_callV, xi_callS, xpop, xroom, xl, xst, xok1, xok2, xnarrow, xwide, xone, xent, List.replicate, Option.isSome_some, Bool.and_self, Bool.true_and, Bool.and_true, List.length_cons, List.length_nil, Nat.reduceAdd, Nat.reduceLT, decide_true, Bool.not_false, Nat.beq, Nat.ble, Option.toList, List.nil_append, List.cons_append, xf_0_0, xf_0_1, xf_0_2, xf_0_3, xf_0_4, xf_0_5, xf_0_6, xf_0_7, xf_0_8, xf_0_9, xf_1_0, xf_1_1, xf_1_2, xf_1_3, xf_1_4, xf_2_0, xf_2_1, xf_2_2, xf_2_3, xf_2_4, xf_2_5, xf_2_6, xf_2_7, xf_3_0, xf_3_1, xf_3_2, xf_3_3, xf_3_4, xf_3_5, xf_3_6, xf_3_7, xf_4_0, xf_4_1, xf_4_2, xf_4_3, xf_4_4, xf_4_5, xf_4_6, xf_5_0, xf_5_1, xf_5_2, xf_5_3, xf_5_4, xf_5_5, xf_5_6, xf_5_7, xf_6_3, xf_7_3, xf_8_3, xf_9_3, xf_10_3, xf_11_3, xf_12_3, xf_13_3, xf_14_3, xf_15_3, xf_16_3, nI_1]
      refine x_F (sX0_sizeOf hI1 w hj) ?_
      try simp only [xi_iload, xi_aload, xi_lload, xi_istore, xi_astore, xi_lstore, xi_ic, xi_lc, xi_iinc, xi_iadd, xi_isub, xi_imul, xi_iand, xi_iushr, xi_ineg, xi_idiv, xi_irem, xi_ladd, xi_lmul, xi_lrem, xi_lcmp, xi_i2l, xi_l2i, xi_i2c, xi_dup, xi_dup2, xi_pop, xi_ifeq, xi_ifne, xi_iflt, xi_ifge, xi_ifgt, xi_ifle, xi_iceq, xi_icne, xi_iclt, xi_icge, xi_icgt, xi_icle, xi_iret, xi_zret, xi_lret, xi_vret, xi_getf, xi_putf, xi_ald, xi_ast, xi_alen, xi_callV, xi_callS, xpop, xroom, xl, xst, xok1, xok2, xnarrow, xwide, xone, xent, List.replicate, Option.isSome_some, Bool.and_self, Bool.true_and, Bool.and_true, List.length_cons, List.length_nil, Nat.reduceAdd, Nat.reduceLT, decide_true, Bool.not_false, Nat.beq, Nat.ble, Option.toList, List.nil_append, List.cons_append, xf_0_0, xf_0_1, xf_0_2, xf_0_3, xf_0_4, xf_0_5, xf_0_6, xf_0_7, xf_0_8, xf_0_9, xf_1_0, xf_1_1, xf_1_2, xf_1_3, xf_1_4, xf_2_0, xf_2_1, xf_2_2, xf_2_3, xf_2_4, xf_2_5, xf_2_6, xf_2_7, xf_3_0, xf_3_1, xf_3_2, xf_3_3, xf_3_4, xf_3_5, xf_3_6, xf_3_7, xf_4_0, xf_4_1, xf_4_2, xf_4_3, xf_4_4, xf_4_5, xf_4_6, xf_5_0, xf_5_1, xf_5_2, xf_5_3, xf_5_4, xf_5_5, xf_5_6, xf_5_7, xf_6_3, xf_7_3, xf_8_3, xf_9_3, xf_10_3, xf_11_3, xf_12_3, xf_13_3, xf_14_3, xf_15_3, xf_16_3, nI_1, nI_add]
      refine x_R (sX1_layIslands hI1 w hil hC1 hj (by omega)) (fun v ρ hρ => ?_)
      obtain ⟨rfl, hs2, hC2, h3, h4⟩ := hρ
      try simp only [xi_iload, xi_aload, xi_lload, xi_istore, xi_astore, xi_lstore, xi_ic, xi_lc, xi_iinc, xi_iadd, xi_isub, xi_imul, xi_iand, xi_iushr, xi_ineg, xi_idiv, xi_irem, xi_ladd, xi_lmul, xi_lrem, xi_lcmp, xi_i2l, xi_l2i, xi_i2c, xi_dup, xi_dup2, xi_pop, xi_ifeq, xi_ifne, xi_iflt, xi_ifge, xi_ifgt, xi_ifle, xi_iceq, xi_icne, xi_iclt, xi_icge, xi_icgt, xi_icle, xi_iret, xi_zret, xi_lret, xi_vret, xi_getf, xi_putf, xi_ald, xi_ast, xi_alen, xi_callV, xi_callS, xpop, xroom, xl, xst, xok1, xok2, xnarrow, xwide, xone, xent, List.replicate, Option.isSome_some, Bool.and_self, Bool.true_and, Bool.and_true, List.length_cons, List.length_nil, Nat.reduceAdd, Nat.reduceLT, decide_true, Bool.not_false, Nat.beq, Nat.ble, Option.toList, List.nil_append, List.cons_append, xf_0_0, xf_0_1, xf_0_2, xf_0_3, xf_0_4, xf_0_5, xf_0_6, xf_0_7, xf_0_8, xf_0_9, xf_1_0, xf_1_1, xf_1_2, xf_1_3, xf_1_4, xf_2_0, xf_2_1, xf_2_2, xf_2_3, xf_2_4, xf_2_5, xf_2_6, xf_2_7, xf_3_0, xf_3_1, xf_3_2, xf_3_3, xf_3_4, xf_3_5, xf_3_6, xf_3_7, xf_4_0, xf_4_1, xf_4_2, xf_4_3, xf_4_4, xf_4_5, xf_4_6, xf_5_0, xf_5_1, xf_5_2, xf_5_3, xf_5_4, xf_5_5, xf_5_6, xf_5_7, xf_6_3, xf_7_3, xf_8_3, xf_9_3, xf_10_3, xf_11_3, xf_12_3, xf_13_3, xf_14_3, xf_15_3, xf_16_3, nI_1]
      have hs3 : xsame [36, 49] σ ρ := hs1.tr (hs2.wk (by decide))
      have h49 : ρ 49 = τ1 49 := hs2.at (by decide)
      have h36 : τ1 36 = τ 36 := by rw [← hτ1]; exact xup_n (by decide)
      refine x_forget (ih ρ hs3 hC2 ⟨fun s hsj h5 h6 => ?_, fun k hk hkj h5 h6 => ?_⟩ ⟨fun s h5 => ?_, fun k h5 => ?_⟩) (by simp [xle])
      · rw [h49, ← hτ1, xup_ap]
        by_cases hsj2 : s = j
        · subst hsj2; rw [if_pos ⟨rfl, rfl⟩]
        · rw [if_neg (by omega)]; exact h1.1 s (by omega) h5 h6
      · by_cases hsj2 : yRS M (il k) = j
        · rw [h3 k hk hsj2]
          unfold yIsA
          rw [hsj2]
        · rw [h4 k hsj2, h36]; exact h1.2 k hk (by omega) h5 h6
      · rw [h49, ← hτ1, xup_ap, if_neg (fun z => by
          rw [z.2] at h5
          rcases h5 with h5 | h5
          · exact h5 q2
          · omega)]
        exact h2.1 s h5
      · rw [h4 k (fun z => by rw [z] at h5; exact h5 q2), h36]; exact h2.2 k h5
    · refine bX1_laySections_5 _ _ _ ?_
      have hI := h.same hs (by decide)
      have hc : τ 7 3 = nI (nS M) := hI.1 1 (by decide)
      try simp only [xi_iload, xi_aload, xi_lload, xi_istore, xi_astore, xi_lstore, xi_ic, xi_lc, xi_iinc, xi_iadd, xi_isub, xi_imul, xi_iand, xi_iushr, xi_ineg, xi_idiv, xi_irem, xi_ladd, xi_lmul, xi_lrem, xi_lcmp, xi_i2l, xi_l2i, xi_i2c, xi_dup, xi_dup2, xi_pop, xi_ifeq, xi_ifne, xi_iflt, xi_ifge, xi_ifgt, xi_ifle, xi_iceq, xi_icne, xi_iclt, xi_icge, xi_icgt, xi_icle, xi_iret, xi_zret, xi_lret, xi_vret, xi_getf, xi_putf, xi_ald, xi_ast, xi_alen, xi_callV, xi_callS, xpop, xroom, xl, xst, xok1, xok2, xnarrow, xwide, xone, xent, List.replicate, Option.isSome_some, Bool.and_self, Bool.true_and, Bool.and_true, List.length_cons, List.length_nil, Nat.reduceAdd, Nat.reduceLT, decide_true, Bool.not_false, Nat.beq, Nat.ble, Option.toList, List.nil_append, List.cons_append, xf_0_0, xf_0_1, xf_0_2, xf_0_3, xf_0_4, xf_0_5, xf_0_6, xf_0_7, xf_0_8, xf_0_9, xf_1_0, xf_1_1, xf_1_2, xf_1_3, xf_1_4, xf_2_0, xf_2_1, xf_2_2, xf_2_3, xf_2_4, xf_2_5, xf_2_6, xf_2_7, xf_3_0, xf_3_1, xf_3_2, xf_3_3, xf_3_4, xf_3_5, xf_3_6, xf_3_7, xf_4_0, xf_4_1, xf_4_2, xf_4_3, xf_4_4, xf_4_5, xf_4_6, xf_5_0, xf_5_1, xf_5_2, xf_5_3, xf_5_4, xf_5_5, xf_5_6, xf_5_7, xf_6_3, xf_7_3, xf_8_3, xf_9_3, xf_10_3, xf_11_3, xf_12_3, xf_13_3, xf_14_3, xf_15_3, xf_16_3, hc]
      rw [← hR]
      exact ⟨fun _ => ⟨rfl, hs, hC, ⟨h1.1, fun k hk => h1.2 k hk (w.2.2.2.2.2.2.1 _ (hil.2 k hk)).1⟩, h2⟩, fun q => absurd (nI_le (Nat.le_refl _) (by omega)) q⟩
  exact x_forget (key 0 (by omega) σ xsame.rf hi ⟨fun s hs => by omega, fun k hk hkj => by omega⟩ ⟨fun s _ => rfl, fun k _ => rfl⟩) (by simp [xle, nI_0])
/-- the living common of a name, by its place -/
def yComP (M : YM) (T A : Nat → Bool) (n : Nat) : Option Nat := match yStand M T n with
  | none => none
  | some g => if 100 ≤ g ∧ A g = true then some (g - 100) else none
theorem yComP_spec (w : WF M) {n z : Nat} (hn : n < 16) (h : yComP M T A n = some z) : yStand M T n = some (100 + z) ∧ A (100 + z) = true ∧ M 91 z < nC M ∧ yCN M (M 91 z) = n ∧ yCZ M (M 91 z) = M 92 z ∧ cz M (M 91 z) = 100 + z ∧ (1 ≤ M 92 z ∧ M 92 z ≤ 64) := by
  unfold yComP at h
  split at h
  · cases h
  · next g hg =>
    split at h
    · next hc =>
      cases h
      have hok := yStand_ok (M := M) (T := T) hn
      rw [hg] at hok
      rcases hok g rfl with h1 | ⟨o, n2, h1, h2, rfl, h4⟩
      · have := w.1.2.2.1; omega
      · have hn2 : n2 = n := by
          unfold yStand at hg
          split at hg
          · next j hj => cases hg; have := yBest_lt hj; have := w.1.2.2.1; omega
          · split at hg
            · next o2 ho2 => have := Option.some.inj hg; omega
            · have := yBest_lt hg; have := w.1.2.2.1; omega
        subst hn2
        rw [Nat.add_sub_cancel_left]
        obtain ⟨h5, h6, h7⟩ := w.2.2.2.2.2.1 o n2 h1 h2 h4
        obtain ⟨v1, v2, v3, v4, v5⟩ := w.2.2.2.2.1 _ h5
        have h8 : yCZ M (M 91 (16 * o + n2)) = M 92 (16 * o + n2) := by rw [h6, h7] at v4; exact v4.symm
        refine ⟨hg, hc.2, h5, h7, h8, ?_, by rw [← h8]; exact v3⟩
        unfold cz
        rw [h6, h7]
    · cases h
def yComAt (M : YM) (T A : Nat → Bool) (from' : Nat) : Nat → Nat
  | 0 => from'
  | n + 1 => match yComP M T A n with
    | none => yComAt M T A from' n
    | some z => yAl (yComAt M T A from' n) 4 + M 92 z
theorem yComAt_le (w : WF M) {f : Nat} : ∀ n, n ≤ 16 → yComAt M T A f n ≤ f + 67 * n := by
  intro n
  induction n with
  | zero => intro _; exact Nat.le_refl _
  | succ n ih =>
    intro hn
    have h1 := ih (by omega)
    unfold yComAt
    split
    · omega
    · next z hz =>
      have h2 := (yComP_spec w (by omega) hz).2.2.2.2.2.2
      have h3 := yAl_le (a := yComAt M T A f n) (k := 4)
      omega
theorem sX1_layCommons {f : Nat} (h : CI σ M) (w : WF M) (hS : CS σ M T) (hl : CL σ M A) (hf : f < 2 ^ 19) : XM G mX1_layCommons (d + 3) [.ref 3, .int (nI f)] σ (fun v τ => v = some (.int (nI (yComAt M T A f 16))) ∧ xsame [50] σ τ ∧ ∀ n, n < 16 → ∀ z, yComP M T A n = some z → τ 50 (M 91 z) = nI (yAl (yComAt M T A f n) 4)) := by
  refine xm_of (by decide +kernel) rfl (Nat.le_of_ble_eq_true rfl) ?_
  refine bX1_layCommons_0 _ _ _ ?_
  have hb2 : nD M ≤ 40 := w.1.2.2.1
  have hb3 := w.1.2.2.2.1
  try simp only [xi_iload, xi_aload, xi_lload, xi_istore, xi_astore, xi_lstore, xi_ic, xi_lc, xi_iinc, xi_iadd, xi_isub, xi_imul, xi_iand, xi_iushr, xi_ineg, xi_idiv, xi_irem, xi_ladd, xi_lmul, xi_lrem, xi_lcmp, xi_i2l, xi_l2i, xi_i2c, xi_dup, xi_dup2, xi_pop, xi_ifeq, xi_ifne, xi_iflt, xi_ifge, xi_ifgt, xi_ifle, xi_iceq, xi_icne, xi_iclt, xi_icge, xi_icgt, xi_icle, xi_iret, xi_zret, xi_lret, xi_vret, xi_getf, xi_putf, xi_ald, xi_ast, xi_alen, xi_callV, xi_callS, xpop, xroom, xl, xst, xok1, xok2, xnarrow, xwide, xone, xent, List.replicate, Option.isSome_some, Bool.and_self, Bool.true_and, Bool.and_true, List.length_cons, List.length_nil, Nat.reduceAdd, Nat.reduceLT, decide_true, Bool.not_false, Nat.beq, Nat.ble, Option.toList, List.nil_append, List.cons_append]
  have key : ∀ j, j ≤ 16 → ∀ τ, xsame [50] σ τ → (∀ n, n < j → ∀ z, yComP M T A n = some z → τ 50 (M 91 z) = nI (yAl (yComAt M T A f n) 4)) → AX1_layCommons G (d + 2 + 1) (fun v τ => v = some (.int (nI (yComAt M T A f 16))) ∧ xsame [50] σ τ ∧ ∀ n, n < 16 → ∀ z, yComP M T A n = some z → τ 50 (M 91 z) = nI (yAl (yComAt M T A f n) 4)) 4 [some (.ref 3), none, some (.int (nI (yComAt M T A f j))), some (.int (nI j)), none, none] [] τ := by
    refine loop_up (fun j hj ih τ hs h1 => ?_) (fun τ hs h1 => ?_)
    · refine bX1_layCommons_4 _ _ _ ?_
      have hI := h.same hs (by decide)
      have hlv := hl.same hs (by decide) (by decide)
      have hat := yComAt_le w (T := T) (A := A) (f := f) j (by omega)
      have hok := yStand_ok (M := M) (T := T) hj
      have hskip : yComP M T A j = none → AX1_layCommons G (d + 2 + 1) (fun v τ => v = some (.int (nI (yComAt M T A f 16))) ∧ xsame [50] σ τ ∧ ∀ n, n < 16 → ∀ z, yComP M T A n = some z → τ 50 (M 91 z) = nI (yAl (yComAt M T A f n) 4)) 4 [some (.ref 3), none, some (.int (nI (yComAt M T A f j))), some (.int (nI (j + 1))), none, none] [] τ := by
        intro hn
        have e : yComAt M T A f (j + 1) = yComAt M T A f j := by rw [yComAt, hn]
        rw [e] at ih
        refine ih τ hs (fun n hnj z hz => ?_)
        by_cases hnj2 : n = j
        · subst hnj2; rw [hn] at hz; cases hz
        · exact h1 n (by omega) z hz
      try simp only [xi_iload, xi_aload, xi_lload, xi_istore, xi_astore, xi_lstore, xi_ic, xi_lc, xi_iinc, xi_iadd, xi_isub, xi_imul, xi_iand, xi_iushr, xi_ineg, xi_idiv, xi_irem, xi_ladd, xi_lmul, xi_lrem, xi_lcmp, xi_i2l, xi_l2i, xi_i2c, xi_dup, xi_dup2, xi_pop, xi_ifeq, xi_ifne, xi_iflt, xi_ifge, xi_ifgt, xi_ifle, xi_iceq, xi_icne, xi_iclt, xi_icge, xi_icgt, xi_icle, xi_iret, xi_zret, xi_lret, xi_vret, xi_getf, xi_putf, xi_ald, xi_ast, xi_alen, xi_callV, xi_callS, xpop, xroom, xl, xst, xok1, xok2, xnarrow, xwide, xone, xent, List.replicate, Option.isSome_some, Bool.and_self, Bool.true_and, Bool.and_true, List.length_cons, List.length_nil, Nat.reduceAdd, Nat.reduceLT, decide_true, Bool.not_false, Nat.beq, Nat.ble, Option.toList, List.nil_append, List.cons_append, xf_0_0, xf_0_1, xf_0_2, xf_0_3, xf_0_4, xf_0_5, xf_0_6, xf_0_7, xf_0_8, xf_0_9, xf_1_0, xf_1_1, xf_1_2, xf_1_3, xf_1_4, xf_2_0, xf_2_1, xf_2_2, xf_2_3, xf_2_4, xf_2_5, xf_2_6, xf_2_7, xf_3_0, xf_3_1, xf_3_2, xf_3_3, xf_3_4, xf_3_5, xf_3_6, xf_3_7, xf_4_0, xf_4_1, xf_4_2, xf_4_3, xf_4_4, xf_4_5, xf_4_6, xf_5_0, xf_5_1, xf_5_2, xf_5_3, xf_5_4, xf_5_5, xf_5_6, xf_5_7, xf_6_3, xf_7_3, xf_8_3, xf_9_3, xf_10_3, xf_11_3, xf_12_3, xf_13_3, xf_14_3, xf_15_3, xf_16_3]
      refine ⟨fun q => absurd q (nI_ge (b := 16) hj (by decide)), fun _ => x_F (sX3_get row19 hj) ?_⟩
      rw [(hS.same hs (by decide)) j hj]
      try simp only [xi_iload, xi_aload, xi_lload, xi_istore, xi_astore, xi_lstore, xi_ic, xi_lc, xi_iinc, xi_iadd, xi_isub, xi_imul, xi_iand, xi_iushr, xi_ineg, xi_idiv, xi_irem, xi_ladd, xi_lmul, xi_lrem, xi_lcmp, xi_i2l, xi_l2i, xi_i2c, xi_dup, xi_dup2, xi_pop, xi_ifeq, xi_ifne, xi_iflt, xi_ifge, xi_ifgt, xi_ifle, xi_iceq, xi_icne, xi_iclt, xi_icge, xi_icgt, xi_icle, xi_iret, xi_zret, xi_lret, xi_vret, xi_getf, xi_putf, xi_ald, xi_ast, xi_alen, xi_callV, xi_callS, xpop, xroom, xl, xst, xok1, xok2, xnarrow, xwide, xone, xent, List.replicate, Option.isSome_some, Bool.and_self, Bool.true_and, Bool.and_true, List.length_cons, List.length_nil, Nat.reduceAdd, Nat.reduceLT, decide_true, Bool.not_false, Nat.beq, Nat.ble, Option.toList, List.nil_append, List.cons_append, xf_0_0, xf_0_1, xf_0_2, xf_0_3, xf_0_4, xf_0_5, xf_0_6, xf_0_7, xf_0_8, xf_0_9, xf_1_0, xf_1_1, xf_1_2, xf_1_3, xf_1_4, xf_2_0, xf_2_1, xf_2_2, xf_2_3, xf_2_4, xf_2_5, xf_2_6, xf_2_7, xf_3_0, xf_3_1, xf_3_2, xf_3_3, xf_3_4, xf_3_5, xf_3_6, xf_3_7, xf_4_0, xf_4_1, xf_4_2, xf_4_3, xf_4_4, xf_4_5, xf_4_6, xf_5_0, xf_5_1, xf_5_2, xf_5_3, xf_5_4, xf_5_5, xf_5_6, xf_5_7, xf_6_3, xf_7_3, xf_8_3, xf_9_3, xf_10_3, xf_11_3, xf_12_3, xf_13_3, xf_14_3, xf_15_3, xf_16_3, nI_1]
      rcases gC_cases w hok with ⟨hg, e⟩ | ⟨i, hi, hg, e⟩ | ⟨c, hc, hg, e⟩
      · rw [e]
        refine ⟨fun _ => x_forget (hskip (by unfold yComP; rw [hg])) (by simp [xle]), fun q => absurd (show (-1 : Int32) < 40 by decide) q⟩
      · rw [e, show (40 : Int32) = nI 40 from rfl]
        try simp (disch := omega) only [nI_leI, nI_ltI, nI_eq, nI_pos, nI_1, nI_add, pk_mul, nIm, nIm', not_false_eq_true, not_true_eq_false, false_implies, true_implies, and_true, true_and, b2i_t, b2i_f]
        refine ⟨fun _ => x_forget (hskip ?_) (by simp [xle]), fun q => absurd (by omega) q⟩
        unfold yComP
        rw [hg]
        dsimp only
        rw [if_neg (by omega)]
      · have e0 := e
        rw [e, show (40 : Int32) = nI 40 from rfl]
        try simp (disch := omega) only [nI_leI, nI_ltI, nI_eq, nI_pos, nI_1, nI_add, pk_mul, nIm, nIm', not_false_eq_true, not_true_eq_false, false_implies, true_implies, and_true, true_and, b2i_t, b2i_f]
        refine ⟨fun q => absurd q (by omega), fun _ => ?_⟩
        have h9 := sX5_isLivingGoal (G := G) (d := d) hI w hlv hok
        rw [e] at h9
        refine x_F h9 ?_
        try simp only [xi_iload, xi_aload, xi_lload, xi_istore, xi_astore, xi_lstore, xi_ic, xi_lc, xi_iinc, xi_iadd, xi_isub, xi_imul, xi_iand, xi_iushr, xi_ineg, xi_idiv, xi_irem, xi_ladd, xi_lmul, xi_lrem, xi_lcmp, xi_i2l, xi_l2i, xi_i2c, xi_dup, xi_dup2, xi_pop, xi_ifeq, xi_ifne, xi_iflt, xi_ifge, xi_ifgt, xi_ifle, xi_iceq, xi_icne, xi_iclt, xi_icge, xi_icgt, xi_icle, xi_iret, xi_zret, xi_lret, xi_vret, xi_getf, xi_putf, xi_ald, xi_ast, xi_alen, xi_callV, xi_callS, xpop, xroom, xl, xst, xok1, xok2, xnarrow, xwide, xone, xent, List.replicate, Option.isSome_some, Bool.and_self, Bool.true_and, Bool.and_true, List.length_cons, List.length_nil, Nat.reduceAdd, Nat.reduceLT, decide_true, Bool.not_false, Nat.beq, Nat.ble, Option.toList, List.nil_append, List.cons_append, xf_0_0, xf_0_1, xf_0_2, xf_0_3, xf_0_4, xf_0_5, xf_0_6, xf_0_7, xf_0_8, xf_0_9, xf_1_0, xf_1_1, xf_1_2, xf_1_3, xf_1_4, xf_2_0, xf_2_1, xf_2_2, xf_2_3, xf_2_4, xf_2_5, xf_2_6, xf_2_7, xf_3_0, xf_3_1, xf_3_2, xf_3_3, xf_3_4, xf_3_5, xf_3_6, xf_3_7, xf_4_0, xf_4_1, xf_4_2, xf_4_3, xf_4_4, xf_4_5, xf_4_6, xf_5_0, xf_5_1, xf_5_2, xf_5_3, xf_5_4, xf_5_5, xf_5_6, xf_5_7, xf_6_3, xf_7_3, xf_8_3, xf_9_3, xf_10_3, xf_11_3, xf_12_3, xf_13_3, xf_14_3, xf_15_3, xf_16_3, nI_1]
        rw [b2i_ne]
        have hgl : gLv M A (yStand M T j) = A (cz M c) := by rw [hg]; unfold gLv; dsimp only; rw [nd_com]
        rw [hgl]
        refine ⟨fun q => x_forget (hskip ?_) (by simp [xle]), fun q => ?_⟩
        · unfold yComP
          rw [hg]
          dsimp only
          rw [q, if_neg (fun z => by cases z.2)]
        have hp : yComP M T A j = some (cz M c - 100) := by
          unfold yComP
          rw [hg]
          dsimp only
          rw [if_pos ⟨by unfold cz; omega, by simpa using q⟩]
        obtain ⟨u1, u2, u3, u4, u5, u6, u7⟩ := yComP_spec w hj hp
        have hcc : M 91 (cz M c - 100) = c := cz_inj w u3 hc (by rw [u6]; unfold cz; omega)
        have hcs : yCZ M c = M 92 (cz M c - 100) := by rw [← u5, hcc]
        rw [show nI (40 + c) - nI 40 = nI c by rw [Nat.add_comm, ← nI_add, Int32.add_sub_cancel]]
        rw [show (4 : Int32) = nI 4 from rfl]
        refine x_F (sX1_alignedUp (by omega) (by omega)) ?_
        have hal := yAl_le (a := yComAt M T A f j) (k := 4)
        try simp only [xi_iload, xi_aload, xi_lload, xi_istore, xi_astore, xi_lstore, xi_ic, xi_lc, xi_iinc, xi_iadd, xi_isub, xi_imul, xi_iand, xi_iushr, xi_ineg, xi_idiv, xi_irem, xi_ladd, xi_lmul, xi_lrem, xi_lcmp, xi_i2l, xi_l2i, xi_i2c, xi_dup, xi_dup2, xi_pop, xi_ifeq, xi_ifne, xi_iflt, xi_ifge, xi_ifgt, xi_ifle, xi_iceq, xi_icne, xi_iclt, xi_icge, xi_icgt, xi_icle, xi_iret, xi_zret, xi_lret, xi_vret, xi_getf, xi_putf, xi_ald, xi_ast, xi_alen, xi_callV, xi_callS, xpop, xroom, xl, xst, xok1, xok2, xnarrow, xwide, xone, xent, List.replicate, Option.isSome_some, Bool.and_self, Bool.true_and, Bool.and_true, List.length_cons, List.length_nil, Nat.reduceAdd, Nat.reduceLT, decide_true, Bool.not_false, Nat.beq, Nat.ble, Option.toList, List.nil_append, List.cons_append, xf_0_0, xf_0_1, xf_0_2, xf_0_3, xf_0_4, xf_0_5, xf_0_6, xf_0_7, xf_0_8, xf_0_9, xf_1_0, xf_1_1, xf_1_2, xf_1_3, xf_1_4, xf_2_0, xf_2_1, xf_2_2, xf_2_3, xf_2_4, xf_2_5, xf_2_6, xf_2_7, xf_3_0, xf_3_1, xf_3_2, xf_3_3, xf_3_4, xf_3_5, xf_3_6, xf_3_7, xf_4_0, xf_4_1, xf_4_2, xf_4_3, xf_4_4, xf_4_5, xf_4_6, xf_5_0, xf_5_1, xf_5_2, xf_5_3, xf_5_4, xf_5_5, xf_5_6, xf_5_7, xf_6_3, xf_7_3, xf_8_3, xf_9_3, xf_10_3, xf_11_3, xf_12_3, xf_13_3, xf_14_3, xf_15_3, xf_16_3, nI_1]
        refine x_F (sX3_set row25 (by omega)) ?_
        try simp only [xi_iload, xi_aload, xi_lload, xi_istore, xi_astore, xi_lstore, xi_ic, xi_lc, xi_iinc, xi_iadd, xi_isub, xi_imul, xi_iand, xi_iushr, xi_ineg, xi_idiv, xi_irem, xi_ladd, xi_lmul, xi_lrem, xi_lcmp, xi_i2l, xi_l2i, xi_i2c, xi_dup, xi_dup2, xi_pop, xi_ifeq, xi_ifne, xi_iflt, xi_ifge, xi_ifgt, xi_ifle, xi_iceq, xi_icne, xi_iclt, xi_icge, xi_icgt, xi_icle, xi_iret, xi_zret, xi_lret, xi_vret, xi_getf, xi_putf, xi_ald, xi_ast, xi_alen, xi_callV, xi_callS, xpop, xroom, xl, xst, xok1, xok2, xnarrow, xwide, xone, xent, List.replicate, Option.isSome_some, Bool.and_self, Bool.true_and, Bool.and_true, List.length_cons, List.length_nil, Nat.reduceAdd, Nat.reduceLT, decide_true, Bool.not_false, Nat.beq, Nat.ble, Option.toList, List.nil_append, List.cons_append, xf_0_0, xf_0_1, xf_0_2, xf_0_3, xf_0_4, xf_0_5, xf_0_6, xf_0_7, xf_0_8, xf_0_9, xf_1_0, xf_1_1, xf_1_2, xf_1_3, xf_1_4, xf_2_0, xf_2_1, xf_2_2, xf_2_3, xf_2_4, xf_2_5, xf_2_6, xf_2_7, xf_3_0, xf_3_1, xf_3_2, xf_3_3, xf_3_4, xf_3_5, xf_3_6, xf_3_7, xf_4_0, xf_4_1, xf_4_2, xf_4_3, xf_4_4, xf_4_5, xf_4_6, xf_5_0, xf_5_1, xf_5_2, xf_5_3, xf_5_4, xf_5_5, xf_5_6, xf_5_7, xf_6_3, xf_7_3, xf_8_3, xf_9_3, xf_10_3, xf_11_3, xf_12_3, xf_13_3, xf_14_3, xf_15_3, xf_16_3, nI_1]
        have hs1 : xsame [50] σ (xup τ 50 c (nI (yAl (yComAt M T A f j) 4))) := hs.tr (xsame.up rfl)
        refine x_F (sX0_commonSize (h.same hs1 (by decide)) w hc) ?_
        try simp only [xi_iload, xi_aload, xi_lload, xi_istore, xi_astore, xi_lstore, xi_ic, xi_lc, xi_iinc, xi_iadd, xi_isub, xi_imul, xi_iand, xi_iushr, xi_ineg, xi_idiv, xi_irem, xi_ladd, xi_lmul, xi_lrem, xi_lcmp, xi_i2l, xi_l2i, xi_i2c, xi_dup, xi_dup2, xi_pop, xi_ifeq, xi_ifne, xi_iflt, xi_ifge, xi_ifgt, xi_ifle, xi_iceq, xi_icne, xi_iclt, xi_icge, xi_icgt, xi_icle, xi_iret, xi_zret, xi_lret, xi_vret, xi_getf, xi_putf, xi_ald, xi_ast, xi_alen, xi_callV, xi_callS, xpop, xroom, xl, xst, xok1, xok2, xnarrow, xwide, xone, xent, List.replicate, Option.isSome_some, Bool.and_self, Bool.true_and, Bool.and_true, List.length_cons, List.length_nil, Nat.reduceAdd, Nat.reduceLT, decide_true, Bool.not_false, Nat.beq, Nat.ble, Option.toList, List.nil_append, List.cons_append, xf_0_0, xf_0_1, xf_0_2, xf_0_3, xf_0_4, xf_0_5, xf_0_6, xf_0_7, xf_0_8, xf_0_9, xf_1_0, xf_1_1, xf_1_2, xf_1_3, xf_1_4, xf_2_0, xf_2_1, xf_2_2, xf_2_3, xf_2_4, xf_2_5, xf_2_6, xf_2_7, xf_3_0, xf_3_1, xf_3_2, xf_3_3, xf_3_4, xf_3_5, xf_3_6, xf_3_7, xf_4_0, xf_4_1, xf_4_2, xf_4_3, xf_4_4, xf_4_5, xf_4_6, xf_5_0, xf_5_1, xf_5_2, xf_5_3, xf_5_4, xf_5_5, xf_5_6, xf_5_7, xf_6_3, xf_7_3, xf_8_3, xf_9_3, xf_10_3, xf_11_3, xf_12_3, xf_13_3, xf_14_3, xf_15_3, xf_16_3, nI_1, nI_add]
        rw [hcs]
        have e2 : yComAt M T A f (j + 1) = yAl (yComAt M T A f j) 4 + M 92 (cz M c - 100) := by rw [yComAt, hp]
        rw [e2] at ih
        refine x_forget (ih _ hs1 (fun n hnj z hz => ?_)) (by simp [xle])
        rw [xup_ap]
        by_cases hnj2 : n = j
        · subst hnj2
          rw [hp] at hz
          cases hz
          rw [if_pos ⟨rfl, hcc⟩]
        · obtain ⟨v1, v2, v3, v4, v5, v6, v7⟩ := yComP_spec w (by omega) hz
          rw [if_neg (fun zz => by
            rw [hcc] at u4
            rw [zz.2] at v4
            omega)]
          exact h1 n (by omega) z hz
    · refine bX1_layCommons_4 _ _ _ ?_
      try simp only [xi_iload, xi_aload, xi_lload, xi_istore, xi_astore, xi_lstore, xi_ic, xi_lc, xi_iinc, xi_iadd, xi_isub, xi_imul, xi_iand, xi_iushr, xi_ineg, xi_idiv, xi_irem, xi_ladd, xi_lmul, xi_lrem, xi_lcmp, xi_i2l, xi_l2i, xi_i2c, xi_dup, xi_dup2, xi_pop, xi_ifeq, xi_ifne, xi_iflt, xi_ifge, xi_ifgt, xi_ifle, xi_iceq, xi_icne, xi_iclt, xi_icge, xi_icgt, xi_icle, xi_iret, xi_zret, xi_lret, xi_vret, xi_getf, xi_putf, xi_ald, xi_ast, xi_alen, xi_callV, xi_callS, xpop, xroom, xl, xst, xok1, xok2, xnarrow, xwide, xone, xent, List.replicate, Option.isSome_some, Bool.and_self, Bool.true_and, Bool.and_true, List.length_cons, List.length_nil, Nat.reduceAdd, Nat.reduceLT, decide_true, Bool.not_false, Nat.beq, Nat.ble, Option.toList, List.nil_append, List.cons_append, xf_0_0, xf_0_1, xf_0_2, xf_0_3, xf_0_4, xf_0_5, xf_0_6, xf_0_7, xf_0_8, xf_0_9, xf_1_0, xf_1_1, xf_1_2, xf_1_3, xf_1_4, xf_2_0, xf_2_1, xf_2_2, xf_2_3, xf_2_4, xf_2_5, xf_2_6, xf_2_7, xf_3_0, xf_3_1, xf_3_2, xf_3_3, xf_3_4, xf_3_5, xf_3_6, xf_3_7, xf_4_0, xf_4_1, xf_4_2, xf_4_3, xf_4_4, xf_4_5, xf_4_6, xf_5_0, xf_5_1, xf_5_2, xf_5_3, xf_5_4, xf_5_5, xf_5_6, xf_5_7, xf_6_3, xf_7_3, xf_8_3, xf_9_3, xf_10_3, xf_11_3, xf_12_3, xf_13_3, xf_14_3, xf_15_3, xf_16_3]
      exact ⟨fun _ => ⟨trivial, hs, h1⟩, fun q => absurd (show (16 : Int32) ≤ nI 16 by decide) q⟩
  exact x_forget (key 0 (by omega) σ xsame.rf (fun n hn => by omega)) (by simp [xle, yComAt, nI_0])
/-- all is laid so -/
def CLay (σ : Sg) (M : YM) (T A P : Nat → Bool) (il : Nat → Nat) (L : Nat) : Prop := ((∀ s, s < nS M → P s = true → σ 49 s = nI (yAdr M P il L s)) ∧ ∀ k, k < L → P (yRS M (il k)) = true → σ 36 (k * 2 + 1) = nI (yIsA M P il L k)) ∧ (∀ n, n < 16 → ∀ z, yComP M T A n = some z → σ 50 (M 91 z) = nI (yAl (yComAt M T A (ySecAt M P il L false (nS M)) n) 4)) ∧ σ 3 6 = nI (ySecAt M P il L true (nS M)) ∧ σ 3 7 = nI (yComAt M T A (ySecAt M P il L false (nS M)) 16)
theorem CIs.same {σ τ : Sg} {l : List Nat} (h : CIs σ il L) (hs : xsame l σ τ) (hl : l.contains 36 = false) (hl2 : l.contains 11 = false) : CIs τ il L := ⟨by rw [hs.at hl2]; exact h.1, fun o ho => by rw [hs.at hl]; exact h.2 o ho⟩
theorem sX1_layAll (h : CI σ M) (w : WF M) (hS : CS σ M T) (hl : CL σ M A) (hd : CD σ M T A) (hil : ILok M il L) (hi : CIs σ il L) (hP : P = yLaid M T A) : XM G mX1_layAll (d + 4) [.ref 3] σ (fun v τ => v = none ∧ xsame [3, 36, 49, 50] σ τ ∧ CIs τ il L ∧ CLay τ M T A P il L ∧ ∀ s, nS M ≤ s → τ 49 s = σ 49 s) := by
  refine xm_of (by decide +kernel) rfl (Nat.le_of_ble_eq_true rfl) ?_
  refine bX1_layAll_0 _ _ _ ?_
  have hb2 : nS M ≤ 24 := w.1.2.1
  have hL := hil.1
  try simp only [xi_iload, xi_aload, xi_lload, xi_istore, xi_astore, xi_lstore, xi_ic, xi_lc, xi_iinc, xi_iadd, xi_isub, xi_imul, xi_iand, xi_iushr, xi_ineg, xi_idiv, xi_irem, xi_ladd, xi_lmul, xi_lrem, xi_lcmp, xi_i2l, xi_l2i, xi_i2c, xi_dup, xi_dup2, xi_pop, xi_ifeq, xi_ifne, xi_iflt, xi_ifge, xi_ifgt, xi_ifle, xi_iceq, xi_icne, xi_iclt, xi_icge, xi_icgt, xi_icle, xi_iret, xi_zret, xi_lret, xi_vret, xi_getf, xi_putf, xi_ald, xi_ast, xi_alen, xi_callV, xi_callS, xpop, xroom, xl, xst, xok1, xok2, xnarrow, xwide, xone, xent, List.replicate, Option.isSome_some, Bool.and_self, Bool.true_and, Bool.and_true, List.length_cons, List.length_nil, Nat.reduceAdd, Nat.reduceLT, decide_true, Bool.not_false, Nat.beq, Nat.ble, Option.toList, List.nil_append, List.cons_append, xf_0_0, xf_0_1, xf_0_2, xf_0_3, xf_0_4, xf_0_5, xf_0_6, xf_0_7, xf_0_8, xf_0_9, xf_1_0, xf_1_1, xf_1_2, xf_1_3, xf_1_4, xf_2_0, xf_2_1, xf_2_2, xf_2_3, xf_2_4, xf_2_5, xf_2_6, xf_2_7, xf_3_0, xf_3_1, xf_3_2, xf_3_3, xf_3_4, xf_3_5, xf_3_6, xf_3_7, xf_4_0, xf_4_1, xf_4_2, xf_4_3, xf_4_4, xf_4_5, xf_4_6, xf_5_0, xf_5_1, xf_5_2, xf_5_3, xf_5_4, xf_5_5, xf_5_6, xf_5_7, xf_6_3, xf_7_3, xf_8_3, xf_9_3, xf_10_3, xf_11_3, xf_12_3, xf_13_3, xf_14_3, xf_15_3, xf_16_3]
  refine x_R (sX1_laySections (cb := true) h w hd hil hi hP) (fun v τ hτ => ?_)
  obtain ⟨rfl, hs1, hC1, ⟨a1, a2⟩, a3, a4⟩ := hτ
  try simp only [xi_iload, xi_aload, xi_lload, xi_istore, xi_astore, xi_lstore, xi_ic, xi_lc, xi_iinc, xi_iadd, xi_isub, xi_imul, xi_iand, xi_iushr, xi_ineg, xi_idiv, xi_irem, xi_ladd, xi_lmul, xi_lrem, xi_lcmp, xi_i2l, xi_l2i, xi_i2c, xi_dup, xi_dup2, xi_pop, xi_ifeq, xi_ifne, xi_iflt, xi_ifge, xi_ifgt, xi_ifle, xi_iceq, xi_icne, xi_iclt, xi_icge, xi_icgt, xi_icle, xi_iret, xi_zret, xi_lret, xi_vret, xi_getf, xi_putf, xi_ald, xi_ast, xi_alen, xi_callV, xi_callS, xpop, xroom, xl, xst, xok1, xok2, xnarrow, xwide, xone, xent, List.replicate, Option.isSome_some, Bool.and_self, Bool.true_and, Bool.and_true, List.length_cons, List.length_nil, Nat.reduceAdd, Nat.reduceLT, decide_true, Bool.not_false, Nat.beq, Nat.ble, Option.toList, List.nil_append, List.cons_append, xf_0_0, xf_0_1, xf_0_2, xf_0_3, xf_0_4, xf_0_5, xf_0_6, xf_0_7, xf_0_8, xf_0_9, xf_1_0, xf_1_1, xf_1_2, xf_1_3, xf_1_4, xf_2_0, xf_2_1, xf_2_2, xf_2_3, xf_2_4, xf_2_5, xf_2_6, xf_2_7, xf_3_0, xf_3_1, xf_3_2, xf_3_3, xf_3_4, xf_3_5, xf_3_6, xf_3_7, xf_4_0, xf_4_1, xf_4_2, xf_4_3, xf_4_4, xf_4_5, xf_4_6, xf_5_0, xf_5_1, xf_5_2, xf_5_3, xf_5_4, xf_5_5, xf_5_6, xf_5_7, xf_6_3, xf_7_3, xf_8_3, xf_9_3, xf_10_3, xf_11_3, xf_12_3, xf_13_3, xf_14_3, xf_15_3, xf_16_3]
  refine ⟨xnok_i _, ?_⟩
  generalize hτ2 : xup τ 3 6 (nI (ySecAt M P il L true (nS M))) = τ2
  have hs12 : xsame [3] τ τ2 := by rw [← hτ2]; exact xsame.up rfl
  have hs2 : xsame [3, 36, 49] σ τ2 := (hs1.wk (by decide)).tr (hs12.wk (by decide))
  refine x_R (sX1_laySections (cb := false) (h.same hs2 (by decide)) w (hd.same hs2 (by decide)) hil (hC1.same hs12 (by decide) (by decide)) hP) (fun v ρ hρ => ?_)
  obtain ⟨rfl, hs3, hC3, ⟨b1, b2⟩, b3, b4⟩ := hρ
  have hs23 : xsame [3, 36, 49] σ ρ := hs2.tr (hs3.wk (by decide))
  try simp only [xi_iload, xi_aload, xi_lload, xi_istore, xi_astore, xi_lstore, xi_ic, xi_lc, xi_iinc, xi_iadd, xi_isub, xi_imul, xi_iand, xi_iushr, xi_ineg, xi_idiv, xi_irem, xi_ladd, xi_lmul, xi_lrem, xi_lcmp, xi_i2l, xi_l2i, xi_i2c, xi_dup, xi_dup2, xi_pop, xi_ifeq, xi_ifne, xi_iflt, xi_ifge, xi_ifgt, xi_ifle, xi_iceq, xi_icne, xi_iclt, xi_icge, xi_icgt, xi_icle, xi_iret, xi_zret, xi_lret, xi_vret, xi_getf, xi_putf, xi_ald, xi_ast, xi_alen, xi_callV, xi_callS, xpop, xroom, xl, xst, xok1, xok2, xnarrow, xwide, xone, xent, List.replicate, Option.isSome_some, Bool.and_self, Bool.true_and, Bool.and_true, List.length_cons, List.length_nil, Nat.reduceAdd, Nat.reduceLT, decide_true, Bool.not_false, Nat.beq, Nat.ble, Option.toList, List.nil_append, List.cons_append, xf_0_0, xf_0_1, xf_0_2, xf_0_3, xf_0_4, xf_0_5, xf_0_6, xf_0_7, xf_0_8, xf_0_9, xf_1_0, xf_1_1, xf_1_2, xf_1_3, xf_1_4, xf_2_0, xf_2_1, xf_2_2, xf_2_3, xf_2_4, xf_2_5, xf_2_6, xf_2_7, xf_3_0, xf_3_1, xf_3_2, xf_3_3, xf_3_4, xf_3_5, xf_3_6, xf_3_7, xf_4_0, xf_4_1, xf_4_2, xf_4_3, xf_4_4, xf_4_5, xf_4_6, xf_5_0, xf_5_1, xf_5_2, xf_5_3, xf_5_4, xf_5_5, xf_5_6, xf_5_7, xf_6_3, xf_7_3, xf_8_3, xf_9_3, xf_10_3, xf_11_3, xf_12_3, xf_13_3, xf_14_3, xf_15_3, xf_16_3]
  have hat := ySecAt_le w (P := P) (il := il) (cb := false) hL (nS M) (Nat.le_refl _)
  refine x_R (sX1_layCommons (h.same hs23 (by decide)) w (hS.same hs23 (by decide)) (hl.same hs23 (by decide) (by decide)) (by omega)) (fun v μ hμ => ?_)
  obtain ⟨rfl, hs4, c1⟩ := hμ
  have hs24 : xsame [3, 36, 49, 50] σ μ := (hs23.wk (by decide)).tr (hs4.wk (by decide))
  try simp only [xi_iload, xi_aload, xi_lload, xi_istore, xi_astore, xi_lstore, xi_ic, xi_lc, xi_iinc, xi_iadd, xi_isub, xi_imul, xi_iand, xi_iushr, xi_ineg, xi_idiv, xi_irem, xi_ladd, xi_lmul, xi_lrem, xi_lcmp, xi_i2l, xi_l2i, xi_i2c, xi_dup, xi_dup2, xi_pop, xi_ifeq, xi_ifne, xi_iflt, xi_ifge, xi_ifgt, xi_ifle, xi_iceq, xi_icne, xi_iclt, xi_icge, xi_icgt, xi_icle, xi_iret, xi_zret, xi_lret, xi_vret, xi_getf, xi_putf, xi_ald, xi_ast, xi_alen, xi_callV, xi_callS, xpop, xroom, xl, xst, xok1, xok2, xnarrow, xwide, xone, xent, List.replicate, Option.isSome_some, Bool.and_self, Bool.true_and, Bool.and_true, List.length_cons, List.length_nil, Nat.reduceAdd, Nat.reduceLT, decide_true, Bool.not_false, Nat.beq, Nat.ble, Option.toList, List.nil_append, List.cons_append, xf_0_0, xf_0_1, xf_0_2, xf_0_3, xf_0_4, xf_0_5, xf_0_6, xf_0_7, xf_0_8, xf_0_9, xf_1_0, xf_1_1, xf_1_2, xf_1_3, xf_1_4, xf_2_0, xf_2_1, xf_2_2, xf_2_3, xf_2_4, xf_2_5, xf_2_6, xf_2_7, xf_3_0, xf_3_1, xf_3_2, xf_3_3, xf_3_4, xf_3_5, xf_3_6, xf_3_7, xf_4_0, xf_4_1, xf_4_2, xf_4_3, xf_4_4, xf_4_5, xf_4_6, xf_5_0, xf_5_1, xf_5_2, xf_5_3, xf_5_4, xf_5_5, xf_5_6, xf_5_7, xf_6_3, xf_7_3, xf_8_3, xf_9_3, xf_10_3, xf_11_3, xf_12_3, xf_13_3, xf_14_3, xf_15_3, xf_16_3]
  refine ⟨xnok_i _, trivial, hs24.tr (xsame.up rfl), ?_, ⟨⟨fun s hs hp => ?_, fun k hk hp => ?_⟩, fun n hn z hz => ?_, ?_, ?_⟩, fun s hs => ?_⟩
  · exact ((hC3.same hs4 (by decide) (by decide)).same (xsame.up (l := [3]) rfl) (by decide) (by decide))
  · rw [xup_n (by decide), hs4.at (by decide)]
    cases hcb : (ySC M s == 1) with
    | true => rw [b3 s (Or.inl (by rw [hcb]; decide)), hs12.at (by decide)]; exact a1 s hs hp hcb
    | false => exact b1 s hs hp hcb
  · rw [xup_n (by decide), hs4.at (by decide)]
    cases hcb : (ySC M (yRS M (il k)) == 1) with
    | true => rw [b4 k (by rw [hcb]; decide), hs12.at (by decide)]; exact a2 k hk hp hcb
    | false => exact b2 k hk hp hcb
  · rw [xup_n (by decide)]; exact c1 n hn z hz
  · rw [xup_ap, if_neg (by omega), hs4.at (by decide), hs3.at (by decide), ← hτ2, xup_ap, if_pos ⟨rfl, rfl⟩]
  · rw [xup_ap, if_pos ⟨rfl, rfl⟩]
  · rw [xup_n (by decide), hs4.at (by decide), b3 s (Or.inr hs), hs12.at (by decide)]; exact a3 s (Or.inr hs)
end S30
