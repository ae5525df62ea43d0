/-! the reference: its inputs, and what it takes -/
section S50
variable {G : XG} {d : Nat} {σ τ : Sg} {M : YM} {T A : Nat → Bool}
theorem q16 : (16 : Int32) = nI 16 := rfl
theorem q2 : (2 : Int32) = nI 2 := rfl
theorem q3 : (3 : Int32) = nI 3 := rfl
theorem q4 : (4 : Int32) = nI 4 := rfl
theorem q8 : (8 : Int32) = nI 8 := rfl
theorem q10 : (10 : Int32) = nI 10 := rfl
theorem q160 : (160 : Int32) = nI 160 := rfl
theorem q40 : (40 : Int32) = nI 40 := rfl
theorem q24 : (24 : Int32) = nI 24 := rfl
theorem q100 : (100 : Int32) = nI 100 := rfl
theorem q1000 : (1000 : Int32) = nI 1000 := rfl
theorem q999 : (999 : Int32) = nI 999 := rfl
theorem nI_le0 {x : Nat} (h : x < 2 ^ 31) : nI x ≤ 0 ↔ x = 0 := by
  rw [← nI_0, nI_leI h (by omega)]
  omega
theorem nI_lt0 {x : Nat} (h : x < 2 ^ 31) : 0 < nI x ↔ 0 < x := by
  rw [← nI_0, nI_ltI (by omega) h]
/-- the reference's cells hold these inputs -/
def MI (σ : Sg) (M : YM) : Prop := (σ 30 1 = nI (nO M) ∧ σ 30 8 = nI (nS M) ∧ σ 30 13 = nI (nD M) ∧ σ 30 19 = nI (nR M)) ∧
  (∀ j, j < nO M → σ 55 j = b2i (yMem M j == 1)) ∧
  ((∀ j, j < nS M → σ 56 j = nI (ySO M j)) ∧ (∀ j, j < nS M → σ 57 j = b2i (ySC M j == 1)) ∧ (∀ j, j < nS M → σ 58 j = nI (ySZ M j)) ∧ (∀ j, j < nS M → σ 59 j = nI (ySA M j)) ∧ (∀ j, j < nS M → σ 60 j = nI (yST M j)) ∧ (∀ j, j < nS M → σ 61 j = b2i (ySK M j == 1))) ∧
  ((∀ j, j < nD M → σ 62 j = nI (yDS M j)) ∧ (∀ j, j < nD M → σ 63 j = nI (yDN M j)) ∧ (∀ j, j < nD M → σ 64 j = nI (yDF M j)) ∧ (∀ j, j < nD M → σ 65 j = nI (yDX M j))) ∧
  (∀ z, z < 160 → σ 66 z = nI (M 92 z)) ∧
  ((∀ j, j < nR M → σ 67 j = nI (yRS M j)) ∧ (∀ j, j < nR M → σ 68 j = nI (yRF M j)) ∧ (∀ j, j < nR M → σ 69 j = nI (yRN M j)) ∧ (∀ j, j < nR M → σ 70 j = nI (yRK M j)))
theorem MI.same {l : List Nat} (h : MI σ M) (hs : xsame l σ τ) (hl : l.all (fun r => !(decide (54 < r) && decide (r < 71) || r == 30)) = true) : MI τ M := by
  have h2 : ∀ r, (54 < r ∧ r < 71) ∨ r = 30 → τ r = σ r := by
    intro r hr
    refine hs r (fun z => ?_)
    have := List.all_eq_true.mp hl r z
    simp at this
    omega
  unfold MI
  rw [h2 30 (by omega), h2 55 (by omega), h2 56 (by omega), h2 57 (by omega), h2 58 (by omega), h2 59 (by omega), h2 60 (by omega), h2 61 (by omega), h2 62 (by omega), h2 63 (by omega), h2 64 (by omega), h2 65 (by omega), h2 66 (by omega), h2 67 (by omega), h2 68 (by omega), h2 69 (by omega), h2 70 (by omega)]
  exact h
theorem MI.up30 {j : Nat} {x : Int32} (h : MI σ M) (hj : j ≠ 1 ∧ j ≠ 8 ∧ j ≠ 13 ∧ j ≠ 19) : MI (xup σ 30 j x) M := by
  unfold MI
  rw [xup_n (show (55 : Nat) ≠ 30 by omega), xup_n (show (56 : Nat) ≠ 30 by omega), xup_n (show (57 : Nat) ≠ 30 by omega), xup_n (show (58 : Nat) ≠ 30 by omega), xup_n (show (59 : Nat) ≠ 30 by omega), xup_n (show (60 : Nat) ≠ 30 by omega), xup_n (show (61 : Nat) ≠ 30 by omega), xup_n (show (62 : Nat) ≠ 30 by omega), xup_n (show (63 : Nat) ≠ 30 by omega), xup_n (show (64 : Nat) ≠ 30 by omega), xup_n (show (65 : Nat) ≠ 30 by omega), xup_n (show (66 : Nat) ≠ 30 by omega), xup_n (show (67 : Nat) ≠ 30 by omega), xup_n (show (68 : Nat) ≠ 30 by omega), xup_n (show (69 : Nat) ≠ 30 by omega), xup_n (show (70 : Nat) ≠ 30 by omega)]
  rw [xup_ap, if_neg (by omega), xup_ap, if_neg (by omega), xup_ap, if_neg (by omega), xup_ap, if_neg (by omega)]
  exact h
theorem y92_le (w : WF M) (x : WX M) : ∀ z, M 92 z ≤ 64 := by
  intro z
  by_cases h0 : 16 * nO M ≤ z
  · rw [x.1 z h0]; omega
  · by_cases hp : 0 < M 92 z
    · have e : 16 * (z / 16) + z % 16 = z := by omega
      have h1 := w.2.2.2.2.2.1 (z / 16) (z % 16) (by omega) (by omega) (by show 0 < M 92 _; rw [e]; exact hp)
      obtain ⟨h2, h3, h4⟩ := h1
      obtain ⟨v1, v2, v3, v4, v5⟩ := w.2.2.2.2.1 _ h2
      rw [h3, h4] at v4
      have v6 : M 92 (16 * (z / 16) + z % 16) = yCZ M (yIx M (z / 16) (z % 16)) := v4
      rw [e] at v6
      omega
    · omega
def MT (σ : Sg) (M : YM) (T : Nat → Bool) : Prop := ∀ o, o < nO M → σ 71 o = b2i (T o)
theorem MT.same {l : List Nat} (h : MT σ M T) (hs : xsame l σ τ) (hl : l.contains 71 = false) : MT τ M T := fun o ho => by rw [hs.at hl]; exact h o ho
theorem sX8_takenHas {n : Nat} (h : MI σ M) (w : WF M) (x : WX M) (hT : MT σ M T) (hn : n < 16) : XM G mX8_takenHas d [.ref 30, .int (nI n)] σ (xF (some (.int (b2i (yAns M T n)))) σ) := by
  refine xm_of (by decide +kernel) rfl (Nat.le_of_ble_eq_true rfl) ?_
  refine bX8_takenHas_0 _ _ _ ?_
  obtain ⟨⟨n1, n8, n13, n19⟩, a55, ⟨a56, a57, a58, a59, a60, a61⟩, ⟨a62, a63, a64, a65⟩, a66, a67, a68, a69, a70⟩ := h
  obtain ⟨b1, b2, b3, b4, b5⟩ := w.1
  have a71 : ∀ o, o < nO M → σ 71 o = b2i (T o) := hT
  have h92 := y92_le w x
  try simp only [xi_iload, xi_aload, xi_lload, xi_istore, xi_astore, xi_lstore, xi_ic, xi_lc, xi_iinc, xi_iadd, xi_isub, xi_imul, xi_iand, xi_iushr, xi_ineg, xi_idiv, xi_irem, xi_ladd, xi_lmul, xi_lrem, xi_lcmp, xi_i2l, xi_l2i, xi_i2c, xi_dup, xi_dup2, xi_pop, xi_ifeq, xi_ifne, xi_iflt, xi_ifge, xi_ifgt, xi_ifle, xi_iceq, xi_icne, xi_iclt, xi_icge, xi_icgt, xi_icle, xi_iret, xi_zret, xi_lret, xi_vret, xi_getf, xi_putf, xi_ald, xi_ast, xi_alen, xi_callV, xi_callS, xpop, xroom, xl, xst, xok1, xok2, xnarrow, xwide, xone, xent, List.replicate, Option.isSome_some, Bool.and_self, Bool.true_and, Bool.and_true, List.length_cons, List.length_nil, Nat.reduceAdd, Nat.reduceLT, decide_true, Bool.not_false, Nat.beq, Nat.ble, Option.toList, List.nil_append, List.cons_append]
  unfold yAns
  generalize hP : (fun j => yDN M j == n && (!(yDX M j == 108) && T (ySO M (yDS M j)))) = P
  generalize hQ : (fun o => T o && decide (0 < yCM M o n)) = Q
  have eQ : ∀ o, Q o = (T o && decide (0 < M 92 (16 * o + n))) := fun o => by rw [← hQ]
  have eP : ∀ j, P j = (yDN M j == n && (!(yDX M j == 108) && T (ySO M (yDS M j)))) := fun o => by rw [← hP]
  have key2 : ∀ j, j ≤ nO M → AX8_takenHas G d (xF (some (.int (b2i (anyB P (nD M) || anyB Q (nO M))))) σ) 70 [some (.ref 30), some (.int (nI n)), some (.int (b2i (anyB P (nD M) || anyB Q j))), some (.int (nI j))] [] σ := by
    refine loop_up (fun j hj ih => ?_) ?_
    · refine bX8_takenHas_70 _ _ _ ?_
      have hz := h92 (16 * j + n)
      have ej : anyB Q (j + 1) = (anyB Q j || Q j) := rfl
      rw [ej, eQ] at ih
      try simp (disch := omega) only [xi_iload, xi_aload, xi_lload, xi_istore, xi_astore, xi_lstore, xi_ic, xi_lc, xi_iinc, xi_iadd, xi_isub, xi_imul, xi_iand, xi_iushr, xi_ineg, xi_idiv, xi_irem, xi_ladd, xi_lmul, xi_lrem, xi_lcmp, xi_i2l, xi_l2i, xi_i2c, xi_dup, xi_dup2, xi_pop, xi_ifeq, xi_ifne, xi_iflt, xi_ifge, xi_ifgt, xi_ifle, xi_iceq, xi_icne, xi_iclt, xi_icge, xi_icgt, xi_icle, xi_iret, xi_zret, xi_lret, xi_vret, xi_getf, xi_putf, xi_ald, xi_ast, xi_alen, xi_callV, xi_callS, xpop, xroom, xl, xst, xok1, xok2, xnarrow, xwide, xone, xent, List.replicate, Option.isSome_some, Bool.and_self, Bool.true_and, Bool.and_true, List.length_cons, List.length_nil, Nat.reduceAdd, Nat.reduceLT, decide_true, Bool.not_false, Nat.beq, Nat.ble, Option.toList, List.nil_append, List.cons_append, xf_30_0, xf_30_1, xf_30_2, xf_30_3, xf_30_4, xf_30_5, xf_30_6, xf_30_7, xf_30_8, xf_30_9, xf_30_10, xf_30_11, xf_30_12, xf_30_13, xf_30_14, xf_30_15, xf_30_16, xf_30_17, xf_30_18, xf_30_19, xf_30_20, xf_30_21, xf_30_22, xf_30_23, xf_30_24, xf_30_25, xf_30_26, xf_30_27, xf_30_28, xf_30_29, xf_30_30, xf_30_31, xf_30_32, xf_30_33, xf_30_34, xf_30_35, xf_30_36, xf_30_37, xf_30_38, xf_30_39, xf_30_40, xf_30_41, xf_30_42, xf_30_43, xf_30_44, xf_30_45, xf_30_46, xf_30_47, xf_30_48, xf_30_49, xf_30_50, xa_55, xa_56, xa_57, xa_58, xa_59, xa_60, xa_61, xa_62, xa_63, xa_64, xa_65, xa_66, xa_67, xa_68, xa_69, xa_70, xa_71, xa_72, xa_73, xa_74, xa_75, xa_76, xa_77, xa_78, xa_79, xa_80, xa_81, xa_82, xa_83, xa_84, xa_85, xa_86, xa_87, xa_88, vp_nI, nI_clamp, true_and, and_true, nI_1, nI_add, pk_mul, nI_leI, nI_ltI, nI_eq, nI_le0, nI_lt0, b2i_ne, b2i_inj, b2i_nar, b2i_t, b2i_f, n1, n8, n13, n19, a55, a56, a57, a58, a59, a60, a61, a62, a63, a64, a65, a66, a67, a68, a69, a70, x115, x119, x108, x99, x97, q16, q2, q3, q4, q8, q10, q160, q40, q24, q100, q1000, q999, a71]
      repeat' (first | with_reducible apply And.intro | with_reducible intro _)
      all_goals first | (exfalso; omega) | (have e : (anyB P (nD M) || (anyB Q j || (T j && decide (0 < M 92 (16 * j + n))))) = true := (by grind (ematch := 0)); rw [e] at ih; exact ih) | (have e : (anyB P (nD M) || (anyB Q j || (T j && decide (0 < M 92 (16 * j + n))))) = false := (by grind (ematch := 0)); rw [e] at ih; exact ih)
    · refine bX8_takenHas_70 _ _ _ ?_
      try simp (disch := omega) only [xi_iload, xi_aload, xi_lload, xi_istore, xi_astore, xi_lstore, xi_ic, xi_lc, xi_iinc, xi_iadd, xi_isub, xi_imul, xi_iand, xi_iushr, xi_ineg, xi_idiv, xi_irem, xi_ladd, xi_lmul, xi_lrem, xi_lcmp, xi_i2l, xi_l2i, xi_i2c, xi_dup, xi_dup2, xi_pop, xi_ifeq, xi_ifne, xi_iflt, xi_ifge, xi_ifgt, xi_ifle, xi_iceq, xi_icne, xi_iclt, xi_icge, xi_icgt, xi_icle, xi_iret, xi_zret, xi_lret, xi_vret, xi_getf, xi_putf, xi_ald, xi_ast, xi_alen, xi_callV, xi_callS, xpop, xroom, xl, xst, xok1, xok2, xnarrow, xwide, xone, xent, List.replicate, Option.isSome_some, Bool.and_self, Bool.true_and, Bool.and_true, List.length_cons, List.length_nil, Nat.reduceAdd, Nat.reduceLT, decide_true, Bool.not_false, Nat.beq, Nat.ble, Option.toList, List.nil_append, List.cons_append, xf_30_0, xf_30_1, xf_30_2, xf_30_3, xf_30_4, xf_30_5, xf_30_6, xf_30_7, xf_30_8, xf_30_9, xf_30_10, xf_30_11, xf_30_12, xf_30_13, xf_30_14, xf_30_15, xf_30_16, xf_30_17, xf_30_18, xf_30_19, xf_30_20, xf_30_21, xf_30_22, xf_30_23, xf_30_24, xf_30_25, xf_30_26, xf_30_27, xf_30_28, xf_30_29, xf_30_30, xf_30_31, xf_30_32, xf_30_33, xf_30_34, xf_30_35, xf_30_36, xf_30_37, xf_30_38, xf_30_39, xf_30_40, xf_30_41, xf_30_42, xf_30_43, xf_30_44, xf_30_45, xf_30_46, xf_30_47, xf_30_48, xf_30_49, xf_30_50, xa_55, xa_56, xa_57, xa_58, xa_59, xa_60, xa_61, xa_62, xa_63, xa_64, xa_65, xa_66, xa_67, xa_68, xa_69, xa_70, xa_71, xa_72, xa_73, xa_74, xa_75, xa_76, xa_77, xa_78, xa_79, xa_80, xa_81, xa_82, xa_83, xa_84, xa_85, xa_86, xa_87, xa_88, vp_nI, nI_clamp, true_and, and_true, nI_1, nI_add, pk_mul, nI_leI, nI_ltI, nI_eq, nI_le0, nI_lt0, b2i_ne, b2i_inj, b2i_nar, b2i_t, b2i_f, n1, n8, n13, n19, a55, a56, a57, a58, a59, a60, a61, a62, a63, a64, a65, a66, a67, a68, a69, a70, x115, x119, x108, x99, x97, q16, q2, q3, q4, q8, q10, q160, q40, q24, q100, q1000, q999, a71]
      exact ⟨fun _ => xF_self, fun q => absurd (Nat.le_refl _) q⟩
  have key : ∀ j, j ≤ nD M → AX8_takenHas G d (xF (some (.int (b2i (anyB P (nD M) || anyB Q (nO M))))) σ) 4 [some (.ref 30), some (.int (nI n)), some (.int (b2i (anyB P j))), some (.int (nI j))] [] σ := by
    refine loop_up (fun j hj ih => ?_) ?_
    · refine bX8_takenHas_4 _ _ _ ?_
      obtain ⟨hw1, hw2, hw3, hw4, hw5⟩ := w.2.2.2.1 j hj
      have hw6 := (w.2.2.1 _ hw1).1
      have ej : anyB P (j + 1) = (anyB P j || P j) := rfl
      rw [ej, eP] at ih
      try simp (disch := omega) only [xi_iload, xi_aload, xi_lload, xi_istore, xi_astore, xi_lstore, xi_ic, xi_lc, xi_iinc, xi_iadd, xi_isub, xi_imul, xi_iand, xi_iushr, xi_ineg, xi_idiv, xi_irem, xi_ladd, xi_lmul, xi_lrem, xi_lcmp, xi_i2l, xi_l2i, xi_i2c, xi_dup, xi_dup2, xi_pop, xi_ifeq, xi_ifne, xi_iflt, xi_ifge, xi_ifgt, xi_ifle, xi_iceq, xi_icne, xi_iclt, xi_icge, xi_icgt, xi_icle, xi_iret, xi_zret, xi_lret, xi_vret, xi_getf, xi_putf, xi_ald, xi_ast, xi_alen, xi_callV, xi_callS, xpop, xroom, xl, xst, xok1, xok2, xnarrow, xwide, xone, xent, List.replicate, Option.isSome_some, Bool.and_self, Bool.true_and, Bool.and_true, List.length_cons, List.length_nil, Nat.reduceAdd, Nat.reduceLT, decide_true, Bool.not_false, Nat.beq, Nat.ble, Option.toList, List.nil_append, List.cons_append, xf_30_0, xf_30_1, xf_30_2, xf_30_3, xf_30_4, xf_30_5, xf_30_6, xf_30_7, xf_30_8, xf_30_9, xf_30_10, xf_30_11, xf_30_12, xf_30_13, xf_30_14, xf_30_15, xf_30_16, xf_30_17, xf_30_18, xf_30_19, xf_30_20, xf_30_21, xf_30_22, xf_30_23, xf_30_24, xf_30_25, xf_30_26, xf_30_27, xf_30_28, xf_30_29, xf_30_30, xf_30_31, xf_30_32, xf_30_33, xf_30_34, xf_30_35, xf_30_36, xf_30_37, xf_30_38, xf_30_39, xf_30_40, xf_30_41, xf_30_42, xf_30_43, xf_30_44, xf_30_45, xf_30_46, xf_30_47, xf_30_48, xf_30_49, xf_30_50, xa_55, xa_56, xa_57, xa_58, xa_59, xa_60, xa_61, xa_62, xa_63, xa_64, xa_65, xa_66, xa_67, xa_68, xa_69, xa_70, xa_71, xa_72, xa_73, xa_74, xa_75, xa_76, xa_77, xa_78, xa_79, xa_80, xa_81, xa_82, xa_83, xa_84, xa_85, xa_86, xa_87, xa_88, vp_nI, nI_clamp, true_and, and_true, nI_1, nI_add, pk_mul, nI_leI, nI_ltI, nI_eq, nI_le0, nI_lt0, b2i_ne, b2i_inj, b2i_nar, b2i_t, b2i_f, n1, n8, n13, n19, a55, a56, a57, a58, a59, a60, a61, a62, a63, a64, a65, a66, a67, a68, a69, a70, x115, x119, x108, x99, x97, q16, q2, q3, q4, q8, q10, q160, q40, q24, q100, q1000, q999, a71]
      repeat' (first | with_reducible apply And.intro | with_reducible intro _)
      all_goals first | (exfalso; omega) | (have e : (anyB P j || (yDN M j == n && (!(yDX M j == 108) && T (ySO M (yDS M j))))) = true := (by grind (ematch := 0)); rw [e] at ih; exact ih) | (have e : (anyB P j || (yDN M j == n && (!(yDX M j == 108) && T (ySO M (yDS M j))))) = false := (by grind (ematch := 0)); rw [e] at ih; exact ih)
    · refine bX8_takenHas_4 _ _ _ ?_
      have k2 := key2 0 (by omega)
      try simp (disch := omega) only [xi_iload, xi_aload, xi_lload, xi_istore, xi_astore, xi_lstore, xi_ic, xi_lc, xi_iinc, xi_iadd, xi_isub, xi_imul, xi_iand, xi_iushr, xi_ineg, xi_idiv, xi_irem, xi_ladd, xi_lmul, xi_lrem, xi_lcmp, xi_i2l, xi_l2i, xi_i2c, xi_dup, xi_dup2, xi_pop, xi_ifeq, xi_ifne, xi_iflt, xi_ifge, xi_ifgt, xi_ifle, xi_iceq, xi_icne, xi_iclt, xi_icge, xi_icgt, xi_icle, xi_iret, xi_zret, xi_lret, xi_vret, xi_getf, xi_putf, xi_ald, xi_ast, xi_alen, xi_callV, xi_callS, xpop, xroom, xl, xst, xok1, xok2, xnarrow, xwide, xone, xent, List.replicate, Option.isSome_some, Bool.and_self, Bool.true_and, Bool.and_true, List.length_cons, List.length_nil, Nat.reduceAdd, Nat.reduceLT, decide_true, Bool.not_false, Nat.beq, Nat.ble, Option.toList, List.nil_append, List.cons_append, xf_30_0, xf_30_1, xf_30_2, xf_30_3, xf_30_4, xf_30_5, xf_30_6, xf_30_7, xf_30_8, xf_30_9, xf_30_10, xf_30_11, xf_30_12, xf_30_13, xf_30_14, xf_30_15, xf_30_16, xf_30_17, xf_30_18, xf_30_19, xf_30_20, xf_30_21, xf_30_22, xf_30_23, xf_30_24, xf_30_25, xf_30_26, xf_30_27, xf_30_28, xf_30_29, xf_30_30, xf_30_31, xf_30_32, xf_30_33, xf_30_34, xf_30_35, xf_30_36, xf_30_37, xf_30_38, xf_30_39, xf_30_40, xf_30_41, xf_30_42, xf_30_43, xf_30_44, xf_30_45, xf_30_46, xf_30_47, xf_30_48, xf_30_49, xf_30_50, xa_55, xa_56, xa_57, xa_58, xa_59, xa_60, xa_61, xa_62, xa_63, xa_64, xa_65, xa_66, xa_67, xa_68, xa_69, xa_70, xa_71, xa_72, xa_73, xa_74, xa_75, xa_76, xa_77, xa_78, xa_79, xa_80, xa_81, xa_82, xa_83, xa_84, xa_85, xa_86, xa_87, xa_88, vp_nI, nI_clamp, true_and, and_true, nI_1, nI_add, pk_mul, nI_leI, nI_ltI, nI_eq, nI_le0, nI_lt0, b2i_ne, b2i_inj, b2i_nar, b2i_t, b2i_f, n1, n8, n13, n19, a55, a56, a57, a58, a59, a60, a61, a62, a63, a64, a65, a66, a67, a68, a69, a70, x115, x119, x108, x99, x97, q16, q2, q3, q4, q8, q10, q160, q40, q24, q100, q1000, q999, a71]
      repeat' (first | with_reducible apply And.intro | with_reducible intro _)
      all_goals first
        | (exfalso; omega)
        | exact x_forget k2 (by simp [xle, anyB, nI_0])
  exact x_forget (key 0 (by omega)) (by simp [xle, anyB, nI_0, b2i])
end S50
