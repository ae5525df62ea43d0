/-! the reference: addresses, what is far, islands -/
section S57
variable {G : XG} {d : Nat} {σ τ ρ : Sg} {M : YM} {T A P : Nat → Bool} {il : Nat → Nat} {L : Nat}
theorem sX8_addressOfGoal {g : Nat} (h : MI σ M) (w : WF M) (hF : MF σ M T A) (ha : MLay σ M T A P il L) (hP : P = yLaid M T A) (hg : gFit M T (some g)) (hA : gLv M A (some g) = true) : XM G mX8_addressOfGoal (d + 1) [.ref 30, .int (nI g)] σ (xF (some (.int (nI (yGoS M T A P il L (some g))))) σ) := by
  refine xm_of (by decide +kernel) rfl (Nat.le_of_ble_eq_true rfl) ?_
  refine bX8_addressOfGoal_0 _ _ _ ?_
  obtain ⟨⟨n1, n8, n13, n19⟩, a55, ⟨a56, a57, a58, a59, a60, a61⟩, ⟨a62, a63, a64, a65⟩, a66, a67, a68, a69, a70⟩ := h
  obtain ⟨b1, b2, b3, b4, b5⟩ := w.1
  obtain ⟨c1, c2, c3, c4⟩ := ha
  rcases hg.1 g rfl with hj | ⟨o, n, ho, hn, rfl, hc⟩
  · have hw1 := (w.2.2.2.1 g hj).1
    have hA2 : A (yDS M g) = true := by
      unfold gLv at hA
      rw [← nd_def w hj]; exact hA
    have hhl := yHome_laid (M := M) (T := T) hA2
    have hhs : yHome M T A (yDS M g) < nS M := Nat.lt_of_le_of_lt yHome_le hw1
    have h77 := c1 _ hhs (by rw [hP]; exact hhl)
    try simp (disch := omega) only [xi_iload, xi_aload, xi_lload, xi_istore, xi_astore, xi_lstore, xi_ic, xi_lc, xi_iinc, xi_iadd, xi_isub, xi_imul, xi_iand, xi_iushr, xi_ineg, xi_idiv, xi_irem, xi_ladd, xi_lmul, xi_lrem, xi_lcmp, xi_i2l, xi_l2i, xi_i2c, xi_dup, xi_dup2, xi_pop, xi_ifeq, xi_ifne, xi_iflt, xi_ifge, xi_ifgt, xi_ifle, xi_iceq, xi_icne, xi_iclt, xi_icge, xi_icgt, xi_icle, xi_iret, xi_zret, xi_lret, xi_vret, xi_getf, xi_putf, xi_ald, xi_ast, xi_alen, xi_callV, xi_callS, xpop, xroom, xl, xst, xok1, xok2, xnarrow, xwide, xone, xent, List.replicate, Option.isSome_some, Bool.and_self, Bool.true_and, Bool.and_true, List.length_cons, List.length_nil, Nat.reduceAdd, Nat.reduceLT, decide_true, Bool.not_false, Nat.beq, Nat.ble, Option.toList, List.nil_append, List.cons_append, xf_30_0, xf_30_1, xf_30_2, xf_30_3, xf_30_4, xf_30_5, xf_30_6, xf_30_7, xf_30_8, xf_30_9, xf_30_10, xf_30_11, xf_30_12, xf_30_13, xf_30_14, xf_30_15, xf_30_16, xf_30_17, xf_30_18, xf_30_19, xf_30_20, xf_30_21, xf_30_22, xf_30_23, xf_30_24, xf_30_25, xf_30_26, xf_30_27, xf_30_28, xf_30_29, xf_30_30, xf_30_31, xf_30_32, xf_30_33, xf_30_34, xf_30_35, xf_30_36, xf_30_37, xf_30_38, xf_30_39, xf_30_40, xf_30_41, xf_30_42, xf_30_43, xf_30_44, xf_30_45, xf_30_46, xf_30_47, xf_30_48, xf_30_49, xf_30_50, xa_55, xa_56, xa_57, xa_58, xa_59, xa_60, xa_61, xa_62, xa_63, xa_64, xa_65, xa_66, xa_67, xa_68, xa_69, xa_70, xa_71, xa_72, xa_73, xa_74, xa_75, xa_76, xa_77, xa_78, xa_79, xa_80, xa_81, xa_82, xa_83, xa_84, xa_85, xa_86, xa_87, xa_88, vp_nI, nI_clamp, true_and, and_true, nI_1, nI_add, pk_mul, nI_leI, nI_ltI, nI_eq, nI_le0, nI_lt0, b2i_ne, b2i_inj, b2i_nar, b2i_t, b2i_f, n1, n8, n13, n19, a55, a56, a57, a58, a59, a60, a61, a62, a63, a64, a65, a66, a67, a68, a69, a70, x115, x119, x108, x99, x97, q16, q2, q3, q4, q8, q10, q160, q40, q24, q100, q1000, q999]
    refine ⟨fun _ => x_F (sX8_laidOf w hF hw1) ?_, fun q => absurd (by omega) q⟩
    try simp (disch := omega) only [xi_iload, xi_aload, xi_lload, xi_istore, xi_astore, xi_lstore, xi_ic, xi_lc, xi_iinc, xi_iadd, xi_isub, xi_imul, xi_iand, xi_iushr, xi_ineg, xi_idiv, xi_irem, xi_ladd, xi_lmul, xi_lrem, xi_lcmp, xi_i2l, xi_l2i, xi_i2c, xi_dup, xi_dup2, xi_pop, xi_ifeq, xi_ifne, xi_iflt, xi_ifge, xi_ifgt, xi_ifle, xi_iceq, xi_icne, xi_iclt, xi_icge, xi_icgt, xi_icle, xi_iret, xi_zret, xi_lret, xi_vret, xi_getf, xi_putf, xi_ald, xi_ast, xi_alen, xi_callV, xi_callS, xpop, xroom, xl, xst, xok1, xok2, xnarrow, xwide, xone, xent, List.replicate, Option.isSome_some, Bool.and_self, Bool.true_and, Bool.and_true, List.length_cons, List.length_nil, Nat.reduceAdd, Nat.reduceLT, decide_true, Bool.not_false, Nat.beq, Nat.ble, Option.toList, List.nil_append, List.cons_append, xf_30_0, xf_30_1, xf_30_2, xf_30_3, xf_30_4, xf_30_5, xf_30_6, xf_30_7, xf_30_8, xf_30_9, xf_30_10, xf_30_11, xf_30_12, xf_30_13, xf_30_14, xf_30_15, xf_30_16, xf_30_17, xf_30_18, xf_30_19, xf_30_20, xf_30_21, xf_30_22, xf_30_23, xf_30_24, xf_30_25, xf_30_26, xf_30_27, xf_30_28, xf_30_29, xf_30_30, xf_30_31, xf_30_32, xf_30_33, xf_30_34, xf_30_35, xf_30_36, xf_30_37, xf_30_38, xf_30_39, xf_30_40, xf_30_41, xf_30_42, xf_30_43, xf_30_44, xf_30_45, xf_30_46, xf_30_47, xf_30_48, xf_30_49, xf_30_50, xa_55, xa_56, xa_57, xa_58, xa_59, xa_60, xa_61, xa_62, xa_63, xa_64, xa_65, xa_66, xa_67, xa_68, xa_69, xa_70, xa_71, xa_72, xa_73, xa_74, xa_75, xa_76, xa_77, xa_78, xa_79, xa_80, xa_81, xa_82, xa_83, xa_84, xa_85, xa_86, xa_87, xa_88, vp_nI, nI_clamp, true_and, and_true, nI_1, nI_add, pk_mul, nI_leI, nI_ltI, nI_eq, nI_le0, nI_lt0, b2i_ne, b2i_inj, b2i_nar, b2i_t, b2i_f, n1, n8, n13, n19, a55, a56, a57, a58, a59, a60, a61, a62, a63, a64, a65, a66, a67, a68, a69, a70, x115, x119, x108, x99, x97, q16, q2, q3, q4, q8, q10, q160, q40, q24, q100, q1000, q999, h77]
    unfold yGoS
    dsimp only
    rw [if_pos (by omega)]
    exact xF_self
  · have hz : 16 * o + n < 160 := by omega
    have hst := hg.2 _ rfl
    have hn2 : (16 * o + n) % 16 < 16 := by omega
    have hAc : A (100 + (16 * o + n)) = true := by
      unfold gLv nd at hA
      dsimp only at hA
      rw [if_neg (by omega)] at hA; exact hA
    have hp : yComP M T A ((16 * o + n) % 16) = some (16 * o + n) := by
      unfold yComP
      rw [hst]
      dsimp only
      rw [if_pos ⟨by omega, hAc⟩, Nat.add_sub_cancel_left]
    have h78 := c2 _ hn2 _ hp
    try simp (disch := omega) only [xi_iload, xi_aload, xi_lload, xi_istore, xi_astore, xi_lstore, xi_ic, xi_lc, xi_iinc, xi_iadd, xi_isub, xi_imul, xi_iand, xi_iushr, xi_ineg, xi_idiv, xi_irem, xi_ladd, xi_lmul, xi_lrem, xi_lcmp, xi_i2l, xi_l2i, xi_i2c, xi_dup, xi_dup2, xi_pop, xi_ifeq, xi_ifne, xi_iflt, xi_ifge, xi_ifgt, xi_ifle, xi_iceq, xi_icne, xi_iclt, xi_icge, xi_icgt, xi_icle, xi_iret, xi_zret, xi_lret, xi_vret, xi_getf, xi_putf, xi_ald, xi_ast, xi_alen, xi_callV, xi_callS, xpop, xroom, xl, xst, xok1, xok2, xnarrow, xwide, xone, xent, List.replicate, Option.isSome_some, Bool.and_self, Bool.true_and, Bool.and_true, List.length_cons, List.length_nil, Nat.reduceAdd, Nat.reduceLT, decide_true, Bool.not_false, Nat.beq, Nat.ble, Option.toList, List.nil_append, List.cons_append, xf_30_0, xf_30_1, xf_30_2, xf_30_3, xf_30_4, xf_30_5, xf_30_6, xf_30_7, xf_30_8, xf_30_9, xf_30_10, xf_30_11, xf_30_12, xf_30_13, xf_30_14, xf_30_15, xf_30_16, xf_30_17, xf_30_18, xf_30_19, xf_30_20, xf_30_21, xf_30_22, xf_30_23, xf_30_24, xf_30_25, xf_30_26, xf_30_27, xf_30_28, xf_30_29, xf_30_30, xf_30_31, xf_30_32, xf_30_33, xf_30_34, xf_30_35, xf_30_36, xf_30_37, xf_30_38, xf_30_39, xf_30_40, xf_30_41, xf_30_42, xf_30_43, xf_30_44, xf_30_45, xf_30_46, xf_30_47, xf_30_48, xf_30_49, xf_30_50, xa_55, xa_56, xa_57, xa_58, xa_59, xa_60, xa_61, xa_62, xa_63, xa_64, xa_65, xa_66, xa_67, xa_68, xa_69, xa_70, xa_71, xa_72, xa_73, xa_74, xa_75, xa_76, xa_77, xa_78, xa_79, xa_80, xa_81, xa_82, xa_83, xa_84, xa_85, xa_86, xa_87, xa_88, vp_nI, nI_clamp, true_and, and_true, nI_1, nI_add, pk_mul, nI_leI, nI_ltI, nI_eq, nI_le0, nI_lt0, b2i_ne, b2i_inj, b2i_nar, b2i_t, b2i_f, n1, n8, n13, n19, a55, a56, a57, a58, a59, a60, a61, a62, a63, a64, a65, a66, a67, a68, a69, a70, x115, x119, x108, x99, x97, q16, q2, q3, q4, q8, q10, q160, q40, q24, q100, q1000, q999, nI_sub100, h78]
    refine ⟨fun q => absurd q (by omega), fun _ => ?_⟩
    unfold yGoS yCA yCB
    dsimp only
    rw [if_neg (by omega), Nat.add_sub_cancel_left]
    exact xF_self
theorem sX8_placeOf {r : Nat} (h : MI σ M) (w : WF M) (ha : MLay σ M T A P il L) (hP : P = yLaid M T A) (hr : r < nR M) (hp : P (yRS M r) = true) : XM G mX8_placeOf d [.ref 30, .int (nI r)] σ (xF (some (.int (nI (yPlS M T A P il L r)))) σ) := by
  refine xm_of (by decide +kernel) rfl (Nat.le_of_ble_eq_true rfl) ?_
  refine bX8_placeOf_0 _ _ _ ?_
  obtain ⟨⟨n1, n8, n13, n19⟩, a55, ⟨a56, a57, a58, a59, a60, a61⟩, ⟨a62, a63, a64, a65⟩, a66, a67, a68, a69, a70⟩ := h
  obtain ⟨b1, b2, b3, b4, b5⟩ := w.1
  have hw1 := (w.2.2.2.2.2.2.1 r hr).1
  have h77 := ha.1 _ hw1 hp
  try simp (disch := omega) only [xi_iload, xi_aload, xi_lload, xi_istore, xi_astore, xi_lstore, xi_ic, xi_lc, xi_iinc, xi_iadd, xi_isub, xi_imul, xi_iand, xi_iushr, xi_ineg, xi_idiv, xi_irem, xi_ladd, xi_lmul, xi_lrem, xi_lcmp, xi_i2l, xi_l2i, xi_i2c, xi_dup, xi_dup2, xi_pop, xi_ifeq, xi_ifne, xi_iflt, xi_ifge, xi_ifgt, xi_ifle, xi_iceq, xi_icne, xi_iclt, xi_icge, xi_icgt, xi_icle, xi_iret, xi_zret, xi_lret, xi_vret, xi_getf, xi_putf, xi_ald, xi_ast, xi_alen, xi_callV, xi_callS, xpop, xroom, xl, xst, xok1, xok2, xnarrow, xwide, xone, xent, List.replicate, Option.isSome_some, Bool.and_self, Bool.true_and, Bool.and_true, List.length_cons, List.length_nil, Nat.reduceAdd, Nat.reduceLT, decide_true, Bool.not_false, Nat.beq, Nat.ble, Option.toList, List.nil_append, List.cons_append, xf_30_0, xf_30_1, xf_30_2, xf_30_3, xf_30_4, xf_30_5, xf_30_6, xf_30_7, xf_30_8, xf_30_9, xf_30_10, xf_30_11, xf_30_12, xf_30_13, xf_30_14, xf_30_15, xf_30_16, xf_30_17, xf_30_18, xf_30_19, xf_30_20, xf_30_21, xf_30_22, xf_30_23, xf_30_24, xf_30_25, xf_30_26, xf_30_27, xf_30_28, xf_30_29, xf_30_30, xf_30_31, xf_30_32, xf_30_33, xf_30_34, xf_30_35, xf_30_36, xf_30_37, xf_30_38, xf_30_39, xf_30_40, xf_30_41, xf_30_42, xf_30_43, xf_30_44, xf_30_45, xf_30_46, xf_30_47, xf_30_48, xf_30_49, xf_30_50, xa_55, xa_56, xa_57, xa_58, xa_59, xa_60, xa_61, xa_62, xa_63, xa_64, xa_65, xa_66, xa_67, xa_68, xa_69, xa_70, xa_71, xa_72, xa_73, xa_74, xa_75, xa_76, xa_77, xa_78, xa_79, xa_80, xa_81, xa_82, xa_83, xa_84, xa_85, xa_86, xa_87, xa_88, vp_nI, nI_clamp, true_and, and_true, nI_1, nI_add, pk_mul, nI_leI, nI_ltI, nI_eq, nI_le0, nI_lt0, b2i_ne, b2i_inj, b2i_nar, b2i_t, b2i_f, n1, n8, n13, n19, a55, a56, a57, a58, a59, a60, a61, a62, a63, a64, a65, a66, a67, a68, a69, a70, x115, x119, x108, x99, x97, q16, q2, q3, q4, q8, q10, q160, q40, q24, q100, q1000, q999, h77]
  unfold yPlS
  rw [yHome_self (by rw [← hP]; exact hp)]
  exact xF_self
theorem far_1 {a b k : Nat} (ha : a < 2 ^ 20) (hb : b < 2 ^ 20) (hk : k < 2 ^ 20) : nI k < nI a - nI b ↔ b + k < a := by
  rw [Int32.lt_iff_toInt_lt, sb_toInt (by omega) (by omega), nI_toInt (by omega)]
  omega
theorem far_2 {a b k : Nat} (ha : a < 2 ^ 20) (hb : b < 2 ^ 20) (hk : k < 2 ^ 20) : -(nI a - nI b) ≤ nI k ↔ ¬ a + k < b := by
  rw [Int32.neg_sub, Int32.le_iff_toInt_le, sb_toInt (by omega) (by omega), nI_toInt (by omega)]
  omega
theorem sX8_isFar {r reach : Nat} (h : MI σ M) (w : WF M) (hG : MG σ M T) (hL : ML σ M A) (hF : MF σ M T A) (hi : MIs σ M il L) (hil : ILok M il L) (ha : MLay σ M T A P il L) (hP : P = yLaid M T A) (h22 : σ 30 22 = nI reach) (hre : reach ≤ 999) (hgo : ∀ r, r < nR M → A (yRS M r) = true → gLv M A (yGoal M T r) = true) (hr : r < nR M) : XM G mX8_isFar (d + 2) [.ref 30, .int (nI r)] σ (xF (some (.int (b2i (yFarP M T A P il L reach r)))) σ) := by
  refine xm_of (by decide +kernel) rfl (Nat.le_of_ble_eq_true rfl) ?_
  refine bX8_isFar_0 _ _ _ ?_
  have hM := h
  obtain ⟨⟨n1, n8, n13, n19⟩, a55, ⟨a56, a57, a58, a59, a60, a61⟩, ⟨a62, a63, a64, a65⟩, a66, a67, a68, a69, a70⟩ := h
  obtain ⟨b1, b2, b3, b4, b5⟩ := w.1
  have a73 : ∀ r, r < nR M → σ 73 r = oI (yGoal M T r) := hG
  have hw := w.2.2.2.2.2.2.1 r hr
  have hw1 := hw.1
  have hk := hw.2.2.2
  have hislb : ∀ x, (yIsl il L r).map (fun k => nIs M il (yRS M r) k) = some x → x < 2 ^ 31 := by
    intro x hx
    rcases hyi : yIsl il L r with _ | k
    · rw [hyi] at hx; cases hx
    · rw [hyi] at hx
      have h1 := (yIsl_lt hyi).1
      have h2 : nIs M il (yRS M r) k = x := Option.some.inj hx
      have h3 := nIs_le (M := M) (il := il) (L := k) (s := yRS M r)
      have := hil.1
      omega
  try simp (disch := omega) only [xi_iload, xi_aload, xi_lload, xi_istore, xi_astore, xi_lstore, xi_ic, xi_lc, xi_iinc, xi_iadd, xi_isub, xi_imul, xi_iand, xi_iushr, xi_ineg, xi_idiv, xi_irem, xi_ladd, xi_lmul, xi_lrem, xi_lcmp, xi_i2l, xi_l2i, xi_i2c, xi_dup, xi_dup2, xi_pop, xi_ifeq, xi_ifne, xi_iflt, xi_ifge, xi_ifgt, xi_ifle, xi_iceq, xi_icne, xi_iclt, xi_icge, xi_icgt, xi_icle, xi_iret, xi_zret, xi_lret, xi_vret, xi_getf, xi_putf, xi_ald, xi_ast, xi_alen, xi_callV, xi_callS, xpop, xroom, xl, xst, xok1, xok2, xnarrow, xwide, xone, xent, List.replicate, Option.isSome_some, Bool.and_self, Bool.true_and, Bool.and_true, List.length_cons, List.length_nil, Nat.reduceAdd, Nat.reduceLT, decide_true, Bool.not_false, Nat.beq, Nat.ble, Option.toList, List.nil_append, List.cons_append, xf_30_0, xf_30_1, xf_30_2, xf_30_3, xf_30_4, xf_30_5, xf_30_6, xf_30_7, xf_30_8, xf_30_9, xf_30_10, xf_30_11, xf_30_12, xf_30_13, xf_30_14, xf_30_15, xf_30_16, xf_30_17, xf_30_18, xf_30_19, xf_30_20, xf_30_21, xf_30_22, xf_30_23, xf_30_24, xf_30_25, xf_30_26, xf_30_27, xf_30_28, xf_30_29, xf_30_30, xf_30_31, xf_30_32, xf_30_33, xf_30_34, xf_30_35, xf_30_36, xf_30_37, xf_30_38, xf_30_39, xf_30_40, xf_30_41, xf_30_42, xf_30_43, xf_30_44, xf_30_45, xf_30_46, xf_30_47, xf_30_48, xf_30_49, xf_30_50, xa_55, xa_56, xa_57, xa_58, xa_59, xa_60, xa_61, xa_62, xa_63, xa_64, xa_65, xa_66, xa_67, xa_68, xa_69, xa_70, xa_71, xa_72, xa_73, xa_74, xa_75, xa_76, xa_77, xa_78, xa_79, xa_80, xa_81, xa_82, xa_83, xa_84, xa_85, xa_86, xa_87, xa_88, vp_nI, nI_clamp, true_and, and_true, nI_1, nI_add, pk_mul, nI_leI, nI_ltI, nI_eq, nI_le0, nI_lt0, b2i_ne, b2i_inj, b2i_nar, b2i_t, b2i_f, n1, n8, n13, n19, a55, a56, a57, a58, a59, a60, a61, a62, a63, a64, a65, a66, a67, a68, a69, a70, x115, x119, x108, x99, x97, q16, q2, q3, q4, q8, q10, q160, q40, q24, q100, q1000, q999]
  refine x_F (sX8_isLaid w hL hF hw1) ?_
  rw [← hP]
  unfold yFarP yFarB
  cases hp : P (yRS M r) with
  | false =>
    try simp (disch := omega) only [xi_iload, xi_aload, xi_lload, xi_istore, xi_astore, xi_lstore, xi_ic, xi_lc, xi_iinc, xi_iadd, xi_isub, xi_imul, xi_iand, xi_iushr, xi_ineg, xi_idiv, xi_irem, xi_ladd, xi_lmul, xi_lrem, xi_lcmp, xi_i2l, xi_l2i, xi_i2c, xi_dup, xi_dup2, xi_pop, xi_ifeq, xi_ifne, xi_iflt, xi_ifge, xi_ifgt, xi_ifle, xi_iceq, xi_icne, xi_iclt, xi_icge, xi_icgt, xi_icle, xi_iret, xi_zret, xi_lret, xi_vret, xi_getf, xi_putf, xi_ald, xi_ast, xi_alen, xi_callV, xi_callS, xpop, xroom, xl, xst, xok1, xok2, xnarrow, xwide, xone, xent, List.replicate, Option.isSome_some, Bool.and_self, Bool.true_and, Bool.and_true, List.length_cons, List.length_nil, Nat.reduceAdd, Nat.reduceLT, decide_true, Bool.not_false, Nat.beq, Nat.ble, Option.toList, List.nil_append, List.cons_append, xf_30_0, xf_30_1, xf_30_2, xf_30_3, xf_30_4, xf_30_5, xf_30_6, xf_30_7, xf_30_8, xf_30_9, xf_30_10, xf_30_11, xf_30_12, xf_30_13, xf_30_14, xf_30_15, xf_30_16, xf_30_17, xf_30_18, xf_30_19, xf_30_20, xf_30_21, xf_30_22, xf_30_23, xf_30_24, xf_30_25, xf_30_26, xf_30_27, xf_30_28, xf_30_29, xf_30_30, xf_30_31, xf_30_32, xf_30_33, xf_30_34, xf_30_35, xf_30_36, xf_30_37, xf_30_38, xf_30_39, xf_30_40, xf_30_41, xf_30_42, xf_30_43, xf_30_44, xf_30_45, xf_30_46, xf_30_47, xf_30_48, xf_30_49, xf_30_50, xa_55, xa_56, xa_57, xa_58, xa_59, xa_60, xa_61, xa_62, xa_63, xa_64, xa_65, xa_66, xa_67, xa_68, xa_69, xa_70, xa_71, xa_72, xa_73, xa_74, xa_75, xa_76, xa_77, xa_78, xa_79, xa_80, xa_81, xa_82, xa_83, xa_84, xa_85, xa_86, xa_87, xa_88, vp_nI, nI_clamp, true_and, and_true, nI_1, nI_add, pk_mul, nI_leI, nI_ltI, nI_eq, nI_le0, nI_lt0, b2i_ne, b2i_inj, b2i_nar, b2i_t, b2i_f, n1, n8, n13, n19, a55, a56, a57, a58, a59, a60, a61, a62, a63, a64, a65, a66, a67, a68, a69, a70, x115, x119, x108, x99, x97, q16, q2, q3, q4, q8, q10, q160, q40, q24, q100, q1000, q999]
    exact ⟨fun _ => ⟨by decide +kernel, xF_self⟩, fun q => absurd (by trivial) q⟩
  | true =>
    have hAr : A (yRS M r) = true := yLaid_lv (M := M) (T := T) (by rw [← hP]; exact hp)
    try simp (disch := omega) only [xi_iload, xi_aload, xi_lload, xi_istore, xi_astore, xi_lstore, xi_ic, xi_lc, xi_iinc, xi_iadd, xi_isub, xi_imul, xi_iand, xi_iushr, xi_ineg, xi_idiv, xi_irem, xi_ladd, xi_lmul, xi_lrem, xi_lcmp, xi_i2l, xi_l2i, xi_i2c, xi_dup, xi_dup2, xi_pop, xi_ifeq, xi_ifne, xi_iflt, xi_ifge, xi_ifgt, xi_ifle, xi_iceq, xi_icne, xi_iclt, xi_icge, xi_icgt, xi_icle, xi_iret, xi_zret, xi_lret, xi_vret, xi_getf, xi_putf, xi_ald, xi_ast, xi_alen, xi_callV, xi_callS, xpop, xroom, xl, xst, xok1, xok2, xnarrow, xwide, xone, xent, List.replicate, Option.isSome_some, Bool.and_self, Bool.true_and, Bool.and_true, List.length_cons, List.length_nil, Nat.reduceAdd, Nat.reduceLT, decide_true, Bool.not_false, Nat.beq, Nat.ble, Option.toList, List.nil_append, List.cons_append, xf_30_0, xf_30_1, xf_30_2, xf_30_3, xf_30_4, xf_30_5, xf_30_6, xf_30_7, xf_30_8, xf_30_9, xf_30_10, xf_30_11, xf_30_12, xf_30_13, xf_30_14, xf_30_15, xf_30_16, xf_30_17, xf_30_18, xf_30_19, xf_30_20, xf_30_21, xf_30_22, xf_30_23, xf_30_24, xf_30_25, xf_30_26, xf_30_27, xf_30_28, xf_30_29, xf_30_30, xf_30_31, xf_30_32, xf_30_33, xf_30_34, xf_30_35, xf_30_36, xf_30_37, xf_30_38, xf_30_39, xf_30_40, xf_30_41, xf_30_42, xf_30_43, xf_30_44, xf_30_45, xf_30_46, xf_30_47, xf_30_48, xf_30_49, xf_30_50, xa_55, xa_56, xa_57, xa_58, xa_59, xa_60, xa_61, xa_62, xa_63, xa_64, xa_65, xa_66, xa_67, xa_68, xa_69, xa_70, xa_71, xa_72, xa_73, xa_74, xa_75, xa_76, xa_77, xa_78, xa_79, xa_80, xa_81, xa_82, xa_83, xa_84, xa_85, xa_86, xa_87, xa_88, vp_nI, nI_clamp, true_and, and_true, nI_1, nI_add, pk_mul, nI_leI, nI_ltI, nI_eq, nI_le0, nI_lt0, b2i_ne, b2i_inj, b2i_nar, b2i_t, b2i_f, n1, n8, n13, n19, a55, a56, a57, a58, a59, a60, a61, a62, a63, a64, a65, a66, a67, a68, a69, a70, x115, x119, x108, x99, x97, q16, q2, q3, q4, q8, q10, q160, q40, q24, q100, q1000, q999]
    rw [hi.2 r hr, oI_none hislb]
    refine ⟨fun q => absurd q (by decide), fun _ => ⟨fun q => ⟨by decide +kernel, ?_⟩, fun q => ⟨fun q2 => ?_, fun q2 => ⟨by decide +kernel, ?_⟩⟩⟩⟩
    · rw [show (yRK M r == 99) = false by simpa using q]; exact xF_self
    · have hnone : yIsl il L r = none := by
        rcases hyi : yIsl il L r with _ | k
        · rfl
        · rw [hyi] at q2; cases q2
      have hgl := hgo r hr hAr
      have hg8 := yGoS_le w (T := T) (A := A) (P := P) (il := il) hil.1 (yGoal_ok (T := T) w hr)
      have hp8 := yPlS_le w (T := T) (A := A) (P := P) (il := il) hil.1 hr
      have hfit := yGoal_fit (T := T) w hr
      rcases hgg : yGoal M T r with _ | g
      · rw [hgg] at hgl; cases hgl
      · rw [hgg] at hgl hfit hg8
        try simp (disch := omega) only [xi_iload, xi_aload, xi_lload, xi_istore, xi_astore, xi_lstore, xi_ic, xi_lc, xi_iinc, xi_iadd, xi_isub, xi_imul, xi_iand, xi_iushr, xi_ineg, xi_idiv, xi_irem, xi_ladd, xi_lmul, xi_lrem, xi_lcmp, xi_i2l, xi_l2i, xi_i2c, xi_dup, xi_dup2, xi_pop, xi_ifeq, xi_ifne, xi_iflt, xi_ifge, xi_ifgt, xi_ifle, xi_iceq, xi_icne, xi_iclt, xi_icge, xi_icgt, xi_icle, xi_iret, xi_zret, xi_lret, xi_vret, xi_getf, xi_putf, xi_ald, xi_ast, xi_alen, xi_callV, xi_callS, xpop, xroom, xl, xst, xok1, xok2, xnarrow, xwide, xone, xent, List.replicate, Option.isSome_some, Bool.and_self, Bool.true_and, Bool.and_true, List.length_cons, List.length_nil, Nat.reduceAdd, Nat.reduceLT, decide_true, Bool.not_false, Nat.beq, Nat.ble, Option.toList, List.nil_append, List.cons_append, xf_30_0, xf_30_1, xf_30_2, xf_30_3, xf_30_4, xf_30_5, xf_30_6, xf_30_7, xf_30_8, xf_30_9, xf_30_10, xf_30_11, xf_30_12, xf_30_13, xf_30_14, xf_30_15, xf_30_16, xf_30_17, xf_30_18, xf_30_19, xf_30_20, xf_30_21, xf_30_22, xf_30_23, xf_30_24, xf_30_25, xf_30_26, xf_30_27, xf_30_28, xf_30_29, xf_30_30, xf_30_31, xf_30_32, xf_30_33, xf_30_34, xf_30_35, xf_30_36, xf_30_37, xf_30_38, xf_30_39, xf_30_40, xf_30_41, xf_30_42, xf_30_43, xf_30_44, xf_30_45, xf_30_46, xf_30_47, xf_30_48, xf_30_49, xf_30_50, xa_55, xa_56, xa_57, xa_58, xa_59, xa_60, xa_61, xa_62, xa_63, xa_64, xa_65, xa_66, xa_67, xa_68, xa_69, xa_70, xa_71, xa_72, xa_73, xa_74, xa_75, xa_76, xa_77, xa_78, xa_79, xa_80, xa_81, xa_82, xa_83, xa_84, xa_85, xa_86, xa_87, xa_88, vp_nI, nI_clamp, true_and, and_true, nI_1, nI_add, pk_mul, nI_leI, nI_ltI, nI_eq, nI_le0, nI_lt0, b2i_ne, b2i_inj, b2i_nar, b2i_t, b2i_f, n1, n8, n13, n19, a55, a56, a57, a58, a59, a60, a61, a62, a63, a64, a65, a66, a67, a68, a69, a70, x115, x119, x108, x99, x97, q16, q2, q3, q4, q8, q10, q160, q40, q24, q100, q1000, q999, a73, hgg, oI]
        refine x_F (sX8_addressOfGoal hM w hF ha hP hfit hgl) ?_
        try simp (disch := omega) only [xi_iload, xi_aload, xi_lload, xi_istore, xi_astore, xi_lstore, xi_ic, xi_lc, xi_iinc, xi_iadd, xi_isub, xi_imul, xi_iand, xi_iushr, xi_ineg, xi_idiv, xi_irem, xi_ladd, xi_lmul, xi_lrem, xi_lcmp, xi_i2l, xi_l2i, xi_i2c, xi_dup, xi_dup2, xi_pop, xi_ifeq, xi_ifne, xi_iflt, xi_ifge, xi_ifgt, xi_ifle, xi_iceq, xi_icne, xi_iclt, xi_icge, xi_icgt, xi_icle, xi_iret, xi_zret, xi_lret, xi_vret, xi_getf, xi_putf, xi_ald, xi_ast, xi_alen, xi_callV, xi_callS, xpop, xroom, xl, xst, xok1, xok2, xnarrow, xwide, xone, xent, List.replicate, Option.isSome_some, Bool.and_self, Bool.true_and, Bool.and_true, List.length_cons, List.length_nil, Nat.reduceAdd, Nat.reduceLT, decide_true, Bool.not_false, Nat.beq, Nat.ble, Option.toList, List.nil_append, List.cons_append, xf_30_0, xf_30_1, xf_30_2, xf_30_3, xf_30_4, xf_30_5, xf_30_6, xf_30_7, xf_30_8, xf_30_9, xf_30_10, xf_30_11, xf_30_12, xf_30_13, xf_30_14, xf_30_15, xf_30_16, xf_30_17, xf_30_18, xf_30_19, xf_30_20, xf_30_21, xf_30_22, xf_30_23, xf_30_24, xf_30_25, xf_30_26, xf_30_27, xf_30_28, xf_30_29, xf_30_30, xf_30_31, xf_30_32, xf_30_33, xf_30_34, xf_30_35, xf_30_36, xf_30_37, xf_30_38, xf_30_39, xf_30_40, xf_30_41, xf_30_42, xf_30_43, xf_30_44, xf_30_45, xf_30_46, xf_30_47, xf_30_48, xf_30_49, xf_30_50, xa_55, xa_56, xa_57, xa_58, xa_59, xa_60, xa_61, xa_62, xa_63, xa_64, xa_65, xa_66, xa_67, xa_68, xa_69, xa_70, xa_71, xa_72, xa_73, xa_74, xa_75, xa_76, xa_77, xa_78, xa_79, xa_80, xa_81, xa_82, xa_83, xa_84, xa_85, xa_86, xa_87, xa_88, vp_nI, nI_clamp, true_and, and_true, nI_1, nI_add, pk_mul, nI_leI, nI_ltI, nI_eq, nI_le0, nI_lt0, b2i_ne, b2i_inj, b2i_nar, b2i_t, b2i_f, n1, n8, n13, n19, a55, a56, a57, a58, a59, a60, a61, a62, a63, a64, a65, a66, a67, a68, a69, a70, x115, x119, x108, x99, x97, q16, q2, q3, q4, q8, q10, q160, q40, q24, q100, q1000, q999]
        refine x_F (sX8_placeOf hM w ha hP hr hp) ?_
        try simp (disch := omega) only [xi_iload, xi_aload, xi_lload, xi_istore, xi_astore, xi_lstore, xi_ic, xi_lc, xi_iinc, xi_iadd, xi_isub, xi_imul, xi_iand, xi_iushr, xi_ineg, xi_idiv, xi_irem, xi_ladd, xi_lmul, xi_lrem, xi_lcmp, xi_i2l, xi_l2i, xi_i2c, xi_dup, xi_dup2, xi_pop, xi_ifeq, xi_ifne, xi_iflt, xi_ifge, xi_ifgt, xi_ifle, xi_iceq, xi_icne, xi_iclt, xi_icge, xi_icgt, xi_icle, xi_iret, xi_zret, xi_lret, xi_vret, xi_getf, xi_putf, xi_ald, xi_ast, xi_alen, xi_callV, xi_callS, xpop, xroom, xl, xst, xok1, xok2, xnarrow, xwide, xone, xent, List.replicate, Option.isSome_some, Bool.and_self, Bool.true_and, Bool.and_true, List.length_cons, List.length_nil, Nat.reduceAdd, Nat.reduceLT, decide_true, Bool.not_false, Nat.beq, Nat.ble, Option.toList, List.nil_append, List.cons_append, xf_30_0, xf_30_1, xf_30_2, xf_30_3, xf_30_4, xf_30_5, xf_30_6, xf_30_7, xf_30_8, xf_30_9, xf_30_10, xf_30_11, xf_30_12, xf_30_13, xf_30_14, xf_30_15, xf_30_16, xf_30_17, xf_30_18, xf_30_19, xf_30_20, xf_30_21, xf_30_22, xf_30_23, xf_30_24, xf_30_25, xf_30_26, xf_30_27, xf_30_28, xf_30_29, xf_30_30, xf_30_31, xf_30_32, xf_30_33, xf_30_34, xf_30_35, xf_30_36, xf_30_37, xf_30_38, xf_30_39, xf_30_40, xf_30_41, xf_30_42, xf_30_43, xf_30_44, xf_30_45, xf_30_46, xf_30_47, xf_30_48, xf_30_49, xf_30_50, xa_55, xa_56, xa_57, xa_58, xa_59, xa_60, xa_61, xa_62, xa_63, xa_64, xa_65, xa_66, xa_67, xa_68, xa_69, xa_70, xa_71, xa_72, xa_73, xa_74, xa_75, xa_76, xa_77, xa_78, xa_79, xa_80, xa_81, xa_82, xa_83, xa_84, xa_85, xa_86, xa_87, xa_88, vp_nI, nI_clamp, true_and, and_true, nI_1, nI_add, pk_mul, nI_leI, nI_ltI, nI_eq, nI_le0, nI_lt0, b2i_ne, b2i_inj, b2i_nar, b2i_t, b2i_f, n1, n8, n13, n19, a55, a56, a57, a58, a59, a60, a61, a62, a63, a64, a65, a66, a67, a68, a69, a70, x115, x119, x108, x99, x97, q16, q2, q3, q4, q8, q10, q160, q40, q24, q100, q1000, q999, h22]
        rw [far_1 (by omega) (by omega) (by omega), far_2 (by omega) (by omega) (by omega), hnone, show (yRK M r == 99) = true by simpa using q]
        refine ⟨fun q3 => ?_, fun q3 => ⟨fun q4 => ?_, fun q4 => ?_⟩⟩
        · rw [decide_eq_true (Or.inl q3)]; exact ⟨by decide +kernel, xF_self⟩
        · rw [decide_eq_false (by omega)]; exact ⟨by decide +kernel, xF_self⟩
        · rw [decide_eq_true (by omega)]; exact ⟨by decide +kernel, xF_self⟩
    · have hsome : (yIsl il L r).isNone = false := by
        rcases hyi : yIsl il L r with _ | k
        · rw [hyi] at q2; exact absurd rfl q2
        · rfl
      rw [hsome, Bool.false_and, Bool.and_false]; exact xF_self
theorem sX8_firstFar {reach : Nat} (h : MI σ M) (w : WF M) (hG : MG σ M T) (hL : ML σ M A) (hF : MF σ M T A) (hi : MIs σ M il L) (hil : ILok M il L) (ha : MLay σ M T A P il L) (hP : P = yLaid M T A) (h22 : σ 30 22 = nI reach) (hre : reach ≤ 999) (hgo : ∀ r, r < nR M → A (yRS M r) = true → gLv M A (yGoal M T r) = true) : XM G mX8_firstFar (d + 3) [.ref 30] σ (xF (some (.int (oI (yFirst M T A P il L reach)))) σ) := by
  refine xm_of (by decide +kernel) rfl (Nat.le_of_ble_eq_true rfl) ?_
  refine bX8_firstFar_0 _ _ _ ?_
  have hM := h
  obtain ⟨⟨n1, n8, n13, n19⟩, a55, ⟨a56, a57, a58, a59, a60, a61⟩, ⟨a62, a63, a64, a65⟩, a66, a67, a68, a69, a70⟩ := h
  obtain ⟨b1, b2, b3, b4, b5⟩ := w.1
  try simp only [xi_iload, xi_aload, xi_lload, xi_istore, xi_astore, xi_lstore, xi_ic, xi_lc, xi_iinc, xi_iadd, xi_isub, xi_imul, xi_iand, xi_iushr, xi_ineg, xi_idiv, xi_irem, xi_ladd, xi_lmul, xi_lrem, xi_lcmp, xi_i2l, xi_l2i, xi_i2c, xi_dup, xi_dup2, xi_pop, xi_ifeq, xi_ifne, xi_iflt, xi_ifge, xi_ifgt, xi_ifle, xi_iceq, xi_icne, xi_iclt, xi_icge, xi_icgt, xi_icle, xi_iret, xi_zret, xi_lret, xi_vret, xi_getf, xi_putf, xi_ald, xi_ast, xi_alen, xi_callV, xi_callS, xpop, xroom, xl, xst, xok1, xok2, xnarrow, xwide, xone, xent, List.replicate, Option.isSome_some, Bool.and_self, Bool.true_and, Bool.and_true, List.length_cons, List.length_nil, Nat.reduceAdd, Nat.reduceLT, decide_true, Bool.not_false, Nat.beq, Nat.ble, Option.toList, List.nil_append, List.cons_append]
  unfold yFirst
  generalize hQ : yFarP M T A P il L reach = Q
  generalize hK : (fun r => 64 * yRS M r + yRF M r) = K
  have eK : ∀ r, K r = 64 * yRS M r + yRF M r := fun r => by rw [← hK]
  have key : ∀ j, j ≤ nR M → AX8_firstFar G (d + 2 + 1) (xF (some (.int (oI (bestD Q K (nR M))))) σ) 4 [some (.ref 30), some (.int (oI (bestD Q K j))), some (.int (nI j)), none] [] σ := by
    refine loop_up (fun j hj ih => ?_) ?_
    · have hw := w.2.2.2.2.2.2.1 j hj
      have hw1 := hw.1
      have hw2 := hw.2.1
      have hz := (w.2.2.1 _ hw.1).2.2.1.2
      have h80 : bestD Q K (j + 1) = some j → ∀ z, AX8_firstFar G (d + 2 + 1) (xF (some (.int (oI (bestD Q K (nR M))))) σ) 80 [some (.ref 30), some (.int (oI (bestD Q K j))), some (.int (nI j)), z] [] σ := by
        intro hb z
        rw [hb] at ih
        refine bX8_firstFar_80 _ _ _ ?_
        try simp (disch := omega) only [xi_iload, xi_aload, xi_lload, xi_istore, xi_astore, xi_lstore, xi_ic, xi_lc, xi_iinc, xi_iadd, xi_isub, xi_imul, xi_iand, xi_iushr, xi_ineg, xi_idiv, xi_irem, xi_ladd, xi_lmul, xi_lrem, xi_lcmp, xi_i2l, xi_l2i, xi_i2c, xi_dup, xi_dup2, xi_pop, xi_ifeq, xi_ifne, xi_iflt, xi_ifge, xi_ifgt, xi_ifle, xi_iceq, xi_icne, xi_iclt, xi_icge, xi_icgt, xi_icle, xi_iret, xi_zret, xi_lret, xi_vret, xi_getf, xi_putf, xi_ald, xi_ast, xi_alen, xi_callV, xi_callS, xpop, xroom, xl, xst, xok1, xok2, xnarrow, xwide, xone, xent, List.replicate, Option.isSome_some, Bool.and_self, Bool.true_and, Bool.and_true, List.length_cons, List.length_nil, Nat.reduceAdd, Nat.reduceLT, decide_true, Bool.not_false, Nat.beq, Nat.ble, Option.toList, List.nil_append, List.cons_append, xf_30_0, xf_30_1, xf_30_2, xf_30_3, xf_30_4, xf_30_5, xf_30_6, xf_30_7, xf_30_8, xf_30_9, xf_30_10, xf_30_11, xf_30_12, xf_30_13, xf_30_14, xf_30_15, xf_30_16, xf_30_17, xf_30_18, xf_30_19, xf_30_20, xf_30_21, xf_30_22, xf_30_23, xf_30_24, xf_30_25, xf_30_26, xf_30_27, xf_30_28, xf_30_29, xf_30_30, xf_30_31, xf_30_32, xf_30_33, xf_30_34, xf_30_35, xf_30_36, xf_30_37, xf_30_38, xf_30_39, xf_30_40, xf_30_41, xf_30_42, xf_30_43, xf_30_44, xf_30_45, xf_30_46, xf_30_47, xf_30_48, xf_30_49, xf_30_50, xa_55, xa_56, xa_57, xa_58, xa_59, xa_60, xa_61, xa_62, xa_63, xa_64, xa_65, xa_66, xa_67, xa_68, xa_69, xa_70, xa_71, xa_72, xa_73, xa_74, xa_75, xa_76, xa_77, xa_78, xa_79, xa_80, xa_81, xa_82, xa_83, xa_84, xa_85, xa_86, xa_87, xa_88, vp_nI, nI_clamp, true_and, and_true, nI_1, nI_add, pk_mul, nI_leI, nI_ltI, nI_eq, nI_le0, nI_lt0, b2i_ne, b2i_inj, b2i_nar, b2i_t, b2i_f, n1, n8, n13, n19, a55, a56, a57, a58, a59, a60, a61, a62, a63, a64, a65, a66, a67, a68, a69, a70, x115, x119, x108, x99, x97, q16, q2, q3, q4, q8, q10, q160, q40, q24, q100, q1000, q999]
        exact ⟨fun q => absurd q (by decide), fun _ => x_forget ih (by simp [xle, xst, oI])⟩
      have h84 : bestD Q K (j + 1) = bestD Q K j → ∀ z, AX8_firstFar G (d + 2 + 1) (xF (some (.int (oI (bestD Q K (nR M))))) σ) 84 [some (.ref 30), some (.int (oI (bestD Q K j))), some (.int (nI j)), z] [] σ := by
        intro hb z
        rw [hb] at ih
        refine bX8_firstFar_84 _ _ _ ?_
        try simp (disch := omega) only [xi_iload, xi_aload, xi_lload, xi_istore, xi_astore, xi_lstore, xi_ic, xi_lc, xi_iinc, xi_iadd, xi_isub, xi_imul, xi_iand, xi_iushr, xi_ineg, xi_idiv, xi_irem, xi_ladd, xi_lmul, xi_lrem, xi_lcmp, xi_i2l, xi_l2i, xi_i2c, xi_dup, xi_dup2, xi_pop, xi_ifeq, xi_ifne, xi_iflt, xi_ifge, xi_ifgt, xi_ifle, xi_iceq, xi_icne, xi_iclt, xi_icge, xi_icgt, xi_icle, xi_iret, xi_zret, xi_lret, xi_vret, xi_getf, xi_putf, xi_ald, xi_ast, xi_alen, xi_callV, xi_callS, xpop, xroom, xl, xst, xok1, xok2, xnarrow, xwide, xone, xent, List.replicate, Option.isSome_some, Bool.and_self, Bool.true_and, Bool.and_true, List.length_cons, List.length_nil, Nat.reduceAdd, Nat.reduceLT, decide_true, Bool.not_false, Nat.beq, Nat.ble, Option.toList, List.nil_append, List.cons_append, xf_30_0, xf_30_1, xf_30_2, xf_30_3, xf_30_4, xf_30_5, xf_30_6, xf_30_7, xf_30_8, xf_30_9, xf_30_10, xf_30_11, xf_30_12, xf_30_13, xf_30_14, xf_30_15, xf_30_16, xf_30_17, xf_30_18, xf_30_19, xf_30_20, xf_30_21, xf_30_22, xf_30_23, xf_30_24, xf_30_25, xf_30_26, xf_30_27, xf_30_28, xf_30_29, xf_30_30, xf_30_31, xf_30_32, xf_30_33, xf_30_34, xf_30_35, xf_30_36, xf_30_37, xf_30_38, xf_30_39, xf_30_40, xf_30_41, xf_30_42, xf_30_43, xf_30_44, xf_30_45, xf_30_46, xf_30_47, xf_30_48, xf_30_49, xf_30_50, xa_55, xa_56, xa_57, xa_58, xa_59, xa_60, xa_61, xa_62, xa_63, xa_64, xa_65, xa_66, xa_67, xa_68, xa_69, xa_70, xa_71, xa_72, xa_73, xa_74, xa_75, xa_76, xa_77, xa_78, xa_79, xa_80, xa_81, xa_82, xa_83, xa_84, xa_85, xa_86, xa_87, xa_88, vp_nI, nI_clamp, true_and, and_true, nI_1, nI_add, pk_mul, nI_leI, nI_ltI, nI_eq, nI_le0, nI_lt0, b2i_ne, b2i_inj, b2i_nar, b2i_t, b2i_f, n1, n8, n13, n19, a55, a56, a57, a58, a59, a60, a61, a62, a63, a64, a65, a66, a67, a68, a69, a70, x115, x119, x108, x99, x97, q16, q2, q3, q4, q8, q10, q160, q40, q24, q100, q1000, q999]
        exact ⟨fun _ => x_forget ih (by simp [xle, xst]), fun q => absurd (by trivial) q⟩
      refine bX8_firstFar_4 _ _ _ ?_
      try simp (disch := omega) only [xi_iload, xi_aload, xi_lload, xi_istore, xi_astore, xi_lstore, xi_ic, xi_lc, xi_iinc, xi_iadd, xi_isub, xi_imul, xi_iand, xi_iushr, xi_ineg, xi_idiv, xi_irem, xi_ladd, xi_lmul, xi_lrem, xi_lcmp, xi_i2l, xi_l2i, xi_i2c, xi_dup, xi_dup2, xi_pop, xi_ifeq, xi_ifne, xi_iflt, xi_ifge, xi_ifgt, xi_ifle, xi_iceq, xi_icne, xi_iclt, xi_icge, xi_icgt, xi_icle, xi_iret, xi_zret, xi_lret, xi_vret, xi_getf, xi_putf, xi_ald, xi_ast, xi_alen, xi_callV, xi_callS, xpop, xroom, xl, xst, xok1, xok2, xnarrow, xwide, xone, xent, List.replicate, Option.isSome_some, Bool.and_self, Bool.true_and, Bool.and_true, List.length_cons, List.length_nil, Nat.reduceAdd, Nat.reduceLT, decide_true, Bool.not_false, Nat.beq, Nat.ble, Option.toList, List.nil_append, List.cons_append, xf_30_0, xf_30_1, xf_30_2, xf_30_3, xf_30_4, xf_30_5, xf_30_6, xf_30_7, xf_30_8, xf_30_9, xf_30_10, xf_30_11, xf_30_12, xf_30_13, xf_30_14, xf_30_15, xf_30_16, xf_30_17, xf_30_18, xf_30_19, xf_30_20, xf_30_21, xf_30_22, xf_30_23, xf_30_24, xf_30_25, xf_30_26, xf_30_27, xf_30_28, xf_30_29, xf_30_30, xf_30_31, xf_30_32, xf_30_33, xf_30_34, xf_30_35, xf_30_36, xf_30_37, xf_30_38, xf_30_39, xf_30_40, xf_30_41, xf_30_42, xf_30_43, xf_30_44, xf_30_45, xf_30_46, xf_30_47, xf_30_48, xf_30_49, xf_30_50, xa_55, xa_56, xa_57, xa_58, xa_59, xa_60, xa_61, xa_62, xa_63, xa_64, xa_65, xa_66, xa_67, xa_68, xa_69, xa_70, xa_71, xa_72, xa_73, xa_74, xa_75, xa_76, xa_77, xa_78, xa_79, xa_80, xa_81, xa_82, xa_83, xa_84, xa_85, xa_86, xa_87, xa_88, vp_nI, nI_clamp, true_and, and_true, nI_1, nI_add, pk_mul, nI_leI, nI_ltI, nI_eq, nI_le0, nI_lt0, b2i_ne, b2i_inj, b2i_nar, b2i_t, b2i_f, n1, n8, n13, n19, a55, a56, a57, a58, a59, a60, a61, a62, a63, a64, a65, a66, a67, a68, a69, a70, x115, x119, x108, x99, x97, q16, q2, q3, q4, q8, q10, q160, q40, q24, q100, q1000, q999]
      refine ⟨fun q => absurd q (by omega), fun _ => x_F (sX8_isFar hM w hG hL hF hi hil ha hP h22 hre hgo hj) ?_⟩
      rw [hQ]
      cases hq : Q j with
      | false =>
        rw [bestD_n hq] at ih
        try simp (disch := omega) only [xi_iload, xi_aload, xi_lload, xi_istore, xi_astore, xi_lstore, xi_ic, xi_lc, xi_iinc, xi_iadd, xi_isub, xi_imul, xi_iand, xi_iushr, xi_ineg, xi_idiv, xi_irem, xi_ladd, xi_lmul, xi_lrem, xi_lcmp, xi_i2l, xi_l2i, xi_i2c, xi_dup, xi_dup2, xi_pop, xi_ifeq, xi_ifne, xi_iflt, xi_ifge, xi_ifgt, xi_ifle, xi_iceq, xi_icne, xi_iclt, xi_icge, xi_icgt, xi_icle, xi_iret, xi_zret, xi_lret, xi_vret, xi_getf, xi_putf, xi_ald, xi_ast, xi_alen, xi_callV, xi_callS, xpop, xroom, xl, xst, xok1, xok2, xnarrow, xwide, xone, xent, List.replicate, Option.isSome_some, Bool.and_self, Bool.true_and, Bool.and_true, List.length_cons, List.length_nil, Nat.reduceAdd, Nat.reduceLT, decide_true, Bool.not_false, Nat.beq, Nat.ble, Option.toList, List.nil_append, List.cons_append, xf_30_0, xf_30_1, xf_30_2, xf_30_3, xf_30_4, xf_30_5, xf_30_6, xf_30_7, xf_30_8, xf_30_9, xf_30_10, xf_30_11, xf_30_12, xf_30_13, xf_30_14, xf_30_15, xf_30_16, xf_30_17, xf_30_18, xf_30_19, xf_30_20, xf_30_21, xf_30_22, xf_30_23, xf_30_24, xf_30_25, xf_30_26, xf_30_27, xf_30_28, xf_30_29, xf_30_30, xf_30_31, xf_30_32, xf_30_33, xf_30_34, xf_30_35, xf_30_36, xf_30_37, xf_30_38, xf_30_39, xf_30_40, xf_30_41, xf_30_42, xf_30_43, xf_30_44, xf_30_45, xf_30_46, xf_30_47, xf_30_48, xf_30_49, xf_30_50, xa_55, xa_56, xa_57, xa_58, xa_59, xa_60, xa_61, xa_62, xa_63, xa_64, xa_65, xa_66, xa_67, xa_68, xa_69, xa_70, xa_71, xa_72, xa_73, xa_74, xa_75, xa_76, xa_77, xa_78, xa_79, xa_80, xa_81, xa_82, xa_83, xa_84, xa_85, xa_86, xa_87, xa_88, vp_nI, nI_clamp, true_and, and_true, nI_1, nI_add, pk_mul, nI_leI, nI_ltI, nI_eq, nI_le0, nI_lt0, b2i_ne, b2i_inj, b2i_nar, b2i_t, b2i_f, n1, n8, n13, n19, a55, a56, a57, a58, a59, a60, a61, a62, a63, a64, a65, a66, a67, a68, a69, a70, x115, x119, x108, x99, x97, q16, q2, q3, q4, q8, q10, q160, q40, q24, q100, q1000, q999]
        exact ⟨fun _ => ih, fun q => absurd (by trivial) q⟩
      | true =>
        rcases hbd : bestD Q K j with _ | b
        · have h45 : AX8_firstFar G (d + 2 + 1) (xF (some (.int (oI (bestD Q K (nR M))))) σ) 45 [some (.ref 30), some (.int (oI none)), some (.int (nI j)), none] [.int 1] σ := by
            refine bX8_firstFar_45 _ _ _ ?_
            rw [hbd] at h80
            try simp (disch := omega) only [xi_iload, xi_aload, xi_lload, xi_istore, xi_astore, xi_lstore, xi_ic, xi_lc, xi_iinc, xi_iadd, xi_isub, xi_imul, xi_iand, xi_iushr, xi_ineg, xi_idiv, xi_irem, xi_ladd, xi_lmul, xi_lrem, xi_lcmp, xi_i2l, xi_l2i, xi_i2c, xi_dup, xi_dup2, xi_pop, xi_ifeq, xi_ifne, xi_iflt, xi_ifge, xi_ifgt, xi_ifle, xi_iceq, xi_icne, xi_iclt, xi_icge, xi_icgt, xi_icle, xi_iret, xi_zret, xi_lret, xi_vret, xi_getf, xi_putf, xi_ald, xi_ast, xi_alen, xi_callV, xi_callS, xpop, xroom, xl, xst, xok1, xok2, xnarrow, xwide, xone, xent, List.replicate, Option.isSome_some, Bool.and_self, Bool.true_and, Bool.and_true, List.length_cons, List.length_nil, Nat.reduceAdd, Nat.reduceLT, decide_true, Bool.not_false, Nat.beq, Nat.ble, Option.toList, List.nil_append, List.cons_append, xf_30_0, xf_30_1, xf_30_2, xf_30_3, xf_30_4, xf_30_5, xf_30_6, xf_30_7, xf_30_8, xf_30_9, xf_30_10, xf_30_11, xf_30_12, xf_30_13, xf_30_14, xf_30_15, xf_30_16, xf_30_17, xf_30_18, xf_30_19, xf_30_20, xf_30_21, xf_30_22, xf_30_23, xf_30_24, xf_30_25, xf_30_26, xf_30_27, xf_30_28, xf_30_29, xf_30_30, xf_30_31, xf_30_32, xf_30_33, xf_30_34, xf_30_35, xf_30_36, xf_30_37, xf_30_38, xf_30_39, xf_30_40, xf_30_41, xf_30_42, xf_30_43, xf_30_44, xf_30_45, xf_30_46, xf_30_47, xf_30_48, xf_30_49, xf_30_50, xa_55, xa_56, xa_57, xa_58, xa_59, xa_60, xa_61, xa_62, xa_63, xa_64, xa_65, xa_66, xa_67, xa_68, xa_69, xa_70, xa_71, xa_72, xa_73, xa_74, xa_75, xa_76, xa_77, xa_78, xa_79, xa_80, xa_81, xa_82, xa_83, xa_84, xa_85, xa_86, xa_87, xa_88, vp_nI, nI_clamp, true_and, and_true, nI_1, nI_add, pk_mul, nI_leI, nI_ltI, nI_eq, nI_le0, nI_lt0, b2i_ne, b2i_inj, b2i_nar, b2i_t, b2i_f, n1, n8, n13, n19, a55, a56, a57, a58, a59, a60, a61, a62, a63, a64, a65, a66, a67, a68, a69, a70, x115, x119, x108, x99, x97, q16, q2, q3, q4, q8, q10, q160, q40, q24, q100, q1000, q999]
            exact ⟨fun _ => h80 (bestD_0 hq hbd) _, fun q => absurd q (by decide)⟩
          try simp (disch := omega) only [xi_iload, xi_aload, xi_lload, xi_istore, xi_astore, xi_lstore, xi_ic, xi_lc, xi_iinc, xi_iadd, xi_isub, xi_imul, xi_iand, xi_iushr, xi_ineg, xi_idiv, xi_irem, xi_ladd, xi_lmul, xi_lrem, xi_lcmp, xi_i2l, xi_l2i, xi_i2c, xi_dup, xi_dup2, xi_pop, xi_ifeq, xi_ifne, xi_iflt, xi_ifge, xi_ifgt, xi_ifle, xi_iceq, xi_icne, xi_iclt, xi_icge, xi_icgt, xi_icle, xi_iret, xi_zret, xi_lret, xi_vret, xi_getf, xi_putf, xi_ald, xi_ast, xi_alen, xi_callV, xi_callS, xpop, xroom, xl, xst, xok1, xok2, xnarrow, xwide, xone, xent, List.replicate, Option.isSome_some, Bool.and_self, Bool.true_and, Bool.and_true, List.length_cons, List.length_nil, Nat.reduceAdd, Nat.reduceLT, decide_true, Bool.not_false, Nat.beq, Nat.ble, Option.toList, List.nil_append, List.cons_append, xf_30_0, xf_30_1, xf_30_2, xf_30_3, xf_30_4, xf_30_5, xf_30_6, xf_30_7, xf_30_8, xf_30_9, xf_30_10, xf_30_11, xf_30_12, xf_30_13, xf_30_14, xf_30_15, xf_30_16, xf_30_17, xf_30_18, xf_30_19, xf_30_20, xf_30_21, xf_30_22, xf_30_23, xf_30_24, xf_30_25, xf_30_26, xf_30_27, xf_30_28, xf_30_29, xf_30_30, xf_30_31, xf_30_32, xf_30_33, xf_30_34, xf_30_35, xf_30_36, xf_30_37, xf_30_38, xf_30_39, xf_30_40, xf_30_41, xf_30_42, xf_30_43, xf_30_44, xf_30_45, xf_30_46, xf_30_47, xf_30_48, xf_30_49, xf_30_50, xa_55, xa_56, xa_57, xa_58, xa_59, xa_60, xa_61, xa_62, xa_63, xa_64, xa_65, xa_66, xa_67, xa_68, xa_69, xa_70, xa_71, xa_72, xa_73, xa_74, xa_75, xa_76, xa_77, xa_78, xa_79, xa_80, xa_81, xa_82, xa_83, xa_84, xa_85, xa_86, xa_87, xa_88, vp_nI, nI_clamp, true_and, and_true, nI_1, nI_add, pk_mul, nI_leI, nI_ltI, nI_eq, nI_le0, nI_lt0, b2i_ne, b2i_inj, b2i_nar, b2i_t, b2i_f, n1, n8, n13, n19, a55, a56, a57, a58, a59, a60, a61, a62, a63, a64, a65, a66, a67, a68, a69, a70, x115, x119, x108, x99, x97, q16, q2, q3, q4, q8, q10, q160, q40, q24, q100, q1000, q999, oI]
          exact ⟨fun q => absurd q (by decide), fun _ => ⟨fun _ => h45, fun q => absurd (by trivial) q⟩⟩
        · have hbl := (bestD_lt hbd).1
          have hv := w.2.2.2.2.2.2.1 b (by omega)
          have hv1 := hv.1
          have hv2 := hv.2.1
          have hvz := (w.2.2.1 _ hv.1).2.2.1.2
          rw [hbd] at h80 h84
          have h45 : ∀ c : Bool, c = decide (yRS M j < yRS M b) → AX8_firstFar G (d + 2 + 1) (xF (some (.int (oI (bestD Q K (nR M))))) σ) 45 [some (.ref 30), some (.int (oI (some b))), some (.int (nI j)), none] [.int (b2i c)] σ := by
            intro c hc
            refine bX8_firstFar_45 _ _ _ ?_
            have k1 : (yRS M j < yRS M b ∨ (yRS M j = yRS M b ∧ yRF M j < yRF M b)) → ∀ z, AX8_firstFar G (d + 2 + 1) (xF (some (.int (oI (bestD Q K (nR M))))) σ) 80 [some (.ref 30), some (.int (oI (some b))), some (.int (nI j)), z] [] σ := fun hlt => h80 (bestD_y hq hbd (by rw [eK, eK]; omega))
            have k2 : ¬ (yRS M j < yRS M b ∨ (yRS M j = yRS M b ∧ yRF M j < yRF M b)) → ∀ z, AX8_firstFar G (d + 2 + 1) (xF (some (.int (oI (bestD Q K (nR M))))) σ) 84 [some (.ref 30), some (.int (oI (some b))), some (.int (nI j)), z] [] σ := fun hlt => h84 (bestD_k hq hbd (by rw [eK, eK]; omega))
            try simp (disch := omega) only [xi_iload, xi_aload, xi_lload, xi_istore, xi_astore, xi_lstore, xi_ic, xi_lc, xi_iinc, xi_iadd, xi_isub, xi_imul, xi_iand, xi_iushr, xi_ineg, xi_idiv, xi_irem, xi_ladd, xi_lmul, xi_lrem, xi_lcmp, xi_i2l, xi_l2i, xi_i2c, xi_dup, xi_dup2, xi_pop, xi_ifeq, xi_ifne, xi_iflt, xi_ifge, xi_ifgt, xi_ifle, xi_iceq, xi_icne, xi_iclt, xi_icge, xi_icgt, xi_icle, xi_iret, xi_zret, xi_lret, xi_vret, xi_getf, xi_putf, xi_ald, xi_ast, xi_alen, xi_callV, xi_callS, xpop, xroom, xl, xst, xok1, xok2, xnarrow, xwide, xone, xent, List.replicate, Option.isSome_some, Bool.and_self, Bool.true_and, Bool.and_true, List.length_cons, List.length_nil, Nat.reduceAdd, Nat.reduceLT, decide_true, Bool.not_false, Nat.beq, Nat.ble, Option.toList, List.nil_append, List.cons_append, xf_30_0, xf_30_1, xf_30_2, xf_30_3, xf_30_4, xf_30_5, xf_30_6, xf_30_7, xf_30_8, xf_30_9, xf_30_10, xf_30_11, xf_30_12, xf_30_13, xf_30_14, xf_30_15, xf_30_16, xf_30_17, xf_30_18, xf_30_19, xf_30_20, xf_30_21, xf_30_22, xf_30_23, xf_30_24, xf_30_25, xf_30_26, xf_30_27, xf_30_28, xf_30_29, xf_30_30, xf_30_31, xf_30_32, xf_30_33, xf_30_34, xf_30_35, xf_30_36, xf_30_37, xf_30_38, xf_30_39, xf_30_40, xf_30_41, xf_30_42, xf_30_43, xf_30_44, xf_30_45, xf_30_46, xf_30_47, xf_30_48, xf_30_49, xf_30_50, xa_55, xa_56, xa_57, xa_58, xa_59, xa_60, xa_61, xa_62, xa_63, xa_64, xa_65, xa_66, xa_67, xa_68, xa_69, xa_70, xa_71, xa_72, xa_73, xa_74, xa_75, xa_76, xa_77, xa_78, xa_79, xa_80, xa_81, xa_82, xa_83, xa_84, xa_85, xa_86, xa_87, xa_88, vp_nI, nI_clamp, true_and, and_true, nI_1, nI_add, pk_mul, nI_leI, nI_ltI, nI_eq, nI_le0, nI_lt0, b2i_ne, b2i_inj, b2i_nar, b2i_t, b2i_f, n1, n8, n13, n19, a55, a56, a57, a58, a59, a60, a61, a62, a63, a64, a65, a66, a67, a68, a69, a70, x115, x119, x108, x99, x97, q16, q2, q3, q4, q8, q10, q160, q40, q24, q100, q1000, q999, oI]
            simp only [oI] at k1 k2
            refine ⟨fun q => k1 (Or.inl (by simpa [hc] using q)) _, fun q => ⟨fun q2 => k2 ?_ _, fun q2 => ⟨fun q3 => k2 ?_ _, fun q3 => k1 ?_ _⟩⟩⟩
            · have q' : ¬ yRS M j < yRS M b := by rw [hc] at q; simpa using q
              omega
            · have q' : ¬ yRS M j < yRS M b := by rw [hc] at q; simpa using q
              omega
            · omega
          have h45t := h45 true
          have h45f := h45 false
          try simp (disch := omega) only [xi_iload, xi_aload, xi_lload, xi_istore, xi_astore, xi_lstore, xi_ic, xi_lc, xi_iinc, xi_iadd, xi_isub, xi_imul, xi_iand, xi_iushr, xi_ineg, xi_idiv, xi_irem, xi_ladd, xi_lmul, xi_lrem, xi_lcmp, xi_i2l, xi_l2i, xi_i2c, xi_dup, xi_dup2, xi_pop, xi_ifeq, xi_ifne, xi_iflt, xi_ifge, xi_ifgt, xi_ifle, xi_iceq, xi_icne, xi_iclt, xi_icge, xi_icgt, xi_icle, xi_iret, xi_zret, xi_lret, xi_vret, xi_getf, xi_putf, xi_ald, xi_ast, xi_alen, xi_callV, xi_callS, xpop, xroom, xl, xst, xok1, xok2, xnarrow, xwide, xone, xent, List.replicate, Option.isSome_some, Bool.and_self, Bool.true_and, Bool.and_true, List.length_cons, List.length_nil, Nat.reduceAdd, Nat.reduceLT, decide_true, Bool.not_false, Nat.beq, Nat.ble, Option.toList, List.nil_append, List.cons_append, xf_30_0, xf_30_1, xf_30_2, xf_30_3, xf_30_4, xf_30_5, xf_30_6, xf_30_7, xf_30_8, xf_30_9, xf_30_10, xf_30_11, xf_30_12, xf_30_13, xf_30_14, xf_30_15, xf_30_16, xf_30_17, xf_30_18, xf_30_19, xf_30_20, xf_30_21, xf_30_22, xf_30_23, xf_30_24, xf_30_25, xf_30_26, xf_30_27, xf_30_28, xf_30_29, xf_30_30, xf_30_31, xf_30_32, xf_30_33, xf_30_34, xf_30_35, xf_30_36, xf_30_37, xf_30_38, xf_30_39, xf_30_40, xf_30_41, xf_30_42, xf_30_43, xf_30_44, xf_30_45, xf_30_46, xf_30_47, xf_30_48, xf_30_49, xf_30_50, xa_55, xa_56, xa_57, xa_58, xa_59, xa_60, xa_61, xa_62, xa_63, xa_64, xa_65, xa_66, xa_67, xa_68, xa_69, xa_70, xa_71, xa_72, xa_73, xa_74, xa_75, xa_76, xa_77, xa_78, xa_79, xa_80, xa_81, xa_82, xa_83, xa_84, xa_85, xa_86, xa_87, xa_88, vp_nI, nI_clamp, true_and, and_true, nI_1, nI_add, pk_mul, nI_leI, nI_ltI, nI_eq, nI_le0, nI_lt0, b2i_ne, b2i_inj, b2i_nar, b2i_t, b2i_f, n1, n8, n13, n19, a55, a56, a57, a58, a59, a60, a61, a62, a63, a64, a65, a66, a67, a68, a69, a70, x115, x119, x108, x99, x97, q16, q2, q3, q4, q8, q10, q160, q40, q24, q100, q1000, q999, oI]
          simp only [oI] at h45t h45f
          refine ⟨fun q => absurd q (by decide), fun _ => ⟨fun q => absurd q (nIm b (by omega)), fun _ => ⟨fun q => h45f (by rw [decide_eq_false (by omega)]), fun q => h45t (by rw [decide_eq_true (by omega)])⟩⟩⟩
    · refine bX8_firstFar_4 _ _ _ ?_
      try simp (disch := omega) only [xi_iload, xi_aload, xi_lload, xi_istore, xi_astore, xi_lstore, xi_ic, xi_lc, xi_iinc, xi_iadd, xi_isub, xi_imul, xi_iand, xi_iushr, xi_ineg, xi_idiv, xi_irem, xi_ladd, xi_lmul, xi_lrem, xi_lcmp, xi_i2l, xi_l2i, xi_i2c, xi_dup, xi_dup2, xi_pop, xi_ifeq, xi_ifne, xi_iflt, xi_ifge, xi_ifgt, xi_ifle, xi_iceq, xi_icne, xi_iclt, xi_icge, xi_icgt, xi_icle, xi_iret, xi_zret, xi_lret, xi_vret, xi_getf, xi_putf, xi_ald, xi_ast, xi_alen, xi_callV, xi_callS, xpop, xroom, xl, xst, xok1, xok2, xnarrow, xwide, xone, xent, List.replicate, Option.isSome_some, Bool.and_self, Bool.true_and, Bool.and_true, List.length_cons, List.length_nil, Nat.reduceAdd, Nat.reduceLT, decide_true, Bool.not_false, Nat.beq, Nat.ble, Option.toList, List.nil_append, List.cons_append, xf_30_0, xf_30_1, xf_30_2, xf_30_3, xf_30_4, xf_30_5, xf_30_6, xf_30_7, xf_30_8, xf_30_9, xf_30_10, xf_30_11, xf_30_12, xf_30_13, xf_30_14, xf_30_15, xf_30_16, xf_30_17, xf_30_18, xf_30_19, xf_30_20, xf_30_21, xf_30_22, xf_30_23, xf_30_24, xf_30_25, xf_30_26, xf_30_27, xf_30_28, xf_30_29, xf_30_30, xf_30_31, xf_30_32, xf_30_33, xf_30_34, xf_30_35, xf_30_36, xf_30_37, xf_30_38, xf_30_39, xf_30_40, xf_30_41, xf_30_42, xf_30_43, xf_30_44, xf_30_45, xf_30_46, xf_30_47, xf_30_48, xf_30_49, xf_30_50, xa_55, xa_56, xa_57, xa_58, xa_59, xa_60, xa_61, xa_62, xa_63, xa_64, xa_65, xa_66, xa_67, xa_68, xa_69, xa_70, xa_71, xa_72, xa_73, xa_74, xa_75, xa_76, xa_77, xa_78, xa_79, xa_80, xa_81, xa_82, xa_83, xa_84, xa_85, xa_86, xa_87, xa_88, vp_nI, nI_clamp, true_and, and_true, nI_1, nI_add, pk_mul, nI_leI, nI_ltI, nI_eq, nI_le0, nI_lt0, b2i_ne, b2i_inj, b2i_nar, b2i_t, b2i_f, n1, n8, n13, n19, a55, a56, a57, a58, a59, a60, a61, a62, a63, a64, a65, a66, a67, a68, a69, a70, x115, x119, x108, x99, x97, q16, q2, q3, q4, q8, q10, q160, q40, q24, q100, q1000, q999]
      exact ⟨fun _ => xF_self, fun q => absurd (Nat.le_refl _) q⟩
  exact x_forget (key 0 (by omega)) (by simp [xle, xst, nI_0, bestD, oI])
theorem yIsl_add {r q : Nat} (hn : yIsl il L r = none) : yIsl (ilAdd il L r) (L + 1) q = if q = r then some L else yIsl il L q := by
  have h0 : ∀ i, i < L → ilAdd il L r i = il i := fun i hi => by unfold ilAdd; rw [if_neg (by omega)]
  have hL : ilAdd il L r L = r := by unfold ilAdd; rw [if_pos rfl]
  have hnr : ∀ i, i < L → il i ≠ r := fun i hi => by
    have := firstB_none hn i hi
    simpa using this
  by_cases hq : q = r
  · rw [if_pos hq, hq]
    refine firstB_at (fun i hi => ?_) ?_ (by omega)
    · rw [h0 i hi]; simpa using hnr i hi
    · rw [hL]; simp
  · rw [if_neg hq]
    rcases hy : yIsl il L q with _ | k
    · refine firstB_no (fun i hi => ?_)
      by_cases hiL : i = L
      · rw [hiL, hL]; simpa using fun z => hq z.symm
      · rw [h0 i (by omega)]
        exact firstB_none hy i (by omega)
    · obtain ⟨h1, h2, h3⟩ := yIsl_lt hy
      refine firstB_at (fun i hi => ?_) ?_ (by omega)
      · rw [h0 i (by omega)]; simpa using h3 i hi
      · rw [h0 k h1, h2]; simp
theorem yFirst_none {reach r : Nat} (h : yFirst M T A P il L reach = some r) : yIsl il L r = none := by
  have h2 := (yFirst_spec h).2.2.2
  exact firstB_no (fun i hi => by simpa using h2 i hi)
theorem ySet_cnt {reach : Nat} : ∀ k, k ≤ yCount (fun r => (yIsl (ySet M T A P reach k).1 (ySet M T A P reach k).2 r).isSome) (nR M) ∨ yFirst M T A P (ySet M T A P reach k).1 (ySet M T A P reach k).2 reach = none := by
  intro k
  induction k with
  | zero => exact Or.inl (Nat.zero_le _)
  | succ k ih =>
    cases hst : yFirst M T A P (ySet M T A P reach k).1 (ySet M T A P reach k).2 reach with
    | none =>
      right
      rw [ySet_stay hst (k + 1) (by omega)]
      exact hst
    | some r =>
      left
      have hn := yFirst_none hst
      have hr := (yFirst_spec hst).1
      have eS : ySet M T A P reach (k + 1) = (ilAdd (ySet M T A P reach k).1 (ySet M T A P reach k).2 r, (ySet M T A P reach k).2 + 1) := by rw [ySet, hst]
      rcases ih with h | h
      · rw [eS]
        try dsimp only
        have := yCount_lt (p := fun q => (yIsl (ySet M T A P reach k).1 (ySet M T A P reach k).2 q).isSome) (q := fun q => (yIsl (ilAdd (ySet M T A P reach k).1 (ySet M T A P reach k).2 r) ((ySet M T A P reach k).2 + 1) q).isSome) (n := nR M) (fun q _ hq => by
          try dsimp only at hq ⊢
          rw [yIsl_add hn]
          split
          · rfl
          · exact hq) ⟨r, hr, by (try dsimp only); rw [yIsl_add hn, if_pos rfl]; rfl, by (try dsimp only); rw [hn]; rfl⟩
        omega
      · rw [hst] at h; cases h
theorem sX8_laysIslands {reach : Nat} (h : MI σ M) (w : WF M) (x : WX M) (hS : MS σ M T) (hG : MG σ M T) (hL : ML σ M A) (hF : MF σ M T A) (hP : P = yLaid M T A) (h22 : σ 30 22 = nI reach) (hre : reach ≤ 999) (hgo : ∀ r, r < nR M → A (yRS M r) = true → gLv M A (yGoal M T r) = true) : XM G mX8_laysIslands (d + 4) [.ref 30] σ (fun v τ => v = none ∧ xs30 [35, 36] [77, 78, 79, 80] σ τ ∧ MIs τ M (yIL M T A P reach) (yIN M T A P reach) ∧ MLay τ M T A P (yIL M T A P reach) (yIN M T A P reach)) := by
  refine xm_of (by decide +kernel) rfl (Nat.le_of_ble_eq_true rfl) ?_
  refine bX8_laysIslands_0 _ _ _ ?_
  obtain ⟨b1, b2, b3, b4, b5⟩ := w.1
  try simp only [xi_iload, xi_aload, xi_lload, xi_istore, xi_astore, xi_lstore, xi_ic, xi_lc, xi_iinc, xi_iadd, xi_isub, xi_imul, xi_iand, xi_iushr, xi_ineg, xi_idiv, xi_irem, xi_ladd, xi_lmul, xi_lrem, xi_lcmp, xi_i2l, xi_l2i, xi_i2c, xi_dup, xi_dup2, xi_pop, xi_ifeq, xi_ifne, xi_iflt, xi_ifge, xi_ifgt, xi_ifle, xi_iceq, xi_icne, xi_iclt, xi_icge, xi_icgt, xi_icle, xi_iret, xi_zret, xi_lret, xi_vret, xi_getf, xi_putf, xi_ald, xi_ast, xi_alen, xi_callV, xi_callS, xpop, xroom, xl, xst, xok1, xok2, xnarrow, xwide, xone, xent, List.replicate, Option.isSome_some, Bool.and_self, Bool.true_and, Bool.and_true, List.length_cons, List.length_nil, Nat.reduceAdd, Nat.reduceLT, decide_true, Bool.not_false, Nat.beq, Nat.ble, Option.toList, List.nil_append, List.cons_append]
  generalize hR : (fun (v : Option Value) (τ : Sg) => v = none ∧ xs30 [35, 36] [77, 78, 79, 80] σ τ ∧ MIs τ M (yIL M T A P reach) (yIN M T A P reach) ∧ MLay τ M T A P (yIL M T A P reach) (yIN M T A P reach)) = R
  have turns : ∀ k, k ≤ nR M + 1 → ∀ τ, xs30 [35, 36] [77, 78, 79, 80] σ τ → MIs τ M (ySet M T A P reach k).1 (ySet M T A P reach k).2 → MLay τ M T A P (ySet M T A P reach k).1 (ySet M T A P reach k).2 → k ≤ yCount (fun r => (yIsl (ySet M T A P reach k).1 (ySet M T A P reach k).2 r).isSome) (nR M) → AX8_laysIslands G (d + 3 + 1) R 51 [some (.ref 30), some (.int (oI (yFirst M T A P (ySet M T A P reach k).1 (ySet M T A P reach k).2 reach)))] [] τ := by
    refine loop_up (fun k hk ih τ hs hi ha hc => ?_) (fun τ hs hi ha hc => ?_)
    · have hkn : k ≤ nR M := by
        have := yCount_le (p := fun r => (yIsl (ySet M T A P reach k).1 (ySet M T A P reach k).2 r).isSome) (n := nR M)
        omega
      refine bX8_laysIslands_51 _ _ _ ?_
      rcases hf : yFirst M T A P (ySet M T A P reach k).1 (ySet M T A P reach k).2 reach with _ | r
      · try simp only [xi_iload, xi_aload, xi_lload, xi_istore, xi_astore, xi_lstore, xi_ic, xi_lc, xi_iinc, xi_iadd, xi_isub, xi_imul, xi_iand, xi_iushr, xi_ineg, xi_idiv, xi_irem, xi_ladd, xi_lmul, xi_lrem, xi_lcmp, xi_i2l, xi_l2i, xi_i2c, xi_dup, xi_dup2, xi_pop, xi_ifeq, xi_ifne, xi_iflt, xi_ifge, xi_ifgt, xi_ifle, xi_iceq, xi_icne, xi_iclt, xi_icge, xi_icgt, xi_icle, xi_iret, xi_zret, xi_lret, xi_vret, xi_getf, xi_putf, xi_ald, xi_ast, xi_alen, xi_callV, xi_callS, xpop, xroom, xl, xst, xok1, xok2, xnarrow, xwide, xone, xent, List.replicate, Option.isSome_some, Bool.and_self, Bool.true_and, Bool.and_true, List.length_cons, List.length_nil, Nat.reduceAdd, Nat.reduceLT, decide_true, Bool.not_false, Nat.beq, Nat.ble, Option.toList, List.nil_append, List.cons_append, oI]
        refine ⟨fun _ => ?_, fun q => absurd (by trivial) q⟩
        rw [← hR]
        have e := ySet_stay hf (nR M) hkn
        refine ⟨rfl, hs, ?_, ?_⟩
        · unfold yIL yIN; rw [e]; exact hi
        · unfold yIL yIN; rw [e]; exact ha
      · obtain ⟨hr1, hr2, hr3, hr4⟩ := yFirst_spec hf
        have hn := yFirst_none hf
        have hM := h.s30 hs (by decide) (by decide)
        obtain ⟨⟨n1, n8, n13, n19⟩, a55, ⟨a56, a57, a58, a59, a60, a61⟩, ⟨a62, a63, a64, a65⟩, a66, a67, a68, a69, a70⟩ := id hM
        obtain ⟨hi1, hi2⟩ := id hi
        have hw1 := (w.2.2.2.2.2.2.1 r hr1).1
        have hLk := (ySet_ok (M := M) (T := T) (A := A) (P := P) (reach := reach) k).1
        have hnl := nIs_le (M := M) (il := (ySet M T A P reach k).1) (L := (ySet M T A P reach k).2) (s := yRS M r)
        have eS : ySet M T A P reach (k + 1) = (ilAdd (ySet M T A P reach k).1 (ySet M T A P reach k).2 r, (ySet M T A P reach k).2 + 1) := by rw [ySet, hf]
        generalize hil : (ySet M T A P reach k).1 = il at *
        generalize hLL : (ySet M T A P reach k).2 = L at *
        have e80 : ∀ v : Int32, xup τ 79 r v 80 (yRS M r) = nI (nIs M il (yRS M r) L) := fun v => by rw [xup_n (by decide)]; exact hi1 _ hw1
        have e67 : ∀ v : Int32, xup τ 79 r v 67 r = nI (yRS M r) := fun v => by rw [xup_n (by decide)]; exact a67 r hr1
        try simp (disch := omega) only [xi_iload, xi_aload, xi_lload, xi_istore, xi_astore, xi_lstore, xi_ic, xi_lc, xi_iinc, xi_iadd, xi_isub, xi_imul, xi_iand, xi_iushr, xi_ineg, xi_idiv, xi_irem, xi_ladd, xi_lmul, xi_lrem, xi_lcmp, xi_i2l, xi_l2i, xi_i2c, xi_dup, xi_dup2, xi_pop, xi_ifeq, xi_ifne, xi_iflt, xi_ifge, xi_ifgt, xi_ifle, xi_iceq, xi_icne, xi_iclt, xi_icge, xi_icgt, xi_icle, xi_iret, xi_zret, xi_lret, xi_vret, xi_getf, xi_putf, xi_ald, xi_ast, xi_alen, xi_callV, xi_callS, xpop, xroom, xl, xst, xok1, xok2, xnarrow, xwide, xone, xent, List.replicate, Option.isSome_some, Bool.and_self, Bool.true_and, Bool.and_true, List.length_cons, List.length_nil, Nat.reduceAdd, Nat.reduceLT, decide_true, Bool.not_false, Nat.beq, Nat.ble, Option.toList, List.nil_append, List.cons_append, xf_30_0, xf_30_1, xf_30_2, xf_30_3, xf_30_4, xf_30_5, xf_30_6, xf_30_7, xf_30_8, xf_30_9, xf_30_10, xf_30_11, xf_30_12, xf_30_13, xf_30_14, xf_30_15, xf_30_16, xf_30_17, xf_30_18, xf_30_19, xf_30_20, xf_30_21, xf_30_22, xf_30_23, xf_30_24, xf_30_25, xf_30_26, xf_30_27, xf_30_28, xf_30_29, xf_30_30, xf_30_31, xf_30_32, xf_30_33, xf_30_34, xf_30_35, xf_30_36, xf_30_37, xf_30_38, xf_30_39, xf_30_40, xf_30_41, xf_30_42, xf_30_43, xf_30_44, xf_30_45, xf_30_46, xf_30_47, xf_30_48, xf_30_49, xf_30_50, xa_55, xa_56, xa_57, xa_58, xa_59, xa_60, xa_61, xa_62, xa_63, xa_64, xa_65, xa_66, xa_67, xa_68, xa_69, xa_70, xa_71, xa_72, xa_73, xa_74, xa_75, xa_76, xa_77, xa_78, xa_79, xa_80, xa_81, xa_82, xa_83, xa_84, xa_85, xa_86, xa_87, xa_88, vp_nI, nI_clamp, true_and, and_true, nI_1, nI_add, pk_mul, nI_leI, nI_ltI, nI_eq, nI_le0, nI_lt0, b2i_ne, b2i_inj, b2i_nar, b2i_t, b2i_f, n1, n8, n13, n19, a55, a56, a57, a58, a59, a60, a61, a62, a63, a64, a65, a66, a67, a68, a69, a70, x115, x119, x108, x99, x97, q16, q2, q3, q4, q8, q10, q160, q40, q24, q100, q1000, q999, oI, hi1, e80, e67]
        refine ⟨fun q => absurd q (nIm r (by omega)), fun _ => ?_⟩
        generalize hτ2 : xup (xup τ 79 r (nI (nIs M il (yRS M r) L))) 80 (yRS M r) (nI (nIs M il (yRS M r) L + 1)) = τ2
        have hs2 : xs30 [35, 36] [77, 78, 79, 80] τ τ2 := by rw [← hτ2]; exact (xs30.upc rfl rfl).tr (xs30.upc rfl rfl)
        have hs02 := hs.tr hs2
        have hi' : MIs τ2 M (ySet M T A P reach (k + 1)).1 (ySet M T A P reach (k + 1)).2 := by
          rw [eS]
          refine ⟨fun s hsn => ?_, fun q hq => ?_⟩
          · have e1 : nIs M (ilAdd il L r) s (L + 1) = nIs M il s L + if (yRS M r == s) = true then 1 else 0 := by
              have e2 : ilAdd il L r L = r := by unfold ilAdd; rw [if_pos rfl]
              have e0 : nIs M (ilAdd il L r) s (L + 1) = nIs M (ilAdd il L r) s L + if (yRS M (ilAdd il L r L) == s) = true then 1 else 0 := rfl
              rw [e0, nIs_add (Nat.le_refl L), e2]
            dsimp only
            rw [e1, ← hτ2, xup_ap]
            by_cases hsr : s = yRS M r
            · rw [if_pos ⟨rfl, hsr⟩, hsr]; simp
            · rw [if_neg (fun z => hsr z.2), xup_n (by decide), hi1 s hsn, show (yRS M r == s) = false by simpa using fun z => hsr z.symm]; rfl
          · dsimp only
            rw [yIsl_add hn, ← hτ2, xup_n (by decide), xup_ap]
            by_cases hqr : q = r
            · rw [if_pos ⟨rfl, hqr⟩, if_pos hqr, hqr]
              show _ = oI (some (nIs M (ilAdd il L r) (yRS M r) L))
              rw [nIs_add (Nat.le_refl L)]; rfl
            · rw [if_neg (fun z => hqr z.2), if_neg hqr, hi2 q hq]
              rcases hy : yIsl il L q with _ | i
              · rfl
              · have := (yIsl_lt hy).1
                show oI (some (nIs M il (yRS M q) i)) = oI (some (nIs M (ilAdd il L r) (yRS M q) i))
                rw [nIs_add (by omega)]
        have hck : k + 1 ≤ yCount (fun r => (yIsl (ySet M T A P reach (k + 1)).1 (ySet M T A P reach (k + 1)).2 r).isSome) (nR M) := by
          rw [eS]
          try dsimp only
          have := yCount_lt (p := fun q => (yIsl il L q).isSome) (q := fun q => (yIsl (ilAdd il L r) (L + 1) q).isSome) (n := nR M) (fun q _ hq => by
            try dsimp only at hq ⊢
            rw [yIsl_add hn]
            split
            · rfl
            · exact hq) ⟨r, hr1, by (try dsimp only); rw [yIsl_add hn, if_pos rfl]; rfl, by (try dsimp only); rw [hn]; rfl⟩
          omega
        have hk1 : k + 1 ≤ nR M := by
          have := yCount_le (p := fun r => (yIsl (ySet M T A P reach (k + 1)).1 (ySet M T A P reach (k + 1)).2 r).isSome) (n := nR M)
          omega
        have hil2 := ySet_il (T := T) (A := A) (P := P) (reach := reach) w hk1
        refine x_R (sX8_laysAll (h.s30 hs02 (by decide) (by decide)) w x (hS.s30 hs02 (by decide)) (hL.s30 hs02 (by decide) (by decide)) (hF.s30 hs02 (by decide)) hil2.1 hi' hP) (fun v τ3 hτ3 => ?_)
        obtain ⟨rfl, hs3, ha3⟩ := hτ3
        have hs03 := hs02.tr (hs3.wk (by decide) (by decide))
        try simp only [xi_iload, xi_aload, xi_lload, xi_istore, xi_astore, xi_lstore, xi_ic, xi_lc, xi_iinc, xi_iadd, xi_isub, xi_imul, xi_iand, xi_iushr, xi_ineg, xi_idiv, xi_irem, xi_ladd, xi_lmul, xi_lrem, xi_lcmp, xi_i2l, xi_l2i, xi_i2c, xi_dup, xi_dup2, xi_pop, xi_ifeq, xi_ifne, xi_iflt, xi_ifge, xi_ifgt, xi_ifle, xi_iceq, xi_icne, xi_iclt, xi_icge, xi_icgt, xi_icle, xi_iret, xi_zret, xi_lret, xi_vret, xi_getf, xi_putf, xi_ald, xi_ast, xi_alen, xi_callV, xi_callS, xpop, xroom, xl, xst, xok1, xok2, xnarrow, xwide, xone, xent, List.replicate, Option.isSome_some, Bool.and_self, Bool.true_and, Bool.and_true, List.length_cons, List.length_nil, Nat.reduceAdd, Nat.reduceLT, decide_true, Bool.not_false, Nat.beq, Nat.ble, Option.toList, List.nil_append, List.cons_append, xf_30_0, xf_30_1, xf_30_2, xf_30_3, xf_30_4, xf_30_5, xf_30_6, xf_30_7, xf_30_8, xf_30_9, xf_30_10, xf_30_11, xf_30_12, xf_30_13, xf_30_14, xf_30_15, xf_30_16, xf_30_17, xf_30_18, xf_30_19, xf_30_20, xf_30_21, xf_30_22, xf_30_23, xf_30_24, xf_30_25, xf_30_26, xf_30_27, xf_30_28, xf_30_29, xf_30_30, xf_30_31, xf_30_32, xf_30_33, xf_30_34, xf_30_35, xf_30_36, xf_30_37, xf_30_38, xf_30_39, xf_30_40, xf_30_41, xf_30_42, xf_30_43, xf_30_44, xf_30_45, xf_30_46, xf_30_47, xf_30_48, xf_30_49, xf_30_50, xa_55, xa_56, xa_57, xa_58, xa_59, xa_60, xa_61, xa_62, xa_63, xa_64, xa_65, xa_66, xa_67, xa_68, xa_69, xa_70, xa_71, xa_72, xa_73, xa_74, xa_75, xa_76, xa_77, xa_78, xa_79, xa_80, xa_81, xa_82, xa_83, xa_84, xa_85, xa_86, xa_87, xa_88]
        refine x_F (sX8_firstFar (h.s30 hs03 (by decide) (by decide)) w (hG.s30 hs03 (by decide)) (hL.s30 hs03 (by decide) (by decide)) (hF.s30 hs03 (by decide)) (hi'.s30 hs3 (by decide) (by decide)) hil2 ha3 hP (by rw [hs03.f (by decide)]; exact h22) hre hgo) ?_
        try simp only [xi_iload, xi_aload, xi_lload, xi_istore, xi_astore, xi_lstore, xi_ic, xi_lc, xi_iinc, xi_iadd, xi_isub, xi_imul, xi_iand, xi_iushr, xi_ineg, xi_idiv, xi_irem, xi_ladd, xi_lmul, xi_lrem, xi_lcmp, xi_i2l, xi_l2i, xi_i2c, xi_dup, xi_dup2, xi_pop, xi_ifeq, xi_ifne, xi_iflt, xi_ifge, xi_ifgt, xi_ifle, xi_iceq, xi_icne, xi_iclt, xi_icge, xi_icgt, xi_icle, xi_iret, xi_zret, xi_lret, xi_vret, xi_getf, xi_putf, xi_ald, xi_ast, xi_alen, xi_callV, xi_callS, xpop, xroom, xl, xst, xok1, xok2, xnarrow, xwide, xone, xent, List.replicate, Option.isSome_some, Bool.and_self, Bool.true_and, Bool.and_true, List.length_cons, List.length_nil, Nat.reduceAdd, Nat.reduceLT, decide_true, Bool.not_false, Nat.beq, Nat.ble, Option.toList, List.nil_append, List.cons_append]
        exact ih τ3 hs03 (hi'.s30 hs3 (by decide) (by decide)) ha3 hck
    · exfalso
      have := yCount_le (p := fun r => (yIsl (ySet M T A P reach (nR M + 1)).1 (ySet M T A P reach (nR M + 1)).2 r).isSome) (n := nR M)
      omega
  have key2 : ∀ j, j ≤ 40 → ∀ τ, xs30 [35, 36] [77, 78, 79, 80] σ τ → (∀ s, s < nS M → τ 80 s = 0) → (∀ r, r < j → τ 79 r = -1) → AX8_laysIslands G (d + 3 + 1) R 23 [some (.ref 30), some (.int (nI j))] [] τ := by
    refine loop_up (fun j hj ih τ hs h0 h1 => ?_) (fun τ hs h0 h1 => ?_)
    · refine bX8_laysIslands_23 _ _ _ ?_
      have i0 := ih (xup τ 79 j (-1)) (hs.tr (xs30.upc rfl rfl)) (fun s hsn => by rw [xup_n (by decide)]; exact h0 s hsn) (fun r hrj => by
        rw [xup_ap]
        by_cases hrj2 : r = j
        · rw [if_pos ⟨rfl, hrj2⟩]
        · rw [if_neg (fun z => hrj2 z.2)]; exact h1 r (by omega))
      have hM := h.s30 hs (by decide) (by decide)
      obtain ⟨⟨n1, n8, n13, n19⟩, a55, ⟨a56, a57, a58, a59, a60, a61⟩, ⟨a62, a63, a64, a65⟩, a66, a67, a68, a69, a70⟩ := id hM
      try simp (disch := omega) only [xi_iload, xi_aload, xi_lload, xi_istore, xi_astore, xi_lstore, xi_ic, xi_lc, xi_iinc, xi_iadd, xi_isub, xi_imul, xi_iand, xi_iushr, xi_ineg, xi_idiv, xi_irem, xi_ladd, xi_lmul, xi_lrem, xi_lcmp, xi_i2l, xi_l2i, xi_i2c, xi_dup, xi_dup2, xi_pop, xi_ifeq, xi_ifne, xi_iflt, xi_ifge, xi_ifgt, xi_ifle, xi_iceq, xi_icne, xi_iclt, xi_icge, xi_icgt, xi_icle, xi_iret, xi_zret, xi_lret, xi_vret, xi_getf, xi_putf, xi_ald, xi_ast, xi_alen, xi_callV, xi_callS, xpop, xroom, xl, xst, xok1, xok2, xnarrow, xwide, xone, xent, List.replicate, Option.isSome_some, Bool.and_self, Bool.true_and, Bool.and_true, List.length_cons, List.length_nil, Nat.reduceAdd, Nat.reduceLT, decide_true, Bool.not_false, Nat.beq, Nat.ble, Option.toList, List.nil_append, List.cons_append, xf_30_0, xf_30_1, xf_30_2, xf_30_3, xf_30_4, xf_30_5, xf_30_6, xf_30_7, xf_30_8, xf_30_9, xf_30_10, xf_30_11, xf_30_12, xf_30_13, xf_30_14, xf_30_15, xf_30_16, xf_30_17, xf_30_18, xf_30_19, xf_30_20, xf_30_21, xf_30_22, xf_30_23, xf_30_24, xf_30_25, xf_30_26, xf_30_27, xf_30_28, xf_30_29, xf_30_30, xf_30_31, xf_30_32, xf_30_33, xf_30_34, xf_30_35, xf_30_36, xf_30_37, xf_30_38, xf_30_39, xf_30_40, xf_30_41, xf_30_42, xf_30_43, xf_30_44, xf_30_45, xf_30_46, xf_30_47, xf_30_48, xf_30_49, xf_30_50, xa_55, xa_56, xa_57, xa_58, xa_59, xa_60, xa_61, xa_62, xa_63, xa_64, xa_65, xa_66, xa_67, xa_68, xa_69, xa_70, xa_71, xa_72, xa_73, xa_74, xa_75, xa_76, xa_77, xa_78, xa_79, xa_80, xa_81, xa_82, xa_83, xa_84, xa_85, xa_86, xa_87, xa_88, vp_nI, nI_clamp, true_and, and_true, nI_1, nI_add, pk_mul, nI_leI, nI_ltI, nI_eq, nI_le0, nI_lt0, b2i_ne, b2i_inj, b2i_nar, b2i_t, b2i_f, n1, n8, n13, n19, a55, a56, a57, a58, a59, a60, a61, a62, a63, a64, a65, a66, a67, a68, a69, a70, x115, x119, x108, x99, x97, q16, q2, q3, q4, q8, q10, q160, q40, q24, q100, q1000, q999]
      exact ⟨fun q => absurd q (by omega), fun _ => i0⟩
    · refine bX8_laysIslands_23 _ _ _ ?_
      have hi0 : MIs τ M (ySet M T A P reach 0).1 (ySet M T A P reach 0).2 := ⟨fun s hsn => by rw [h0 s hsn]; rfl, fun r hr => by rw [h1 r (by omega)]; rfl⟩
      have hil2 := ySet_il (T := T) (A := A) (P := P) (reach := reach) w (Nat.zero_le _)
      try simp only [xi_iload, xi_aload, xi_lload, xi_istore, xi_astore, xi_lstore, xi_ic, xi_lc, xi_iinc, xi_iadd, xi_isub, xi_imul, xi_iand, xi_iushr, xi_ineg, xi_idiv, xi_irem, xi_ladd, xi_lmul, xi_lrem, xi_lcmp, xi_i2l, xi_l2i, xi_i2c, xi_dup, xi_dup2, xi_pop, xi_ifeq, xi_ifne, xi_iflt, xi_ifge, xi_ifgt, xi_ifle, xi_iceq, xi_icne, xi_iclt, xi_icge, xi_icgt, xi_icle, xi_iret, xi_zret, xi_lret, xi_vret, xi_getf, xi_putf, xi_ald, xi_ast, xi_alen, xi_callV, xi_callS, xpop, xroom, xl, xst, xok1, xok2, xnarrow, xwide, xone, xent, List.replicate, Option.isSome_some, Bool.and_self, Bool.true_and, Bool.and_true, List.length_cons, List.length_nil, Nat.reduceAdd, Nat.reduceLT, decide_true, Bool.not_false, Nat.beq, Nat.ble, Option.toList, List.nil_append, List.cons_append, xf_30_0, xf_30_1, xf_30_2, xf_30_3, xf_30_4, xf_30_5, xf_30_6, xf_30_7, xf_30_8, xf_30_9, xf_30_10, xf_30_11, xf_30_12, xf_30_13, xf_30_14, xf_30_15, xf_30_16, xf_30_17, xf_30_18, xf_30_19, xf_30_20, xf_30_21, xf_30_22, xf_30_23, xf_30_24, xf_30_25, xf_30_26, xf_30_27, xf_30_28, xf_30_29, xf_30_30, xf_30_31, xf_30_32, xf_30_33, xf_30_34, xf_30_35, xf_30_36, xf_30_37, xf_30_38, xf_30_39, xf_30_40, xf_30_41, xf_30_42, xf_30_43, xf_30_44, xf_30_45, xf_30_46, xf_30_47, xf_30_48, xf_30_49, xf_30_50, xa_55, xa_56, xa_57, xa_58, xa_59, xa_60, xa_61, xa_62, xa_63, xa_64, xa_65, xa_66, xa_67, xa_68, xa_69, xa_70, xa_71, xa_72, xa_73, xa_74, xa_75, xa_76, xa_77, xa_78, xa_79, xa_80, xa_81, xa_82, xa_83, xa_84, xa_85, xa_86, xa_87, xa_88]
      refine ⟨fun _ => x_R (sX8_laysAll (h.s30 hs (by decide) (by decide)) w x (hS.s30 hs (by decide)) (hL.s30 hs (by decide) (by decide)) (hF.s30 hs (by decide)) hil2.1 hi0 hP) (fun v τ3 hτ3 => ?_), fun q => absurd (show (40 : Int32) ≤ nI 40 by decide) q⟩
      obtain ⟨rfl, hs3, ha3⟩ := hτ3
      have hs03 := hs.tr (hs3.wk (by decide) (by decide))
      try simp only [xi_iload, xi_aload, xi_lload, xi_istore, xi_astore, xi_lstore, xi_ic, xi_lc, xi_iinc, xi_iadd, xi_isub, xi_imul, xi_iand, xi_iushr, xi_ineg, xi_idiv, xi_irem, xi_ladd, xi_lmul, xi_lrem, xi_lcmp, xi_i2l, xi_l2i, xi_i2c, xi_dup, xi_dup2, xi_pop, xi_ifeq, xi_ifne, xi_iflt, xi_ifge, xi_ifgt, xi_ifle, xi_iceq, xi_icne, xi_iclt, xi_icge, xi_icgt, xi_icle, xi_iret, xi_zret, xi_lret, xi_vret, xi_getf, xi_putf, xi_ald, xi_ast, xi_alen, xi_callV, xi_callS, xpop, xroom, xl, xst, xok1, xok2, xnarrow, xwide, xone, xent, List.replicate, Option.isSome_some, Bool.and_self, Bool.true_and, Bool.and_true, List.length_cons, List.length_nil, Nat.reduceAdd, Nat.reduceLT, decide_true, Bool.not_false, Nat.beq, Nat.ble, Option.toList, List.nil_append, List.cons_append, xf_30_0, xf_30_1, xf_30_2, xf_30_3, xf_30_4, xf_30_5, xf_30_6, xf_30_7, xf_30_8, xf_30_9, xf_30_10, xf_30_11, xf_30_12, xf_30_13, xf_30_14, xf_30_15, xf_30_16, xf_30_17, xf_30_18, xf_30_19, xf_30_20, xf_30_21, xf_30_22, xf_30_23, xf_30_24, xf_30_25, xf_30_26, xf_30_27, xf_30_28, xf_30_29, xf_30_30, xf_30_31, xf_30_32, xf_30_33, xf_30_34, xf_30_35, xf_30_36, xf_30_37, xf_30_38, xf_30_39, xf_30_40, xf_30_41, xf_30_42, xf_30_43, xf_30_44, xf_30_45, xf_30_46, xf_30_47, xf_30_48, xf_30_49, xf_30_50, xa_55, xa_56, xa_57, xa_58, xa_59, xa_60, xa_61, xa_62, xa_63, xa_64, xa_65, xa_66, xa_67, xa_68, xa_69, xa_70, xa_71, xa_72, xa_73, xa_74, xa_75, xa_76, xa_77, xa_78, xa_79, xa_80, xa_81, xa_82, xa_83, xa_84, xa_85, xa_86, xa_87, xa_88]
      refine x_F (sX8_firstFar (h.s30 hs03 (by decide) (by decide)) w (hG.s30 hs03 (by decide)) (hL.s30 hs03 (by decide) (by decide)) (hF.s30 hs03 (by decide)) (hi0.s30 hs3 (by decide) (by decide)) hil2 ha3 hP (by rw [hs03.f (by decide)]; exact h22) hre hgo) ?_
      try simp only [xi_iload, xi_aload, xi_lload, xi_istore, xi_astore, xi_lstore, xi_ic, xi_lc, xi_iinc, xi_iadd, xi_isub, xi_imul, xi_iand, xi_iushr, xi_ineg, xi_idiv, xi_irem, xi_ladd, xi_lmul, xi_lrem, xi_lcmp, xi_i2l, xi_l2i, xi_i2c, xi_dup, xi_dup2, xi_pop, xi_ifeq, xi_ifne, xi_iflt, xi_ifge, xi_ifgt, xi_ifle, xi_iceq, xi_icne, xi_iclt, xi_icge, xi_icgt, xi_icle, xi_iret, xi_zret, xi_lret, xi_vret, xi_getf, xi_putf, xi_ald, xi_ast, xi_alen, xi_callV, xi_callS, xpop, xroom, xl, xst, xok1, xok2, xnarrow, xwide, xone, xent, List.replicate, Option.isSome_some, Bool.and_self, Bool.true_and, Bool.and_true, List.length_cons, List.length_nil, Nat.reduceAdd, Nat.reduceLT, decide_true, Bool.not_false, Nat.beq, Nat.ble, Option.toList, List.nil_append, List.cons_append]
      exact turns 0 (by omega) τ3 hs03 (hi0.s30 hs3 (by decide) (by decide)) ha3 (Nat.zero_le _)
  have key : ∀ j, j ≤ 24 → ∀ τ, xs30 [35, 36] [77, 78, 79, 80] σ τ → (∀ s, s < j → τ 80 s = 0) → AX8_laysIslands G (d + 3 + 1) R 2 [some (.ref 30), some (.int (nI j))] [] τ := by
    refine loop_up (fun j hj ih τ hs h0 => ?_) (fun τ hs h0 => ?_)
    · refine bX8_laysIslands_2 _ _ _ ?_
      have i0 := ih (xup τ 80 j 0) (hs.tr (xs30.upc rfl rfl)) (fun s hsn => by
        rw [xup_ap]
        by_cases hsj2 : s = j
        · rw [if_pos ⟨rfl, hsj2⟩]
        · rw [if_neg (fun z => hsj2 z.2)]; exact h0 s (by omega))
      have hM := h.s30 hs (by decide) (by decide)
      obtain ⟨⟨n1, n8, n13, n19⟩, a55, ⟨a56, a57, a58, a59, a60, a61⟩, ⟨a62, a63, a64, a65⟩, a66, a67, a68, a69, a70⟩ := id hM
      try simp (disch := omega) only [xi_iload, xi_aload, xi_lload, xi_istore, xi_astore, xi_lstore, xi_ic, xi_lc, xi_iinc, xi_iadd, xi_isub, xi_imul, xi_iand, xi_iushr, xi_ineg, xi_idiv, xi_irem, xi_ladd, xi_lmul, xi_lrem, xi_lcmp, xi_i2l, xi_l2i, xi_i2c, xi_dup, xi_dup2, xi_pop, xi_ifeq, xi_ifne, xi_iflt, xi_ifge, xi_ifgt, xi_ifle, xi_iceq, xi_icne, xi_iclt, xi_icge, xi_icgt, xi_icle, xi_iret, xi_zret, xi_lret, xi_vret, xi_getf, xi_putf, xi_ald, xi_ast, xi_alen, xi_callV, xi_callS, xpop, xroom, xl, xst, xok1, xok2, xnarrow, xwide, xone, xent, List.replicate, Option.isSome_some, Bool.and_self, Bool.true_and, Bool.and_true, List.length_cons, List.length_nil, Nat.reduceAdd, Nat.reduceLT, decide_true, Bool.not_false, Nat.beq, Nat.ble, Option.toList, List.nil_append, List.cons_append, xf_30_0, xf_30_1, xf_30_2, xf_30_3, xf_30_4, xf_30_5, xf_30_6, xf_30_7, xf_30_8, xf_30_9, xf_30_10, xf_30_11, xf_30_12, xf_30_13, xf_30_14, xf_30_15, xf_30_16, xf_30_17, xf_30_18, xf_30_19, xf_30_20, xf_30_21, xf_30_22, xf_30_23, xf_30_24, xf_30_25, xf_30_26, xf_30_27, xf_30_28, xf_30_29, xf_30_30, xf_30_31, xf_30_32, xf_30_33, xf_30_34, xf_30_35, xf_30_36, xf_30_37, xf_30_38, xf_30_39, xf_30_40, xf_30_41, xf_30_42, xf_30_43, xf_30_44, xf_30_45, xf_30_46, xf_30_47, xf_30_48, xf_30_49, xf_30_50, xa_55, xa_56, xa_57, xa_58, xa_59, xa_60, xa_61, xa_62, xa_63, xa_64, xa_65, xa_66, xa_67, xa_68, xa_69, xa_70, xa_71, xa_72, xa_73, xa_74, xa_75, xa_76, xa_77, xa_78, xa_79, xa_80, xa_81, xa_82, xa_83, xa_84, xa_85, xa_86, xa_87, xa_88, vp_nI, nI_clamp, true_and, and_true, nI_1, nI_add, pk_mul, nI_leI, nI_ltI, nI_eq, nI_le0, nI_lt0, b2i_ne, b2i_inj, b2i_nar, b2i_t, b2i_f, n1, n8, n13, n19, a55, a56, a57, a58, a59, a60, a61, a62, a63, a64, a65, a66, a67, a68, a69, a70, x115, x119, x108, x99, x97, q16, q2, q3, q4, q8, q10, q160, q40, q24, q100, q1000, q999]
      exact ⟨fun q => absurd q (by omega), fun _ => i0⟩
    · refine bX8_laysIslands_2 _ _ _ ?_
      try simp only [xi_iload, xi_aload, xi_lload, xi_istore, xi_astore, xi_lstore, xi_ic, xi_lc, xi_iinc, xi_iadd, xi_isub, xi_imul, xi_iand, xi_iushr, xi_ineg, xi_idiv, xi_irem, xi_ladd, xi_lmul, xi_lrem, xi_lcmp, xi_i2l, xi_l2i, xi_i2c, xi_dup, xi_dup2, xi_pop, xi_ifeq, xi_ifne, xi_iflt, xi_ifge, xi_ifgt, xi_ifle, xi_iceq, xi_icne, xi_iclt, xi_icge, xi_icgt, xi_icle, xi_iret, xi_zret, xi_lret, xi_vret, xi_getf, xi_putf, xi_ald, xi_ast, xi_alen, xi_callV, xi_callS, xpop, xroom, xl, xst, xok1, xok2, xnarrow, xwide, xone, xent, List.replicate, Option.isSome_some, Bool.and_self, Bool.true_and, Bool.and_true, List.length_cons, List.length_nil, Nat.reduceAdd, Nat.reduceLT, decide_true, Bool.not_false, Nat.beq, Nat.ble, Option.toList, List.nil_append, List.cons_append, xf_30_0, xf_30_1, xf_30_2, xf_30_3, xf_30_4, xf_30_5, xf_30_6, xf_30_7, xf_30_8, xf_30_9, xf_30_10, xf_30_11, xf_30_12, xf_30_13, xf_30_14, xf_30_15, xf_30_16, xf_30_17, xf_30_18, xf_30_19, xf_30_20, xf_30_21, xf_30_22, xf_30_23, xf_30_24, xf_30_25, xf_30_26, xf_30_27, xf_30_28, xf_30_29, xf_30_30, xf_30_31, xf_30_32, xf_30_33, xf_30_34, xf_30_35, xf_30_36, xf_30_37, xf_30_38, xf_30_39, xf_30_40, xf_30_41, xf_30_42, xf_30_43, xf_30_44, xf_30_45, xf_30_46, xf_30_47, xf_30_48, xf_30_49, xf_30_50, xa_55, xa_56, xa_57, xa_58, xa_59, xa_60, xa_61, xa_62, xa_63, xa_64, xa_65, xa_66, xa_67, xa_68, xa_69, xa_70, xa_71, xa_72, xa_73, xa_74, xa_75, xa_76, xa_77, xa_78, xa_79, xa_80, xa_81, xa_82, xa_83, xa_84, xa_85, xa_86, xa_87, xa_88]
      exact ⟨fun _ => x_forget (key2 0 (by omega) τ hs (fun s hsn => h0 s (by omega)) (fun r hr => by omega)) (by simp [xle, xst, nI_0]), fun q => absurd (show (24 : Int32) ≤ nI 24 by decide) q⟩
  exact x_forget (key 0 (by omega) σ xs30.rf (fun s hs => by omega)) (by simp [xle, xst, nI_0])
end S57
