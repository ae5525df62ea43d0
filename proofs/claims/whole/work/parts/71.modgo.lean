/-! the reference: unloading, binding -/
section S71
variable {G : XG} {d : Nat} {σ τ ρ : Sg} {M N : YM} {B : Nat} {js l : List Nat} {S : YS}
theorem yCount_s {p : Nat → Bool} {k : Nat} : yCount p (k + 1) = yCount p k + (if p k = true then 1 else 0) := rfl
theorem sX8_goes (h : MX σ N) (h43 : σ 30 43 = nI (nSt N)) (h84 : ∀ k, k < nSt N → σ 84 k = nI (N 40 k)) (h86 : ∀ z, z < 1280 → σ 86 z = pI (N 41 z)) (hb : nL N ≤ 8) (hs8 : nSt N ≤ 8) (ho : ∀ k, k < nSt N → N 40 k < 8) (h41 : ∀ z, N 41 z ≤ nL N) (h10 : ∀ r, N 41 (r * 10) = 0) (hno : anyB (yLvP N) 1280 = false) : XM G mX8_goes d [.ref 30] σ (fun v τ => v = some (.int (nI (yCount (fun k => N 54 (N 40 k) == 1) (nSt N)))) ∧ xs30 [43] [84, 86] σ τ ∧ τ 30 43 = nI (yCm N (nSt N)).2 ∧ (∀ k, k < nSt N → τ 84 k = nI ((yCm N (nSt N)).1 40 k)) ∧ ∀ z, z < 1280 → τ 86 z = pI (yDr N 1280 41 z)) := by
  refine xm_of (by decide +kernel) rfl (Nat.le_of_ble_eq_true rfl) ?_
  refine bX8_goes_0 _ _ _ ?_
  obtain ⟨h45, h82, h87, h88⟩ := h
  try simp only [xi_iload, xi_aload, xi_lload, xi_istore, xi_astore, xi_lstore, xi_ic, xi_lc, xi_iinc, xi_iadd, xi_isub, xi_imul, xi_iand, xi_iushr, xi_ineg, xi_idiv, xi_irem, xi_ladd, xi_lmul, xi_lrem, xi_lcmp, xi_i2l, xi_l2i, xi_i2c, xi_dup, xi_dup2, xi_pop, xi_ifeq, xi_ifne, xi_iflt, xi_ifge, xi_ifgt, xi_ifle, xi_iceq, xi_icne, xi_iclt, xi_icge, xi_icgt, xi_icle, xi_iret, xi_zret, xi_lret, xi_vret, xi_getf, xi_putf, xi_ald, xi_ast, xi_alen, xi_callV, xi_callS, xpop, xroom, xl, xst, xok1, xok2, xnarrow, xwide, xone, xent, List.replicate, Option.isSome_some, Bool.and_self, Bool.true_and, Bool.and_true, List.length_cons, List.length_nil, Nat.reduceAdd, Nat.reduceLT, decide_true, Bool.not_false, Nat.beq, Nat.ble, Option.toList, List.nil_append, List.cons_append]
  generalize hR : (fun (v : Option Value) (τ : Sg) => v = some (.int (nI (yCount (fun k => N 54 (N 40 k) == 1) (nSt N)))) ∧ xs30 [43] [84, 86] σ τ ∧ τ 30 43 = nI (yCm N (nSt N)).2 ∧ (∀ k, k < nSt N → τ 84 k = nI ((yCm N (nSt N)).1 40 k)) ∧ ∀ z, z < 1280 → τ 86 z = pI (yDr N 1280 41 z)) = R
  have second : ∀ k, k ≤ nSt N → ∀ τ, xs30 [] [84, 86] σ τ → (∀ i, i < nSt N → τ 84 i = nI ((yCm N k).1 40 i)) → (∀ z, z < 1280 → τ 86 z = pI (yDr N 1280 41 z)) → AX8_goes G d R 86 [some (.ref 30), some (.int (nI (yCount (fun k => N 54 (N 40 k) == 1) k))), some (.int (nI (yCm N k).2)), some (.int (nI k))] [] τ := by
    refine loop_up (fun k hk ih τ hs t84 t86 => ?_) (fun τ hs t84 t86 => ?_)
    · refine bX8_goes_86 _ _ _ ?_
      obtain ⟨c1, c2, c3⟩ := yCm_spec (N := N) (k := k)
      have t43 : τ 30 43 = nI (nSt N) := by rw [hs.f rfl]; exact h43
      have t88 : ∀ j, j < 8 → τ 88 j = b2i (N 54 j == 1) := fun j hj => by rw [hs.at rfl rfl]; exact h88 j hj
      have e40 : (yCm N k).1 40 k = N 40 k := c2 k (Nat.le_refl _)
      have e54 : (yCm N k).1 54 = N 54 := c3 54 (by decide)
      have hok := ho k hk
      have t84k : τ 84 k = nI (N 40 k) := by rw [t84 k hk, e40]
      rw [yCount_s] at ih
      try simp only [xi_iload, xi_aload, xi_lload, xi_istore, xi_astore, xi_lstore, xi_ic, xi_lc, xi_iinc, xi_iadd, xi_isub, xi_imul, xi_iand, xi_iushr, xi_ineg, xi_idiv, xi_irem, xi_ladd, xi_lmul, xi_lrem, xi_lcmp, xi_i2l, xi_l2i, xi_i2c, xi_dup, xi_dup2, xi_pop, xi_ifeq, xi_ifne, xi_iflt, xi_ifge, xi_ifgt, xi_ifle, xi_iceq, xi_icne, xi_iclt, xi_icge, xi_icgt, xi_icle, xi_iret, xi_zret, xi_lret, xi_vret, xi_getf, xi_putf, xi_ald, xi_ast, xi_alen, xi_callV, xi_callS, xpop, xroom, xl, xst, xok1, xok2, xnarrow, xwide, xone, xent, List.replicate, Option.isSome_some, Bool.and_self, Bool.true_and, Bool.and_true, List.length_cons, List.length_nil, Nat.reduceAdd, Nat.reduceLT, decide_true, Bool.not_false, Nat.beq, Nat.ble, Option.toList, List.nil_append, List.cons_append, xf_30_0, xf_30_1, xf_30_2, xf_30_3, xf_30_4, xf_30_5, xf_30_6, xf_30_7, xf_30_8, xf_30_9, xf_30_10, xf_30_11, xf_30_12, xf_30_13, xf_30_14, xf_30_15, xf_30_16, xf_30_17, xf_30_18, xf_30_19, xf_30_20, xf_30_21, xf_30_22, xf_30_23, xf_30_24, xf_30_25, xf_30_26, xf_30_27, xf_30_28, xf_30_29, xf_30_30, xf_30_31, xf_30_32, xf_30_33, xf_30_34, xf_30_35, xf_30_36, xf_30_37, xf_30_38, xf_30_39, xf_30_40, xf_30_41, xf_30_42, xf_30_43, xf_30_44, xf_30_45, xf_30_46, xf_30_47, xf_30_48, xf_30_49, xf_30_50, xa_55, xa_56, xa_57, xa_58, xa_59, xa_60, xa_61, xa_62, xa_63, xa_64, xa_65, xa_66, xa_67, xa_68, xa_69, xa_70, xa_71, xa_72, xa_73, xa_74, xa_75, xa_76, xa_77, xa_78, xa_79, xa_80, xa_81, xa_82, xa_83, xa_84, xa_85, xa_86, xa_87, xa_88, t43]
      simp (disch := omega) only [t84k, t88, vp_nI, nI_clamp, true_and, nI_leI, nI_1, b2i_ne]
      refine ⟨fun q => absurd q (by omega), fun _ => ⟨fun q => ?_, fun q => ?_⟩⟩
      · have hstep : yCm N (k + 1) = (yU (yCm N k).1 40 (yCm N k).2 (N 40 k), (yCm N k).2 + 1) := by
          rw [yCm, e54, e40, if_neg (by simpa using q)]
        rw [hstep, if_neg (by rw [q]; decide), Nat.add_zero] at ih
        refine ih _ (hs.tr (xs30.upc rfl rfl)) (fun i hi => ?_) (fun z hz => by rw [xup_n (by decide)]; exact t86 z hz)
        rw [xup_ap]
        dsimp only
        unfold yU
        by_cases hij : i = (yCm N k).2
        · rw [if_pos ⟨rfl, hij⟩, if_pos ⟨rfl, hij⟩]
        · rw [if_neg (fun q => hij q.2), if_neg (fun q => hij q.2)]; exact t84 i hi
      · have hstep : yCm N (k + 1) = yCm N k := by
          rw [yCm, e54, e40, if_pos (by simpa using q)]
        rw [hstep, if_pos (by simpa using q)] at ih
        exact ih τ hs t84 t86
    · refine bX8_goes_86 _ _ _ ?_
      have t43 : τ 30 43 = nI (nSt N) := by rw [hs.f rfl]; exact h43
      try simp only [xi_iload, xi_aload, xi_lload, xi_istore, xi_astore, xi_lstore, xi_ic, xi_lc, xi_iinc, xi_iadd, xi_isub, xi_imul, xi_iand, xi_iushr, xi_ineg, xi_idiv, xi_irem, xi_ladd, xi_lmul, xi_lrem, xi_lcmp, xi_i2l, xi_l2i, xi_i2c, xi_dup, xi_dup2, xi_pop, xi_ifeq, xi_ifne, xi_iflt, xi_ifge, xi_ifgt, xi_ifle, xi_iceq, xi_icne, xi_iclt, xi_icge, xi_icgt, xi_icle, xi_iret, xi_zret, xi_lret, xi_vret, xi_getf, xi_putf, xi_ald, xi_ast, xi_alen, xi_callV, xi_callS, xpop, xroom, xl, xst, xok1, xok2, xnarrow, xwide, xone, xent, List.replicate, Option.isSome_some, Bool.and_self, Bool.true_and, Bool.and_true, List.length_cons, List.length_nil, Nat.reduceAdd, Nat.reduceLT, decide_true, Bool.not_false, Nat.beq, Nat.ble, Option.toList, List.nil_append, List.cons_append, xf_30_0, xf_30_1, xf_30_2, xf_30_3, xf_30_4, xf_30_5, xf_30_6, xf_30_7, xf_30_8, xf_30_9, xf_30_10, xf_30_11, xf_30_12, xf_30_13, xf_30_14, xf_30_15, xf_30_16, xf_30_17, xf_30_18, xf_30_19, xf_30_20, xf_30_21, xf_30_22, xf_30_23, xf_30_24, xf_30_25, xf_30_26, xf_30_27, xf_30_28, xf_30_29, xf_30_30, xf_30_31, xf_30_32, xf_30_33, xf_30_34, xf_30_35, xf_30_36, xf_30_37, xf_30_38, xf_30_39, xf_30_40, xf_30_41, xf_30_42, xf_30_43, xf_30_44, xf_30_45, xf_30_46, xf_30_47, xf_30_48, xf_30_49, xf_30_50, xa_55, xa_56, xa_57, xa_58, xa_59, xa_60, xa_61, xa_62, xa_63, xa_64, xa_65, xa_66, xa_67, xa_68, xa_69, xa_70, xa_71, xa_72, xa_73, xa_74, xa_75, xa_76, xa_77, xa_78, xa_79, xa_80, xa_81, xa_82, xa_83, xa_84, xa_85, xa_86, xa_87, xa_88, t43]
      refine ⟨fun _ => ⟨xnok_i _, ?_⟩, fun q => absurd (nI_le (Nat.le_refl _) (by omega)) q⟩
      rw [← hR]
      exact ⟨rfl, (hs.wk (by decide) (by decide)).tr (xs30.up rfl), by rw [xu_e], fun i hi => by rw [xup_n (by decide)]; exact t84 i hi, fun z hz => by rw [xup_n (by decide)]; exact t86 z hz⟩
  have first : ∀ j, j ≤ 1280 → ∀ τ, xs30 [] [84, 86] σ τ → (∀ i, i < nSt N → τ 84 i = nI (N 40 i)) → (∀ z, z < 1280 → τ 86 z = if z < j then pI (yDr N 1280 41 z) else pI (N 41 z)) → AX8_goes G d R 4 [some (.ref 30), some (.int 0), some (.int (nI j)), none] [] τ := by
    refine loop_up (fun j hj ih τ hs t84 t86 => ?_) (fun τ hs t84 t86 => ?_)
    · have t88 : ∀ j, j < 8 → τ 88 j = b2i (N 54 j == 1) := fun j hj => by rw [hs.at rfl rfl]; exact h88 j hj
      have h4 := h41 j
      have hd : j / 160 < 8 := by omega
      have e86 : τ 86 j = pI (N 41 j) := by rw [t86 j hj, if_neg (by omega)]
      have hnext : ∀ v : Int32, v = pI (yDr N 1280 41 j) → ∀ z, AX8_goes G d R 4 [some (.ref 30), some (.int 0), some (.int (nI (j + 1))), z] [] (xup τ 86 j v) := fun v hv z => x_forget (ih _ (hs.tr (xs30.upc rfl rfl)) (fun i hi => by rw [xup_n (by decide)]; exact t84 i hi) (fun z hz => by
        rw [xup_ap]
        by_cases hzj : z = j
        · rw [if_pos ⟨rfl, hzj⟩, if_pos (by omega), hv, hzj]
        · rw [if_neg (fun q => hzj q.2), t86 z hz]
          by_cases hlt : z < j
          · rw [if_pos hlt, if_pos (by omega)]
          · rw [if_neg hlt, if_neg (by omega)])) (by simp [xle])
      have h55 : ∀ b : Bool, (b = true → yDr N 1280 41 j = 0) → (b = false → yDr N 1280 41 j = N 41 j) → AX8_goes G d R 55 [some (.ref 30), some (.int 0), some (.int (nI j)), none] [.int (b2i b)] τ := by
        intro b h1 h2
        refine bX8_goes_55 _ _ _ ?_
        cases b with
        | false =>
          have i0 := hnext (pI (N 41 j)) (by rw [h2 rfl]) (some (.int 0))
          try simp only [xi_iload, xi_aload, xi_lload, xi_istore, xi_astore, xi_lstore, xi_ic, xi_lc, xi_iinc, xi_iadd, xi_isub, xi_imul, xi_iand, xi_iushr, xi_ineg, xi_idiv, xi_irem, xi_ladd, xi_lmul, xi_lrem, xi_lcmp, xi_i2l, xi_l2i, xi_i2c, xi_dup, xi_dup2, xi_pop, xi_ifeq, xi_ifne, xi_iflt, xi_ifge, xi_ifgt, xi_ifle, xi_iceq, xi_icne, xi_iclt, xi_icge, xi_icgt, xi_icle, xi_iret, xi_zret, xi_lret, xi_vret, xi_getf, xi_putf, xi_ald, xi_ast, xi_alen, xi_callV, xi_callS, xpop, xroom, xl, xst, xok1, xok2, xnarrow, xwide, xone, xent, List.replicate, Option.isSome_some, Bool.and_self, Bool.true_and, Bool.and_true, List.length_cons, List.length_nil, Nat.reduceAdd, Nat.reduceLT, decide_true, Bool.not_false, Nat.beq, Nat.ble, Option.toList, List.nil_append, List.cons_append, xf_30_0, xf_30_1, xf_30_2, xf_30_3, xf_30_4, xf_30_5, xf_30_6, xf_30_7, xf_30_8, xf_30_9, xf_30_10, xf_30_11, xf_30_12, xf_30_13, xf_30_14, xf_30_15, xf_30_16, xf_30_17, xf_30_18, xf_30_19, xf_30_20, xf_30_21, xf_30_22, xf_30_23, xf_30_24, xf_30_25, xf_30_26, xf_30_27, xf_30_28, xf_30_29, xf_30_30, xf_30_31, xf_30_32, xf_30_33, xf_30_34, xf_30_35, xf_30_36, xf_30_37, xf_30_38, xf_30_39, xf_30_40, xf_30_41, xf_30_42, xf_30_43, xf_30_44, xf_30_45, xf_30_46, xf_30_47, xf_30_48, xf_30_49, xf_30_50, xa_55, xa_56, xa_57, xa_58, xa_59, xa_60, xa_61, xa_62, xa_63, xa_64, xa_65, xa_66, xa_67, xa_68, xa_69, xa_70, xa_71, xa_72, xa_73, xa_74, xa_75, xa_76, xa_77, xa_78, xa_79, xa_80, xa_81, xa_82, xa_83, xa_84, xa_85, xa_86, xa_87, xa_88]
          simp (disch := omega) only [e86, vp_nI, nI_clamp, true_and, nI_1]
          exact ⟨fun _ => i0, fun q => absurd (by rfl) q⟩
        | true =>
          have i0 := hnext (-1) (by rw [h1 rfl]; rfl) (some (.int 1))
          try simp only [xi_iload, xi_aload, xi_lload, xi_istore, xi_astore, xi_lstore, xi_ic, xi_lc, xi_iinc, xi_iadd, xi_isub, xi_imul, xi_iand, xi_iushr, xi_ineg, xi_idiv, xi_irem, xi_ladd, xi_lmul, xi_lrem, xi_lcmp, xi_i2l, xi_l2i, xi_i2c, xi_dup, xi_dup2, xi_pop, xi_ifeq, xi_ifne, xi_iflt, xi_ifge, xi_ifgt, xi_ifle, xi_iceq, xi_icne, xi_iclt, xi_icge, xi_icgt, xi_icle, xi_iret, xi_zret, xi_lret, xi_vret, xi_getf, xi_putf, xi_ald, xi_ast, xi_alen, xi_callV, xi_callS, xpop, xroom, xl, xst, xok1, xok2, xnarrow, xwide, xone, xent, List.replicate, Option.isSome_some, Bool.and_self, Bool.true_and, Bool.and_true, List.length_cons, List.length_nil, Nat.reduceAdd, Nat.reduceLT, decide_true, Bool.not_false, Nat.beq, Nat.ble, Option.toList, List.nil_append, List.cons_append, xf_30_0, xf_30_1, xf_30_2, xf_30_3, xf_30_4, xf_30_5, xf_30_6, xf_30_7, xf_30_8, xf_30_9, xf_30_10, xf_30_11, xf_30_12, xf_30_13, xf_30_14, xf_30_15, xf_30_16, xf_30_17, xf_30_18, xf_30_19, xf_30_20, xf_30_21, xf_30_22, xf_30_23, xf_30_24, xf_30_25, xf_30_26, xf_30_27, xf_30_28, xf_30_29, xf_30_30, xf_30_31, xf_30_32, xf_30_33, xf_30_34, xf_30_35, xf_30_36, xf_30_37, xf_30_38, xf_30_39, xf_30_40, xf_30_41, xf_30_42, xf_30_43, xf_30_44, xf_30_45, xf_30_46, xf_30_47, xf_30_48, xf_30_49, xf_30_50, xa_55, xa_56, xa_57, xa_58, xa_59, xa_60, xa_61, xa_62, xa_63, xa_64, xa_65, xa_66, xa_67, xa_68, xa_69, xa_70, xa_71, xa_72, xa_73, xa_74, xa_75, xa_76, xa_77, xa_78, xa_79, xa_80, xa_81, xa_82, xa_83, xa_84, xa_85, xa_86, xa_87, xa_88]
          simp (disch := omega) only [vp_nI, nI_clamp, true_and, nI_1]
          exact ⟨fun q => absurd q (by decide), fun _ => i0⟩
      have hf := h55 false (fun q => by cases q)
      have ht := fun h => h55 true h (fun q => by cases q)
      have hlv := anyB_not.mp hno j hj
      unfold yLvP at hlv
      refine bX8_goes_4 _ _ _ ?_
      rcases h0 : N 41 j with _ | t
      · have hd0 : yDr N 1280 41 j = 0 := by unfold yDr; split; rfl; exact h0
        rw [h0] at e86
        try simp only [xi_iload, xi_aload, xi_lload, xi_istore, xi_astore, xi_lstore, xi_ic, xi_lc, xi_iinc, xi_iadd, xi_isub, xi_imul, xi_iand, xi_iushr, xi_ineg, xi_idiv, xi_irem, xi_ladd, xi_lmul, xi_lrem, xi_lcmp, xi_i2l, xi_l2i, xi_i2c, xi_dup, xi_dup2, xi_pop, xi_ifeq, xi_ifne, xi_iflt, xi_ifge, xi_ifgt, xi_ifle, xi_iceq, xi_icne, xi_iclt, xi_icge, xi_icgt, xi_icle, xi_iret, xi_zret, xi_lret, xi_vret, xi_getf, xi_putf, xi_ald, xi_ast, xi_alen, xi_callV, xi_callS, xpop, xroom, xl, xst, xok1, xok2, xnarrow, xwide, xone, xent, List.replicate, Option.isSome_some, Bool.and_self, Bool.true_and, Bool.and_true, List.length_cons, List.length_nil, Nat.reduceAdd, Nat.reduceLT, decide_true, Bool.not_false, Nat.beq, Nat.ble, Option.toList, List.nil_append, List.cons_append, xf_30_0, xf_30_1, xf_30_2, xf_30_3, xf_30_4, xf_30_5, xf_30_6, xf_30_7, xf_30_8, xf_30_9, xf_30_10, xf_30_11, xf_30_12, xf_30_13, xf_30_14, xf_30_15, xf_30_16, xf_30_17, xf_30_18, xf_30_19, xf_30_20, xf_30_21, xf_30_22, xf_30_23, xf_30_24, xf_30_25, xf_30_26, xf_30_27, xf_30_28, xf_30_29, xf_30_30, xf_30_31, xf_30_32, xf_30_33, xf_30_34, xf_30_35, xf_30_36, xf_30_37, xf_30_38, xf_30_39, xf_30_40, xf_30_41, xf_30_42, xf_30_43, xf_30_44, xf_30_45, xf_30_46, xf_30_47, xf_30_48, xf_30_49, xf_30_50, xa_55, xa_56, xa_57, xa_58, xa_59, xa_60, xa_61, xa_62, xa_63, xa_64, xa_65, xa_66, xa_67, xa_68, xa_69, xa_70, xa_71, xa_72, xa_73, xa_74, xa_75, xa_76, xa_77, xa_78, xa_79, xa_80, xa_81, xa_82, xa_83, xa_84, xa_85, xa_86, xa_87, xa_88, oN1280]
        simp (disch := omega) only [e86, vp_nI, nI_clamp, true_and, nI_leI]
        exact ⟨fun q => absurd q (by omega), fun _ => ⟨fun _ => hf (fun _ => by rw [hd0, h0]), fun q => absurd (by rfl) q⟩⟩
      · rw [h0] at e86
        have e86' : τ 86 j = nI t := e86
        have ht8 : t < 8 := by omega
        have hm10 : j % 10 ≠ 0 := by
          intro hm
          have := h10 (j / 10)
          rw [show j / 10 * 10 = j by omega] at this
          omega
        rw [h0, Nat.add_sub_cancel, show decide (0 < t + 1) = true from decide_eq_true (by omega), Bool.true_and] at hlv
        try simp only [xi_iload, xi_aload, xi_lload, xi_istore, xi_astore, xi_lstore, xi_ic, xi_lc, xi_iinc, xi_iadd, xi_isub, xi_imul, xi_iand, xi_iushr, xi_ineg, xi_idiv, xi_irem, xi_ladd, xi_lmul, xi_lrem, xi_lcmp, xi_i2l, xi_l2i, xi_i2c, xi_dup, xi_dup2, xi_pop, xi_ifeq, xi_ifne, xi_iflt, xi_ifge, xi_ifgt, xi_ifle, xi_iceq, xi_icne, xi_iclt, xi_icge, xi_icgt, xi_icle, xi_iret, xi_zret, xi_lret, xi_vret, xi_getf, xi_putf, xi_ald, xi_ast, xi_alen, xi_callV, xi_callS, xpop, xroom, xl, xst, xok1, xok2, xnarrow, xwide, xone, xent, List.replicate, Option.isSome_some, Bool.and_self, Bool.true_and, Bool.and_true, List.length_cons, List.length_nil, Nat.reduceAdd, Nat.reduceLT, decide_true, Bool.not_false, Nat.beq, Nat.ble, Option.toList, List.nil_append, List.cons_append, xf_30_0, xf_30_1, xf_30_2, xf_30_3, xf_30_4, xf_30_5, xf_30_6, xf_30_7, xf_30_8, xf_30_9, xf_30_10, xf_30_11, xf_30_12, xf_30_13, xf_30_14, xf_30_15, xf_30_16, xf_30_17, xf_30_18, xf_30_19, xf_30_20, xf_30_21, xf_30_22, xf_30_23, xf_30_24, xf_30_25, xf_30_26, xf_30_27, xf_30_28, xf_30_29, xf_30_30, xf_30_31, xf_30_32, xf_30_33, xf_30_34, xf_30_35, xf_30_36, xf_30_37, xf_30_38, xf_30_39, xf_30_40, xf_30_41, xf_30_42, xf_30_43, xf_30_44, xf_30_45, xf_30_46, xf_30_47, xf_30_48, xf_30_49, xf_30_50, xa_55, xa_56, xa_57, xa_58, xa_59, xa_60, xa_61, xa_62, xa_63, xa_64, xa_65, xa_66, xa_67, xa_68, xa_69, xa_70, xa_71, xa_72, xa_73, xa_74, xa_75, xa_76, xa_77, xa_78, xa_79, xa_80, xa_81, xa_82, xa_83, xa_84, xa_85, xa_86, xa_87, xa_88, oN1280, q160]
        simp (disch := omega) only [e86', t88, pk_div, vp_nI, nI_clamp, true_and, nI_leI, b2i_ne]
        have hgone : (N 54 (j / 160) == 1) = true → yDr N 1280 41 j = 0 := fun hq => by
          unfold yDr
          rw [if_pos ⟨rfl, hj, hm10, by simpa using hq⟩]
        have hstay : (N 54 (j / 160) == 1) = false → yDr N 1280 41 j = N 41 j := fun hq => by
          unfold yDr
          rw [if_neg]
          intro z
          rw [z.2.2.2] at hq
          cases hq
        refine ⟨fun q => absurd q (by omega), fun _ => ⟨fun q => absurd q (nIm t (by omega)), fun _ => ⟨fun q => ht (fun _ => hgone ?_), fun q => ⟨by decide, fun q2 => hf (fun _ => hstay q2), fun q2 => ht (fun _ => hgone (by simpa using q2))⟩⟩⟩⟩
        have q' : (N 54 t == 1) = true := by simpa using q
        rw [q', Bool.and_true] at hlv
        simpa using hlv
    · refine bX8_goes_4 _ _ _ ?_
      try simp only [xi_iload, xi_aload, xi_lload, xi_istore, xi_astore, xi_lstore, xi_ic, xi_lc, xi_iinc, xi_iadd, xi_isub, xi_imul, xi_iand, xi_iushr, xi_ineg, xi_idiv, xi_irem, xi_ladd, xi_lmul, xi_lrem, xi_lcmp, xi_i2l, xi_l2i, xi_i2c, xi_dup, xi_dup2, xi_pop, xi_ifeq, xi_ifne, xi_iflt, xi_ifge, xi_ifgt, xi_ifle, xi_iceq, xi_icne, xi_iclt, xi_icge, xi_icgt, xi_icle, xi_iret, xi_zret, xi_lret, xi_vret, xi_getf, xi_putf, xi_ald, xi_ast, xi_alen, xi_callV, xi_callS, xpop, xroom, xl, xst, xok1, xok2, xnarrow, xwide, xone, xent, List.replicate, Option.isSome_some, Bool.and_self, Bool.true_and, Bool.and_true, List.length_cons, List.length_nil, Nat.reduceAdd, Nat.reduceLT, decide_true, Bool.not_false, Nat.beq, Nat.ble, Option.toList, List.nil_append, List.cons_append, xf_30_0, xf_30_1, xf_30_2, xf_30_3, xf_30_4, xf_30_5, xf_30_6, xf_30_7, xf_30_8, xf_30_9, xf_30_10, xf_30_11, xf_30_12, xf_30_13, xf_30_14, xf_30_15, xf_30_16, xf_30_17, xf_30_18, xf_30_19, xf_30_20, xf_30_21, xf_30_22, xf_30_23, xf_30_24, xf_30_25, xf_30_26, xf_30_27, xf_30_28, xf_30_29, xf_30_30, xf_30_31, xf_30_32, xf_30_33, xf_30_34, xf_30_35, xf_30_36, xf_30_37, xf_30_38, xf_30_39, xf_30_40, xf_30_41, xf_30_42, xf_30_43, xf_30_44, xf_30_45, xf_30_46, xf_30_47, xf_30_48, xf_30_49, xf_30_50, xa_55, xa_56, xa_57, xa_58, xa_59, xa_60, xa_61, xa_62, xa_63, xa_64, xa_65, xa_66, xa_67, xa_68, xa_69, xa_70, xa_71, xa_72, xa_73, xa_74, xa_75, xa_76, xa_77, xa_78, xa_79, xa_80, xa_81, xa_82, xa_83, xa_84, xa_85, xa_86, xa_87, xa_88, oN1280]
      refine ⟨fun _ => ?_, fun q => absurd (nI_le (Nat.le_refl _) (by omega)) q⟩
      exact x_forget (second 0 (by omega) τ hs t84 (fun z hz => by rw [t86 z hz, if_pos hz])) (by simp [xle, xst, nI_0, yCount, yCm])
  exact x_forget (first 0 (by omega) σ xs30.rf h84 (fun z hz => by rw [if_neg (by omega)]; exact h86 z hz)) (by simp [xle, xst, nI_0])
theorem yCm_cp {m k : Nat} : (yCm (yCp N m) k).2 = (yCm N k).2 ∧ (yCm (yCp N m) k).1 40 = (yCm N k).1 40 := by
  induction k with
  | zero => exact ⟨rfl, rfl⟩
  | succ k ih =>
    obtain ⟨i1, i2⟩ := ih
    have a1 := (yCm_spec (N := yCp N m) (k := k)).2.2 54 (by decide)
    have a2 := (yCm_spec (N := N) (k := k)).2.2 54 (by decide)
    have e54 : (yCm (yCp N m) k).1 54 = (yCm N k).1 54 := by rw [a1, a2]; rfl
    unfold yCm
    rw [e54, i2]
    split
    · exact ⟨i1, i2⟩
    · refine ⟨by dsimp only; rw [i1], ?_⟩
      dsimp only
      funext i
      unfold yU
      rw [i1]
      split
      · rfl
      · rw [i2]
theorem sX8_unload {x : Int32} (z : ZM σ S) (w : ZW S B) (hB : B < 2 ^ 20) : XM G mX8_unload (d + 12) [.ref 30, .int x] σ (PM σ (oUnl S x)) := by
  refine xm_of (by decide +kernel) rfl (Nat.le_of_ble_eq_true rfl) ?_
  refine bX8_unload_0 (d := d + 11) _ _ _ ?_
  have p := w.2.1.1
  have hb := p.1
  have hst := p.le
  obtain ⟨-, w52, w51, w51b, w41, w10, w160, w38, w54, w54b, w53, w53b⟩ := id w.2.1
  obtain ⟨⟨h45, h43⟩, h81, h82, h83, h84, h85, h86⟩ := id z.1.2
  try simp only [xi_iload, xi_aload, xi_lload, xi_istore, xi_astore, xi_lstore, xi_ic, xi_lc, xi_iinc, xi_iadd, xi_isub, xi_imul, xi_iand, xi_iushr, xi_ineg, xi_idiv, xi_irem, xi_ladd, xi_lmul, xi_lrem, xi_lcmp, xi_i2l, xi_l2i, xi_i2c, xi_dup, xi_dup2, xi_pop, xi_ifeq, xi_ifne, xi_iflt, xi_ifge, xi_ifgt, xi_ifle, xi_iceq, xi_icne, xi_iclt, xi_icge, xi_icgt, xi_icle, xi_iret, xi_zret, xi_lret, xi_vret, xi_getf, xi_putf, xi_ald, xi_ast, xi_alen, xi_callV, xi_callS, xpop, xroom, xl, xst, xok1, xok2, xnarrow, xwide, xone, xent, List.replicate, Option.isSome_some, Bool.and_self, Bool.true_and, Bool.and_true, List.length_cons, List.length_nil, Nat.reduceAdd, Nat.reduceLT, decide_true, Bool.not_false, Nat.beq, Nat.ble, Option.toList, List.nil_append, List.cons_append, xf_30_0, xf_30_1, xf_30_2, xf_30_3, xf_30_4, xf_30_5, xf_30_6, xf_30_7, xf_30_8, xf_30_9, xf_30_10, xf_30_11, xf_30_12, xf_30_13, xf_30_14, xf_30_15, xf_30_16, xf_30_17, xf_30_18, xf_30_19, xf_30_20, xf_30_21, xf_30_22, xf_30_23, xf_30_24, xf_30_25, xf_30_26, xf_30_27, xf_30_28, xf_30_29, xf_30_30, xf_30_31, xf_30_32, xf_30_33, xf_30_34, xf_30_35, xf_30_36, xf_30_37, xf_30_38, xf_30_39, xf_30_40, xf_30_41, xf_30_42, xf_30_43, xf_30_44, xf_30_45, xf_30_46, xf_30_47, xf_30_48, xf_30_49, xf_30_50, xa_55, xa_56, xa_57, xa_58, xa_59, xa_60, xa_61, xa_62, xa_63, xa_64, xa_65, xa_66, xa_67, xa_68, xa_69, xa_70, xa_71, xa_72, xa_73, xa_74, xa_75, xa_76, xa_77, xa_78, xa_79, xa_80, xa_81, xa_82, xa_83, xa_84, xa_85, xa_86, xa_87, xa_88]
  refine x_F (sX8_isLibrary z.1.2 hb) ?_
  rcases rng_cases (x := x) (n := nL S.2.1) (by omega) with ⟨hr, hn⟩ | ⟨j, hj, rfl, hr⟩
  · have e : oUnl S x = (1, 0, S) := by simp only [oUnl, hr]
    rw [hr, e]
    try simp only [xi_iload, xi_aload, xi_lload, xi_istore, xi_astore, xi_lstore, xi_ic, xi_lc, xi_iinc, xi_iadd, xi_isub, xi_imul, xi_iand, xi_iushr, xi_ineg, xi_idiv, xi_irem, xi_ladd, xi_lmul, xi_lrem, xi_lcmp, xi_i2l, xi_l2i, xi_i2c, xi_dup, xi_dup2, xi_pop, xi_ifeq, xi_ifne, xi_iflt, xi_ifge, xi_ifgt, xi_ifle, xi_iceq, xi_icne, xi_iclt, xi_icge, xi_icgt, xi_icle, xi_iret, xi_zret, xi_lret, xi_vret, xi_getf, xi_putf, xi_ald, xi_ast, xi_alen, xi_callV, xi_callS, xpop, xroom, xl, xst, xok1, xok2, xnarrow, xwide, xone, xent, List.replicate, Option.isSome_some, Bool.and_self, Bool.true_and, Bool.and_true, List.length_cons, List.length_nil, Nat.reduceAdd, Nat.reduceLT, decide_true, Bool.not_false, Nat.beq, Nat.ble, Option.toList, List.nil_append, List.cons_append, xf_30_0, xf_30_1, xf_30_2, xf_30_3, xf_30_4, xf_30_5, xf_30_6, xf_30_7, xf_30_8, xf_30_9, xf_30_10, xf_30_11, xf_30_12, xf_30_13, xf_30_14, xf_30_15, xf_30_16, xf_30_17, xf_30_18, xf_30_19, xf_30_20, xf_30_21, xf_30_22, xf_30_23, xf_30_24, xf_30_25, xf_30_26, xf_30_27, xf_30_28, xf_30_29, xf_30_30, xf_30_31, xf_30_32, xf_30_33, xf_30_34, xf_30_35, xf_30_36, xf_30_37, xf_30_38, xf_30_39, xf_30_40, xf_30_41, xf_30_42, xf_30_43, xf_30_44, xf_30_45, xf_30_46, xf_30_47, xf_30_48, xf_30_49, xf_30_50, xa_55, xa_56, xa_57, xa_58, xa_59, xa_60, xa_61, xa_62, xa_63, xa_64, xa_65, xa_66, xa_67, xa_68, xa_69, xa_70, xa_71, xa_72, xa_73, xa_74, xa_75, xa_76, xa_77, xa_78, xa_79, xa_80, xa_81, xa_82, xa_83, xa_84, xa_85, xa_86, xa_87, xa_88, Option.isSome_none, xu50]
    exact ⟨fun q => absurd (by rfl) q, fun _ => ⟨xnok_i _, fun q => absurd q (by decide), fun _ => PM.of z.t xmod.t xu50 (fun q => by cases q)⟩⟩
  · have eo : oUnl S (nI j) = if S.2.1 51 j = 0 then (2, 0, S) else if anyB (yLvP (yPlan S.2.1 j).1) 1280 = true then (3, 0, lib S (yPlan S.2.1 j).1) else (0, nI (yPlan S.2.1 j).2, lib S (yCarry (yPlan S.2.1 j).1)) := by simp only [oUnl, hr]
    have hw51 := w51 j
    rw [hr]
    try simp only [xi_iload, xi_aload, xi_lload, xi_istore, xi_astore, xi_lstore, xi_ic, xi_lc, xi_iinc, xi_iadd, xi_isub, xi_imul, xi_iand, xi_iushr, xi_ineg, xi_idiv, xi_irem, xi_ladd, xi_lmul, xi_lrem, xi_lcmp, xi_i2l, xi_l2i, xi_i2c, xi_dup, xi_dup2, xi_pop, xi_ifeq, xi_ifne, xi_iflt, xi_ifge, xi_ifgt, xi_ifle, xi_iceq, xi_icne, xi_iclt, xi_icge, xi_icgt, xi_icle, xi_iret, xi_zret, xi_lret, xi_vret, xi_getf, xi_putf, xi_ald, xi_ast, xi_alen, xi_callV, xi_callS, xpop, xroom, xl, xst, xok1, xok2, xnarrow, xwide, xone, xent, List.replicate, Option.isSome_some, Bool.and_self, Bool.true_and, Bool.and_true, List.length_cons, List.length_nil, Nat.reduceAdd, Nat.reduceLT, decide_true, Bool.not_false, Nat.beq, Nat.ble, Option.toList, List.nil_append, List.cons_append, xf_30_0, xf_30_1, xf_30_2, xf_30_3, xf_30_4, xf_30_5, xf_30_6, xf_30_7, xf_30_8, xf_30_9, xf_30_10, xf_30_11, xf_30_12, xf_30_13, xf_30_14, xf_30_15, xf_30_16, xf_30_17, xf_30_18, xf_30_19, xf_30_20, xf_30_21, xf_30_22, xf_30_23, xf_30_24, xf_30_25, xf_30_26, xf_30_27, xf_30_28, xf_30_29, xf_30_30, xf_30_31, xf_30_32, xf_30_33, xf_30_34, xf_30_35, xf_30_36, xf_30_37, xf_30_38, xf_30_39, xf_30_40, xf_30_41, xf_30_42, xf_30_43, xf_30_44, xf_30_45, xf_30_46, xf_30_47, xf_30_48, xf_30_49, xf_30_50, xa_55, xa_56, xa_57, xa_58, xa_59, xa_60, xa_61, xa_62, xa_63, xa_64, xa_65, xa_66, xa_67, xa_68, xa_69, xa_70, xa_71, xa_72, xa_73, xa_74, xa_75, xa_76, xa_77, xa_78, xa_79, xa_80, xa_81, xa_82, xa_83, xa_84, xa_85, xa_86, xa_87, xa_88, xu50]
    simp (disch := omega) only [h83, vp_nI, nI_clamp, true_and]
    refine ⟨fun _ => ⟨fun q => ⟨xnok_i _, fun _ => ?_, fun q2 => absurd (by decide) q2⟩, fun q => ⟨xnok_i _, fun q2 => absurd q2 (by decide), fun _ => ?_⟩⟩, fun q => absurd q (by decide)⟩
    · have hpos : ¬ S.2.1 51 j = 0 := fun h => q (by rw [h]; rfl)
      rw [eo, if_neg hpos]
      obtain ⟨p1, p2, p3, p4, p5⟩ := yPlan_spec w.2.1 hj
      have hwp := WL_plan w.2.1 hB hj
      have hleft := yPlan_left w.2.1 hj
      have hpy : yPlan S.2.1 j = yLow 9 j (yPl S.2.1 (nL S.2.1)) := rfl
      have hz1 : ZM (xup σ 30 50 0) S := z.t
      have init : ∀ k, k ≤ 8 → ∀ τ, xs30 [50] [87, 88] σ τ → τ 30 50 = nI 0 → (∀ i, i < k → τ 87 i = nI (S.2.1 51 i) ∧ τ 88 i = b2i false) → AX8_unload G (d + 11 + 1) (PM σ (if anyB (yLvP (yPlan S.2.1 j).1) 1280 = true then (3, 0, lib S (yPlan S.2.1 j).1) else (0, nI (yPlan S.2.1 j).2, lib S (yCarry (yPlan S.2.1 j).1)))) 41 [some (.ref 30), some (.int (nI j)), some (.int (nI k))] [] τ := by
        refine loop_up (fun k hk ih τ hs t50 ht => ?_) (fun τ hs t50 ht => ?_)
        · refine bX8_unload_41 (d := d + 11) _ _ _ ?_
          have t83 : ∀ i, i < 8 → τ 83 i = nI (S.2.1 51 i) := fun i hi => by rw [hs.at rfl rfl]; exact h83 i hi
          try simp only [xi_iload, xi_aload, xi_lload, xi_istore, xi_astore, xi_lstore, xi_ic, xi_lc, xi_iinc, xi_iadd, xi_isub, xi_imul, xi_iand, xi_iushr, xi_ineg, xi_idiv, xi_irem, xi_ladd, xi_lmul, xi_lrem, xi_lcmp, xi_i2l, xi_l2i, xi_i2c, xi_dup, xi_dup2, xi_pop, xi_ifeq, xi_ifne, xi_iflt, xi_ifge, xi_ifgt, xi_ifle, xi_iceq, xi_icne, xi_iclt, xi_icge, xi_icgt, xi_icle, xi_iret, xi_zret, xi_lret, xi_vret, xi_getf, xi_putf, xi_ald, xi_ast, xi_alen, xi_callV, xi_callS, xpop, xroom, xl, xst, xok1, xok2, xnarrow, xwide, xone, xent, List.replicate, Option.isSome_some, Bool.and_self, Bool.true_and, Bool.and_true, List.length_cons, List.length_nil, Nat.reduceAdd, Nat.reduceLT, decide_true, Bool.not_false, Nat.beq, Nat.ble, Option.toList, List.nil_append, List.cons_append, xf_30_0, xf_30_1, xf_30_2, xf_30_3, xf_30_4, xf_30_5, xf_30_6, xf_30_7, xf_30_8, xf_30_9, xf_30_10, xf_30_11, xf_30_12, xf_30_13, xf_30_14, xf_30_15, xf_30_16, xf_30_17, xf_30_18, xf_30_19, xf_30_20, xf_30_21, xf_30_22, xf_30_23, xf_30_24, xf_30_25, xf_30_26, xf_30_27, xf_30_28, xf_30_29, xf_30_30, xf_30_31, xf_30_32, xf_30_33, xf_30_34, xf_30_35, xf_30_36, xf_30_37, xf_30_38, xf_30_39, xf_30_40, xf_30_41, xf_30_42, xf_30_43, xf_30_44, xf_30_45, xf_30_46, xf_30_47, xf_30_48, xf_30_49, xf_30_50, xa_55, xa_56, xa_57, xa_58, xa_59, xa_60, xa_61, xa_62, xa_63, xa_64, xa_65, xa_66, xa_67, xa_68, xa_69, xa_70, xa_71, xa_72, xa_73, xa_74, xa_75, xa_76, xa_77, xa_78, xa_79, xa_80, xa_81, xa_82, xa_83, xa_84, xa_85, xa_86, xa_87, xa_88, q8]
          simp (disch := omega) only [t83, vp_nI, nI_clamp, true_and, nI_leI, nI_1, ev0]
          refine ⟨fun q => absurd q (by omega), fun _ => ?_⟩
          refine ih _ (hs.tr ((xs30.upc rfl rfl).tr (xs30.upc rfl rfl))) (by rw [xup_n (by decide), xup_n (by decide)]; exact t50) (fun i hi => ?_)
          rw [xup_n (by decide), xup_ap, xup_ap]
          by_cases hik : i = k
          · rw [if_pos ⟨rfl, hik⟩, if_pos ⟨rfl, hik⟩, hik]; exact ⟨rfl, rfl⟩
          · rw [if_neg (fun q => hik q.2), if_neg (fun q => hik q.2), xup_n (by decide)]; exact ht i (by omega)
        · refine bX8_unload_41 (d := d + 11) _ _ _ ?_
          have hX : MX τ (yPl S.2.1 (nL S.2.1)) := by
            refine ⟨by rw [hs.f rfl]; exact h45, by rw [hs.at rfl rfl]; exact h82, fun i hi => ?_, fun i hi => ?_⟩
            · rw [(ht i hi).1]
              unfold yPl
              by_cases hin : i < nL S.2.1
              · rw [if_pos ⟨rfl, hin⟩]
              · rw [if_neg (by omega), if_neg (by omega), w53b i (by omega)]
                have : S.2.1 51 i = 0 := by
                  by_cases h0 : 0 < S.2.1 51 i
                  · exact absurd (w51b i h0).1 hin
                  · omega
                rw [this]
            · rw [(ht i hi).2]
              unfold yPl
              by_cases hin : i < nL S.2.1
              · rw [if_neg (by omega), if_pos ⟨rfl, hin⟩]; rfl
              · rw [if_neg (by omega), if_neg (by omega), w54 i (by omega)]; rfl
          have hypos : yPos (yPl S.2.1 (nL S.2.1)) ≤ 9 := by
            have : yPos (yPl S.2.1 (nL S.2.1)) ≤ nL S.2.1 := yCount_le
            omega
          have h53b : ∀ i, (yPl S.2.1 (nL S.2.1)) 53 i < 2 ^ 20 := by
            intro i
            unfold yPl
            split
            · have := w51 i; omega
            · rw [if_neg (by omega)]; exact w53 i
          have h53p : 0 < (yPl S.2.1 (nL S.2.1)) 53 j := by
            unfold yPl
            rw [if_pos ⟨rfl, hj⟩]
            omega
          try simp only [xi_iload, xi_aload, xi_lload, xi_istore, xi_astore, xi_lstore, xi_ic, xi_lc, xi_iinc, xi_iadd, xi_isub, xi_imul, xi_iand, xi_iushr, xi_ineg, xi_idiv, xi_irem, xi_ladd, xi_lmul, xi_lrem, xi_lcmp, xi_i2l, xi_l2i, xi_i2c, xi_dup, xi_dup2, xi_pop, xi_ifeq, xi_ifne, xi_iflt, xi_ifge, xi_ifgt, xi_ifle, xi_iceq, xi_icne, xi_iclt, xi_icge, xi_icgt, xi_icle, xi_iret, xi_zret, xi_lret, xi_vret, xi_getf, xi_putf, xi_ald, xi_ast, xi_alen, xi_callV, xi_callS, xpop, xroom, xl, xst, xok1, xok2, xnarrow, xwide, xone, xent, List.replicate, Option.isSome_some, Bool.and_self, Bool.true_and, Bool.and_true, List.length_cons, List.length_nil, Nat.reduceAdd, Nat.reduceLT, decide_true, Bool.not_false, Nat.beq, Nat.ble, Option.toList, List.nil_append, List.cons_append, xf_30_0, xf_30_1, xf_30_2, xf_30_3, xf_30_4, xf_30_5, xf_30_6, xf_30_7, xf_30_8, xf_30_9, xf_30_10, xf_30_11, xf_30_12, xf_30_13, xf_30_14, xf_30_15, xf_30_16, xf_30_17, xf_30_18, xf_30_19, xf_30_20, xf_30_21, xf_30_22, xf_30_23, xf_30_24, xf_30_25, xf_30_26, xf_30_27, xf_30_28, xf_30_29, xf_30_30, xf_30_31, xf_30_32, xf_30_33, xf_30_34, xf_30_35, xf_30_36, xf_30_37, xf_30_38, xf_30_39, xf_30_40, xf_30_41, xf_30_42, xf_30_43, xf_30_44, xf_30_45, xf_30_46, xf_30_47, xf_30_48, xf_30_49, xf_30_50, xa_55, xa_56, xa_57, xa_58, xa_59, xa_60, xa_61, xa_62, xa_63, xa_64, xa_65, xa_66, xa_67, xa_68, xa_69, xa_70, xa_71, xa_72, xa_73, xa_74, xa_75, xa_76, xa_77, xa_78, xa_79, xa_80, xa_81, xa_82, xa_83, xa_84, xa_85, xa_86, xa_87, xa_88, q8]
          refine ⟨fun _ => x_R (sX8_falls 9 (d := d + 1) hypos hX hb h53b hj h53p) (fun v τ2 hτ2 => ?_), fun q => absurd (nI_le (Nat.le_refl _) (by omega)) q⟩
          obtain ⟨rfl, hs2, hX2⟩ := hτ2
          have hs02 : xs30 [50] [87, 88] σ τ2 := hs.tr (hs2.wk (by decide) (by decide))
          rw [← hpy] at hX2
          have s50 : τ2 30 50 = nI 0 := by rw [hs2.f rfl]; exact t50
          generalize hNp : (yPlan S.2.1 j).1 = Np at *
          have e13 : nL Np = nL S.2.1 := congrFun (p1 13 (by decide) (by decide)) 3
          have e15 : nSt Np = nSt S.2.1 := congrFun (p1 15 (by decide) (by decide)) 3
          have e40 : Np 40 = S.2.1 40 := p1 40 (by decide) (by decide)
          have e41 : Np 41 = S.2.1 41 := p1 41 (by decide) (by decide)
          have e38 : Np 38 = S.2.1 38 := p1 38 (by decide) (by decide)
          have e39 : Np 39 = S.2.1 39 := p1 39 (by decide) (by decide)
          have e51 : Np 51 = S.2.1 51 := p1 51 (by decide) (by decide)
          have e52 : Np 52 = S.2.1 52 := p1 52 (by decide) (by decide)
          have hNp2 : MN τ2 Np := by
            unfold MN
            rw [e13, e15, e38, e39, e40, e41, e51, e52, hs02.f rfl, hs02.f rfl, hs02.at rfl rfl, hs02.at rfl rfl, hs02.at rfl rfl, hs02.at rfl rfl, hs02.at rfl rfl, hs02.at rfl rfl]
            exact z.1.2
          have r86 := hNp2.2.2.2.2.2.2
          try simp only [xi_iload, xi_aload, xi_lload, xi_istore, xi_astore, xi_lstore, xi_ic, xi_lc, xi_iinc, xi_iadd, xi_isub, xi_imul, xi_iand, xi_iushr, xi_ineg, xi_idiv, xi_irem, xi_ladd, xi_lmul, xi_lrem, xi_lcmp, xi_i2l, xi_l2i, xi_i2c, xi_dup, xi_dup2, xi_pop, xi_ifeq, xi_ifne, xi_iflt, xi_ifge, xi_ifgt, xi_ifle, xi_iceq, xi_icne, xi_iclt, xi_icge, xi_icgt, xi_icle, xi_iret, xi_zret, xi_lret, xi_vret, xi_getf, xi_putf, xi_ald, xi_ast, xi_alen, xi_callV, xi_callS, xpop, xroom, xl, xst, xok1, xok2, xnarrow, xwide, xone, xent, List.replicate, Option.isSome_some, Bool.and_self, Bool.true_and, Bool.and_true, List.length_cons, List.length_nil, Nat.reduceAdd, Nat.reduceLT, decide_true, Bool.not_false, Nat.beq, Nat.ble, Option.toList, List.nil_append, List.cons_append, xf_30_0, xf_30_1, xf_30_2, xf_30_3, xf_30_4, xf_30_5, xf_30_6, xf_30_7, xf_30_8, xf_30_9, xf_30_10, xf_30_11, xf_30_12, xf_30_13, xf_30_14, xf_30_15, xf_30_16, xf_30_17, xf_30_18, xf_30_19, xf_30_20, xf_30_21, xf_30_22, xf_30_23, xf_30_24, xf_30_25, xf_30_26, xf_30_27, xf_30_28, xf_30_29, xf_30_30, xf_30_31, xf_30_32, xf_30_33, xf_30_34, xf_30_35, xf_30_36, xf_30_37, xf_30_38, xf_30_39, xf_30_40, xf_30_41, xf_30_42, xf_30_43, xf_30_44, xf_30_45, xf_30_46, xf_30_47, xf_30_48, xf_30_49, xf_30_50, xa_55, xa_56, xa_57, xa_58, xa_59, xa_60, xa_61, xa_62, xa_63, xa_64, xa_65, xa_66, xa_67, xa_68, xa_69, xa_70, xa_71, xa_72, xa_73, xa_74, xa_75, xa_76, xa_77, xa_78, xa_79, xa_80, xa_81, xa_82, xa_83, xa_84, xa_85, xa_86, xa_87, xa_88]
          refine x_F (sX8_isBoundToLeaving hX2 r86 (by omega) (by rw [e41, e13]; exact w41) (by rw [e41, e13]; exact w160)) ?_
          cases hbd : anyB (yLvP Np) 1280 with
          | true =>
            try simp only [xi_iload, xi_aload, xi_lload, xi_istore, xi_astore, xi_lstore, xi_ic, xi_lc, xi_iinc, xi_iadd, xi_isub, xi_imul, xi_iand, xi_iushr, xi_ineg, xi_idiv, xi_irem, xi_ladd, xi_lmul, xi_lrem, xi_lcmp, xi_i2l, xi_l2i, xi_i2c, xi_dup, xi_dup2, xi_pop, xi_ifeq, xi_ifne, xi_iflt, xi_ifge, xi_ifgt, xi_ifle, xi_iceq, xi_icne, xi_iclt, xi_icge, xi_icgt, xi_icle, xi_iret, xi_zret, xi_lret, xi_vret, xi_getf, xi_putf, xi_ald, xi_ast, xi_alen, xi_callV, xi_callS, xpop, xroom, xl, xst, xok1, xok2, xnarrow, xwide, xone, xent, List.replicate, Option.isSome_some, Bool.and_self, Bool.true_and, Bool.and_true, List.length_cons, List.length_nil, Nat.reduceAdd, Nat.reduceLT, decide_true, Bool.not_false, Nat.beq, Nat.ble, Option.toList, List.nil_append, List.cons_append, xf_30_0, xf_30_1, xf_30_2, xf_30_3, xf_30_4, xf_30_5, xf_30_6, xf_30_7, xf_30_8, xf_30_9, xf_30_10, xf_30_11, xf_30_12, xf_30_13, xf_30_14, xf_30_15, xf_30_16, xf_30_17, xf_30_18, xf_30_19, xf_30_20, xf_30_21, xf_30_22, xf_30_23, xf_30_24, xf_30_25, xf_30_26, xf_30_27, xf_30_28, xf_30_29, xf_30_30, xf_30_31, xf_30_32, xf_30_33, xf_30_34, xf_30_35, xf_30_36, xf_30_37, xf_30_38, xf_30_39, xf_30_40, xf_30_41, xf_30_42, xf_30_43, xf_30_44, xf_30_45, xf_30_46, xf_30_47, xf_30_48, xf_30_49, xf_30_50, xa_55, xa_56, xa_57, xa_58, xa_59, xa_60, xa_61, xa_62, xa_63, xa_64, xa_65, xa_66, xa_67, xa_68, xa_69, xa_70, xa_71, xa_72, xa_73, xa_74, xa_75, xa_76, xa_77, xa_78, xa_79, xa_80, xa_81, xa_82, xa_83, xa_84, xa_85, xa_86, xa_87, xa_88, xu50]
            refine ⟨fun q => absurd q (by decide), fun _ => ⟨xnok_i _, fun q => absurd q (by decide), fun _ => ?_⟩⟩
            have hs3 : xs30 [50] [87, 88] σ (xup τ2 30 50 3) := hs02.tr (xs30.up rfl)
            exact PM.of (ZM_lib z (hNp2.s30 (xs30.up (js := [50]) (l := []) rfl) (by decide) (by decide)) hs3 (by decide) (by decide)) (xmod.of hs3 (by decide)) xu50 (fun q => by cases q)
          | false =>
            try simp only [xi_iload, xi_aload, xi_lload, xi_istore, xi_astore, xi_lstore, xi_ic, xi_lc, xi_iinc, xi_iadd, xi_isub, xi_imul, xi_iand, xi_iushr, xi_ineg, xi_idiv, xi_irem, xi_ladd, xi_lmul, xi_lrem, xi_lcmp, xi_i2l, xi_l2i, xi_i2c, xi_dup, xi_dup2, xi_pop, xi_ifeq, xi_ifne, xi_iflt, xi_ifge, xi_ifgt, xi_ifle, xi_iceq, xi_icne, xi_iclt, xi_icge, xi_icgt, xi_icle, xi_iret, xi_zret, xi_lret, xi_vret, xi_getf, xi_putf, xi_ald, xi_ast, xi_alen, xi_callV, xi_callS, xpop, xroom, xl, xst, xok1, xok2, xnarrow, xwide, xone, xent, List.replicate, Option.isSome_some, Bool.and_self, Bool.true_and, Bool.and_true, List.length_cons, List.length_nil, Nat.reduceAdd, Nat.reduceLT, decide_true, Bool.not_false, Nat.beq, Nat.ble, Option.toList, List.nil_append, List.cons_append, xf_30_0, xf_30_1, xf_30_2, xf_30_3, xf_30_4, xf_30_5, xf_30_6, xf_30_7, xf_30_8, xf_30_9, xf_30_10, xf_30_11, xf_30_12, xf_30_13, xf_30_14, xf_30_15, xf_30_16, xf_30_17, xf_30_18, xf_30_19, xf_30_20, xf_30_21, xf_30_22, xf_30_23, xf_30_24, xf_30_25, xf_30_26, xf_30_27, xf_30_28, xf_30_29, xf_30_30, xf_30_31, xf_30_32, xf_30_33, xf_30_34, xf_30_35, xf_30_36, xf_30_37, xf_30_38, xf_30_39, xf_30_40, xf_30_41, xf_30_42, xf_30_43, xf_30_44, xf_30_45, xf_30_46, xf_30_47, xf_30_48, xf_30_49, xf_30_50, xa_55, xa_56, xa_57, xa_58, xa_59, xa_60, xa_61, xa_62, xa_63, xa_64, xa_65, xa_66, xa_67, xa_68, xa_69, xa_70, xa_71, xa_72, xa_73, xa_74, xa_75, xa_76, xa_77, xa_78, xa_79, xa_80, xa_81, xa_82, xa_83, xa_84, xa_85, xa_86, xa_87, xa_88, xu50]
            refine ⟨fun _ => ⟨xnok_i _, fun _ => ?_, fun q => absurd (by decide) q⟩, fun q => absurd (by rfl) q⟩
            have hs3 : xs30 [50] [] τ2 (xup τ2 30 50 0) := xs30.up rfl
            have x50 : xup τ2 30 50 0 30 50 = nI 0 := by rw [xu50]; rfl
            generalize xup τ2 30 50 0 = τ3 at hs3 x50
            have hs03 : xs30 [50] [87, 88] σ τ3 := hs02.tr (hs3.wk (by decide) (by decide))
            have copy : ∀ k, k ≤ 8 → ∀ τ, xs30 [50] [83, 87, 88] τ3 τ → τ 30 50 = nI 0 → (∀ i, i < k → τ 83 i = nI (Np 53 i)) → (∀ i, i < 8 → τ 87 i = nI (Np 53 i)) → (∀ i, i < 8 → τ 88 i = b2i (Np 54 i == 1)) → AX8_unload G (d + 11 + 1) (PM σ (0, nI (yPlan S.2.1 j).2, lib S (yCarry Np))) 104 [some (.ref 30), some (.int (nI j)), some (.int (nI k))] [] τ := by
              refine loop_up (fun k hk ih τ hs t50 ht t87 t88 => ?_) (fun τ hs t50 ht t87 t88 => ?_)
              · refine bX8_unload_104 (d := d + 11) _ _ _ ?_
                try simp only [xi_iload, xi_aload, xi_lload, xi_istore, xi_astore, xi_lstore, xi_ic, xi_lc, xi_iinc, xi_iadd, xi_isub, xi_imul, xi_iand, xi_iushr, xi_ineg, xi_idiv, xi_irem, xi_ladd, xi_lmul, xi_lrem, xi_lcmp, xi_i2l, xi_l2i, xi_i2c, xi_dup, xi_dup2, xi_pop, xi_ifeq, xi_ifne, xi_iflt, xi_ifge, xi_ifgt, xi_ifle, xi_iceq, xi_icne, xi_iclt, xi_icge, xi_icgt, xi_icle, xi_iret, xi_zret, xi_lret, xi_vret, xi_getf, xi_putf, xi_ald, xi_ast, xi_alen, xi_callV, xi_callS, xpop, xroom, xl, xst, xok1, xok2, xnarrow, xwide, xone, xent, List.replicate, Option.isSome_some, Bool.and_self, Bool.true_and, Bool.and_true, List.length_cons, List.length_nil, Nat.reduceAdd, Nat.reduceLT, decide_true, Bool.not_false, Nat.beq, Nat.ble, Option.toList, List.nil_append, List.cons_append, xf_30_0, xf_30_1, xf_30_2, xf_30_3, xf_30_4, xf_30_5, xf_30_6, xf_30_7, xf_30_8, xf_30_9, xf_30_10, xf_30_11, xf_30_12, xf_30_13, xf_30_14, xf_30_15, xf_30_16, xf_30_17, xf_30_18, xf_30_19, xf_30_20, xf_30_21, xf_30_22, xf_30_23, xf_30_24, xf_30_25, xf_30_26, xf_30_27, xf_30_28, xf_30_29, xf_30_30, xf_30_31, xf_30_32, xf_30_33, xf_30_34, xf_30_35, xf_30_36, xf_30_37, xf_30_38, xf_30_39, xf_30_40, xf_30_41, xf_30_42, xf_30_43, xf_30_44, xf_30_45, xf_30_46, xf_30_47, xf_30_48, xf_30_49, xf_30_50, xa_55, xa_56, xa_57, xa_58, xa_59, xa_60, xa_61, xa_62, xa_63, xa_64, xa_65, xa_66, xa_67, xa_68, xa_69, xa_70, xa_71, xa_72, xa_73, xa_74, xa_75, xa_76, xa_77, xa_78, xa_79, xa_80, xa_81, xa_82, xa_83, xa_84, xa_85, xa_86, xa_87, xa_88, q8]
                simp (disch := omega) only [t87, vp_nI, nI_clamp, true_and, nI_leI, nI_1]
                refine ⟨fun q => absurd q (by omega), fun _ => ?_⟩
                refine ih _ (hs.tr (xs30.upc rfl rfl)) (by rw [xup_n (by decide)]; exact t50) (fun i hi => ?_) (fun i hi => by rw [xup_n (by decide)]; exact t87 i hi) (fun i hi => by rw [xup_n (by decide)]; exact t88 i hi)
                rw [xup_ap]
                by_cases hik : i = k
                · rw [if_pos ⟨rfl, hik⟩, hik]
                · rw [if_neg (fun q => hik q.2)]; exact ht i (by omega)
              · refine bX8_unload_104 (d := d + 11) _ _ _ ?_
                have hs4 : xs30 [50] [83, 87, 88] σ τ := (hs03.wk (by decide) (by decide)).tr hs
                have u45 : τ 30 45 = nI (nL Np) := by rw [hs4.f rfl, e13]; exact h45
                have u43 : τ 30 43 = nI (nSt Np) := by rw [hs4.f rfl, e15]; exact h43
                have u82 : ∀ z, z < 64 → τ 82 z = b2i (Np 39 z == 1) := by rw [hs4.at rfl rfl, e39]; exact h82
                have u84 : ∀ k, k < nSt Np → τ 84 k = nI (Np 40 k) := by rw [hs4.at rfl rfl, e15, e40]; exact h84
                have u86 : ∀ z, z < 1280 → τ 86 z = pI (Np 41 z) := by rw [hs4.at rfl rfl, e41]; exact h86
                try simp only [xi_iload, xi_aload, xi_lload, xi_istore, xi_astore, xi_lstore, xi_ic, xi_lc, xi_iinc, xi_iadd, xi_isub, xi_imul, xi_iand, xi_iushr, xi_ineg, xi_idiv, xi_irem, xi_ladd, xi_lmul, xi_lrem, xi_lcmp, xi_i2l, xi_l2i, xi_i2c, xi_dup, xi_dup2, xi_pop, xi_ifeq, xi_ifne, xi_iflt, xi_ifge, xi_ifgt, xi_ifle, xi_iceq, xi_icne, xi_iclt, xi_icge, xi_icgt, xi_icle, xi_iret, xi_zret, xi_lret, xi_vret, xi_getf, xi_putf, xi_ald, xi_ast, xi_alen, xi_callV, xi_callS, xpop, xroom, xl, xst, xok1, xok2, xnarrow, xwide, xone, xent, List.replicate, Option.isSome_some, Bool.and_self, Bool.true_and, Bool.and_true, List.length_cons, List.length_nil, Nat.reduceAdd, Nat.reduceLT, decide_true, Bool.not_false, Nat.beq, Nat.ble, Option.toList, List.nil_append, List.cons_append, xf_30_0, xf_30_1, xf_30_2, xf_30_3, xf_30_4, xf_30_5, xf_30_6, xf_30_7, xf_30_8, xf_30_9, xf_30_10, xf_30_11, xf_30_12, xf_30_13, xf_30_14, xf_30_15, xf_30_16, xf_30_17, xf_30_18, xf_30_19, xf_30_20, xf_30_21, xf_30_22, xf_30_23, xf_30_24, xf_30_25, xf_30_26, xf_30_27, xf_30_28, xf_30_29, xf_30_30, xf_30_31, xf_30_32, xf_30_33, xf_30_34, xf_30_35, xf_30_36, xf_30_37, xf_30_38, xf_30_39, xf_30_40, xf_30_41, xf_30_42, xf_30_43, xf_30_44, xf_30_45, xf_30_46, xf_30_47, xf_30_48, xf_30_49, xf_30_50, xa_55, xa_56, xa_57, xa_58, xa_59, xa_60, xa_61, xa_62, xa_63, xa_64, xa_65, xa_66, xa_67, xa_68, xa_69, xa_70, xa_71, xa_72, xa_73, xa_74, xa_75, xa_76, xa_77, xa_78, xa_79, xa_80, xa_81, xa_82, xa_83, xa_84, xa_85, xa_86, xa_87, xa_88, q8]
                refine ⟨fun _ => x_R (sX8_goes (N := Np) ⟨u45, u82, t87, t88⟩ u43 u84 u86 (by omega) (by omega) (fun k hk => by rw [e40]; rw [e15] at hk; have := p.2.2.1 k hk; omega) (by rw [e41, e13]; exact w41) (by rw [e41]; exact w10) hbd) (fun v τ5 hτ5 => ?_), fun q => absurd (nI_le (Nat.le_refl _) (by omega)) q⟩
                obtain ⟨rfl, hs5, v43, v84, v86⟩ := hτ5
                try simp only [xi_iload, xi_aload, xi_lload, xi_istore, xi_astore, xi_lstore, xi_ic, xi_lc, xi_iinc, xi_iadd, xi_isub, xi_imul, xi_iand, xi_iushr, xi_ineg, xi_idiv, xi_irem, xi_ladd, xi_lmul, xi_lrem, xi_lcmp, xi_i2l, xi_l2i, xi_i2c, xi_dup, xi_dup2, xi_pop, xi_ifeq, xi_ifne, xi_iflt, xi_ifge, xi_ifgt, xi_ifle, xi_iceq, xi_icne, xi_iclt, xi_icge, xi_icgt, xi_icle, xi_iret, xi_zret, xi_lret, xi_vret, xi_getf, xi_putf, xi_ald, xi_ast, xi_alen, xi_callV, xi_callS, xpop, xroom, xl, xst, xok1, xok2, xnarrow, xwide, xone, xent, List.replicate, Option.isSome_some, Bool.and_self, Bool.true_and, Bool.and_true, List.length_cons, List.length_nil, Nat.reduceAdd, Nat.reduceLT, decide_true, Bool.not_false, Nat.beq, Nat.ble, Option.toList, List.nil_append, List.cons_append]
                have hs6 : xs30 [50, 43] [83, 84, 86, 87, 88] σ τ5 := (hs4.wk (by decide) (by decide)).tr (hs5.wk (by decide) (by decide))
                obtain ⟨cp1, cp2⟩ := yCm_cp (N := Np) (m := nL Np) (k := nSt Np)
                have cp3 := fun c h => (yCm_spec (N := yCp Np (nL Np)) (k := nSt Np)).2.2 c h
                have cms := yCm_spec (N := Np) (k := nSt Np)
                have f15 : nSt (yCarry Np) = (yCm Np (nSt Np)).2 := by
                  show (yCm (yCp Np (nL Np)) (nSt Np)).2 = _
                  exact cp1
                have f40 : (yCarry Np) 40 = (yCm Np (nSt Np)).1 40 := by
                  rw [← cp2]; funext i; rfl
                have f13 : nL (yCarry Np) = nL Np := by
                  show (yCm (yCp Np (nL Np)) (nSt Np)).1 13 3 = _
                  rw [cp3 13 (by decide)]; rfl
                have f38 : (yCarry Np) 38 = Np 38 := by
                  have h := cp3 38 (by decide)
                  funext i
                  show (yCm (yCp Np (nL Np)) (nSt Np)).1 38 i = _
                  rw [h]; rfl
                have f39 : (yCarry Np) 39 = Np 39 := by
                  have h := cp3 39 (by decide)
                  funext i
                  show (yCm (yCp Np (nL Np)) (nSt Np)).1 39 i = _
                  rw [h]; rfl
                have f52 : (yCarry Np) 52 = Np 52 := by
                  have h := cp3 52 (by decide)
                  funext i
                  show (yCm (yCp Np (nL Np)) (nSt Np)).1 52 i = _
                  rw [h]; rfl
                have f51 : ∀ i, i < 8 → (yCarry Np) 51 i = Np 53 i := by
                  intro i hi
                  have h := cp3 51 (by decide)
                  show (yCm (yCp Np (nL Np)) (nSt Np)).1 51 i = _
                  rw [h]
                  unfold yCp
                  by_cases hin : i < nL Np
                  · rw [if_pos ⟨rfl, hin⟩]
                  · rw [if_neg (by omega), e51, (p4 i (by omega)).1]
                    by_cases h0 : 0 < S.2.1 51 i
                    · exact absurd (w51b i h0).1 (by omega)
                    · omega
                have f41 : ∀ i, (yCarry Np) 41 i = yDr Np 1280 41 i := by
                  intro i
                  have h41 := cp3 41 (by decide)
                  have h54 := cp3 54 (by decide)
                  unfold yCarry yDr
                  have a54 : (yU (yCm (yCp Np (nL Np)) (nSt Np)).1 15 3 (yCm (yCp Np (nL Np)) (nSt Np)).2) 54 = Np 54 := by
                    funext t
                    show (yCm (yCp Np (nL Np)) (nSt Np)).1 54 t = _
                    rw [h54]; rfl
                  have a41 : (yU (yCm (yCp Np (nL Np)) (nSt Np)).1 15 3 (yCm (yCp Np (nL Np)) (nSt Np)).2) 41 = Np 41 := by
                    funext t
                    show (yCm (yCp Np (nL Np)) (nSt Np)).1 41 t = _
                    rw [h41]; rfl
                  rw [a54, a41]
                have hNf : MN τ5 (yCarry Np) := by
                  refine ⟨⟨by rw [f13, e13, hs6.f rfl]; exact h45, by rw [f15]; exact v43⟩, by rw [f38, e38, hs6.at rfl rfl]; exact h81, by rw [f39, e39, hs6.at rfl rfl]; exact h82, fun i hi => ?_, fun k hk => ?_, by rw [f52, e52, hs6.at rfl rfl]; exact h85, fun i hi => ?_⟩
                  · rw [f51 i hi, hs5.at rfl rfl]; exact ht i hi
                  · rw [f15] at hk
                    rw [f40]
                    exact v84 k (by have := cms.1; omega)
                  · rw [f41]; exact v86 i hi
                refine PM.of (ZM_lib z hNf hs6 (by decide) (by decide)) (xmod.of hs6 (by decide)) (by rw [hs5.f rfl]; exact t50) (fun _ => ?_)
                show nI _ = nI _
                rw [hleft, e15, e40]
            exact x_forget (copy 0 (by omega) τ3 xs30.rf x50 (fun i hi => by omega) (fun i hi => by rw [hs3.at rfl rfl]; exact hX2.2.2.1 i hi) (fun i hi => by rw [hs3.at rfl rfl]; exact hX2.2.2.2 i hi)) (by simp [xle, xst, nI_0])
      exact x_forget (init 0 (by omega) (xup σ 30 50 0) (xs30.up rfl) (by rw [xu50]; rfl) (fun i hi => by omega)) (by simp [xle, xst, nI_0])
    · have h0 : S.2.1 51 j = 0 := by
        by_cases h : 0 < S.2.1 51 j
        · exfalso
          exact nI_ne0 h (by omega) q
        · omega
      rw [eo, if_pos h0]
      exact PM.of z.t xmod.t xu50 (fun q => by cases q)
end S71
