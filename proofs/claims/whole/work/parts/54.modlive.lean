/-! the reference: what lives -/
section S54
variable {G : XG} {d : Nat} {σ τ : Sg} {M : YM} {T A : Nat → Bool}
theorem nI_sub100 {z : Nat} : nI (100 + z) - nI 100 = nI z := by rw [Nat.add_comm, ← nI_add, Int32.add_sub_cancel]
theorem oN160 : Int32.ofNat 160 = nI 160 := rfl
theorem ev1 : vp_nar (x_ty 1) 1 = b2i true := by decide +kernel
theorem ev0 : vp_nar (x_ty 1) 0 = b2i false := by decide +kernel
/-- the reference's cells hold what lives -/
def ML (σ : Sg) (M : YM) (A : Nat → Bool) : Prop := (∀ s, s < nS M → σ 74 s = b2i (A s)) ∧ ∀ z, z < 160 → σ 75 z = b2i (A (100 + z))
theorem ML.same {l : List Nat} (h : ML σ M A) (hs : xsame l σ τ) (hl : l.contains 74 = false) (hl2 : l.contains 75 = false) : ML τ M A := ⟨fun o ho => by rw [hs.at hl]; exact h.1 o ho, fun o ho => by rw [hs.at hl2]; exact h.2 o ho⟩
theorem sX8_wakes {g : Nat} (h : MI σ M) (w : WF M) (hL : ML σ M A) (hg : gOk M (some g)) : XM G mX8_wakes d [.ref 30, .int (nI g)] σ (fun v τ => v = some (.int (b2i (decide (g < 100) && !A (nd M g)))) ∧ xsame [74, 75] σ τ ∧ ML τ M (fun x => hitB M (some g) x || A x)) := by
  refine xm_of (by decide +kernel) rfl (Nat.le_of_ble_eq_true rfl) ?_
  refine bX8_wakes_0 _ _ _ ?_
  obtain ⟨⟨n1, n8, n13, n19⟩, a55, ⟨a56, a57, a58, a59, a60, a61⟩, ⟨a62, a63, a64, a65⟩, a66, a67, a68, a69, a70⟩ := h
  obtain ⟨b1, b2, b3, b4, b5⟩ := w.1
  obtain ⟨a74, a75⟩ := hL
  rcases hg g rfl with hj | ⟨o, n, ho, hn, rfl, hc⟩
  · have hw1 := (w.2.2.2.1 g hj).1
    have hR : ∀ v : Option Value, v = some (.int (b2i (!A (yDS M g)))) → (v = some (.int (b2i (decide (g < 100) && !A (nd M g)))) ∧ xsame [74, 75] σ (xup σ 74 (yDS M g) (b2i true)) ∧ ML (xup σ 74 (yDS M g) (b2i true)) M (fun x => hitB M (some g) x || A x)) := by
      intro v hv
      refine ⟨by rw [hv, nd_def w hj, decide_eq_true (show g < 100 by omega), Bool.true_and], xsame.up rfl, fun s hs => ?_, fun z hz => ?_⟩
      · rw [xup_ap]
        dsimp only
        rw [hit_def w hj]
        by_cases hsj : s = yDS M g
        · rw [if_pos ⟨rfl, hsj⟩, show (yDS M g == s) = true by simp [hsj]]; rfl
        · rw [if_neg (fun q => hsj q.2), show (yDS M g == s) = false by simp; exact fun q => hsj q.symm, Bool.false_or]; exact a74 s hs
      · rw [xup_ap, if_neg (by omega)]
        dsimp only
        rw [hit_def w hj, show (yDS M g == 100 + z) = false by simp; omega, Bool.false_or]
        exact a75 z hz
    try simp (disch := omega) only [xi_iload, xi_aload, xi_lload, xi_istore, xi_astore, xi_lstore, xi_ic, xi_lc, xi_iinc, xi_iadd, xi_isub, xi_imul, xi_iand, xi_iushr, xi_ineg, xi_idiv, xi_irem, xi_ladd, xi_lmul, xi_lrem, xi_lcmp, xi_i2l, xi_l2i, xi_i2c, xi_dup, xi_dup2, xi_pop, xi_ifeq, xi_ifne, xi_iflt, xi_ifge, xi_ifgt, xi_ifle, xi_iceq, xi_icne, xi_iclt, xi_icge, xi_icgt, xi_icle, xi_iret, xi_zret, xi_lret, xi_vret, xi_getf, xi_putf, xi_ald, xi_ast, xi_alen, xi_callV, xi_callS, xpop, xroom, xl, xst, xok1, xok2, xnarrow, xwide, xone, xent, List.replicate, Option.isSome_some, Bool.and_self, Bool.true_and, Bool.and_true, List.length_cons, List.length_nil, Nat.reduceAdd, Nat.reduceLT, decide_true, Bool.not_false, Nat.beq, Nat.ble, Option.toList, List.nil_append, List.cons_append, xf_30_0, xf_30_1, xf_30_2, xf_30_3, xf_30_4, xf_30_5, xf_30_6, xf_30_7, xf_30_8, xf_30_9, xf_30_10, xf_30_11, xf_30_12, xf_30_13, xf_30_14, xf_30_15, xf_30_16, xf_30_17, xf_30_18, xf_30_19, xf_30_20, xf_30_21, xf_30_22, xf_30_23, xf_30_24, xf_30_25, xf_30_26, xf_30_27, xf_30_28, xf_30_29, xf_30_30, xf_30_31, xf_30_32, xf_30_33, xf_30_34, xf_30_35, xf_30_36, xf_30_37, xf_30_38, xf_30_39, xf_30_40, xf_30_41, xf_30_42, xf_30_43, xf_30_44, xf_30_45, xf_30_46, xf_30_47, xf_30_48, xf_30_49, xf_30_50, xa_55, xa_56, xa_57, xa_58, xa_59, xa_60, xa_61, xa_62, xa_63, xa_64, xa_65, xa_66, xa_67, xa_68, xa_69, xa_70, xa_71, xa_72, xa_73, xa_74, xa_75, xa_76, xa_77, xa_78, xa_79, xa_80, xa_81, xa_82, xa_83, xa_84, xa_85, xa_86, xa_87, xa_88, vp_nI, nI_clamp, true_and, and_true, nI_1, nI_add, pk_mul, nI_leI, nI_ltI, nI_eq, nI_le0, nI_lt0, b2i_ne, b2i_inj, b2i_nar, b2i_t, b2i_f, n1, n8, n13, n19, a55, a56, a57, a58, a59, a60, a61, a62, a63, a64, a65, a66, a67, a68, a69, a70, x115, x119, x108, x99, x97, q16, q2, q3, q4, q8, q10, q160, q40, q24, q100, q1000, q999, a74, ev1, xup_s]
    refine ⟨fun _ => ⟨fun q => ⟨by decide +kernel, hR _ ?_⟩, fun q => ⟨by decide +kernel, hR _ ?_⟩⟩, fun q => absurd (by omega) q⟩
    · rw [show A (yDS M g) = true by simpa using q]; rfl
    · rw [show A (yDS M g) = false by simpa using q]; rfl
  · have hz : 16 * o + n < 160 := by omega
    have hx : ∀ x, hitB M (some (100 + (16 * o + n))) x = (100 + (16 * o + n) == x) := fun x => by
      unfold hitB nd
      dsimp only
      rw [if_neg (by omega)]
    try simp (disch := omega) only [xi_iload, xi_aload, xi_lload, xi_istore, xi_astore, xi_lstore, xi_ic, xi_lc, xi_iinc, xi_iadd, xi_isub, xi_imul, xi_iand, xi_iushr, xi_ineg, xi_idiv, xi_irem, xi_ladd, xi_lmul, xi_lrem, xi_lcmp, xi_i2l, xi_l2i, xi_i2c, xi_dup, xi_dup2, xi_pop, xi_ifeq, xi_ifne, xi_iflt, xi_ifge, xi_ifgt, xi_ifle, xi_iceq, xi_icne, xi_iclt, xi_icge, xi_icgt, xi_icle, xi_iret, xi_zret, xi_lret, xi_vret, xi_getf, xi_putf, xi_ald, xi_ast, xi_alen, xi_callV, xi_callS, xpop, xroom, xl, xst, xok1, xok2, xnarrow, xwide, xone, xent, List.replicate, Option.isSome_some, Bool.and_self, Bool.true_and, Bool.and_true, List.length_cons, List.length_nil, Nat.reduceAdd, Nat.reduceLT, decide_true, Bool.not_false, Nat.beq, Nat.ble, Option.toList, List.nil_append, List.cons_append, xf_30_0, xf_30_1, xf_30_2, xf_30_3, xf_30_4, xf_30_5, xf_30_6, xf_30_7, xf_30_8, xf_30_9, xf_30_10, xf_30_11, xf_30_12, xf_30_13, xf_30_14, xf_30_15, xf_30_16, xf_30_17, xf_30_18, xf_30_19, xf_30_20, xf_30_21, xf_30_22, xf_30_23, xf_30_24, xf_30_25, xf_30_26, xf_30_27, xf_30_28, xf_30_29, xf_30_30, xf_30_31, xf_30_32, xf_30_33, xf_30_34, xf_30_35, xf_30_36, xf_30_37, xf_30_38, xf_30_39, xf_30_40, xf_30_41, xf_30_42, xf_30_43, xf_30_44, xf_30_45, xf_30_46, xf_30_47, xf_30_48, xf_30_49, xf_30_50, xa_55, xa_56, xa_57, xa_58, xa_59, xa_60, xa_61, xa_62, xa_63, xa_64, xa_65, xa_66, xa_67, xa_68, xa_69, xa_70, xa_71, xa_72, xa_73, xa_74, xa_75, xa_76, xa_77, xa_78, xa_79, xa_80, xa_81, xa_82, xa_83, xa_84, xa_85, xa_86, xa_87, xa_88, vp_nI, nI_clamp, true_and, and_true, nI_1, nI_add, pk_mul, nI_leI, nI_ltI, nI_eq, nI_le0, nI_lt0, b2i_ne, b2i_inj, b2i_nar, b2i_t, b2i_f, n1, n8, n13, n19, a55, a56, a57, a58, a59, a60, a61, a62, a63, a64, a65, a66, a67, a68, a69, a70, x115, x119, x108, x99, x97, q16, q2, q3, q4, q8, q10, q160, q40, q24, q100, q1000, q999, a75, ev1, nI_sub100]
    refine ⟨fun q => absurd q (by omega), fun _ => ⟨by decide +kernel, ?_, xsame.up rfl, fun s hs => ?_, fun z hz => ?_⟩⟩
    · rw [decide_eq_false (by omega), Bool.false_and]; rfl
    · rw [xup_ap, if_neg (by omega)]
      dsimp only
      rw [hx, show (100 + (16 * o + n) == s) = false by simp; omega, Bool.false_or]
      exact a74 s hs
    · rw [xup_ap]
      dsimp only
      rw [hx]
      by_cases hzz : z = 16 * o + n
      · rw [if_pos ⟨rfl, hzz⟩, show (100 + (16 * o + n) == 100 + z) = true by simp [hzz]]; rfl
      · rw [if_neg (fun q => hzz q.2), show (100 + (16 * o + n) == 100 + z) = false by simp; omega, Bool.false_or]
        exact a75 z hz
theorem sX8_lives {root : Nat} (h : MI σ M) (w : WF M) (hT : MT σ M T) (hS : MS σ M T) (hG : MG σ M T) (h24 : σ 30 24 = nI root) (hr : root < 16) : XM G mX8_lives (d + 1) [.ref 30] σ (fun v τ => v = some (.int (b2i (!yLack M T root (yLv M T root)))) ∧ xsame [74, 75] σ τ ∧ ML τ M (yLv M T root)) := by
  refine xm_of (by decide +kernel) rfl (Nat.le_of_ble_eq_true rfl) ?_
  refine bX8_lives_0 _ _ _ ?_
  obtain ⟨b1, b2, b3, b4, b5⟩ := w.1
  try simp only [xi_iload, xi_aload, xi_lload, xi_istore, xi_astore, xi_lstore, xi_ic, xi_lc, xi_iinc, xi_iadd, xi_isub, xi_imul, xi_iand, xi_iushr, xi_ineg, xi_idiv, xi_irem, xi_ladd, xi_lmul, xi_lrem, xi_lcmp, xi_i2l, xi_l2i, xi_i2c, xi_dup, xi_dup2, xi_pop, xi_ifeq, xi_ifne, xi_iflt, xi_ifge, xi_ifgt, xi_ifle, xi_iceq, xi_icne, xi_iclt, xi_icge, xi_icgt, xi_icle, xi_iret, xi_zret, xi_lret, xi_vret, xi_getf, xi_putf, xi_ald, xi_ast, xi_alen, xi_callV, xi_callS, xpop, xroom, xl, xst, xok1, xok2, xnarrow, xwide, xone, xent, List.replicate, Option.isSome_some, Bool.and_self, Bool.true_and, Bool.and_true, List.length_cons, List.length_nil, Nat.reduceAdd, Nat.reduceLT, decide_true, Bool.not_false, Nat.beq, Nat.ble, Option.toList, List.nil_append, List.cons_append]
  generalize hR : (fun (v : Option Value) (τ : Sg) => v = some (.int (b2i (!yLack M T root (yLv M T root)))) ∧ xsame [74, 75] σ τ ∧ ML τ M (yLv M T root)) = R
  have pass : ∀ k, (∀ τ, xsame [74, 75] σ τ → ∀ A acc, ML τ M A → (∀ x, yIt M T root 0 x = true → A x = true) → (∀ x, A x = true → yLv M T root x = true) → k + 1 ≤ yCount A (nS M) → (acc = false → yLack M T root (yLv M T root) = true) → (acc = true → yStand M T root ≠ none) → AX8_lives G (d + 1) R 119 [some (.ref 30), some (.int (b2i acc)), some (.int 1), none] [] τ) →
      ∀ j, j ≤ nR M → ∀ τ, xsame [74, 75] σ τ → ∀ A acc gb, ML τ M A → (∀ x, yIt M T root 0 x = true → A x = true) → (∀ x, A x = true → yLv M T root x = true) → (gb = true → k + 1 ≤ yCount A (nS M)) → k ≤ yCount A (nS M) → (acc = false → yLack M T root (yLv M T root) = true) → (acc = true → yStand M T root ≠ none) → (gb = false → ∀ r, r < j → A (yRS M r) = true → (∀ x, hitB M (yGoal M T r) x = true → A x = true) ∧ (acc = true → yGoal M T r ≠ none)) → AX8_lives G (d + 1) R 127 [some (.ref 30), some (.int (b2i acc)), some (.int (b2i gb)), some (.int (nI j))] [] τ := by
    intro k hk
    refine loop_up (fun j hj ih τ hs A acc gb hL lo up hgb hkc hf ht hcl => ?_) (fun τ hs A acc gb hL lo up hgb hkc hf ht hcl => ?_)
    · have hM := h.same hs (by decide)
      have hG' := hG.same hs (by decide)
      obtain ⟨⟨n1, n8, n13, n19⟩, a55, ⟨a56, a57, a58, a59, a60, a61⟩, ⟨a62, a63, a64, a65⟩, a66, a67, a68, a69, a70⟩ := id hM
      have a73 : ∀ r, r < nR M → τ 73 r = oI (yGoal M T r) := hG'
      obtain ⟨a74, a75⟩ := id hL
      have hw := w.2.2.2.2.2.2.1 j hj
      have hw1 := hw.1
      refine bX8_lives_127 _ _ _ ?_
      cases hA : A (yRS M j) with
      | false =>
        have i0 := ih τ hs A acc gb hL lo up hgb hkc hf ht (fun hg r hrj hrA => by
          by_cases hrj2 : r = j
          · subst hrj2; rw [hA] at hrA; cases hrA
          · exact hcl hg r (by omega) hrA)
        try simp (disch := omega) only [xi_iload, xi_aload, xi_lload, xi_istore, xi_astore, xi_lstore, xi_ic, xi_lc, xi_iinc, xi_iadd, xi_isub, xi_imul, xi_iand, xi_iushr, xi_ineg, xi_idiv, xi_irem, xi_ladd, xi_lmul, xi_lrem, xi_lcmp, xi_i2l, xi_l2i, xi_i2c, xi_dup, xi_dup2, xi_pop, xi_ifeq, xi_ifne, xi_iflt, xi_ifge, xi_ifgt, xi_ifle, xi_iceq, xi_icne, xi_iclt, xi_icge, xi_icgt, xi_icle, xi_iret, xi_zret, xi_lret, xi_vret, xi_getf, xi_putf, xi_ald, xi_ast, xi_alen, xi_callV, xi_callS, xpop, xroom, xl, xst, xok1, xok2, xnarrow, xwide, xone, xent, List.replicate, Option.isSome_some, Bool.and_self, Bool.true_and, Bool.and_true, List.length_cons, List.length_nil, Nat.reduceAdd, Nat.reduceLT, decide_true, Bool.not_false, Nat.beq, Nat.ble, Option.toList, List.nil_append, List.cons_append, xf_30_0, xf_30_1, xf_30_2, xf_30_3, xf_30_4, xf_30_5, xf_30_6, xf_30_7, xf_30_8, xf_30_9, xf_30_10, xf_30_11, xf_30_12, xf_30_13, xf_30_14, xf_30_15, xf_30_16, xf_30_17, xf_30_18, xf_30_19, xf_30_20, xf_30_21, xf_30_22, xf_30_23, xf_30_24, xf_30_25, xf_30_26, xf_30_27, xf_30_28, xf_30_29, xf_30_30, xf_30_31, xf_30_32, xf_30_33, xf_30_34, xf_30_35, xf_30_36, xf_30_37, xf_30_38, xf_30_39, xf_30_40, xf_30_41, xf_30_42, xf_30_43, xf_30_44, xf_30_45, xf_30_46, xf_30_47, xf_30_48, xf_30_49, xf_30_50, xa_55, xa_56, xa_57, xa_58, xa_59, xa_60, xa_61, xa_62, xa_63, xa_64, xa_65, xa_66, xa_67, xa_68, xa_69, xa_70, xa_71, xa_72, xa_73, xa_74, xa_75, xa_76, xa_77, xa_78, xa_79, xa_80, xa_81, xa_82, xa_83, xa_84, xa_85, xa_86, xa_87, xa_88, vp_nI, nI_clamp, true_and, and_true, nI_1, nI_add, pk_mul, nI_leI, nI_ltI, nI_eq, nI_le0, nI_lt0, b2i_ne, b2i_inj, b2i_nar, b2i_t, b2i_f, n1, n8, n13, n19, a55, a56, a57, a58, a59, a60, a61, a62, a63, a64, a65, a66, a67, a68, a69, a70, x115, x119, x108, x99, x97, q16, q2, q3, q4, q8, q10, q160, q40, q24, q100, q1000, q999, a74, hA, a73]
        exact ⟨fun q => absurd q (by omega), fun _ => ⟨fun _ => i0, fun q => absurd (by trivial) q⟩⟩
      | true =>
        have h168 : ∀ b : Bool, b = (acc && (yGoal M T j).isSome) → AX8_lives G (d + 1) R 168 [some (.ref 30), some (.int (b2i acc)), some (.int (b2i gb)), some (.int (nI j))] [.int (b2i b)] τ := by
          intro b hb
          refine bX8_lives_168 _ _ _ ?_
          rcases hgo : yGoal M T j with _ | g
          · rw [hgo, Option.isSome_none, Bool.and_false] at hb
            subst hb
            have i0 := ih τ hs A false gb hL lo up hgb hkc (fun _ => by
              unfold yLack
              rw [Bool.or_eq_true]
              exact Or.inl (anyB_iff.mpr ⟨j, hj, by rw [up _ hA, hgo]; rfl⟩)) (fun q => by cases q) (fun hg r hrj hrA => by
              refine ⟨?_, fun q => by cases q⟩
              by_cases hrj2 : r = j
              · subst hrj2; intro x hx; rw [hgo] at hx; cases hx
              · exact (hcl hg r (by omega) hrA).1)
            try simp (disch := omega) only [xi_iload, xi_aload, xi_lload, xi_istore, xi_astore, xi_lstore, xi_ic, xi_lc, xi_iinc, xi_iadd, xi_isub, xi_imul, xi_iand, xi_iushr, xi_ineg, xi_idiv, xi_irem, xi_ladd, xi_lmul, xi_lrem, xi_lcmp, xi_i2l, xi_l2i, xi_i2c, xi_dup, xi_dup2, xi_pop, xi_ifeq, xi_ifne, xi_iflt, xi_ifge, xi_ifgt, xi_ifle, xi_iceq, xi_icne, xi_iclt, xi_icge, xi_icgt, xi_icle, xi_iret, xi_zret, xi_lret, xi_vret, xi_getf, xi_putf, xi_ald, xi_ast, xi_alen, xi_callV, xi_callS, xpop, xroom, xl, xst, xok1, xok2, xnarrow, xwide, xone, xent, List.replicate, Option.isSome_some, Bool.and_self, Bool.true_and, Bool.and_true, List.length_cons, List.length_nil, Nat.reduceAdd, Nat.reduceLT, decide_true, Bool.not_false, Nat.beq, Nat.ble, Option.toList, List.nil_append, List.cons_append, xf_30_0, xf_30_1, xf_30_2, xf_30_3, xf_30_4, xf_30_5, xf_30_6, xf_30_7, xf_30_8, xf_30_9, xf_30_10, xf_30_11, xf_30_12, xf_30_13, xf_30_14, xf_30_15, xf_30_16, xf_30_17, xf_30_18, xf_30_19, xf_30_20, xf_30_21, xf_30_22, xf_30_23, xf_30_24, xf_30_25, xf_30_26, xf_30_27, xf_30_28, xf_30_29, xf_30_30, xf_30_31, xf_30_32, xf_30_33, xf_30_34, xf_30_35, xf_30_36, xf_30_37, xf_30_38, xf_30_39, xf_30_40, xf_30_41, xf_30_42, xf_30_43, xf_30_44, xf_30_45, xf_30_46, xf_30_47, xf_30_48, xf_30_49, xf_30_50, xa_55, xa_56, xa_57, xa_58, xa_59, xa_60, xa_61, xa_62, xa_63, xa_64, xa_65, xa_66, xa_67, xa_68, xa_69, xa_70, xa_71, xa_72, xa_73, xa_74, xa_75, xa_76, xa_77, xa_78, xa_79, xa_80, xa_81, xa_82, xa_83, xa_84, xa_85, xa_86, xa_87, xa_88, vp_nI, nI_clamp, true_and, and_true, nI_1, nI_add, pk_mul, nI_leI, nI_ltI, nI_eq, nI_le0, nI_lt0, b2i_ne, b2i_inj, b2i_nar, b2i_t, b2i_f, n1, n8, n13, n19, a55, a56, a57, a58, a59, a60, a61, a62, a63, a64, a65, a66, a67, a68, a69, a70, x115, x119, x108, x99, x97, q16, q2, q3, q4, q8, q10, q160, q40, q24, q100, q1000, q999, a73, hgo, oI]
            refine ⟨fun _ => ⟨fun q => ?_, fun q => ?_⟩, fun q => absurd (by trivial) q⟩
            · subst q; exact i0
            · rw [show gb = true by simpa using q] at i0; exact i0
          · rw [hgo, Option.isSome_some, Bool.and_true] at hb
            subst hb
            have hok := yGoal_ok (T := T) w hj
            rw [hgo] at hok
            have hg2 : g < 2 ^ 31 := by rcases hok g rfl with h1 | ⟨o, n, h1, h2, h3, h4⟩ <;> omega
            try simp (disch := omega) only [xi_iload, xi_aload, xi_lload, xi_istore, xi_astore, xi_lstore, xi_ic, xi_lc, xi_iinc, xi_iadd, xi_isub, xi_imul, xi_iand, xi_iushr, xi_ineg, xi_idiv, xi_irem, xi_ladd, xi_lmul, xi_lrem, xi_lcmp, xi_i2l, xi_l2i, xi_i2c, xi_dup, xi_dup2, xi_pop, xi_ifeq, xi_ifne, xi_iflt, xi_ifge, xi_ifgt, xi_ifle, xi_iceq, xi_icne, xi_iclt, xi_icge, xi_icgt, xi_icle, xi_iret, xi_zret, xi_lret, xi_vret, xi_getf, xi_putf, xi_ald, xi_ast, xi_alen, xi_callV, xi_callS, xpop, xroom, xl, xst, xok1, xok2, xnarrow, xwide, xone, xent, List.replicate, Option.isSome_some, Bool.and_self, Bool.true_and, Bool.and_true, List.length_cons, List.length_nil, Nat.reduceAdd, Nat.reduceLT, decide_true, Bool.not_false, Nat.beq, Nat.ble, Option.toList, List.nil_append, List.cons_append, xf_30_0, xf_30_1, xf_30_2, xf_30_3, xf_30_4, xf_30_5, xf_30_6, xf_30_7, xf_30_8, xf_30_9, xf_30_10, xf_30_11, xf_30_12, xf_30_13, xf_30_14, xf_30_15, xf_30_16, xf_30_17, xf_30_18, xf_30_19, xf_30_20, xf_30_21, xf_30_22, xf_30_23, xf_30_24, xf_30_25, xf_30_26, xf_30_27, xf_30_28, xf_30_29, xf_30_30, xf_30_31, xf_30_32, xf_30_33, xf_30_34, xf_30_35, xf_30_36, xf_30_37, xf_30_38, xf_30_39, xf_30_40, xf_30_41, xf_30_42, xf_30_43, xf_30_44, xf_30_45, xf_30_46, xf_30_47, xf_30_48, xf_30_49, xf_30_50, xa_55, xa_56, xa_57, xa_58, xa_59, xa_60, xa_61, xa_62, xa_63, xa_64, xa_65, xa_66, xa_67, xa_68, xa_69, xa_70, xa_71, xa_72, xa_73, xa_74, xa_75, xa_76, xa_77, xa_78, xa_79, xa_80, xa_81, xa_82, xa_83, xa_84, xa_85, xa_86, xa_87, xa_88, vp_nI, nI_clamp, true_and, and_true, nI_1, nI_add, pk_mul, nI_leI, nI_ltI, nI_eq, nI_le0, nI_lt0, b2i_ne, b2i_inj, b2i_nar, b2i_t, b2i_f, n1, n8, n13, n19, a55, a56, a57, a58, a59, a60, a61, a62, a63, a64, a65, a66, a67, a68, a69, a70, x115, x119, x108, x99, x97, q16, q2, q3, q4, q8, q10, q160, q40, q24, q100, q1000, q999, a73, hgo, oI]
            refine ⟨fun q => absurd q (nIm _ hg2), fun _ => x_R (sX8_wakes hM w hL hok) (fun v ρ hρ => ?_)⟩
            obtain ⟨rfl, hs2, hL2⟩ := hρ
            have hup2 : ∀ x, (hitB M (some g) x || A x) = true → yLv M T root x = true := by
              intro x hx
              rw [Bool.or_eq_true] at hx
              rcases hx with hx | hx
              · exact yLv_go w hj (up _ hA) (by rw [hgo]; exact hx)
              · exact up x hx
            have hlo2 : ∀ x, yIt M T root 0 x = true → (hitB M (some g) x || A x) = true := fun x hx => by rw [lo x hx, Bool.or_true]
            have hcm : yCount A (nS M) ≤ yCount (fun x => hitB M (some g) x || A x) (nS M) := yCount_mono (fun x _ hx => by rw [hx, Bool.or_true])
            have i0 : ∀ gb2 : Bool, (gb2 = true → k + 1 ≤ yCount (fun x => hitB M (some g) x || A x) (nS M)) → (gb2 = false → gb = false ∧ ∀ s, s < nS M → hitB M (some g) s = true → A s = true) → AX8_lives G (d + 1) R 127 [some (.ref 30), some (.int (b2i b)), some (.int (b2i gb2)), some (.int (nI (j + 1)))] [] ρ := by
              intro gb2 h1 h2
              refine ih ρ (hs.tr hs2) _ b gb2 hL2 hlo2 hup2 h1 (Nat.le_trans hkc hcm) hf ht (fun hg r hrj hrA => ?_)
              obtain ⟨h3, h4⟩ := h2 hg
              have hrA2 : A (yRS M r) = true := by
                rw [Bool.or_eq_true] at hrA
                rcases hrA with hx | hx
                · exact h4 _ (w.2.2.2.2.2.2.1 r (by omega)).1 hx
                · exact hx
              by_cases hrj2 : r = j
              · subst hrj2
                exact ⟨fun x hx => by rw [hgo] at hx; rw [hx, Bool.true_or], fun _ => by rw [hgo]; exact fun q => by cases q⟩
              · obtain ⟨h5, h6⟩ := hcl h3 r (by omega) hrA2
                exact ⟨fun x hx => by rw [h5 x hx, Bool.or_true], h6⟩
            cases hres : (decide (g < 100) && !A (nd M g)) with
            | true =>
              rw [Bool.and_eq_true, decide_eq_true_eq] at hres
              have hgd : g < nD M := by rcases hok g rfl with h1 | ⟨o, n, h1, h2, h3, h4⟩ <;> omega
              have hnd := nd_def w hgd
              have i1 := i0 true (fun _ => by
                have := yCount_lt (p := A) (q := fun x => hitB M (some g) x || A x) (n := nS M) (fun x _ hx => by rw [hx, Bool.or_true]) ⟨yDS M g, (w.2.2.2.1 g hgd).1, by rw [hit_def w hgd]; simp, by rw [hnd] at hres; simpa using hres.2⟩
                omega) (fun q => by cases q)
              try simp (disch := omega) only [xi_iload, xi_aload, xi_lload, xi_istore, xi_astore, xi_lstore, xi_ic, xi_lc, xi_iinc, xi_iadd, xi_isub, xi_imul, xi_iand, xi_iushr, xi_ineg, xi_idiv, xi_irem, xi_ladd, xi_lmul, xi_lrem, xi_lcmp, xi_i2l, xi_l2i, xi_i2c, xi_dup, xi_dup2, xi_pop, xi_ifeq, xi_ifne, xi_iflt, xi_ifge, xi_ifgt, xi_ifle, xi_iceq, xi_icne, xi_iclt, xi_icge, xi_icgt, xi_icle, xi_iret, xi_zret, xi_lret, xi_vret, xi_getf, xi_putf, xi_ald, xi_ast, xi_alen, xi_callV, xi_callS, xpop, xroom, xl, xst, xok1, xok2, xnarrow, xwide, xone, xent, List.replicate, Option.isSome_some, Bool.and_self, Bool.true_and, Bool.and_true, List.length_cons, List.length_nil, Nat.reduceAdd, Nat.reduceLT, decide_true, Bool.not_false, Nat.beq, Nat.ble, Option.toList, List.nil_append, List.cons_append, xf_30_0, xf_30_1, xf_30_2, xf_30_3, xf_30_4, xf_30_5, xf_30_6, xf_30_7, xf_30_8, xf_30_9, xf_30_10, xf_30_11, xf_30_12, xf_30_13, xf_30_14, xf_30_15, xf_30_16, xf_30_17, xf_30_18, xf_30_19, xf_30_20, xf_30_21, xf_30_22, xf_30_23, xf_30_24, xf_30_25, xf_30_26, xf_30_27, xf_30_28, xf_30_29, xf_30_30, xf_30_31, xf_30_32, xf_30_33, xf_30_34, xf_30_35, xf_30_36, xf_30_37, xf_30_38, xf_30_39, xf_30_40, xf_30_41, xf_30_42, xf_30_43, xf_30_44, xf_30_45, xf_30_46, xf_30_47, xf_30_48, xf_30_49, xf_30_50, xa_55, xa_56, xa_57, xa_58, xa_59, xa_60, xa_61, xa_62, xa_63, xa_64, xa_65, xa_66, xa_67, xa_68, xa_69, xa_70, xa_71, xa_72, xa_73, xa_74, xa_75, xa_76, xa_77, xa_78, xa_79, xa_80, xa_81, xa_82, xa_83, xa_84, xa_85, xa_86, xa_87, xa_88, vp_nI, nI_clamp, true_and, and_true, nI_1, nI_add, pk_mul, nI_leI, nI_ltI, nI_eq, nI_le0, nI_lt0, b2i_ne, b2i_inj, b2i_nar, b2i_t, b2i_f, n1, n8, n13, n19, a55, a56, a57, a58, a59, a60, a61, a62, a63, a64, a65, a66, a67, a68, a69, a70, x115, x119, x108, x99, x97, q16, q2, q3, q4, q8, q10, q160, q40, q24, q100, q1000, q999]
              refine ⟨fun _ => i1, fun q => absurd q (by decide)⟩
            | false =>
              have hsec : ∀ s, s < nS M → hitB M (some g) s = true → A s = true := by
                intro s hsn hx
                have e : nd M g = s := by unfold hitB at hx; simpa using hx
                rw [Bool.and_eq_false_iff] at hres
                rcases hres with q | q
                · unfold nd at e
                  rw [if_neg (by simpa using q)] at e
                  simp at q
                  omega
                · rw [e] at q; simpa using q
              have i1 := i0 gb (fun q => Nat.le_trans (hgb q) hcm) (fun q => ⟨q, hsec⟩)
              try simp (disch := omega) only [xi_iload, xi_aload, xi_lload, xi_istore, xi_astore, xi_lstore, xi_ic, xi_lc, xi_iinc, xi_iadd, xi_isub, xi_imul, xi_iand, xi_iushr, xi_ineg, xi_idiv, xi_irem, xi_ladd, xi_lmul, xi_lrem, xi_lcmp, xi_i2l, xi_l2i, xi_i2c, xi_dup, xi_dup2, xi_pop, xi_ifeq, xi_ifne, xi_iflt, xi_ifge, xi_ifgt, xi_ifle, xi_iceq, xi_icne, xi_iclt, xi_icge, xi_icgt, xi_icle, xi_iret, xi_zret, xi_lret, xi_vret, xi_getf, xi_putf, xi_ald, xi_ast, xi_alen, xi_callV, xi_callS, xpop, xroom, xl, xst, xok1, xok2, xnarrow, xwide, xone, xent, List.replicate, Option.isSome_some, Bool.and_self, Bool.true_and, Bool.and_true, List.length_cons, List.length_nil, Nat.reduceAdd, Nat.reduceLT, decide_true, Bool.not_false, Nat.beq, Nat.ble, Option.toList, List.nil_append, List.cons_append, xf_30_0, xf_30_1, xf_30_2, xf_30_3, xf_30_4, xf_30_5, xf_30_6, xf_30_7, xf_30_8, xf_30_9, xf_30_10, xf_30_11, xf_30_12, xf_30_13, xf_30_14, xf_30_15, xf_30_16, xf_30_17, xf_30_18, xf_30_19, xf_30_20, xf_30_21, xf_30_22, xf_30_23, xf_30_24, xf_30_25, xf_30_26, xf_30_27, xf_30_28, xf_30_29, xf_30_30, xf_30_31, xf_30_32, xf_30_33, xf_30_34, xf_30_35, xf_30_36, xf_30_37, xf_30_38, xf_30_39, xf_30_40, xf_30_41, xf_30_42, xf_30_43, xf_30_44, xf_30_45, xf_30_46, xf_30_47, xf_30_48, xf_30_49, xf_30_50, xa_55, xa_56, xa_57, xa_58, xa_59, xa_60, xa_61, xa_62, xa_63, xa_64, xa_65, xa_66, xa_67, xa_68, xa_69, xa_70, xa_71, xa_72, xa_73, xa_74, xa_75, xa_76, xa_77, xa_78, xa_79, xa_80, xa_81, xa_82, xa_83, xa_84, xa_85, xa_86, xa_87, xa_88, vp_nI, nI_clamp, true_and, and_true, nI_1, nI_add, pk_mul, nI_leI, nI_ltI, nI_eq, nI_le0, nI_lt0, b2i_ne, b2i_inj, b2i_nar, b2i_t, b2i_f, n1, n8, n13, n19, a55, a56, a57, a58, a59, a60, a61, a62, a63, a64, a65, a66, a67, a68, a69, a70, x115, x119, x108, x99, x97, q16, q2, q3, q4, q8, q10, q160, q40, q24, q100, q1000, q999]
              refine ⟨fun q => absurd (by trivial) q, fun _ => ⟨fun q => ?_, fun q => ?_⟩⟩
              · subst q; exact i1
              · rw [show gb = true by simpa using q] at i1; exact i1
        try simp (disch := omega) only [xi_iload, xi_aload, xi_lload, xi_istore, xi_astore, xi_lstore, xi_ic, xi_lc, xi_iinc, xi_iadd, xi_isub, xi_imul, xi_iand, xi_iushr, xi_ineg, xi_idiv, xi_irem, xi_ladd, xi_lmul, xi_lrem, xi_lcmp, xi_i2l, xi_l2i, xi_i2c, xi_dup, xi_dup2, xi_pop, xi_ifeq, xi_ifne, xi_iflt, xi_ifge, xi_ifgt, xi_ifle, xi_iceq, xi_icne, xi_iclt, xi_icge, xi_icgt, xi_icle, xi_iret, xi_zret, xi_lret, xi_vret, xi_getf, xi_putf, xi_ald, xi_ast, xi_alen, xi_callV, xi_callS, xpop, xroom, xl, xst, xok1, xok2, xnarrow, xwide, xone, xent, List.replicate, Option.isSome_some, Bool.and_self, Bool.true_and, Bool.and_true, List.length_cons, List.length_nil, Nat.reduceAdd, Nat.reduceLT, decide_true, Bool.not_false, Nat.beq, Nat.ble, Option.toList, List.nil_append, List.cons_append, xf_30_0, xf_30_1, xf_30_2, xf_30_3, xf_30_4, xf_30_5, xf_30_6, xf_30_7, xf_30_8, xf_30_9, xf_30_10, xf_30_11, xf_30_12, xf_30_13, xf_30_14, xf_30_15, xf_30_16, xf_30_17, xf_30_18, xf_30_19, xf_30_20, xf_30_21, xf_30_22, xf_30_23, xf_30_24, xf_30_25, xf_30_26, xf_30_27, xf_30_28, xf_30_29, xf_30_30, xf_30_31, xf_30_32, xf_30_33, xf_30_34, xf_30_35, xf_30_36, xf_30_37, xf_30_38, xf_30_39, xf_30_40, xf_30_41, xf_30_42, xf_30_43, xf_30_44, xf_30_45, xf_30_46, xf_30_47, xf_30_48, xf_30_49, xf_30_50, xa_55, xa_56, xa_57, xa_58, xa_59, xa_60, xa_61, xa_62, xa_63, xa_64, xa_65, xa_66, xa_67, xa_68, xa_69, xa_70, xa_71, xa_72, xa_73, xa_74, xa_75, xa_76, xa_77, xa_78, xa_79, xa_80, xa_81, xa_82, xa_83, xa_84, xa_85, xa_86, xa_87, xa_88, vp_nI, nI_clamp, true_and, and_true, nI_1, nI_add, pk_mul, nI_leI, nI_ltI, nI_eq, nI_le0, nI_lt0, b2i_ne, b2i_inj, b2i_nar, b2i_t, b2i_f, n1, n8, n13, n19, a55, a56, a57, a58, a59, a60, a61, a62, a63, a64, a65, a66, a67, a68, a69, a70, x115, x119, x108, x99, x97, q16, q2, q3, q4, q8, q10, q160, q40, q24, q100, q1000, q999, a74, hA, a73]
        have hgl : ∀ z, yGoal M T j = some z → z < 2 ^ 31 := by
          intro z hz
          have hok := yGoal_ok (T := T) w hj
          rcases hok z hz with h1 | ⟨o, n, h1, h2, h3, h4⟩ <;> omega
        rw [oI_none hgl]
        refine ⟨fun q => absurd q (by omega), fun _ => ⟨fun q => absurd q (by decide), fun _ => ⟨fun q => h168 false (by rw [q]; rfl), fun q => ⟨fun q2 => h168 false (by rw [q2]; simp), fun q2 => h168 true ?_⟩⟩⟩⟩
        rw [show acc = true by simpa using q, Bool.true_and]
        cases hgo : yGoal M T j with
        | none => exact absurd hgo q2
        | some g => rfl
    · have hM := h.same hs (by decide)
      obtain ⟨⟨n1, n8, n13, n19⟩, a55, ⟨a56, a57, a58, a59, a60, a61⟩, ⟨a62, a63, a64, a65⟩, a66, a67, a68, a69, a70⟩ := id hM
      refine bX8_lives_127 _ _ _ ?_
      try simp (disch := omega) only [xi_iload, xi_aload, xi_lload, xi_istore, xi_astore, xi_lstore, xi_ic, xi_lc, xi_iinc, xi_iadd, xi_isub, xi_imul, xi_iand, xi_iushr, xi_ineg, xi_idiv, xi_irem, xi_ladd, xi_lmul, xi_lrem, xi_lcmp, xi_i2l, xi_l2i, xi_i2c, xi_dup, xi_dup2, xi_pop, xi_ifeq, xi_ifne, xi_iflt, xi_ifge, xi_ifgt, xi_ifle, xi_iceq, xi_icne, xi_iclt, xi_icge, xi_icgt, xi_icle, xi_iret, xi_zret, xi_lret, xi_vret, xi_getf, xi_putf, xi_ald, xi_ast, xi_alen, xi_callV, xi_callS, xpop, xroom, xl, xst, xok1, xok2, xnarrow, xwide, xone, xent, List.replicate, Option.isSome_some, Bool.and_self, Bool.true_and, Bool.and_true, List.length_cons, List.length_nil, Nat.reduceAdd, Nat.reduceLT, decide_true, Bool.not_false, Nat.beq, Nat.ble, Option.toList, List.nil_append, List.cons_append, xf_30_0, xf_30_1, xf_30_2, xf_30_3, xf_30_4, xf_30_5, xf_30_6, xf_30_7, xf_30_8, xf_30_9, xf_30_10, xf_30_11, xf_30_12, xf_30_13, xf_30_14, xf_30_15, xf_30_16, xf_30_17, xf_30_18, xf_30_19, xf_30_20, xf_30_21, xf_30_22, xf_30_23, xf_30_24, xf_30_25, xf_30_26, xf_30_27, xf_30_28, xf_30_29, xf_30_30, xf_30_31, xf_30_32, xf_30_33, xf_30_34, xf_30_35, xf_30_36, xf_30_37, xf_30_38, xf_30_39, xf_30_40, xf_30_41, xf_30_42, xf_30_43, xf_30_44, xf_30_45, xf_30_46, xf_30_47, xf_30_48, xf_30_49, xf_30_50, xa_55, xa_56, xa_57, xa_58, xa_59, xa_60, xa_61, xa_62, xa_63, xa_64, xa_65, xa_66, xa_67, xa_68, xa_69, xa_70, xa_71, xa_72, xa_73, xa_74, xa_75, xa_76, xa_77, xa_78, xa_79, xa_80, xa_81, xa_82, xa_83, xa_84, xa_85, xa_86, xa_87, xa_88, vp_nI, nI_clamp, true_and, and_true, nI_1, nI_add, pk_mul, nI_leI, nI_ltI, nI_eq, nI_le0, nI_lt0, b2i_ne, b2i_inj, b2i_nar, b2i_t, b2i_f, n1, n8, n13, n19, a55, a56, a57, a58, a59, a60, a61, a62, a63, a64, a65, a66, a67, a68, a69, a70, x115, x119, x108, x99, x97, q16, q2, q3, q4, q8, q10, q160, q40, q24, q100, q1000, q999]
      refine ⟨fun _ => ?_, fun q => absurd (Nat.le_refl _) q⟩
      cases gb with
      | true => exact x_forget (hk τ hs A acc hL lo up (hgb rfl) hf ht) (by simp [xle, xst, b2i])
      | false =>
        refine bX8_lives_119 _ _ _ ?_
        try simp (disch := omega) only [xi_iload, xi_aload, xi_lload, xi_istore, xi_astore, xi_lstore, xi_ic, xi_lc, xi_iinc, xi_iadd, xi_isub, xi_imul, xi_iand, xi_iushr, xi_ineg, xi_idiv, xi_irem, xi_ladd, xi_lmul, xi_lrem, xi_lcmp, xi_i2l, xi_l2i, xi_i2c, xi_dup, xi_dup2, xi_pop, xi_ifeq, xi_ifne, xi_iflt, xi_ifge, xi_ifgt, xi_ifle, xi_iceq, xi_icne, xi_iclt, xi_icge, xi_icgt, xi_icle, xi_iret, xi_zret, xi_lret, xi_vret, xi_getf, xi_putf, xi_ald, xi_ast, xi_alen, xi_callV, xi_callS, xpop, xroom, xl, xst, xok1, xok2, xnarrow, xwide, xone, xent, List.replicate, Option.isSome_some, Bool.and_self, Bool.true_and, Bool.and_true, List.length_cons, List.length_nil, Nat.reduceAdd, Nat.reduceLT, decide_true, Bool.not_false, Nat.beq, Nat.ble, Option.toList, List.nil_append, List.cons_append, xf_30_0, xf_30_1, xf_30_2, xf_30_3, xf_30_4, xf_30_5, xf_30_6, xf_30_7, xf_30_8, xf_30_9, xf_30_10, xf_30_11, xf_30_12, xf_30_13, xf_30_14, xf_30_15, xf_30_16, xf_30_17, xf_30_18, xf_30_19, xf_30_20, xf_30_21, xf_30_22, xf_30_23, xf_30_24, xf_30_25, xf_30_26, xf_30_27, xf_30_28, xf_30_29, xf_30_30, xf_30_31, xf_30_32, xf_30_33, xf_30_34, xf_30_35, xf_30_36, xf_30_37, xf_30_38, xf_30_39, xf_30_40, xf_30_41, xf_30_42, xf_30_43, xf_30_44, xf_30_45, xf_30_46, xf_30_47, xf_30_48, xf_30_49, xf_30_50, xa_55, xa_56, xa_57, xa_58, xa_59, xa_60, xa_61, xa_62, xa_63, xa_64, xa_65, xa_66, xa_67, xa_68, xa_69, xa_70, xa_71, xa_72, xa_73, xa_74, xa_75, xa_76, xa_77, xa_78, xa_79, xa_80, xa_81, xa_82, xa_83, xa_84, xa_85, xa_86, xa_87, xa_88, vp_nI, nI_clamp, true_and, and_true, nI_1, nI_add, pk_mul, nI_leI, nI_ltI, nI_eq, nI_le0, nI_lt0, b2i_ne, b2i_inj, b2i_nar, b2i_t, b2i_f, n1, n8, n13, n19, a55, a56, a57, a58, a59, a60, a61, a62, a63, a64, a65, a66, a67, a68, a69, a70, x115, x119, x108, x99, x97, q16, q2, q3, q4, q8, q10, q160, q40, q24, q100, q1000, q999]
        refine ⟨fun _ => ?_, fun q => absurd (by trivial) q⟩
        rw [← hR]
        have hle : ∀ x, yLv M T root x = true → A x = true := yLv_least lo (fun r hrr hra => (hcl rfl r hrr hra).1)
        have eA : A = yLv M T root := by
          funext x
          rw [Bool.eq_iff_iff]
          exact ⟨up x, hle x⟩
        refine ⟨?_, hs, by rw [← eA]; exact hL⟩
        cases acc with
        | false => rw [hf rfl]; rfl
        | true =>
          have hnl : yLack M T root (yLv M T root) = false := by
            unfold yLack
            rw [Bool.or_eq_false_iff]
            refine ⟨anyB_not.mpr (fun r hrr => ?_), isN_f (ht rfl)⟩
            cases hra : yLv M T root (yRS M r) with
            | false => rfl
            | true => rw [Bool.true_and]; exact isN_f ((hcl rfl r hrr (hle _ hra)).2 rfl)
          rw [hnl]; rfl
  have turns : ∀ k, k ≤ nS M + 1 → ∀ τ, xsame [74, 75] σ τ → ∀ A acc, ML τ M A → (∀ x, yIt M T root 0 x = true → A x = true) → (∀ x, A x = true → yLv M T root x = true) → k ≤ yCount A (nS M) → (acc = false → yLack M T root (yLv M T root) = true) → (acc = true → yStand M T root ≠ none) → AX8_lives G (d + 1) R 119 [some (.ref 30), some (.int (b2i acc)), some (.int 1), none] [] τ := by
    refine loop_up (fun k hk ih τ hs A acc hL lo up hkc hf ht => ?_) (fun τ hs A acc hL lo up hkc hf ht => ?_)
    · refine bX8_lives_119 _ _ _ ?_
      have p0 := pass k ih 0 (by omega) τ hs A acc false hL lo up (fun q => by cases q) hkc hf ht (fun _ r hr => by omega)
      try simp (disch := omega) only [xi_iload, xi_aload, xi_lload, xi_istore, xi_astore, xi_lstore, xi_ic, xi_lc, xi_iinc, xi_iadd, xi_isub, xi_imul, xi_iand, xi_iushr, xi_ineg, xi_idiv, xi_irem, xi_ladd, xi_lmul, xi_lrem, xi_lcmp, xi_i2l, xi_l2i, xi_i2c, xi_dup, xi_dup2, xi_pop, xi_ifeq, xi_ifne, xi_iflt, xi_ifge, xi_ifgt, xi_ifle, xi_iceq, xi_icne, xi_iclt, xi_icge, xi_icgt, xi_icle, xi_iret, xi_zret, xi_lret, xi_vret, xi_getf, xi_putf, xi_ald, xi_ast, xi_alen, xi_callV, xi_callS, xpop, xroom, xl, xst, xok1, xok2, xnarrow, xwide, xone, xent, List.replicate, Option.isSome_some, Bool.and_self, Bool.true_and, Bool.and_true, List.length_cons, List.length_nil, Nat.reduceAdd, Nat.reduceLT, decide_true, Bool.not_false, Nat.beq, Nat.ble, Option.toList, List.nil_append, List.cons_append, xf_30_0, xf_30_1, xf_30_2, xf_30_3, xf_30_4, xf_30_5, xf_30_6, xf_30_7, xf_30_8, xf_30_9, xf_30_10, xf_30_11, xf_30_12, xf_30_13, xf_30_14, xf_30_15, xf_30_16, xf_30_17, xf_30_18, xf_30_19, xf_30_20, xf_30_21, xf_30_22, xf_30_23, xf_30_24, xf_30_25, xf_30_26, xf_30_27, xf_30_28, xf_30_29, xf_30_30, xf_30_31, xf_30_32, xf_30_33, xf_30_34, xf_30_35, xf_30_36, xf_30_37, xf_30_38, xf_30_39, xf_30_40, xf_30_41, xf_30_42, xf_30_43, xf_30_44, xf_30_45, xf_30_46, xf_30_47, xf_30_48, xf_30_49, xf_30_50, xa_55, xa_56, xa_57, xa_58, xa_59, xa_60, xa_61, xa_62, xa_63, xa_64, xa_65, xa_66, xa_67, xa_68, xa_69, xa_70, xa_71, xa_72, xa_73, xa_74, xa_75, xa_76, xa_77, xa_78, xa_79, xa_80, xa_81, xa_82, xa_83, xa_84, xa_85, xa_86, xa_87, xa_88, vp_nI, nI_clamp, true_and, and_true, nI_1, nI_add, pk_mul, nI_leI, nI_ltI, nI_eq, nI_le0, nI_lt0, b2i_ne, b2i_inj, b2i_nar, b2i_t, b2i_f, n1, n8, n13, n19, a55, a56, a57, a58, a59, a60, a61, a62, a63, a64, a65, a66, a67, a68, a69, a70, x115, x119, x108, x99, x97, q16, q2, q3, q4, q8, q10, q160, q40, q24, q100, q1000, q999]
      exact ⟨fun q => absurd q (by decide), fun _ => x_forget p0 (by simp [xle, xst, b2i, nI_0])⟩
    · exfalso
      have := yCount_le (p := A) (n := nS M)
      omega
  have h98 : ∀ τ, xsame [74, 75] σ τ → ML τ M (fun x => decide (x < nS M) && (ySK M x == 1 && T (ySO M x))) → ∀ b : Bool, b = (yStand M T root).isSome → AX8_lives G (d + 1) R 98 [some (.ref 30), none, none, none] [.int (b2i b)] τ := by
    intro τ hs hL b hb
    have hM := h.same hs (by decide)
    have h24' : τ 30 24 = nI root := by rw [hs.at (by decide)]; exact h24
    have a72 : ∀ n, n < 16 → τ 72 n = oI (yStand M T n) := hS.same hs (by decide)
    obtain ⟨⟨n1, n8, n13, n19⟩, a55, ⟨a56, a57, a58, a59, a60, a61⟩, ⟨a62, a63, a64, a65⟩, a66, a67, a68, a69, a70⟩ := id hM
    refine bX8_lives_98 _ _ _ ?_
    rcases hst : yStand M T root with _ | g
    · rw [hst] at hb
      have t0 := turns 0 (by omega) τ hs _ b hL (fun x hx => by
        unfold yIt at hx
        rw [hst] at hx
        simpa [hitB] using hx) (fun x hx => yLv_seed (by unfold yIt; rw [hx, Bool.true_or])) (Nat.zero_le _) (fun _ => by unfold yLack; rw [hst]; simp) (fun q => by rw [hb] at q; cases q)
      subst hb
      try simp (disch := omega) only [xi_iload, xi_aload, xi_lload, xi_istore, xi_astore, xi_lstore, xi_ic, xi_lc, xi_iinc, xi_iadd, xi_isub, xi_imul, xi_iand, xi_iushr, xi_ineg, xi_idiv, xi_irem, xi_ladd, xi_lmul, xi_lrem, xi_lcmp, xi_i2l, xi_l2i, xi_i2c, xi_dup, xi_dup2, xi_pop, xi_ifeq, xi_ifne, xi_iflt, xi_ifge, xi_ifgt, xi_ifle, xi_iceq, xi_icne, xi_iclt, xi_icge, xi_icgt, xi_icle, xi_iret, xi_zret, xi_lret, xi_vret, xi_getf, xi_putf, xi_ald, xi_ast, xi_alen, xi_callV, xi_callS, xpop, xroom, xl, xst, xok1, xok2, xnarrow, xwide, xone, xent, List.replicate, Option.isSome_some, Bool.and_self, Bool.true_and, Bool.and_true, List.length_cons, List.length_nil, Nat.reduceAdd, Nat.reduceLT, decide_true, Bool.not_false, Nat.beq, Nat.ble, Option.toList, List.nil_append, List.cons_append, xf_30_0, xf_30_1, xf_30_2, xf_30_3, xf_30_4, xf_30_5, xf_30_6, xf_30_7, xf_30_8, xf_30_9, xf_30_10, xf_30_11, xf_30_12, xf_30_13, xf_30_14, xf_30_15, xf_30_16, xf_30_17, xf_30_18, xf_30_19, xf_30_20, xf_30_21, xf_30_22, xf_30_23, xf_30_24, xf_30_25, xf_30_26, xf_30_27, xf_30_28, xf_30_29, xf_30_30, xf_30_31, xf_30_32, xf_30_33, xf_30_34, xf_30_35, xf_30_36, xf_30_37, xf_30_38, xf_30_39, xf_30_40, xf_30_41, xf_30_42, xf_30_43, xf_30_44, xf_30_45, xf_30_46, xf_30_47, xf_30_48, xf_30_49, xf_30_50, xa_55, xa_56, xa_57, xa_58, xa_59, xa_60, xa_61, xa_62, xa_63, xa_64, xa_65, xa_66, xa_67, xa_68, xa_69, xa_70, xa_71, xa_72, xa_73, xa_74, xa_75, xa_76, xa_77, xa_78, xa_79, xa_80, xa_81, xa_82, xa_83, xa_84, xa_85, xa_86, xa_87, xa_88, vp_nI, nI_clamp, true_and, and_true, nI_1, nI_add, pk_mul, nI_leI, nI_ltI, nI_eq, nI_le0, nI_lt0, b2i_ne, b2i_inj, b2i_nar, b2i_t, b2i_f, n1, n8, n13, n19, a55, a56, a57, a58, a59, a60, a61, a62, a63, a64, a65, a66, a67, a68, a69, a70, x115, x119, x108, x99, x97, q16, q2, q3, q4, q8, q10, q160, q40, q24, q100, q1000, q999, h24', a72, hst]
      exact ⟨fun _ => x_forget t0 (by simp [xle, xst]), fun q => absurd (by trivial) q⟩
    · rw [hst] at hb
      subst hb
      have hok := yStand_ok (M := M) (T := T) hr
      rw [hst] at hok
      try simp (disch := omega) only [xi_iload, xi_aload, xi_lload, xi_istore, xi_astore, xi_lstore, xi_ic, xi_lc, xi_iinc, xi_iadd, xi_isub, xi_imul, xi_iand, xi_iushr, xi_ineg, xi_idiv, xi_irem, xi_ladd, xi_lmul, xi_lrem, xi_lcmp, xi_i2l, xi_l2i, xi_i2c, xi_dup, xi_dup2, xi_pop, xi_ifeq, xi_ifne, xi_iflt, xi_ifge, xi_ifgt, xi_ifle, xi_iceq, xi_icne, xi_iclt, xi_icge, xi_icgt, xi_icle, xi_iret, xi_zret, xi_lret, xi_vret, xi_getf, xi_putf, xi_ald, xi_ast, xi_alen, xi_callV, xi_callS, xpop, xroom, xl, xst, xok1, xok2, xnarrow, xwide, xone, xent, List.replicate, Option.isSome_some, Bool.and_self, Bool.true_and, Bool.and_true, List.length_cons, List.length_nil, Nat.reduceAdd, Nat.reduceLT, decide_true, Bool.not_false, Nat.beq, Nat.ble, Option.toList, List.nil_append, List.cons_append, xf_30_0, xf_30_1, xf_30_2, xf_30_3, xf_30_4, xf_30_5, xf_30_6, xf_30_7, xf_30_8, xf_30_9, xf_30_10, xf_30_11, xf_30_12, xf_30_13, xf_30_14, xf_30_15, xf_30_16, xf_30_17, xf_30_18, xf_30_19, xf_30_20, xf_30_21, xf_30_22, xf_30_23, xf_30_24, xf_30_25, xf_30_26, xf_30_27, xf_30_28, xf_30_29, xf_30_30, xf_30_31, xf_30_32, xf_30_33, xf_30_34, xf_30_35, xf_30_36, xf_30_37, xf_30_38, xf_30_39, xf_30_40, xf_30_41, xf_30_42, xf_30_43, xf_30_44, xf_30_45, xf_30_46, xf_30_47, xf_30_48, xf_30_49, xf_30_50, xa_55, xa_56, xa_57, xa_58, xa_59, xa_60, xa_61, xa_62, xa_63, xa_64, xa_65, xa_66, xa_67, xa_68, xa_69, xa_70, xa_71, xa_72, xa_73, xa_74, xa_75, xa_76, xa_77, xa_78, xa_79, xa_80, xa_81, xa_82, xa_83, xa_84, xa_85, xa_86, xa_87, xa_88, vp_nI, nI_clamp, true_and, and_true, nI_1, nI_add, pk_mul, nI_leI, nI_ltI, nI_eq, nI_le0, nI_lt0, b2i_ne, b2i_inj, b2i_nar, b2i_t, b2i_f, n1, n8, n13, n19, a55, a56, a57, a58, a59, a60, a61, a62, a63, a64, a65, a66, a67, a68, a69, a70, x115, x119, x108, x99, x97, q16, q2, q3, q4, q8, q10, q160, q40, q24, q100, q1000, q999, h24', a72, hst, oI]
      refine ⟨fun q => absurd q (by decide), fun _ => x_R (sX8_wakes hM w hL hok) (fun v ρ hρ => ?_)⟩
      obtain ⟨rfl, hs2, hL2⟩ := hρ
      have t0 := turns 0 (by omega) ρ (hs.tr hs2) _ true hL2 (fun x hx => by
        unfold yIt at hx
        rw [hst, Bool.or_comm] at hx
        exact hx) (fun x hx => yLv_seed (by unfold yIt; rw [hst, Bool.or_comm]; exact hx)) (Nat.zero_le _) (fun q => by cases q) (fun _ => by rw [hst]; exact fun q => by cases q)
      try simp (disch := omega) only [xi_iload, xi_aload, xi_lload, xi_istore, xi_astore, xi_lstore, xi_ic, xi_lc, xi_iinc, xi_iadd, xi_isub, xi_imul, xi_iand, xi_iushr, xi_ineg, xi_idiv, xi_irem, xi_ladd, xi_lmul, xi_lrem, xi_lcmp, xi_i2l, xi_l2i, xi_i2c, xi_dup, xi_dup2, xi_pop, xi_ifeq, xi_ifne, xi_iflt, xi_ifge, xi_ifgt, xi_ifle, xi_iceq, xi_icne, xi_iclt, xi_icge, xi_icgt, xi_icle, xi_iret, xi_zret, xi_lret, xi_vret, xi_getf, xi_putf, xi_ald, xi_ast, xi_alen, xi_callV, xi_callS, xpop, xroom, xl, xst, xok1, xok2, xnarrow, xwide, xone, xent, List.replicate, Option.isSome_some, Bool.and_self, Bool.true_and, Bool.and_true, List.length_cons, List.length_nil, Nat.reduceAdd, Nat.reduceLT, decide_true, Bool.not_false, Nat.beq, Nat.ble, Option.toList, List.nil_append, List.cons_append, xf_30_0, xf_30_1, xf_30_2, xf_30_3, xf_30_4, xf_30_5, xf_30_6, xf_30_7, xf_30_8, xf_30_9, xf_30_10, xf_30_11, xf_30_12, xf_30_13, xf_30_14, xf_30_15, xf_30_16, xf_30_17, xf_30_18, xf_30_19, xf_30_20, xf_30_21, xf_30_22, xf_30_23, xf_30_24, xf_30_25, xf_30_26, xf_30_27, xf_30_28, xf_30_29, xf_30_30, xf_30_31, xf_30_32, xf_30_33, xf_30_34, xf_30_35, xf_30_36, xf_30_37, xf_30_38, xf_30_39, xf_30_40, xf_30_41, xf_30_42, xf_30_43, xf_30_44, xf_30_45, xf_30_46, xf_30_47, xf_30_48, xf_30_49, xf_30_50, xa_55, xa_56, xa_57, xa_58, xa_59, xa_60, xa_61, xa_62, xa_63, xa_64, xa_65, xa_66, xa_67, xa_68, xa_69, xa_70, xa_71, xa_72, xa_73, xa_74, xa_75, xa_76, xa_77, xa_78, xa_79, xa_80, xa_81, xa_82, xa_83, xa_84, xa_85, xa_86, xa_87, xa_88, vp_nI, nI_clamp, true_and, and_true, nI_1, nI_add, pk_mul, nI_leI, nI_ltI, nI_eq, nI_le0, nI_lt0, b2i_ne, b2i_inj, b2i_nar, b2i_t, b2i_f, n1, n8, n13, n19, a55, a56, a57, a58, a59, a60, a61, a62, a63, a64, a65, a66, a67, a68, a69, a70, x115, x119, x108, x99, x97, q16, q2, q3, q4, q8, q10, q160, q40, q24, q100, q1000, q999]
      exact x_forget t0 (by simp [xle, xst, b2i])
  have key2 : ∀ j, j ≤ 160 → ∀ τ, xsame [74, 75] σ τ → (∀ s, s < nS M → τ 74 s = b2i (ySK M s == 1 && T (ySO M s))) → (∀ z, z < j → τ 75 z = b2i false) → AX8_lives G (d + 1) R 58 [some (.ref 30), some (.int (nI j)), none, none] [] τ := by
    refine loop_up (fun j hj ih τ hs ha hz => ?_) (fun τ hs ha hz => ?_)
    · refine bX8_lives_58 _ _ _ ?_
      have hM := h.same hs (by decide)
      obtain ⟨⟨n1, n8, n13, n19⟩, a55, ⟨a56, a57, a58, a59, a60, a61⟩, ⟨a62, a63, a64, a65⟩, a66, a67, a68, a69, a70⟩ := id hM
      have i0 := ih (xup τ 75 j (b2i false)) (hs.tr (xsame.up rfl)) (fun s hsn => by rw [xup_ap, if_neg (by omega)]; exact ha s hsn) (fun z hzz => by
        rw [xup_ap]
        by_cases hzj : z = j
        · rw [if_pos ⟨rfl, hzj⟩]
        · rw [if_neg (fun q => hzj q.2)]; exact hz z (by omega))
      try simp (disch := omega) only [xi_iload, xi_aload, xi_lload, xi_istore, xi_astore, xi_lstore, xi_ic, xi_lc, xi_iinc, xi_iadd, xi_isub, xi_imul, xi_iand, xi_iushr, xi_ineg, xi_idiv, xi_irem, xi_ladd, xi_lmul, xi_lrem, xi_lcmp, xi_i2l, xi_l2i, xi_i2c, xi_dup, xi_dup2, xi_pop, xi_ifeq, xi_ifne, xi_iflt, xi_ifge, xi_ifgt, xi_ifle, xi_iceq, xi_icne, xi_iclt, xi_icge, xi_icgt, xi_icle, xi_iret, xi_zret, xi_lret, xi_vret, xi_getf, xi_putf, xi_ald, xi_ast, xi_alen, xi_callV, xi_callS, xpop, xroom, xl, xst, xok1, xok2, xnarrow, xwide, xone, xent, List.replicate, Option.isSome_some, Bool.and_self, Bool.true_and, Bool.and_true, List.length_cons, List.length_nil, Nat.reduceAdd, Nat.reduceLT, decide_true, Bool.not_false, Nat.beq, Nat.ble, Option.toList, List.nil_append, List.cons_append, xf_30_0, xf_30_1, xf_30_2, xf_30_3, xf_30_4, xf_30_5, xf_30_6, xf_30_7, xf_30_8, xf_30_9, xf_30_10, xf_30_11, xf_30_12, xf_30_13, xf_30_14, xf_30_15, xf_30_16, xf_30_17, xf_30_18, xf_30_19, xf_30_20, xf_30_21, xf_30_22, xf_30_23, xf_30_24, xf_30_25, xf_30_26, xf_30_27, xf_30_28, xf_30_29, xf_30_30, xf_30_31, xf_30_32, xf_30_33, xf_30_34, xf_30_35, xf_30_36, xf_30_37, xf_30_38, xf_30_39, xf_30_40, xf_30_41, xf_30_42, xf_30_43, xf_30_44, xf_30_45, xf_30_46, xf_30_47, xf_30_48, xf_30_49, xf_30_50, xa_55, xa_56, xa_57, xa_58, xa_59, xa_60, xa_61, xa_62, xa_63, xa_64, xa_65, xa_66, xa_67, xa_68, xa_69, xa_70, xa_71, xa_72, xa_73, xa_74, xa_75, xa_76, xa_77, xa_78, xa_79, xa_80, xa_81, xa_82, xa_83, xa_84, xa_85, xa_86, xa_87, xa_88, vp_nI, nI_clamp, true_and, and_true, nI_1, nI_add, pk_mul, nI_leI, nI_ltI, nI_eq, nI_le0, nI_lt0, b2i_ne, b2i_inj, b2i_nar, b2i_t, b2i_f, n1, n8, n13, n19, a55, a56, a57, a58, a59, a60, a61, a62, a63, a64, a65, a66, a67, a68, a69, a70, x115, x119, x108, x99, x97, q16, q2, q3, q4, q8, q10, q160, q40, q24, q100, q1000, q999, oN160, ev0]
      exact ⟨fun q => absurd q (by omega), fun _ => i0⟩
    · refine bX8_lives_58 _ _ _ ?_
      have hM := h.same hs (by decide)
      obtain ⟨⟨n1, n8, n13, n19⟩, a55, ⟨a56, a57, a58, a59, a60, a61⟩, ⟨a62, a63, a64, a65⟩, a66, a67, a68, a69, a70⟩ := id hM
      have h24' : τ 30 24 = nI root := by rw [hs.at (by decide)]; exact h24
      have a72 : ∀ n, n < 16 → τ 72 n = oI (yStand M T n) := hS.same hs (by decide)
      have hsl : ∀ z, yStand M T root = some z → z < 2 ^ 31 := by
        intro z hz
        have hok := yStand_ok (M := M) (T := T) hr
        rcases hok z hz with h1 | ⟨o, n, h1, h2, h3, h4⟩ <;> omega
      have hh := h98 τ hs ⟨fun s hsn => by dsimp only; rw [ha s hsn, decide_eq_true hsn, Bool.true_and], fun z hzz => by dsimp only; rw [hz z hzz, decide_eq_false (by omega), Bool.false_and]⟩
      try simp (disch := omega) only [xi_iload, xi_aload, xi_lload, xi_istore, xi_astore, xi_lstore, xi_ic, xi_lc, xi_iinc, xi_iadd, xi_isub, xi_imul, xi_iand, xi_iushr, xi_ineg, xi_idiv, xi_irem, xi_ladd, xi_lmul, xi_lrem, xi_lcmp, xi_i2l, xi_l2i, xi_i2c, xi_dup, xi_dup2, xi_pop, xi_ifeq, xi_ifne, xi_iflt, xi_ifge, xi_ifgt, xi_ifle, xi_iceq, xi_icne, xi_iclt, xi_icge, xi_icgt, xi_icle, xi_iret, xi_zret, xi_lret, xi_vret, xi_getf, xi_putf, xi_ald, xi_ast, xi_alen, xi_callV, xi_callS, xpop, xroom, xl, xst, xok1, xok2, xnarrow, xwide, xone, xent, List.replicate, Option.isSome_some, Bool.and_self, Bool.true_and, Bool.and_true, List.length_cons, List.length_nil, Nat.reduceAdd, Nat.reduceLT, decide_true, Bool.not_false, Nat.beq, Nat.ble, Option.toList, List.nil_append, List.cons_append, xf_30_0, xf_30_1, xf_30_2, xf_30_3, xf_30_4, xf_30_5, xf_30_6, xf_30_7, xf_30_8, xf_30_9, xf_30_10, xf_30_11, xf_30_12, xf_30_13, xf_30_14, xf_30_15, xf_30_16, xf_30_17, xf_30_18, xf_30_19, xf_30_20, xf_30_21, xf_30_22, xf_30_23, xf_30_24, xf_30_25, xf_30_26, xf_30_27, xf_30_28, xf_30_29, xf_30_30, xf_30_31, xf_30_32, xf_30_33, xf_30_34, xf_30_35, xf_30_36, xf_30_37, xf_30_38, xf_30_39, xf_30_40, xf_30_41, xf_30_42, xf_30_43, xf_30_44, xf_30_45, xf_30_46, xf_30_47, xf_30_48, xf_30_49, xf_30_50, xa_55, xa_56, xa_57, xa_58, xa_59, xa_60, xa_61, xa_62, xa_63, xa_64, xa_65, xa_66, xa_67, xa_68, xa_69, xa_70, xa_71, xa_72, xa_73, xa_74, xa_75, xa_76, xa_77, xa_78, xa_79, xa_80, xa_81, xa_82, xa_83, xa_84, xa_85, xa_86, xa_87, xa_88, vp_nI, nI_clamp, true_and, and_true, nI_1, nI_add, pk_mul, nI_leI, nI_ltI, nI_eq, nI_le0, nI_lt0, b2i_ne, b2i_inj, b2i_nar, b2i_t, b2i_f, n1, n8, n13, n19, a55, a56, a57, a58, a59, a60, a61, a62, a63, a64, a65, a66, a67, a68, a69, a70, x115, x119, x108, x99, x97, q16, q2, q3, q4, q8, q10, q160, q40, q24, q100, q1000, q999, oN160, h24', a72]
      rw [oI_none hsl]
      refine ⟨fun _ => ⟨fun q => x_forget (hh false (by rw [q]; rfl)) (by simp [xle, xst, b2i]), fun q => x_forget (hh true ?_) (by simp [xle, xst, b2i])⟩, fun q => absurd (Nat.le_refl _) q⟩
      cases hgo : yStand M T root with
      | none => exact absurd hgo q
      | some g => rfl
  have key : ∀ j, j ≤ 24 → ∀ τ, xsame [74, 75] σ τ → (∀ s, s < j → s < nS M → τ 74 s = b2i (ySK M s == 1 && T (ySO M s))) → AX8_lives G (d + 1) R 2 [some (.ref 30), some (.int (nI j)), none, none] [] τ := by
    refine loop_up (fun j hj ih τ hs ha => ?_) (fun τ hs ha => ?_)
    · refine bX8_lives_2 _ _ _ ?_
      have hM := h.same hs (by decide)
      obtain ⟨⟨n1, n8, n13, n19⟩, a55, ⟨a56, a57, a58, a59, a60, a61⟩, ⟨a62, a63, a64, a65⟩, a66, a67, a68, a69, a70⟩ := id hM
      have a71 : ∀ o, o < nO M → τ 71 o = b2i (T o) := hT.same hs (by decide)
      have hnext : ∀ b : Bool, (j < nS M → b = (ySK M j == 1 && T (ySO M j))) → AX8_lives G (d + 1) R 2 [some (.ref 30), some (.int (nI (j + 1))), none, none] [] (xup τ 74 j (b2i b)) := fun b hb => ih _ (hs.tr (xsame.up rfl)) (fun s hsj hsn => by
        rw [xup_ap]
        by_cases hsj2 : s = j
        · subst hsj2; rw [if_pos ⟨rfl, rfl⟩, hb hsn]
        · rw [if_neg (fun q => hsj2 q.2)]; exact ha s (by omega) hsn)
      by_cases hjs : j < nS M
      · have hw1 := (w.2.2.1 j hjs).1
        try simp (disch := omega) only [xi_iload, xi_aload, xi_lload, xi_istore, xi_astore, xi_lstore, xi_ic, xi_lc, xi_iinc, xi_iadd, xi_isub, xi_imul, xi_iand, xi_iushr, xi_ineg, xi_idiv, xi_irem, xi_ladd, xi_lmul, xi_lrem, xi_lcmp, xi_i2l, xi_l2i, xi_i2c, xi_dup, xi_dup2, xi_pop, xi_ifeq, xi_ifne, xi_iflt, xi_ifge, xi_ifgt, xi_ifle, xi_iceq, xi_icne, xi_iclt, xi_icge, xi_icgt, xi_icle, xi_iret, xi_zret, xi_lret, xi_vret, xi_getf, xi_putf, xi_ald, xi_ast, xi_alen, xi_callV, xi_callS, xpop, xroom, xl, xst, xok1, xok2, xnarrow, xwide, xone, xent, List.replicate, Option.isSome_some, Bool.and_self, Bool.true_and, Bool.and_true, List.length_cons, List.length_nil, Nat.reduceAdd, Nat.reduceLT, decide_true, Bool.not_false, Nat.beq, Nat.ble, Option.toList, List.nil_append, List.cons_append, xf_30_0, xf_30_1, xf_30_2, xf_30_3, xf_30_4, xf_30_5, xf_30_6, xf_30_7, xf_30_8, xf_30_9, xf_30_10, xf_30_11, xf_30_12, xf_30_13, xf_30_14, xf_30_15, xf_30_16, xf_30_17, xf_30_18, xf_30_19, xf_30_20, xf_30_21, xf_30_22, xf_30_23, xf_30_24, xf_30_25, xf_30_26, xf_30_27, xf_30_28, xf_30_29, xf_30_30, xf_30_31, xf_30_32, xf_30_33, xf_30_34, xf_30_35, xf_30_36, xf_30_37, xf_30_38, xf_30_39, xf_30_40, xf_30_41, xf_30_42, xf_30_43, xf_30_44, xf_30_45, xf_30_46, xf_30_47, xf_30_48, xf_30_49, xf_30_50, xa_55, xa_56, xa_57, xa_58, xa_59, xa_60, xa_61, xa_62, xa_63, xa_64, xa_65, xa_66, xa_67, xa_68, xa_69, xa_70, xa_71, xa_72, xa_73, xa_74, xa_75, xa_76, xa_77, xa_78, xa_79, xa_80, xa_81, xa_82, xa_83, xa_84, xa_85, xa_86, xa_87, xa_88, vp_nI, nI_clamp, true_and, and_true, nI_1, nI_add, pk_mul, nI_leI, nI_ltI, nI_eq, nI_le0, nI_lt0, b2i_ne, b2i_inj, b2i_nar, b2i_t, b2i_f, n1, n8, n13, n19, a55, a56, a57, a58, a59, a60, a61, a62, a63, a64, a65, a66, a67, a68, a69, a70, x115, x119, x108, x99, x97, q16, q2, q3, q4, q8, q10, q160, q40, q24, q100, q1000, q999, a71, ev0, ev1]
        repeat' (first | with_reducible apply And.intro | with_reducible intro _)
        all_goals first
          | (exfalso; omega)
          | exact hnext true (fun _ => by grind (ematch := 0))
          | exact hnext false (fun _ => by grind (ematch := 0))
      · try simp (disch := omega) only [xi_iload, xi_aload, xi_lload, xi_istore, xi_astore, xi_lstore, xi_ic, xi_lc, xi_iinc, xi_iadd, xi_isub, xi_imul, xi_iand, xi_iushr, xi_ineg, xi_idiv, xi_irem, xi_ladd, xi_lmul, xi_lrem, xi_lcmp, xi_i2l, xi_l2i, xi_i2c, xi_dup, xi_dup2, xi_pop, xi_ifeq, xi_ifne, xi_iflt, xi_ifge, xi_ifgt, xi_ifle, xi_iceq, xi_icne, xi_iclt, xi_icge, xi_icgt, xi_icle, xi_iret, xi_zret, xi_lret, xi_vret, xi_getf, xi_putf, xi_ald, xi_ast, xi_alen, xi_callV, xi_callS, xpop, xroom, xl, xst, xok1, xok2, xnarrow, xwide, xone, xent, List.replicate, Option.isSome_some, Bool.and_self, Bool.true_and, Bool.and_true, List.length_cons, List.length_nil, Nat.reduceAdd, Nat.reduceLT, decide_true, Bool.not_false, Nat.beq, Nat.ble, Option.toList, List.nil_append, List.cons_append, xf_30_0, xf_30_1, xf_30_2, xf_30_3, xf_30_4, xf_30_5, xf_30_6, xf_30_7, xf_30_8, xf_30_9, xf_30_10, xf_30_11, xf_30_12, xf_30_13, xf_30_14, xf_30_15, xf_30_16, xf_30_17, xf_30_18, xf_30_19, xf_30_20, xf_30_21, xf_30_22, xf_30_23, xf_30_24, xf_30_25, xf_30_26, xf_30_27, xf_30_28, xf_30_29, xf_30_30, xf_30_31, xf_30_32, xf_30_33, xf_30_34, xf_30_35, xf_30_36, xf_30_37, xf_30_38, xf_30_39, xf_30_40, xf_30_41, xf_30_42, xf_30_43, xf_30_44, xf_30_45, xf_30_46, xf_30_47, xf_30_48, xf_30_49, xf_30_50, xa_55, xa_56, xa_57, xa_58, xa_59, xa_60, xa_61, xa_62, xa_63, xa_64, xa_65, xa_66, xa_67, xa_68, xa_69, xa_70, xa_71, xa_72, xa_73, xa_74, xa_75, xa_76, xa_77, xa_78, xa_79, xa_80, xa_81, xa_82, xa_83, xa_84, xa_85, xa_86, xa_87, xa_88, vp_nI, nI_clamp, true_and, and_true, nI_1, nI_add, pk_mul, nI_leI, nI_ltI, nI_eq, nI_le0, nI_lt0, b2i_ne, b2i_inj, b2i_nar, b2i_t, b2i_f, n1, n8, n13, n19, a55, a56, a57, a58, a59, a60, a61, a62, a63, a64, a65, a66, a67, a68, a69, a70, x115, x119, x108, x99, x97, q16, q2, q3, q4, q8, q10, q160, q40, q24, q100, q1000, q999, ev0, ev1]
        exact ⟨fun q => absurd q (by omega), fun _ => ⟨fun _ => hnext false (fun q => absurd q hjs), fun q => absurd (by omega) q⟩⟩
    · refine bX8_lives_2 _ _ _ ?_
      have hM := h.same hs (by decide)
      obtain ⟨⟨n1, n8, n13, n19⟩, a55, ⟨a56, a57, a58, a59, a60, a61⟩, ⟨a62, a63, a64, a65⟩, a66, a67, a68, a69, a70⟩ := id hM
      try simp (disch := omega) only [xi_iload, xi_aload, xi_lload, xi_istore, xi_astore, xi_lstore, xi_ic, xi_lc, xi_iinc, xi_iadd, xi_isub, xi_imul, xi_iand, xi_iushr, xi_ineg, xi_idiv, xi_irem, xi_ladd, xi_lmul, xi_lrem, xi_lcmp, xi_i2l, xi_l2i, xi_i2c, xi_dup, xi_dup2, xi_pop, xi_ifeq, xi_ifne, xi_iflt, xi_ifge, xi_ifgt, xi_ifle, xi_iceq, xi_icne, xi_iclt, xi_icge, xi_icgt, xi_icle, xi_iret, xi_zret, xi_lret, xi_vret, xi_getf, xi_putf, xi_ald, xi_ast, xi_alen, xi_callV, xi_callS, xpop, xroom, xl, xst, xok1, xok2, xnarrow, xwide, xone, xent, List.replicate, Option.isSome_some, Bool.and_self, Bool.true_and, Bool.and_true, List.length_cons, List.length_nil, Nat.reduceAdd, Nat.reduceLT, decide_true, Bool.not_false, Nat.beq, Nat.ble, Option.toList, List.nil_append, List.cons_append, xf_30_0, xf_30_1, xf_30_2, xf_30_3, xf_30_4, xf_30_5, xf_30_6, xf_30_7, xf_30_8, xf_30_9, xf_30_10, xf_30_11, xf_30_12, xf_30_13, xf_30_14, xf_30_15, xf_30_16, xf_30_17, xf_30_18, xf_30_19, xf_30_20, xf_30_21, xf_30_22, xf_30_23, xf_30_24, xf_30_25, xf_30_26, xf_30_27, xf_30_28, xf_30_29, xf_30_30, xf_30_31, xf_30_32, xf_30_33, xf_30_34, xf_30_35, xf_30_36, xf_30_37, xf_30_38, xf_30_39, xf_30_40, xf_30_41, xf_30_42, xf_30_43, xf_30_44, xf_30_45, xf_30_46, xf_30_47, xf_30_48, xf_30_49, xf_30_50, xa_55, xa_56, xa_57, xa_58, xa_59, xa_60, xa_61, xa_62, xa_63, xa_64, xa_65, xa_66, xa_67, xa_68, xa_69, xa_70, xa_71, xa_72, xa_73, xa_74, xa_75, xa_76, xa_77, xa_78, xa_79, xa_80, xa_81, xa_82, xa_83, xa_84, xa_85, xa_86, xa_87, xa_88, vp_nI, nI_clamp, true_and, and_true, nI_1, nI_add, pk_mul, nI_leI, nI_ltI, nI_eq, nI_le0, nI_lt0, b2i_ne, b2i_inj, b2i_nar, b2i_t, b2i_f, n1, n8, n13, n19, a55, a56, a57, a58, a59, a60, a61, a62, a63, a64, a65, a66, a67, a68, a69, a70, x115, x119, x108, x99, x97, q16, q2, q3, q4, q8, q10, q160, q40, q24, q100, q1000, q999]
      exact ⟨fun _ => x_forget (key2 0 (by omega) τ hs (fun s hsn => ha s (by omega) hsn) (fun z hz => by omega)) (by simp [xle, xst, nI_0]), fun q => absurd (by first | trivial | omega | decide) q⟩
  exact x_forget (key 0 (by omega) σ xsame.rf (fun s hs => by omega)) (by simp [xle, xst, nI_0])
end S54
