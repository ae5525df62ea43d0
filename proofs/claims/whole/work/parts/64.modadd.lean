/-! the reference: what is told -/
section S64
variable {G : XG} {d : Nat} {σ τ ρ : Sg} {M N : YM} {B : Nat} {js l : List Nat} {S : YS}
theorem xu_e {o j : Nat} {x : Int32} : xup σ o j x o j = x := by rw [xup_ap, if_pos ⟨rfl, rfl⟩]
theorem xu_f {o j i : Nat} {x : Int32} (h : i ≠ j) : xup σ o j x o i = σ o i := by rw [xup_ap, if_neg (fun z => h z.2)]
theorem evb {b : Bool} : vp_nar (x_ty 1) (b2i b) = b2i b := by cases b <;> decide +kernel
/-- told: there is no link any more -/
theorem ZM_told {M' : YM} (z : ZM σ S) (hI : MI τ M') (hs : xs30 js l σ τ) (hj : js.all (fun r => !(r == 45 || r == 43 || r == 20 || r == 21 || r == 22 || r == 49)) = true) (hl : l.all (fun r => !(decide (80 < r) && decide (r < 87))) = true) (h23 : τ 30 23 = 0) : ZM τ (unl S M') := by
  obtain ⟨⟨g1, g2⟩, ⟨g3, g4, g5, g6, g7⟩, -⟩ := z
  have h3 : ∀ i, (i = 20 ∨ i = 21 ∨ i = 22 ∨ i = 49) → τ 30 i = σ 30 i := by
    intro i hi
    refine hs.2 i (fun z => ?_)
    have := List.all_eq_true.mp hj i z
    simp at this
    omega
  refine ⟨⟨hI, g2.s30 hs ?_ hl⟩, ⟨by rw [h3 20 (by omega)]; exact g3, by rw [h3 21 (by omega)]; exact g4, by rw [h3 22 (by omega)]; exact g5, h23, by rw [h3 49 (by omega)]; exact g7⟩, fun root hr => by cases hr⟩
  refine List.all_eq_true.mpr (fun r hr => ?_)
  have := List.all_eq_true.mp hj r hr
  simp at this ⊢
  omega
theorem sX8_addObject {b : Bool} (z : ZM σ S) (w : ZW S B) : XM G mX8_addObject d [.ref 30, .int (b2i b)] σ (PM σ (oObj S b)) := by
  refine xm_of (by decide +kernel) rfl (Nat.le_of_ble_eq_true rfl) ?_
  refine bX8_addObject_0 _ _ _ ?_
  obtain ⟨b1, b2, b3, b4, b5⟩ := w.1.1.1
  obtain ⟨⟨n1, n8, n13, n19⟩, a55, h6, h7, a66, h8⟩ := id z.1.1
  try simp only [xi_iload, xi_aload, xi_lload, xi_istore, xi_astore, xi_lstore, xi_ic, xi_lc, xi_iinc, xi_iadd, xi_isub, xi_imul, xi_iand, xi_iushr, xi_ineg, xi_idiv, xi_irem, xi_ladd, xi_lmul, xi_lrem, xi_lcmp, xi_i2l, xi_l2i, xi_i2c, xi_dup, xi_dup2, xi_pop, xi_ifeq, xi_ifne, xi_iflt, xi_ifge, xi_ifgt, xi_ifle, xi_iceq, xi_icne, xi_iclt, xi_icge, xi_icgt, xi_icle, xi_iret, xi_zret, xi_lret, xi_vret, xi_getf, xi_putf, xi_ald, xi_ast, xi_alen, xi_callV, xi_callS, xpop, xroom, xl, xst, xok1, xok2, xnarrow, xwide, xone, xent, List.replicate, Option.isSome_some, Bool.and_self, Bool.true_and, Bool.and_true, List.length_cons, List.length_nil, Nat.reduceAdd, Nat.reduceLT, decide_true, Bool.not_false, Nat.beq, Nat.ble, Option.toList, List.nil_append, List.cons_append, xf_30_0, xf_30_1, xf_30_2, xf_30_3, xf_30_4, xf_30_5, xf_30_6, xf_30_7, xf_30_8, xf_30_9, xf_30_10, xf_30_11, xf_30_12, xf_30_13, xf_30_14, xf_30_15, xf_30_16, xf_30_17, xf_30_18, xf_30_19, xf_30_20, xf_30_21, xf_30_22, xf_30_23, xf_30_24, xf_30_25, xf_30_26, xf_30_27, xf_30_28, xf_30_29, xf_30_30, xf_30_31, xf_30_32, xf_30_33, xf_30_34, xf_30_35, xf_30_36, xf_30_37, xf_30_38, xf_30_39, xf_30_40, xf_30_41, xf_30_42, xf_30_43, xf_30_44, xf_30_45, xf_30_46, xf_30_47, xf_30_48, xf_30_49, xf_30_50, xa_55, xa_56, xa_57, xa_58, xa_59, xa_60, xa_61, xa_62, xa_63, xa_64, xa_65, xa_66, xa_67, xa_68, xa_69, xa_70, xa_71, xa_72, xa_73, xa_74, xa_75, xa_76, xa_77, xa_78, xa_79, xa_80, xa_81, xa_82, xa_83, xa_84, xa_85, xa_86, xa_87, xa_88, n1, q10]
  rw [nI_eq (by omega) (by omega)]
  refine ⟨fun q => ?_, fun q => ?_⟩
  · have e : oObj S b = (0, nI (nO S.1), unl S (yAdd S.1 0 (fun _ => if b = true then 1 else 0))) := by unfold oObj; rw [if_neg (by omega)]
    rw [e]
    refine bX8_addObject_15 _ _ _ ?_
    try simp only [xi_iload, xi_aload, xi_lload, xi_istore, xi_astore, xi_lstore, xi_ic, xi_lc, xi_iinc, xi_iadd, xi_isub, xi_imul, xi_iand, xi_iushr, xi_ineg, xi_idiv, xi_irem, xi_ladd, xi_lmul, xi_lrem, xi_lcmp, xi_i2l, xi_l2i, xi_i2c, xi_dup, xi_dup2, xi_pop, xi_ifeq, xi_ifne, xi_iflt, xi_ifge, xi_ifgt, xi_ifle, xi_iceq, xi_icne, xi_iclt, xi_icge, xi_icgt, xi_icle, xi_iret, xi_zret, xi_lret, xi_vret, xi_getf, xi_putf, xi_ald, xi_ast, xi_alen, xi_callV, xi_callS, xpop, xroom, xl, xst, xok1, xok2, xnarrow, xwide, xone, xent, List.replicate, Option.isSome_some, Bool.and_self, Bool.true_and, Bool.and_true, List.length_cons, List.length_nil, Nat.reduceAdd, Nat.reduceLT, decide_true, Bool.not_false, Nat.beq, Nat.ble, Option.toList, List.nil_append, List.cons_append, xf_30_0, xf_30_1, xf_30_2, xf_30_3, xf_30_4, xf_30_5, xf_30_6, xf_30_7, xf_30_8, xf_30_9, xf_30_10, xf_30_11, xf_30_12, xf_30_13, xf_30_14, xf_30_15, xf_30_16, xf_30_17, xf_30_18, xf_30_19, xf_30_20, xf_30_21, xf_30_22, xf_30_23, xf_30_24, xf_30_25, xf_30_26, xf_30_27, xf_30_28, xf_30_29, xf_30_30, xf_30_31, xf_30_32, xf_30_33, xf_30_34, xf_30_35, xf_30_36, xf_30_37, xf_30_38, xf_30_39, xf_30_40, xf_30_41, xf_30_42, xf_30_43, xf_30_44, xf_30_45, xf_30_46, xf_30_47, xf_30_48, xf_30_49, xf_30_50, xa_55, xa_56, xa_57, xa_58, xa_59, xa_60, xa_61, xa_62, xa_63, xa_64, xa_65, xa_66, xa_67, xa_68, xa_69, xa_70, xa_71, xa_72, xa_73, xa_74, xa_75, xa_76, xa_77, xa_78, xa_79, xa_80, xa_81, xa_82, xa_83, xa_84, xa_85, xa_86, xa_87, xa_88]
    simp (disch := omega) only [xup_n, xu_f, xu_e, n1, vp_nI, nI_clamp, true_and, evb]
    refine ⟨xnok_i _, fun _ => ⟨xnok_i _, xnok_z (Or.inl rfl), ?_⟩, fun q => absurd (by decide) q⟩
    generalize hτ : xup (xup (xup (xup σ 30 50 0) 55 (nO S.1) (b2i b)) 30 1 (nI (nO S.1) + 1)) 30 23 0 = τ
    have hs : xs30 [50, 1, 23] [55] σ τ := by rw [← hτ]; exact (xs30.up rfl).tr ((xs30.upc rfl rfl).tr ((xs30.up rfl).tr (xs30.up rfl)))
    have t1 : τ 30 1 = nI (nO S.1 + 1) := by rw [← hτ]; simp (disch := omega) only [xup_n, xu_f, xu_e, nI_1]
    have t23 : τ 30 23 = 0 := by rw [← hτ, xu_e]
    have t50 : τ 30 50 = nI 0 := by rw [← hτ]; simp (disch := omega) only [xup_n, xu_f, xu_e]; rfl
    have t55 : ∀ j, τ 55 j = if j = nO S.1 then b2i b else σ 55 j := by
      intro j
      rw [← hτ, xup_n (by omega), xup_n (by omega), xup_ap]
      by_cases hj : j = nO S.1
      · rw [if_pos ⟨rfl, hj⟩, if_pos hj]
      · rw [if_neg (fun q => hj q.2), if_neg hj, xup_n (by omega)]
    have hc : ∀ r, 55 < r → τ r = σ r := fun r hr => hs.1 r (by omega) (by simp; omega)
    have hI : MI τ (yAdd S.1 0 (fun _ => if b = true then 1 else 0)) := by
      refine ⟨⟨by simpa [yAdd] using t1, by rw [hs.f rfl]; simpa [yAdd] using n8, by rw [hs.f rfl]; simpa [yAdd] using n13, by rw [hs.f rfl]; simpa [yAdd] using n19⟩, fun j hj => ?_, ?_, ?_, ?_, ?_⟩
      · rw [t55]
        by_cases hj2 : j = nO S.1
        · rw [if_pos hj2]
          have : yMem (yAdd S.1 0 (fun _ => if b = true then 1 else 0)) j = if b = true then 1 else 0 := by simp [yAdd, xwid, hj2]
          rw [this]
          cases b <;> rfl
        · rw [if_neg hj2]
          have hj4 : j < nO S.1 + 1 := by simpa [yAdd] using hj
          have hj3 : j < nO S.1 := by omega
          have : yMem (yAdd S.1 0 (fun _ => if b = true then 1 else 0)) j = yMem S.1 j := by simp [yAdd, xwid, hj2]
          rw [this]
          exact a55 j hj3
      · rw [hc 56 (by omega), hc 57 (by omega), hc 58 (by omega), hc 59 (by omega), hc 60 (by omega), hc 61 (by omega)]
        simpa [yAdd, xwid] using h6
      · rw [hc 62 (by omega), hc 63 (by omega), hc 64 (by omega), hc 65 (by omega)]
        simpa [yAdd, xwid] using h7
      · rw [hc 66 (by omega)]
        simpa [yAdd, xwid] using a66
      · rw [hc 67 (by omega), hc 68 (by omega), hc 69 (by omega), hc 70 (by omega)]
        simpa [yAdd, xwid] using h8
    exact PM.of (ZM_told z hI hs (by decide) (by decide) t23) (xmod.of hs (by decide)) t50 (fun _ => by rw [nI_1, nI_pred])
  · have e : oObj S b = (1, 0, S) := by unfold oObj; rw [if_pos (by omega)]
    rw [e]
    refine bX8_addObject_15 _ _ _ ?_
    try simp only [xi_iload, xi_aload, xi_lload, xi_istore, xi_astore, xi_lstore, xi_ic, xi_lc, xi_iinc, xi_iadd, xi_isub, xi_imul, xi_iand, xi_iushr, xi_ineg, xi_idiv, xi_irem, xi_ladd, xi_lmul, xi_lrem, xi_lcmp, xi_i2l, xi_l2i, xi_i2c, xi_dup, xi_dup2, xi_pop, xi_ifeq, xi_ifne, xi_iflt, xi_ifge, xi_ifgt, xi_ifle, xi_iceq, xi_icne, xi_iclt, xi_icge, xi_icgt, xi_icle, xi_iret, xi_zret, xi_lret, xi_vret, xi_getf, xi_putf, xi_ald, xi_ast, xi_alen, xi_callV, xi_callS, xpop, xroom, xl, xst, xok1, xok2, xnarrow, xwide, xone, xent, List.replicate, Option.isSome_some, Bool.and_self, Bool.true_and, Bool.and_true, List.length_cons, List.length_nil, Nat.reduceAdd, Nat.reduceLT, decide_true, Bool.not_false, Nat.beq, Nat.ble, Option.toList, List.nil_append, List.cons_append, xf_30_0, xf_30_1, xf_30_2, xf_30_3, xf_30_4, xf_30_5, xf_30_6, xf_30_7, xf_30_8, xf_30_9, xf_30_10, xf_30_11, xf_30_12, xf_30_13, xf_30_14, xf_30_15, xf_30_16, xf_30_17, xf_30_18, xf_30_19, xf_30_20, xf_30_21, xf_30_22, xf_30_23, xf_30_24, xf_30_25, xf_30_26, xf_30_27, xf_30_28, xf_30_29, xf_30_30, xf_30_31, xf_30_32, xf_30_33, xf_30_34, xf_30_35, xf_30_36, xf_30_37, xf_30_38, xf_30_39, xf_30_40, xf_30_41, xf_30_42, xf_30_43, xf_30_44, xf_30_45, xf_30_46, xf_30_47, xf_30_48, xf_30_49, xf_30_50, xa_55, xa_56, xa_57, xa_58, xa_59, xa_60, xa_61, xa_62, xa_63, xa_64, xa_65, xa_66, xa_67, xa_68, xa_69, xa_70, xa_71, xa_72, xa_73, xa_74, xa_75, xa_76, xa_77, xa_78, xa_79, xa_80, xa_81, xa_82, xa_83, xa_84, xa_85, xa_86, xa_87, xa_88, xu50]
    exact ⟨xnok_i _, fun q => absurd q (by decide), fun _ => PM.of z.t xmod.t xu50 (fun q => by cases q)⟩
end S64
