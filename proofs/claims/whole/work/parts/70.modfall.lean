/-! the reference: libraries fall, and bind -/
section S70
variable {G : XG} {d : Nat} {σ τ ρ : Sg} {M N : YM} {B : Nat} {js l : List Nat} {S : YS}
/-- the reference's trial of an unloading -/
def MX (σ : Sg) (N : YM) : Prop := σ 30 45 = nI (nL N) ∧ (∀ z, z < 64 → σ 82 z = b2i (N 39 z == 1)) ∧ (∀ j, j < 8 → σ 87 j = nI (N 53 j)) ∧ ∀ j, j < 8 → σ 88 j = b2i (N 54 j == 1)
theorem MX.u53 {z v : Nat} (h : MX σ N) : MX (xup σ 87 z (nI v)) (yU N 53 z v) := by
  obtain ⟨h45, h82, h87, h88⟩ := h
  refine ⟨by rw [xup_n (by decide)]; exact h45, by rw [xup_n (by decide)]; exact h82, fun i hi => ?_, by rw [xup_n (by decide)]; exact h88⟩
  rw [xup_ap]
  unfold yU
  by_cases hij : i = z
  · rw [if_pos ⟨rfl, hij⟩, if_pos ⟨rfl, hij⟩]
  · rw [if_neg (fun q => hij q.2), if_neg (fun q => hij q.2)]; exact h87 i hi
theorem MX.u54 {z v : Nat} (h : MX σ N) : MX (xup σ 88 z (b2i (v == 1))) (yU N 54 z v) := by
  obtain ⟨h45, h82, h87, h88⟩ := h
  refine ⟨by rw [xup_n (by decide)]; exact h45, by rw [xup_n (by decide)]; exact h82, by rw [xup_n (by decide)]; exact h87, fun i hi => ?_⟩
  rw [xup_ap]
  unfold yU
  by_cases hij : i = z
  · rw [if_pos ⟨rfl, hij⟩, if_pos ⟨rfl, hij⟩]
  · rw [if_neg (fun q => hij q.2), if_neg (fun q => hij q.2)]; exact h88 i hi
def yPos (N : YM) : Nat := yCount (fun k => decide (0 < N 53 k)) (nL N)
theorem yLow_0 {f k : Nat} (h : N 53 k = 0) : yLow f k N = (N, 0) := by
  cases f with
  | zero => rfl
  | succ f => rw [yLow, if_pos h]
theorem sX8_falls : ∀ (f : Nat) {d x : Nat} {σ : Sg} {N : YM}, yPos N ≤ f → MX σ N → nL N ≤ 8 → (∀ j, N 53 j < 2 ^ 20) → x < nL N → 0 < N 53 x → XM G mX8_falls (d + f + 1) [.ref 30, .int (nI x)] σ (fun v τ => v = none ∧ xs30 [] [87, 88] σ τ ∧ MX τ (yLow f x N).1) := by
  intro f
  induction f with
  | zero =>
    intro d x σ N hf hI hb hp hl h0
    exfalso
    have : 0 < yPos N := yCount_one.mpr ⟨x, hl, by rw [decide_eq_true_eq]; exact h0⟩
    omega
  | succ f ih =>
    intro d x σ N hf hI hb hp hl h0
    refine xm_of (by decide +kernel) rfl (Nat.le_of_ble_eq_true rfl) ?_
    refine bX8_falls_0 (d := d + f + 1) _ _ _ ?_
    have hpl := hp x
    obtain ⟨h45, h82, h87, h88⟩ := id hI
    have esub : nI (N 53 x) - 1 = nI (N 53 x - 1) := by rw [show (1 : Int32) = nI 1 from rfl, nI_sub (by omega)]
    try simp only [xi_iload, xi_aload, xi_lload, xi_istore, xi_astore, xi_lstore, xi_ic, xi_lc, xi_iinc, xi_iadd, xi_isub, xi_imul, xi_iand, xi_iushr, xi_ineg, xi_idiv, xi_irem, xi_ladd, xi_lmul, xi_lrem, xi_lcmp, xi_i2l, xi_l2i, xi_i2c, xi_dup, xi_dup2, xi_pop, xi_ifeq, xi_ifne, xi_iflt, xi_ifge, xi_ifgt, xi_ifle, xi_iceq, xi_icne, xi_iclt, xi_icge, xi_icgt, xi_icle, xi_iret, xi_zret, xi_lret, xi_vret, xi_getf, xi_putf, xi_ald, xi_ast, xi_alen, xi_callV, xi_callS, xpop, xroom, xl, xst, xok1, xok2, xnarrow, xwide, xone, xent, List.replicate, Option.isSome_some, Bool.and_self, Bool.true_and, Bool.and_true, List.length_cons, List.length_nil, Nat.reduceAdd, Nat.reduceLT, decide_true, Bool.not_false, Nat.beq, Nat.ble, Option.toList, List.nil_append, List.cons_append, xf_30_0, xf_30_1, xf_30_2, xf_30_3, xf_30_4, xf_30_5, xf_30_6, xf_30_7, xf_30_8, xf_30_9, xf_30_10, xf_30_11, xf_30_12, xf_30_13, xf_30_14, xf_30_15, xf_30_16, xf_30_17, xf_30_18, xf_30_19, xf_30_20, xf_30_21, xf_30_22, xf_30_23, xf_30_24, xf_30_25, xf_30_26, xf_30_27, xf_30_28, xf_30_29, xf_30_30, xf_30_31, xf_30_32, xf_30_33, xf_30_34, xf_30_35, xf_30_36, xf_30_37, xf_30_38, xf_30_39, xf_30_40, xf_30_41, xf_30_42, xf_30_43, xf_30_44, xf_30_45, xf_30_46, xf_30_47, xf_30_48, xf_30_49, xf_30_50, xa_55, xa_56, xa_57, xa_58, xa_59, xa_60, xa_61, xa_62, xa_63, xa_64, xa_65, xa_66, xa_67, xa_68, xa_69, xa_70, xa_71, xa_72, xa_73, xa_74, xa_75, xa_76, xa_77, xa_78, xa_79, xa_80, xa_81, xa_82, xa_83, xa_84, xa_85, xa_86, xa_87, xa_88]
    simp (disch := omega) only [xup_n, xu_f, xu_e, h87, esub, h45, vp_nI, nI_clamp, true_and, ev1, nI_le0]
    have hI1 : MX (xup σ 87 x (nI (N 53 x - 1))) (yU N 53 x (N 53 x - 1)) := hI.u53
    generalize hR : (fun (v : Option Value) (τ : Sg) => v = none ∧ xs30 [] [87, 88] σ τ ∧ MX τ (yLow (f + 1) x N).1) = R
    refine ⟨fun q => ?_, fun q => ?_⟩
    · have hI2 : MX (xup (xup σ 87 x (nI (N 53 x - 1))) 88 x (b2i true)) (yU (yU N 53 x (N 53 x - 1)) 54 x 1) := MX.u54 (v := 1) hI1
      have hy : yLow (f + 1) x N = yLowL (yLow f) x (nL N) (yU (yU N 53 x (N 53 x - 1)) 54 x 1, 1) := by
        rw [yLow, if_neg (by omega), if_neg (by omega)]
      have hs0 : xs30 [] [87, 88] σ (xup (xup σ 87 x (nI (N 53 x - 1))) 88 x (b2i true)) := (xs30.upc rfl rfl).tr (xs30.upc rfl rfl)
      have hkeep : ∀ a, a ≠ 53 → a ≠ 54 → (yU (yU N 53 x (N 53 x - 1)) 54 x 1) a = N a := by
        intro a x y
        funext i; unfold yU; rw [if_neg (fun z => y z.1), if_neg (fun z => x z.1)]
      have h53 : ∀ j, (yU (yU N 53 x (N 53 x - 1)) 54 x 1) 53 j ≤ (if j = x then 0 else N 53 j) := by
        intro j
        unfold yU
        rw [if_neg (by omega)]
        by_cases hjx : j = x
        · rw [if_pos ⟨rfl, hjx⟩, if_pos hjx]; omega
        · rw [if_neg (fun q => hjx q.2), if_neg hjx]; exact Nat.le_refl _
      generalize hN1 : yU (yU N 53 x (N 53 x - 1)) 54 x 1 = N1 at *
      generalize hτ1 : xup (xup σ 87 x (nI (N 53 x - 1))) 88 x (b2i true) = τ1 at *
      have key : ∀ (k : Nat) (τ : Sg) (s : YL), k ≤ nL N → xs30 [] [87, 88] σ τ → MX τ s.1 → (∀ a, a ≠ 53 → a ≠ 54 → s.1 a = N a) → (∀ j, s.1 53 j ≤ (if j = x then 0 else N 53 j)) → yLow (f + 1) x N = yLowL (yLow f) x k s → AX8_falls G (d + f + 1 + 1) R 34 [some (.ref 30), some (.int (nI x)), some (.int (pI k))] [] τ := by
        intro k
        induction k with
        | zero =>
          intro τ s _ hs hJ _ _ he
          refine bX8_falls_34 (d := d + f + 1) _ _ _ ?_
          try simp only [xi_iload, xi_aload, xi_lload, xi_istore, xi_astore, xi_lstore, xi_ic, xi_lc, xi_iinc, xi_iadd, xi_isub, xi_imul, xi_iand, xi_iushr, xi_ineg, xi_idiv, xi_irem, xi_ladd, xi_lmul, xi_lrem, xi_lcmp, xi_i2l, xi_l2i, xi_i2c, xi_dup, xi_dup2, xi_pop, xi_ifeq, xi_ifne, xi_iflt, xi_ifge, xi_ifgt, xi_ifle, xi_iceq, xi_icne, xi_iclt, xi_icge, xi_icgt, xi_icle, xi_iret, xi_zret, xi_lret, xi_vret, xi_getf, xi_putf, xi_ald, xi_ast, xi_alen, xi_callV, xi_callS, xpop, xroom, xl, xst, xok1, xok2, xnarrow, xwide, xone, xent, List.replicate, Option.isSome_some, Bool.and_self, Bool.true_and, Bool.and_true, List.length_cons, List.length_nil, Nat.reduceAdd, Nat.reduceLT, decide_true, Bool.not_false, Nat.beq, Nat.ble, Option.toList, List.nil_append, List.cons_append, xf_30_0, xf_30_1, xf_30_2, xf_30_3, xf_30_4, xf_30_5, xf_30_6, xf_30_7, xf_30_8, xf_30_9, xf_30_10, xf_30_11, xf_30_12, xf_30_13, xf_30_14, xf_30_15, xf_30_16, xf_30_17, xf_30_18, xf_30_19, xf_30_20, xf_30_21, xf_30_22, xf_30_23, xf_30_24, xf_30_25, xf_30_26, xf_30_27, xf_30_28, xf_30_29, xf_30_30, xf_30_31, xf_30_32, xf_30_33, xf_30_34, xf_30_35, xf_30_36, xf_30_37, xf_30_38, xf_30_39, xf_30_40, xf_30_41, xf_30_42, xf_30_43, xf_30_44, xf_30_45, xf_30_46, xf_30_47, xf_30_48, xf_30_49, xf_30_50, xa_55, xa_56, xa_57, xa_58, xa_59, xa_60, xa_61, xa_62, xa_63, xa_64, xa_65, xa_66, xa_67, xa_68, xa_69, xa_70, xa_71, xa_72, xa_73, xa_74, xa_75, xa_76, xa_77, xa_78, xa_79, xa_80, xa_81, xa_82, xa_83, xa_84, xa_85, xa_86, xa_87, xa_88]
          rw [pI_neg (by omega)]
          refine ⟨fun _ => ?_, fun q => absurd rfl q⟩
          rw [← hR]
          unfold yLowL at he
          exact ⟨rfl, hs, by rw [he]; exact hJ⟩
        | succ k ihk =>
          intro τ s hk hs hJ hkp h5 he
          refine bX8_falls_34 (d := d + f + 1) _ _ _ ?_
          have e13 : nL s.1 = nL N := congrFun (hkp 13 (by decide) (by decide)) 3
          have e39 : s.1 39 = N 39 := hkp 39 (by decide) (by decide)
          obtain ⟨t45, t82, t87, t88⟩ := id hJ
          have epk : pI (k + 1) = nI k := rfl
          have e8 : 8 * x + k = x * 8 + k := by omega
          have ne : (s.1 39 (x * 8 + k) == 1) = yNd s.1 x k := rfl
          have h5k : s.1 53 k < 2 ^ 20 := by
            have h6 := h5 k
            have h7 := hp k
            split at h6 <;> omega
          try simp only [xi_iload, xi_aload, xi_lload, xi_istore, xi_astore, xi_lstore, xi_ic, xi_lc, xi_iinc, xi_iadd, xi_isub, xi_imul, xi_iand, xi_iushr, xi_ineg, xi_idiv, xi_irem, xi_ladd, xi_lmul, xi_lrem, xi_lcmp, xi_i2l, xi_l2i, xi_i2c, xi_dup, xi_dup2, xi_pop, xi_ifeq, xi_ifne, xi_iflt, xi_ifge, xi_ifgt, xi_ifle, xi_iceq, xi_icne, xi_iclt, xi_icge, xi_icgt, xi_icle, xi_iret, xi_zret, xi_lret, xi_vret, xi_getf, xi_putf, xi_ald, xi_ast, xi_alen, xi_callV, xi_callS, xpop, xroom, xl, xst, xok1, xok2, xnarrow, xwide, xone, xent, List.replicate, Option.isSome_some, Bool.and_self, Bool.true_and, Bool.and_true, List.length_cons, List.length_nil, Nat.reduceAdd, Nat.reduceLT, decide_true, Bool.not_false, Nat.beq, Nat.ble, Option.toList, List.nil_append, List.cons_append, xf_30_0, xf_30_1, xf_30_2, xf_30_3, xf_30_4, xf_30_5, xf_30_6, xf_30_7, xf_30_8, xf_30_9, xf_30_10, xf_30_11, xf_30_12, xf_30_13, xf_30_14, xf_30_15, xf_30_16, xf_30_17, xf_30_18, xf_30_19, xf_30_20, xf_30_21, xf_30_22, xf_30_23, xf_30_24, xf_30_25, xf_30_26, xf_30_27, xf_30_28, xf_30_29, xf_30_30, xf_30_31, xf_30_32, xf_30_33, xf_30_34, xf_30_35, xf_30_36, xf_30_37, xf_30_38, xf_30_39, xf_30_40, xf_30_41, xf_30_42, xf_30_43, xf_30_44, xf_30_45, xf_30_46, xf_30_47, xf_30_48, xf_30_49, xf_30_50, xa_55, xa_56, xa_57, xa_58, xa_59, xa_60, xa_61, xa_62, xa_63, xa_64, xa_65, xa_66, xa_67, xa_68, xa_69, xa_70, xa_71, xa_72, xa_73, xa_74, xa_75, xa_76, xa_77, xa_78, xa_79, xa_80, xa_81, xa_82, xa_83, xa_84, xa_85, xa_86, xa_87, xa_88, q8]
          rw [epk]
          simp (disch := omega) only [pk_mul, nI_add, e8, t82, t87, ne, vp_nI, nI_clamp, true_and, b2i_ne, nI_le0, pI_dec]
          unfold yLowL at he
          refine ⟨fun q => absurd q (nI_pos (by omega)), fun _ => ⟨fun q => ?_, fun q => ⟨fun q2 => ?_, fun q2 => ?_⟩⟩⟩
          · rw [if_neg (by rw [q]; decide)] at he
            exact ihk τ s (by omega) hs hJ hkp h5 he
          · rw [if_pos (show yNd s.1 x k = true from by simpa using q), yLow_0 q2] at he
            exact ihk τ (s.1, s.2 + 0) (by omega) hs hJ hkp h5 he
          · rw [if_pos (show yNd s.1 x k = true from by simpa using q)] at he
            have hps : yPos s.1 ≤ f := by
              have hlt : yPos s.1 < yPos N := by
                unfold yPos
                rw [e13]
                refine yCount_lt (fun j _ hj => ?_) ⟨x, hl, by rw [decide_eq_true_eq]; exact h0, ?_⟩
                · rw [decide_eq_true_eq] at hj ⊢
                  have h6 := h5 j
                  split at h6 <;> omega
                · rw [decide_eq_false_iff_not]
                  have h6 := h5 x
                  rw [if_pos rfl] at h6
                  omega
              omega
            refine x_R (ih (d := d) hps hJ (by omega) (fun j => ?_) (by omega) (by omega)) (fun v ρ hρ => ?_)
            · have h6 := h5 j
              have h7 := hp j
              split at h6 <;> omega
            obtain ⟨rfl, hs2, hJ2⟩ := hρ
            have hg := LGo_low f (l := k) (N := s.1) (by omega)
            try simp only [xi_iload, xi_aload, xi_lload, xi_istore, xi_astore, xi_lstore, xi_ic, xi_lc, xi_iinc, xi_iadd, xi_isub, xi_imul, xi_iand, xi_iushr, xi_ineg, xi_idiv, xi_irem, xi_ladd, xi_lmul, xi_lrem, xi_lcmp, xi_i2l, xi_l2i, xi_i2c, xi_dup, xi_dup2, xi_pop, xi_ifeq, xi_ifne, xi_iflt, xi_ifge, xi_ifgt, xi_ifle, xi_iceq, xi_icne, xi_iclt, xi_icge, xi_icgt, xi_icle, xi_iret, xi_zret, xi_lret, xi_vret, xi_getf, xi_putf, xi_ald, xi_ast, xi_alen, xi_callV, xi_callS, xpop, xroom, xl, xst, xok1, xok2, xnarrow, xwide, xone, xent, List.replicate, Option.isSome_some, Bool.and_self, Bool.true_and, Bool.and_true, List.length_cons, List.length_nil, Nat.reduceAdd, Nat.reduceLT, decide_true, Bool.not_false, Nat.beq, Nat.ble, Option.toList, List.nil_append, List.cons_append, pI_dec]
            exact ihk ρ ((yLow f k s.1).1, s.2 + (yLow f k s.1).2) (by omega) (hs.tr hs2) hJ2 (fun a x y => (hg.1 a x y).trans (hkp a x y)) (fun j => Nat.le_trans (hg.2.1 j) (h5 j)) he
      have hsub : nI (nL N) - 1 = pI (nL N) := pI_sub
      rw [hsub]
      exact key (nL N) _ (N1, 1) (Nat.le_refl _) hs0 hI2 hkeep h53 hy
    · rw [yLow, if_neg (by omega), if_pos (by omega)]
      exact ⟨xs30.upc rfl rfl, hI1⟩
theorem sX8_isBoundToLeaving (h : MX σ N) (h86 : ∀ z, z < 1280 → σ 86 z = pI (N 41 z)) (hb : nL N ≤ 8) (h41 : ∀ z, N 41 z ≤ nL N) (h160 : ∀ z, 0 < N 41 z → z / 160 < nL N) : XM G mX8_isBoundToLeaving d [.ref 30] σ (xF (some (.int (b2i (anyB (yLvP N) 1280)))) σ) := by
  refine xm_of (by decide +kernel) rfl (Nat.le_of_ble_eq_true rfl) ?_
  refine bX8_isBoundToLeaving_0 _ _ _ ?_
  obtain ⟨h45, h82, h87, h88⟩ := h
  try simp only [xi_iload, xi_aload, xi_lload, xi_istore, xi_astore, xi_lstore, xi_ic, xi_lc, xi_iinc, xi_iadd, xi_isub, xi_imul, xi_iand, xi_iushr, xi_ineg, xi_idiv, xi_irem, xi_ladd, xi_lmul, xi_lrem, xi_lcmp, xi_i2l, xi_l2i, xi_i2c, xi_dup, xi_dup2, xi_pop, xi_ifeq, xi_ifne, xi_iflt, xi_ifge, xi_ifgt, xi_ifle, xi_iceq, xi_icne, xi_iclt, xi_icge, xi_icgt, xi_icle, xi_iret, xi_zret, xi_lret, xi_vret, xi_getf, xi_putf, xi_ald, xi_ast, xi_alen, xi_callV, xi_callS, xpop, xroom, xl, xst, xok1, xok2, xnarrow, xwide, xone, xent, List.replicate, Option.isSome_some, Bool.and_self, Bool.true_and, Bool.and_true, List.length_cons, List.length_nil, Nat.reduceAdd, Nat.reduceLT, decide_true, Bool.not_false, Nat.beq, Nat.ble, Option.toList, List.nil_append, List.cons_append]
  have key : ∀ j, j ≤ 1280 → AX8_isBoundToLeaving G d (xF (some (.int (b2i (anyB (yLvP N) 1280)))) σ) 4 [some (.ref 30), some (.int (b2i (anyB (yLvP N) j))), some (.int (nI j)), none] [] σ := by
    refine loop_up (fun j hj ih => ?_) ?_
    · have h4 := h41 j
      have h5 := h160 j
      have hd : j / 160 < 8 := by omega
      have ej : anyB (yLvP N) (j + 1) = (anyB (yLvP N) j || (!(N 54 (j / 160) == 1) && (decide (0 < N 41 j) && N 54 (N 41 j - 1) == 1))) := rfl
      rw [ej] at ih
      generalize anyB (yLvP N) j = A1 at ih ⊢
      have ihb : ∀ b : Bool, b = (A1 || (!(N 54 (j / 160) == 1) && (decide (0 < N 41 j) && N 54 (N 41 j - 1) == 1))) → ∀ z, AX8_isBoundToLeaving G d (xF (some (.int (b2i (anyB (yLvP N) 1280)))) σ) 4 [some (.ref 30), some (.int (b2i b)), some (.int (nI (j + 1))), z] [] σ := by
        intro b hb z
        rw [← hb] at ih
        exact x_forget ih (by simp [xle])
      clear ih ej
      have h43 : ∀ b : Bool, b = (decide (j / 160 < nL N) && !(N 54 (j / 160) == 1)) → AX8_isBoundToLeaving G d (xF (some (.int (b2i (anyB (yLvP N) 1280)))) σ) 43 [some (.ref 30), some (.int (b2i A1)), some (.int (nI j)), none] [.int (b2i b)] σ := by
        intro b hb
        refine bX8_isBoundToLeaving_43 _ _ _ ?_
        rcases h0 : N 41 j with _ | t
        · rw [h0] at ihb
          have e86 : σ 86 j = -1 := by rw [h86 j hj, h0]; rfl
          try simp only [xi_iload, xi_aload, xi_lload, xi_istore, xi_astore, xi_lstore, xi_ic, xi_lc, xi_iinc, xi_iadd, xi_isub, xi_imul, xi_iand, xi_iushr, xi_ineg, xi_idiv, xi_irem, xi_ladd, xi_lmul, xi_lrem, xi_lcmp, xi_i2l, xi_l2i, xi_i2c, xi_dup, xi_dup2, xi_pop, xi_ifeq, xi_ifne, xi_iflt, xi_ifge, xi_ifgt, xi_ifle, xi_iceq, xi_icne, xi_iclt, xi_icge, xi_icgt, xi_icle, xi_iret, xi_zret, xi_lret, xi_vret, xi_getf, xi_putf, xi_ald, xi_ast, xi_alen, xi_callV, xi_callS, xpop, xroom, xl, xst, xok1, xok2, xnarrow, xwide, xone, xent, List.replicate, Option.isSome_some, Bool.and_self, Bool.true_and, Bool.and_true, List.length_cons, List.length_nil, Nat.reduceAdd, Nat.reduceLT, decide_true, Bool.not_false, Nat.beq, Nat.ble, Option.toList, List.nil_append, List.cons_append, xf_30_0, xf_30_1, xf_30_2, xf_30_3, xf_30_4, xf_30_5, xf_30_6, xf_30_7, xf_30_8, xf_30_9, xf_30_10, xf_30_11, xf_30_12, xf_30_13, xf_30_14, xf_30_15, xf_30_16, xf_30_17, xf_30_18, xf_30_19, xf_30_20, xf_30_21, xf_30_22, xf_30_23, xf_30_24, xf_30_25, xf_30_26, xf_30_27, xf_30_28, xf_30_29, xf_30_30, xf_30_31, xf_30_32, xf_30_33, xf_30_34, xf_30_35, xf_30_36, xf_30_37, xf_30_38, xf_30_39, xf_30_40, xf_30_41, xf_30_42, xf_30_43, xf_30_44, xf_30_45, xf_30_46, xf_30_47, xf_30_48, xf_30_49, xf_30_50, xa_55, xa_56, xa_57, xa_58, xa_59, xa_60, xa_61, xa_62, xa_63, xa_64, xa_65, xa_66, xa_67, xa_68, xa_69, xa_70, xa_71, xa_72, xa_73, xa_74, xa_75, xa_76, xa_77, xa_78, xa_79, xa_80, xa_81, xa_82, xa_83, xa_84, xa_85, xa_86, xa_87, xa_88]
          simp (disch := omega) only [e86, vp_nI, nI_clamp, true_and, nI_1, b2i_ne]
          refine ⟨fun q => ihb true (by grind (ematch := 0)) _, fun q => ⟨fun q2 => ihb false (by grind (ematch := 0)) _, fun q2 => ⟨fun _ => ihb false (by grind (ematch := 0)) _, fun q3 => absurd (by trivial) q3⟩⟩⟩
        · rw [h0, Nat.add_sub_cancel] at ihb
          have ht : t < 8 := by omega
          have e86 : σ 86 j = nI t := by rw [h86 j hj, h0]; rfl
          try simp only [xi_iload, xi_aload, xi_lload, xi_istore, xi_astore, xi_lstore, xi_ic, xi_lc, xi_iinc, xi_iadd, xi_isub, xi_imul, xi_iand, xi_iushr, xi_ineg, xi_idiv, xi_irem, xi_ladd, xi_lmul, xi_lrem, xi_lcmp, xi_i2l, xi_l2i, xi_i2c, xi_dup, xi_dup2, xi_pop, xi_ifeq, xi_ifne, xi_iflt, xi_ifge, xi_ifgt, xi_ifle, xi_iceq, xi_icne, xi_iclt, xi_icge, xi_icgt, xi_icle, xi_iret, xi_zret, xi_lret, xi_vret, xi_getf, xi_putf, xi_ald, xi_ast, xi_alen, xi_callV, xi_callS, xpop, xroom, xl, xst, xok1, xok2, xnarrow, xwide, xone, xent, List.replicate, Option.isSome_some, Bool.and_self, Bool.true_and, Bool.and_true, List.length_cons, List.length_nil, Nat.reduceAdd, Nat.reduceLT, decide_true, Bool.not_false, Nat.beq, Nat.ble, Option.toList, List.nil_append, List.cons_append, xf_30_0, xf_30_1, xf_30_2, xf_30_3, xf_30_4, xf_30_5, xf_30_6, xf_30_7, xf_30_8, xf_30_9, xf_30_10, xf_30_11, xf_30_12, xf_30_13, xf_30_14, xf_30_15, xf_30_16, xf_30_17, xf_30_18, xf_30_19, xf_30_20, xf_30_21, xf_30_22, xf_30_23, xf_30_24, xf_30_25, xf_30_26, xf_30_27, xf_30_28, xf_30_29, xf_30_30, xf_30_31, xf_30_32, xf_30_33, xf_30_34, xf_30_35, xf_30_36, xf_30_37, xf_30_38, xf_30_39, xf_30_40, xf_30_41, xf_30_42, xf_30_43, xf_30_44, xf_30_45, xf_30_46, xf_30_47, xf_30_48, xf_30_49, xf_30_50, xa_55, xa_56, xa_57, xa_58, xa_59, xa_60, xa_61, xa_62, xa_63, xa_64, xa_65, xa_66, xa_67, xa_68, xa_69, xa_70, xa_71, xa_72, xa_73, xa_74, xa_75, xa_76, xa_77, xa_78, xa_79, xa_80, xa_81, xa_82, xa_83, xa_84, xa_85, xa_86, xa_87, xa_88]
          simp (disch := omega) only [e86, h88, vp_nI, nI_clamp, true_and, nI_1, b2i_ne]
          have hdl : decide (j / 160 < nL N) = true := decide_eq_true (h5 (by omega))
          rw [hdl, Bool.true_and] at hb
          have hpos : decide (0 < t + 1) = true := decide_eq_true (by omega)
          rw [hpos, Bool.true_and] at ihb
          refine ⟨fun q => ihb true (by grind (ematch := 0)) _, fun q => ⟨fun q2 => ihb false (by grind (ematch := 0)) _, fun q2 => ⟨fun q3 => absurd q3 (nIm t (by omega)), fun _ => ⟨fun q4 => ihb false (by grind (ematch := 0)) _, fun q4 => ihb true (by grind (ematch := 0)) _⟩⟩⟩⟩
      refine bX8_isBoundToLeaving_4 _ _ _ ?_
      have hf := h43 false
      have ht := h43 true
      try simp only [xi_iload, xi_aload, xi_lload, xi_istore, xi_astore, xi_lstore, xi_ic, xi_lc, xi_iinc, xi_iadd, xi_isub, xi_imul, xi_iand, xi_iushr, xi_ineg, xi_idiv, xi_irem, xi_ladd, xi_lmul, xi_lrem, xi_lcmp, xi_i2l, xi_l2i, xi_i2c, xi_dup, xi_dup2, xi_pop, xi_ifeq, xi_ifne, xi_iflt, xi_ifge, xi_ifgt, xi_ifle, xi_iceq, xi_icne, xi_iclt, xi_icge, xi_icgt, xi_icle, xi_iret, xi_zret, xi_lret, xi_vret, xi_getf, xi_putf, xi_ald, xi_ast, xi_alen, xi_callV, xi_callS, xpop, xroom, xl, xst, xok1, xok2, xnarrow, xwide, xone, xent, List.replicate, Option.isSome_some, Bool.and_self, Bool.true_and, Bool.and_true, List.length_cons, List.length_nil, Nat.reduceAdd, Nat.reduceLT, decide_true, Bool.not_false, Nat.beq, Nat.ble, Option.toList, List.nil_append, List.cons_append, xf_30_0, xf_30_1, xf_30_2, xf_30_3, xf_30_4, xf_30_5, xf_30_6, xf_30_7, xf_30_8, xf_30_9, xf_30_10, xf_30_11, xf_30_12, xf_30_13, xf_30_14, xf_30_15, xf_30_16, xf_30_17, xf_30_18, xf_30_19, xf_30_20, xf_30_21, xf_30_22, xf_30_23, xf_30_24, xf_30_25, xf_30_26, xf_30_27, xf_30_28, xf_30_29, xf_30_30, xf_30_31, xf_30_32, xf_30_33, xf_30_34, xf_30_35, xf_30_36, xf_30_37, xf_30_38, xf_30_39, xf_30_40, xf_30_41, xf_30_42, xf_30_43, xf_30_44, xf_30_45, xf_30_46, xf_30_47, xf_30_48, xf_30_49, xf_30_50, xa_55, xa_56, xa_57, xa_58, xa_59, xa_60, xa_61, xa_62, xa_63, xa_64, xa_65, xa_66, xa_67, xa_68, xa_69, xa_70, xa_71, xa_72, xa_73, xa_74, xa_75, xa_76, xa_77, xa_78, xa_79, xa_80, xa_81, xa_82, xa_83, xa_84, xa_85, xa_86, xa_87, xa_88, h45, oN1280, q160]
      simp (disch := omega) only [h88, pk_div, vp_nI, nI_clamp, true_and, nI_leI, b2i_ne]
      refine ⟨fun q => absurd q (by omega), fun _ => ⟨by decide, fun q => hf (by rw [decide_eq_false (by omega)]; rfl), fun q => ⟨by decide, fun q2 => hf ?_, fun q2 => ht ?_⟩⟩⟩
      · rw [show (N 54 (j / 160) == 1) = true by simpa using q2]; simp
      · rw [q2, decide_eq_true (by omega)]; rfl
    · refine bX8_isBoundToLeaving_4 _ _ _ ?_
      try simp only [xi_iload, xi_aload, xi_lload, xi_istore, xi_astore, xi_lstore, xi_ic, xi_lc, xi_iinc, xi_iadd, xi_isub, xi_imul, xi_iand, xi_iushr, xi_ineg, xi_idiv, xi_irem, xi_ladd, xi_lmul, xi_lrem, xi_lcmp, xi_i2l, xi_l2i, xi_i2c, xi_dup, xi_dup2, xi_pop, xi_ifeq, xi_ifne, xi_iflt, xi_ifge, xi_ifgt, xi_ifle, xi_iceq, xi_icne, xi_iclt, xi_icge, xi_icgt, xi_icle, xi_iret, xi_zret, xi_lret, xi_vret, xi_getf, xi_putf, xi_ald, xi_ast, xi_alen, xi_callV, xi_callS, xpop, xroom, xl, xst, xok1, xok2, xnarrow, xwide, xone, xent, List.replicate, Option.isSome_some, Bool.and_self, Bool.true_and, Bool.and_true, List.length_cons, List.length_nil, Nat.reduceAdd, Nat.reduceLT, decide_true, Bool.not_false, Nat.beq, Nat.ble, Option.toList, List.nil_append, List.cons_append, xf_30_0, xf_30_1, xf_30_2, xf_30_3, xf_30_4, xf_30_5, xf_30_6, xf_30_7, xf_30_8, xf_30_9, xf_30_10, xf_30_11, xf_30_12, xf_30_13, xf_30_14, xf_30_15, xf_30_16, xf_30_17, xf_30_18, xf_30_19, xf_30_20, xf_30_21, xf_30_22, xf_30_23, xf_30_24, xf_30_25, xf_30_26, xf_30_27, xf_30_28, xf_30_29, xf_30_30, xf_30_31, xf_30_32, xf_30_33, xf_30_34, xf_30_35, xf_30_36, xf_30_37, xf_30_38, xf_30_39, xf_30_40, xf_30_41, xf_30_42, xf_30_43, xf_30_44, xf_30_45, xf_30_46, xf_30_47, xf_30_48, xf_30_49, xf_30_50, xa_55, xa_56, xa_57, xa_58, xa_59, xa_60, xa_61, xa_62, xa_63, xa_64, xa_65, xa_66, xa_67, xa_68, xa_69, xa_70, xa_71, xa_72, xa_73, xa_74, xa_75, xa_76, xa_77, xa_78, xa_79, xa_80, xa_81, xa_82, xa_83, xa_84, xa_85, xa_86, xa_87, xa_88, oN1280]
      exact ⟨fun _ => ⟨b2i_nar _, xF_self⟩, fun q => absurd (nI_le (Nat.le_refl _) (by omega)) q⟩
  exact x_forget (key 0 (by omega)) (by simp [xle, xst, anyB, nI_0, b2i])
end S70
