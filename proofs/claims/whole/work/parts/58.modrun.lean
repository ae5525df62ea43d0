/-! the reference: runs -/
section S58
variable {G : XG} {d : Nat} {σ τ ρ : Sg} {M : YM} {T A P : Nat → Bool}
theorem sX8_turns {o c : Nat} (ho : o < 1000003) (hc : c ≤ 999) (h37 : σ 30 37 = nI o) : XM G mX8_turns d [.ref 30, .int (nI c)] σ (xF none (xup σ 30 37 (nI (yMix o c)))) := by
  refine xm_of (by decide +kernel) rfl (Nat.le_of_ble_eq_true rfl) ?_
  refine bX8_turns_0 _ _ _ ?_
  try simp only [xi_iload, xi_aload, xi_lload, xi_istore, xi_astore, xi_lstore, xi_ic, xi_lc, xi_iinc, xi_iadd, xi_isub, xi_imul, xi_iand, xi_iushr, xi_ineg, xi_idiv, xi_irem, xi_ladd, xi_lmul, xi_lrem, xi_lcmp, xi_i2l, xi_l2i, xi_i2c, xi_dup, xi_dup2, xi_pop, xi_ifeq, xi_ifne, xi_iflt, xi_ifge, xi_ifgt, xi_ifle, xi_iceq, xi_icne, xi_iclt, xi_icge, xi_icgt, xi_icle, xi_iret, xi_zret, xi_lret, xi_vret, xi_getf, xi_putf, xi_ald, xi_ast, xi_alen, xi_callV, xi_callS, xpop, xroom, xl, xst, xok1, xok2, xnarrow, xwide, xone, xent, List.replicate, Option.isSome_some, Bool.and_self, Bool.true_and, Bool.and_true, List.length_cons, List.length_nil, Nat.reduceAdd, Nat.reduceLT, decide_true, Bool.not_false, Nat.beq, Nat.ble, Option.toList, List.nil_append, List.cons_append, xf_30_0, xf_30_1, xf_30_2, xf_30_3, xf_30_4, xf_30_5, xf_30_6, xf_30_7, xf_30_8, xf_30_9, xf_30_10, xf_30_11, xf_30_12, xf_30_13, xf_30_14, xf_30_15, xf_30_16, xf_30_17, xf_30_18, xf_30_19, xf_30_20, xf_30_21, xf_30_22, xf_30_23, xf_30_24, xf_30_25, xf_30_26, xf_30_27, xf_30_28, xf_30_29, xf_30_30, xf_30_31, xf_30_32, xf_30_33, xf_30_34, xf_30_35, xf_30_36, xf_30_37, xf_30_38, xf_30_39, xf_30_40, xf_30_41, xf_30_42, xf_30_43, xf_30_44, xf_30_45, xf_30_46, xf_30_47, xf_30_48, xf_30_49, xf_30_50, xa_55, xa_56, xa_57, xa_58, xa_59, xa_60, xa_61, xa_62, xa_63, xa_64, xa_65, xa_66, xa_67, xa_68, xa_69, xa_70, xa_71, xa_72, xa_73, xa_74, xa_75, xa_76, xa_77, xa_78, xa_79, xa_80, xa_81, xa_82, xa_83, xa_84, xa_85, xa_86, xa_87, xa_88, h37]
  rw [nI_l (by omega), nI_l (by omega), show (31 : Int64) = lN 31 from rfl, show (1000003 : Int64) = lN 1000003 from rfl, lN_mul, lN_add, pk_lRem (by omega) (by decide) (by decide), lN_i]
  refine ⟨by decide, xnok_i _, ?_⟩
  exact xF_self
/-- what is left to do in the frames -/
def yPh (M : YM) : List (Nat × Nat) → Nat
  | [] => 0
  | z :: fr => yRest M z.1 z.2 + 1 + yPh M fr
def yPhi (M : YM) (q : YR) : Nat := 5 * (100 - q.2.2) + yPh M q.1
theorem yRest_le (w : WF M) {s f : Nat} : yRest M s f ≤ 4 := by
  have h := yRest_0 w (s := s)
  have h2 : yRest M s f ≤ yRest M s 0 := yCount_mono (fun x _ hx => by
    simp only [yNextP, Bool.and_eq_true, beq_iff_eq, decide_eq_true_eq] at hx ⊢
    exact ⟨hx.1, by omega⟩)
  omega
theorem yTurn_ph (w : WF M) {nx : Nat → Option Nat} {q : YR} (h0 : 0 < q.1.length) (hn : q.2.2 < 100) : yPhi M (yTurn M nx q) + 1 ≤ yPhi M q := by
  obtain ⟨fr, o, n⟩ := q
  dsimp only at h0 hn
  rcases fr with _ | ⟨⟨s, f⟩, fr⟩
  · exact absurd h0 (Nat.lt_irrefl _)
  · unfold yTurn
    dsimp only
    rcases hx : yNext M s f with _ | r
    · simp only [yPhi, yPh]; omega
    · have h1 := yRest_next hx
      dsimp only
      split
      · rcases nx r with _ | t
        · simp only [yPhi, yPh]; omega
        · have h2 := yRest_le w (s := t) (f := 0)
          simp only [yPhi, yPh]; omega
      · simp only [yPhi, yPh]; omega
theorem yRunN_stop {nx : Nat → Option Nat} {q : YR} (h : ¬ (0 < q.1.length ∧ q.2.2 < 100)) : ∀ k, yRunN M nx k q = q := by
  intro k
  cases k with
  | zero => rfl
  | succ k => rw [yRunN, if_neg h]
theorem yRunN_big (w : WF M) {nx : Nat → Option Nat} : ∀ k q, yPhi M q ≤ k → ∀ k', yPhi M q ≤ k' → yRunN M nx k q = yRunN M nx k' q := by
  intro k
  induction k with
  | zero =>
    intro q h k' _
    by_cases ha : 0 < q.1.length ∧ q.2.2 < 100
    · have := yTurn_ph w (nx := nx) ha.1 ha.2
      omega
    · rw [yRunN_stop ha, yRunN_stop ha]
  | succ k ih =>
    intro q h k' h'
    by_cases ha : 0 < q.1.length ∧ q.2.2 < 100
    · have h2 := yTurn_ph w (nx := nx) ha.1 ha.2
      cases k' with
      | zero => omega
      | succ k' =>
        rw [yRunN, if_pos ha, yRunN, if_pos ha]
        exact ih _ (by omega) k' (by omega)
    · rw [yRunN_stop ha, yRunN_stop ha]
/-- where a run by the plain inputs comes to -/
def yE (M : YM) (T A : Nat → Bool) (q : YR) : YR := yRunN M (yNx M T A false) 1000 q
theorem yE_step (w : WF M) {q : YR} (h0 : 0 < q.1.length) (hn : q.2.2 < 100) (hp : yPhi M q ≤ 1000) : yE M T A q = yE M T A (yTurn M (yNx M T A false) q) := by
  have h2 := yTurn_ph w (nx := yNx M T A false) h0 hn
  unfold yE
  rw [show (1000 : Nat) = 999 + 1 from rfl, yRunN, if_pos ⟨h0, hn⟩]
  exact yRunN_big w _ _ (by omega) _ (by omega)
theorem yE_stop {q : YR} (h : ¬ (0 < q.1.length ∧ q.2.2 < 100)) : yE M T A q = q := yRunN_stop h _
def YGo (σ : Sg) (M : YM) (T A : Nat → Bool) (s o n : Nat) : Option Value → Sg → Prop := fun v τ => v = none ∧ xs30 [37, 38] [] σ τ ∧ ∃ o' n', τ 30 37 = nI o' ∧ τ 30 38 = nI n' ∧ o' < 1000003 ∧ n < n' ∧ n' ≤ 100 ∧ ∀ fr, 5 * (100 - n) + yPh M fr ≤ 1000 → (yE M T A ((s, 0) :: fr, yMix o (yST M s), n + 1)).2 = (yE M T A (fr, o', n')).2
theorem sX8_goesInto (w : WF M) (hgo : ∀ r, r < nR M → A (yRS M r) = true → gLv M A (yGoal M T r) = true) : ∀ (m : Nat) {d s o n : Nat} {σ : Sg}, n + (m + 1) = 100 → MI σ M → MG σ M T → σ 30 37 = nI o → σ 30 38 = nI n → o < 1000003 → s < nS M → A s = true → XM G mX8_goesInto (d + m + 2) [.ref 30, .int (nI s)] σ (YGo σ M T A s o n) := by
  intro m
  induction m using Nat.strongRecOn with
  | ind m rec =>
  intro d s o n σ hnm h hG h37 h38 ho hs hA
  refine xm_of (by decide +kernel) rfl (Nat.le_of_ble_eq_true rfl) ?_
  refine bX8_goesInto_0 _ _ _ ?_
  obtain ⟨b1, b2, b3, b4, b5⟩ := id w.1
  obtain ⟨⟨n1, n8, n13, n19⟩, a55, ⟨a56, a57, a58, a59, a60, a61⟩, ⟨a62, a63, a64, a65⟩, a66, a67, a68, a69, a70⟩ := id h
  have hst := (w.2.2.1 s hs).2.2.2.2.1
  have loop : ∀ p, p ≤ 5 → ∀ τ f o1 n1, xs30 [37, 38] [] σ τ → τ 30 37 = nI o1 → τ 30 38 = nI n1 → o1 < 1000003 → n < n1 → n1 ≤ 100 → f ≤ 64 → yRest M s f + p ≤ 4 → (∀ fr, 5 * (100 - n) + yPh M fr ≤ 1000 → (yE M T A ((s, 0) :: fr, yMix o (yST M s), n + 1)).2 = (yE M T A ((s, f) :: fr, o1, n1)).2) → ∀ z, AX8_goesInto G (d + m + 1 + 1) (YGo σ M T A s o n) 37 [some (.ref 30), some (.int (nI s)), some (.int (oI (yNext M s f))), z] [] τ := by
    refine loop_up (fun p hp ih τ f o1 n1' hsx t37 t38 ho1 hn1 hn2 hf hre he z => ?_) (fun τ f o1 n1' hsx t37 t38 ho1 hn1 hn2 hf hre he z => by omega)
    refine bX8_goesInto_37 _ _ _ ?_
    have hM := h.s30 hsx (by decide) (by decide)
    have hG' := hG.s30 hsx (by decide)
    obtain ⟨⟨n1, n8, n13, n19⟩, a55, ⟨a56, a57, a58, a59, a60, a61⟩, ⟨a62, a63, a64, a65⟩, a66, a67, a68, a69, a70⟩ := id hM
    have a73 : ∀ r, r < nR M → τ 73 r = oI (yGoal M T r) := hG'
    have hrest := yRest_le w (s := s) (f := f)
    rcases hnx : yNext M s f with _ | r
    · try simp (disch := omega) only [xi_iload, xi_aload, xi_lload, xi_istore, xi_astore, xi_lstore, xi_ic, xi_lc, xi_iinc, xi_iadd, xi_isub, xi_imul, xi_iand, xi_iushr, xi_ineg, xi_idiv, xi_irem, xi_ladd, xi_lmul, xi_lrem, xi_lcmp, xi_i2l, xi_l2i, xi_i2c, xi_dup, xi_dup2, xi_pop, xi_ifeq, xi_ifne, xi_iflt, xi_ifge, xi_ifgt, xi_ifle, xi_iceq, xi_icne, xi_iclt, xi_icge, xi_icgt, xi_icle, xi_iret, xi_zret, xi_lret, xi_vret, xi_getf, xi_putf, xi_ald, xi_ast, xi_alen, xi_callV, xi_callS, xpop, xroom, xl, xst, xok1, xok2, xnarrow, xwide, xone, xent, List.replicate, Option.isSome_some, Bool.and_self, Bool.true_and, Bool.and_true, List.length_cons, List.length_nil, Nat.reduceAdd, Nat.reduceLT, decide_true, Bool.not_false, Nat.beq, Nat.ble, Option.toList, List.nil_append, List.cons_append, xf_30_0, xf_30_1, xf_30_2, xf_30_3, xf_30_4, xf_30_5, xf_30_6, xf_30_7, xf_30_8, xf_30_9, xf_30_10, xf_30_11, xf_30_12, xf_30_13, xf_30_14, xf_30_15, xf_30_16, xf_30_17, xf_30_18, xf_30_19, xf_30_20, xf_30_21, xf_30_22, xf_30_23, xf_30_24, xf_30_25, xf_30_26, xf_30_27, xf_30_28, xf_30_29, xf_30_30, xf_30_31, xf_30_32, xf_30_33, xf_30_34, xf_30_35, xf_30_36, xf_30_37, xf_30_38, xf_30_39, xf_30_40, xf_30_41, xf_30_42, xf_30_43, xf_30_44, xf_30_45, xf_30_46, xf_30_47, xf_30_48, xf_30_49, xf_30_50, xa_55, xa_56, xa_57, xa_58, xa_59, xa_60, xa_61, xa_62, xa_63, xa_64, xa_65, xa_66, xa_67, xa_68, xa_69, xa_70, xa_71, xa_72, xa_73, xa_74, xa_75, xa_76, xa_77, xa_78, xa_79, xa_80, xa_81, xa_82, xa_83, xa_84, xa_85, xa_86, xa_87, xa_88, vp_nI, nI_clamp, true_and, and_true, nI_1, nI_add, pk_mul, nI_leI, nI_ltI, nI_eq, nI_le0, nI_lt0, b2i_ne, b2i_inj, b2i_nar, b2i_t, b2i_f, n1, n8, n13, n19, a55, a56, a57, a58, a59, a60, a61, a62, a63, a64, a65, a66, a67, a68, a69, a70, x115, x119, x108, x99, x97, q16, q2, q3, q4, q8, q10, q160, q40, q24, q100, q1000, q999, oI]
      refine ⟨fun _ => ⟨rfl, hsx, o1, n1', t37, t38, ho1, hn1, hn2, fun fr hfr => ?_⟩, fun q => absurd (by trivial) q⟩
      rw [he fr hfr]
      by_cases hn9 : n1' < 100
      · rw [yE_step w (by simp) hn9 (by simp only [yPhi, yPh]; omega)]
        unfold yTurn
        dsimp only
        rw [hnx]
      · rw [yE_stop (fun q => hn9 q.2), yE_stop (fun q => hn9 q.2)]
    · obtain ⟨hr, hrs, hrf⟩ := yNext_lt hnx
      have hw := w.2.2.2.2.2.2.1 r hr
      have hzz := (w.2.2.1 _ hw.1).2.2.1
      have hff := hw.2.1
      have hkk := hw.2.2.2
      have hl2 := yRest_next hnx
      by_cases hn9 : n1' < 100
      · have hturn : ∀ fr, yTurn M (yNx M T A false) ((s, f) :: fr, o1, n1') = if yRK M r = 99 then (match yNx M T A false r with
            | none => ((s, yRF M r + 1) :: fr, yMix o1 999, n1')
            | some t => ((t, 0) :: (s, yRF M r + 1) :: fr, yMix o1 (yST M t), n1' + 1)) else ((s, yRF M r + 1) :: fr, o1, n1') := fun fr => by
          unfold yTurn
          simp only [hnx]
          rfl
        have he2 : ∀ fr, 5 * (100 - n) + yPh M fr ≤ 1000 → (yE M T A ((s, 0) :: fr, yMix o (yST M s), n + 1)).2 = (yE M T A (yTurn M (yNx M T A false) ((s, f) :: fr, o1, n1'))).2 := fun fr hfr => by
          rw [he fr hfr, yE_step w (by simp) hn9 (by simp only [yPhi, yPh]; omega)]
        have hlive : gLv M A (yGoal M T r) = true := hgo r hr (by rw [hrs]; exact hA)
        rcases hgg : yGoal M T r with _ | g
        · rw [hgg] at hlive; cases hlive
        rw [hgg] at hlive
        have hok := yGoal_ok (T := T) w hr
        rw [hgg] at hok
        have hg31 := gOk_lt w hok g rfl
        have hyx : yNx M T A false r = yCodeOf M (some g) := by
          unfold yNx
          rw [hgg]
          cases yCodeOf M (some g) <;> rfl
        -- behind a call
        have hnext : ∀ τ2 o2 n2, xs30 [37, 38] [] σ τ2 → τ2 30 37 = nI o2 → τ2 30 38 = nI n2 → o2 < 1000003 → n < n2 → n2 ≤ 100 → (∀ fr, 5 * (100 - n) + yPh M fr ≤ 1000 → (yE M T A ((s, 0) :: fr, yMix o (yST M s), n + 1)).2 = (yE M T A ((s, yRF M r + 1) :: fr, o2, n2)).2) → ∀ z, AX8_goesInto G (d + m + 1 + 1) (YGo σ M T A s o n) 37 [some (.ref 30), some (.int (nI s)), some (.int (oI (yNext M s (yRF M r + 1)))), z] [] τ2 :=
          fun τ2 o2 n2 g1 g2 g3 g4 g5 g6 g7 z => ih τ2 (yRF M r + 1) o2 n2 g1 g2 g3 g4 g5 g6 (by omega) (by omega) g7 z
        by_cases hk : yRK M r = 99
        · have hcall : ∀ b : Bool, b = (decide (g < 100) && ySC M (yDS M g) == 1) → AX8_goesInto G (d + m + 1 + 1) (YGo σ M T A s o n) 97 [some (.ref 30), some (.int (nI s)), some (.int (nI r)), z] [.int (b2i b)] τ := by
            intro b hb
            refine bX8_goesInto_97 _ _ _ ?_
            cases b with
            | false =>
              have hcn : yCodeOf M (some g) = none := by
                unfold yCodeOf
                dsimp only
                rw [if_neg]
                intro q
                rw [decide_eq_true q.1, Bool.true_and] at hb
                rw [q.2] at hb
                cases hb
              try simp (disch := omega) only [xi_iload, xi_aload, xi_lload, xi_istore, xi_astore, xi_lstore, xi_ic, xi_lc, xi_iinc, xi_iadd, xi_isub, xi_imul, xi_iand, xi_iushr, xi_ineg, xi_idiv, xi_irem, xi_ladd, xi_lmul, xi_lrem, xi_lcmp, xi_i2l, xi_l2i, xi_i2c, xi_dup, xi_dup2, xi_pop, xi_ifeq, xi_ifne, xi_iflt, xi_ifge, xi_ifgt, xi_ifle, xi_iceq, xi_icne, xi_iclt, xi_icge, xi_icgt, xi_icle, xi_iret, xi_zret, xi_lret, xi_vret, xi_getf, xi_putf, xi_ald, xi_ast, xi_alen, xi_callV, xi_callS, xpop, xroom, xl, xst, xok1, xok2, xnarrow, xwide, xone, xent, List.replicate, Option.isSome_some, Bool.and_self, Bool.true_and, Bool.and_true, List.length_cons, List.length_nil, Nat.reduceAdd, Nat.reduceLT, decide_true, Bool.not_false, Nat.beq, Nat.ble, Option.toList, List.nil_append, List.cons_append, xf_30_0, xf_30_1, xf_30_2, xf_30_3, xf_30_4, xf_30_5, xf_30_6, xf_30_7, xf_30_8, xf_30_9, xf_30_10, xf_30_11, xf_30_12, xf_30_13, xf_30_14, xf_30_15, xf_30_16, xf_30_17, xf_30_18, xf_30_19, xf_30_20, xf_30_21, xf_30_22, xf_30_23, xf_30_24, xf_30_25, xf_30_26, xf_30_27, xf_30_28, xf_30_29, xf_30_30, xf_30_31, xf_30_32, xf_30_33, xf_30_34, xf_30_35, xf_30_36, xf_30_37, xf_30_38, xf_30_39, xf_30_40, xf_30_41, xf_30_42, xf_30_43, xf_30_44, xf_30_45, xf_30_46, xf_30_47, xf_30_48, xf_30_49, xf_30_50, xa_55, xa_56, xa_57, xa_58, xa_59, xa_60, xa_61, xa_62, xa_63, xa_64, xa_65, xa_66, xa_67, xa_68, xa_69, xa_70, xa_71, xa_72, xa_73, xa_74, xa_75, xa_76, xa_77, xa_78, xa_79, xa_80, xa_81, xa_82, xa_83, xa_84, xa_85, xa_86, xa_87, xa_88, vp_nI, nI_clamp, true_and, and_true, nI_1, nI_add, pk_mul, nI_leI, nI_ltI, nI_eq, nI_le0, nI_lt0, b2i_ne, b2i_inj, b2i_nar, b2i_t, b2i_f, n1, n8, n13, n19, a55, a56, a57, a58, a59, a60, a61, a62, a63, a64, a65, a66, a67, a68, a69, a70, x115, x119, x108, x99, x97, q16, q2, q3, q4, q8, q10, q160, q40, q24, q100, q1000, q999]
              refine ⟨fun _ => x_F (sX8_turns ho1 (by omega) t37) ?_, fun q => absurd (by trivial) q⟩
              have hs2 : xs30 [37, 38] [] τ (xup τ 30 37 (nI (yMix o1 999))) := xs30.up rfl
              have hs02 := hsx.tr hs2
              have e68 : ∀ v : Int32, xup τ 30 37 v 68 r = nI (yRF M r) := fun v => by rw [xup_n (by decide)]; exact a68 r hr
              try simp (disch := omega) only [xi_iload, xi_aload, xi_lload, xi_istore, xi_astore, xi_lstore, xi_ic, xi_lc, xi_iinc, xi_iadd, xi_isub, xi_imul, xi_iand, xi_iushr, xi_ineg, xi_idiv, xi_irem, xi_ladd, xi_lmul, xi_lrem, xi_lcmp, xi_i2l, xi_l2i, xi_i2c, xi_dup, xi_dup2, xi_pop, xi_ifeq, xi_ifne, xi_iflt, xi_ifge, xi_ifgt, xi_ifle, xi_iceq, xi_icne, xi_iclt, xi_icge, xi_icgt, xi_icle, xi_iret, xi_zret, xi_lret, xi_vret, xi_getf, xi_putf, xi_ald, xi_ast, xi_alen, xi_callV, xi_callS, xpop, xroom, xl, xst, xok1, xok2, xnarrow, xwide, xone, xent, List.replicate, Option.isSome_some, Bool.and_self, Bool.true_and, Bool.and_true, List.length_cons, List.length_nil, Nat.reduceAdd, Nat.reduceLT, decide_true, Bool.not_false, Nat.beq, Nat.ble, Option.toList, List.nil_append, List.cons_append, xf_30_0, xf_30_1, xf_30_2, xf_30_3, xf_30_4, xf_30_5, xf_30_6, xf_30_7, xf_30_8, xf_30_9, xf_30_10, xf_30_11, xf_30_12, xf_30_13, xf_30_14, xf_30_15, xf_30_16, xf_30_17, xf_30_18, xf_30_19, xf_30_20, xf_30_21, xf_30_22, xf_30_23, xf_30_24, xf_30_25, xf_30_26, xf_30_27, xf_30_28, xf_30_29, xf_30_30, xf_30_31, xf_30_32, xf_30_33, xf_30_34, xf_30_35, xf_30_36, xf_30_37, xf_30_38, xf_30_39, xf_30_40, xf_30_41, xf_30_42, xf_30_43, xf_30_44, xf_30_45, xf_30_46, xf_30_47, xf_30_48, xf_30_49, xf_30_50, xa_55, xa_56, xa_57, xa_58, xa_59, xa_60, xa_61, xa_62, xa_63, xa_64, xa_65, xa_66, xa_67, xa_68, xa_69, xa_70, xa_71, xa_72, xa_73, xa_74, xa_75, xa_76, xa_77, xa_78, xa_79, xa_80, xa_81, xa_82, xa_83, xa_84, xa_85, xa_86, xa_87, xa_88, vp_nI, nI_clamp, true_and, and_true, nI_1, nI_add, pk_mul, nI_leI, nI_ltI, nI_eq, nI_le0, nI_lt0, b2i_ne, b2i_inj, b2i_nar, b2i_t, b2i_f, n1, n8, n13, n19, a55, a56, a57, a58, a59, a60, a61, a62, a63, a64, a65, a66, a67, a68, a69, a70, x115, x119, x108, x99, x97, q16, q2, q3, q4, q8, q10, q160, q40, q24, q100, q1000, q999, e68]
              refine x_F (sX8_nextOf (h.s30 hs02 (by decide) (by decide)) w (by omega) (by omega)) ?_
              try simp (disch := omega) only [xi_iload, xi_aload, xi_lload, xi_istore, xi_astore, xi_lstore, xi_ic, xi_lc, xi_iinc, xi_iadd, xi_isub, xi_imul, xi_iand, xi_iushr, xi_ineg, xi_idiv, xi_irem, xi_ladd, xi_lmul, xi_lrem, xi_lcmp, xi_i2l, xi_l2i, xi_i2c, xi_dup, xi_dup2, xi_pop, xi_ifeq, xi_ifne, xi_iflt, xi_ifge, xi_ifgt, xi_ifle, xi_iceq, xi_icne, xi_iclt, xi_icge, xi_icgt, xi_icle, xi_iret, xi_zret, xi_lret, xi_vret, xi_getf, xi_putf, xi_ald, xi_ast, xi_alen, xi_callV, xi_callS, xpop, xroom, xl, xst, xok1, xok2, xnarrow, xwide, xone, xent, List.replicate, Option.isSome_some, Bool.and_self, Bool.true_and, Bool.and_true, List.length_cons, List.length_nil, Nat.reduceAdd, Nat.reduceLT, decide_true, Bool.not_false, Nat.beq, Nat.ble, Option.toList, List.nil_append, List.cons_append, xf_30_0, xf_30_1, xf_30_2, xf_30_3, xf_30_4, xf_30_5, xf_30_6, xf_30_7, xf_30_8, xf_30_9, xf_30_10, xf_30_11, xf_30_12, xf_30_13, xf_30_14, xf_30_15, xf_30_16, xf_30_17, xf_30_18, xf_30_19, xf_30_20, xf_30_21, xf_30_22, xf_30_23, xf_30_24, xf_30_25, xf_30_26, xf_30_27, xf_30_28, xf_30_29, xf_30_30, xf_30_31, xf_30_32, xf_30_33, xf_30_34, xf_30_35, xf_30_36, xf_30_37, xf_30_38, xf_30_39, xf_30_40, xf_30_41, xf_30_42, xf_30_43, xf_30_44, xf_30_45, xf_30_46, xf_30_47, xf_30_48, xf_30_49, xf_30_50, xa_55, xa_56, xa_57, xa_58, xa_59, xa_60, xa_61, xa_62, xa_63, xa_64, xa_65, xa_66, xa_67, xa_68, xa_69, xa_70, xa_71, xa_72, xa_73, xa_74, xa_75, xa_76, xa_77, xa_78, xa_79, xa_80, xa_81, xa_82, xa_83, xa_84, xa_85, xa_86, xa_87, xa_88, vp_nI, nI_clamp, true_and, and_true, nI_1, nI_add, pk_mul, nI_leI, nI_ltI, nI_eq, nI_le0, nI_lt0, b2i_ne, b2i_inj, b2i_nar, b2i_t, b2i_f, n1, n8, n13, n19, a55, a56, a57, a58, a59, a60, a61, a62, a63, a64, a65, a66, a67, a68, a69, a70, x115, x119, x108, x99, x97, q16, q2, q3, q4, q8, q10, q160, q40, q24, q100, q1000, q999]
              refine hnext _ (yMix o1 999) n1' hs02 (by rw [xup_ap, if_pos ⟨rfl, rfl⟩]) (by rw [xup_ap, if_neg (by omega)]; exact t38) yMix_lt hn1 hn2 (fun fr hfr => ?_) _
              rw [he2 fr hfr, hturn, if_pos hk, hyx, hcn]
            | true =>
              have hb2 := hb.symm
              rw [Bool.and_eq_true, decide_eq_true_eq, beq_iff_eq] at hb2
              have hgd : g < nD M := by rcases hok g rfl with h1 | ⟨o', n', h1, h2, h3, h4⟩ <;> omega
              have hgs := (w.2.2.2.1 g hgd).1
              have hcn : yCodeOf M (some g) = some (yDS M g) := by
                unfold yCodeOf
                dsimp only
                rw [if_pos hb2]
              have hAt : A (yDS M g) = true := by
                unfold gLv at hlive
                rw [← nd_def w hgd]; exact hlive
              try simp (disch := omega) only [xi_iload, xi_aload, xi_lload, xi_istore, xi_astore, xi_lstore, xi_ic, xi_lc, xi_iinc, xi_iadd, xi_isub, xi_imul, xi_iand, xi_iushr, xi_ineg, xi_idiv, xi_irem, xi_ladd, xi_lmul, xi_lrem, xi_lcmp, xi_i2l, xi_l2i, xi_i2c, xi_dup, xi_dup2, xi_pop, xi_ifeq, xi_ifne, xi_iflt, xi_ifge, xi_ifgt, xi_ifle, xi_iceq, xi_icne, xi_iclt, xi_icge, xi_icgt, xi_icle, xi_iret, xi_zret, xi_lret, xi_vret, xi_getf, xi_putf, xi_ald, xi_ast, xi_alen, xi_callV, xi_callS, xpop, xroom, xl, xst, xok1, xok2, xnarrow, xwide, xone, xent, List.replicate, Option.isSome_some, Bool.and_self, Bool.true_and, Bool.and_true, List.length_cons, List.length_nil, Nat.reduceAdd, Nat.reduceLT, decide_true, Bool.not_false, Nat.beq, Nat.ble, Option.toList, List.nil_append, List.cons_append, xf_30_0, xf_30_1, xf_30_2, xf_30_3, xf_30_4, xf_30_5, xf_30_6, xf_30_7, xf_30_8, xf_30_9, xf_30_10, xf_30_11, xf_30_12, xf_30_13, xf_30_14, xf_30_15, xf_30_16, xf_30_17, xf_30_18, xf_30_19, xf_30_20, xf_30_21, xf_30_22, xf_30_23, xf_30_24, xf_30_25, xf_30_26, xf_30_27, xf_30_28, xf_30_29, xf_30_30, xf_30_31, xf_30_32, xf_30_33, xf_30_34, xf_30_35, xf_30_36, xf_30_37, xf_30_38, xf_30_39, xf_30_40, xf_30_41, xf_30_42, xf_30_43, xf_30_44, xf_30_45, xf_30_46, xf_30_47, xf_30_48, xf_30_49, xf_30_50, xa_55, xa_56, xa_57, xa_58, xa_59, xa_60, xa_61, xa_62, xa_63, xa_64, xa_65, xa_66, xa_67, xa_68, xa_69, xa_70, xa_71, xa_72, xa_73, xa_74, xa_75, xa_76, xa_77, xa_78, xa_79, xa_80, xa_81, xa_82, xa_83, xa_84, xa_85, xa_86, xa_87, xa_88, vp_nI, nI_clamp, true_and, and_true, nI_1, nI_add, pk_mul, nI_leI, nI_ltI, nI_eq, nI_le0, nI_lt0, b2i_ne, b2i_inj, b2i_nar, b2i_t, b2i_f, n1, n8, n13, n19, a55, a56, a57, a58, a59, a60, a61, a62, a63, a64, a65, a66, a67, a68, a69, a70, x115, x119, x108, x99, x97, q16, q2, q3, q4, q8, q10, q160, q40, q24, q100, q1000, q999, a73, hgg, oI]
              have hrec := rec (99 - n1') (by omega) (d := d + m - (99 - n1') - 1) (s := yDS M g) (o := o1) (n := n1') (σ := τ) (by omega) hM hG' t37 t38 ho1 hgs hAt
              rw [show d + m - (99 - n1') - 1 + (99 - n1') + 2 = d + m + 1 by omega] at hrec
              refine ⟨fun q => absurd q (by decide), fun _ => x_R hrec (fun v τ2 hτ2 => ?_)⟩
              obtain ⟨rfl, hs2, o', n', t37', t38', ho', hn1', hn2', hE⟩ := hτ2
              have hs02 := hsx.tr hs2
              have e68 : τ2 68 r = nI (yRF M r) := by rw [hs2.at rfl rfl]; exact a68 r hr
              try simp (disch := omega) only [xi_iload, xi_aload, xi_lload, xi_istore, xi_astore, xi_lstore, xi_ic, xi_lc, xi_iinc, xi_iadd, xi_isub, xi_imul, xi_iand, xi_iushr, xi_ineg, xi_idiv, xi_irem, xi_ladd, xi_lmul, xi_lrem, xi_lcmp, xi_i2l, xi_l2i, xi_i2c, xi_dup, xi_dup2, xi_pop, xi_ifeq, xi_ifne, xi_iflt, xi_ifge, xi_ifgt, xi_ifle, xi_iceq, xi_icne, xi_iclt, xi_icge, xi_icgt, xi_icle, xi_iret, xi_zret, xi_lret, xi_vret, xi_getf, xi_putf, xi_ald, xi_ast, xi_alen, xi_callV, xi_callS, xpop, xroom, xl, xst, xok1, xok2, xnarrow, xwide, xone, xent, List.replicate, Option.isSome_some, Bool.and_self, Bool.true_and, Bool.and_true, List.length_cons, List.length_nil, Nat.reduceAdd, Nat.reduceLT, decide_true, Bool.not_false, Nat.beq, Nat.ble, Option.toList, List.nil_append, List.cons_append, xf_30_0, xf_30_1, xf_30_2, xf_30_3, xf_30_4, xf_30_5, xf_30_6, xf_30_7, xf_30_8, xf_30_9, xf_30_10, xf_30_11, xf_30_12, xf_30_13, xf_30_14, xf_30_15, xf_30_16, xf_30_17, xf_30_18, xf_30_19, xf_30_20, xf_30_21, xf_30_22, xf_30_23, xf_30_24, xf_30_25, xf_30_26, xf_30_27, xf_30_28, xf_30_29, xf_30_30, xf_30_31, xf_30_32, xf_30_33, xf_30_34, xf_30_35, xf_30_36, xf_30_37, xf_30_38, xf_30_39, xf_30_40, xf_30_41, xf_30_42, xf_30_43, xf_30_44, xf_30_45, xf_30_46, xf_30_47, xf_30_48, xf_30_49, xf_30_50, xa_55, xa_56, xa_57, xa_58, xa_59, xa_60, xa_61, xa_62, xa_63, xa_64, xa_65, xa_66, xa_67, xa_68, xa_69, xa_70, xa_71, xa_72, xa_73, xa_74, xa_75, xa_76, xa_77, xa_78, xa_79, xa_80, xa_81, xa_82, xa_83, xa_84, xa_85, xa_86, xa_87, xa_88, vp_nI, nI_clamp, true_and, and_true, nI_1, nI_add, pk_mul, nI_leI, nI_ltI, nI_eq, nI_le0, nI_lt0, b2i_ne, b2i_inj, b2i_nar, b2i_t, b2i_f, n1, n8, n13, n19, a55, a56, a57, a58, a59, a60, a61, a62, a63, a64, a65, a66, a67, a68, a69, a70, x115, x119, x108, x99, x97, q16, q2, q3, q4, q8, q10, q160, q40, q24, q100, q1000, q999, e68]
              refine x_F (sX8_nextOf (h.s30 hs02 (by decide) (by decide)) w (by omega) (by omega)) ?_
              try simp (disch := omega) only [xi_iload, xi_aload, xi_lload, xi_istore, xi_astore, xi_lstore, xi_ic, xi_lc, xi_iinc, xi_iadd, xi_isub, xi_imul, xi_iand, xi_iushr, xi_ineg, xi_idiv, xi_irem, xi_ladd, xi_lmul, xi_lrem, xi_lcmp, xi_i2l, xi_l2i, xi_i2c, xi_dup, xi_dup2, xi_pop, xi_ifeq, xi_ifne, xi_iflt, xi_ifge, xi_ifgt, xi_ifle, xi_iceq, xi_icne, xi_iclt, xi_icge, xi_icgt, xi_icle, xi_iret, xi_zret, xi_lret, xi_vret, xi_getf, xi_putf, xi_ald, xi_ast, xi_alen, xi_callV, xi_callS, xpop, xroom, xl, xst, xok1, xok2, xnarrow, xwide, xone, xent, List.replicate, Option.isSome_some, Bool.and_self, Bool.true_and, Bool.and_true, List.length_cons, List.length_nil, Nat.reduceAdd, Nat.reduceLT, decide_true, Bool.not_false, Nat.beq, Nat.ble, Option.toList, List.nil_append, List.cons_append, xf_30_0, xf_30_1, xf_30_2, xf_30_3, xf_30_4, xf_30_5, xf_30_6, xf_30_7, xf_30_8, xf_30_9, xf_30_10, xf_30_11, xf_30_12, xf_30_13, xf_30_14, xf_30_15, xf_30_16, xf_30_17, xf_30_18, xf_30_19, xf_30_20, xf_30_21, xf_30_22, xf_30_23, xf_30_24, xf_30_25, xf_30_26, xf_30_27, xf_30_28, xf_30_29, xf_30_30, xf_30_31, xf_30_32, xf_30_33, xf_30_34, xf_30_35, xf_30_36, xf_30_37, xf_30_38, xf_30_39, xf_30_40, xf_30_41, xf_30_42, xf_30_43, xf_30_44, xf_30_45, xf_30_46, xf_30_47, xf_30_48, xf_30_49, xf_30_50, xa_55, xa_56, xa_57, xa_58, xa_59, xa_60, xa_61, xa_62, xa_63, xa_64, xa_65, xa_66, xa_67, xa_68, xa_69, xa_70, xa_71, xa_72, xa_73, xa_74, xa_75, xa_76, xa_77, xa_78, xa_79, xa_80, xa_81, xa_82, xa_83, xa_84, xa_85, xa_86, xa_87, xa_88, vp_nI, nI_clamp, true_and, and_true, nI_1, nI_add, pk_mul, nI_leI, nI_ltI, nI_eq, nI_le0, nI_lt0, b2i_ne, b2i_inj, b2i_nar, b2i_t, b2i_f, n1, n8, n13, n19, a55, a56, a57, a58, a59, a60, a61, a62, a63, a64, a65, a66, a67, a68, a69, a70, x115, x119, x108, x99, x97, q16, q2, q3, q4, q8, q10, q160, q40, q24, q100, q1000, q999]
              refine hnext τ2 o' n' hs02 t37' t38' ho' (by omega) hn2' (fun fr hfr => ?_) _
              have hr4 := yRest_le w (s := s) (f := yRF M r + 1)
              rw [he2 fr hfr, hturn, if_pos hk, hyx, hcn]
              exact hE _ (by simp only [yPh]; omega)
          have ht := hcall true
          have hf' := hcall false
          try simp (disch := omega) only [xi_iload, xi_aload, xi_lload, xi_istore, xi_astore, xi_lstore, xi_ic, xi_lc, xi_iinc, xi_iadd, xi_isub, xi_imul, xi_iand, xi_iushr, xi_ineg, xi_idiv, xi_irem, xi_ladd, xi_lmul, xi_lrem, xi_lcmp, xi_i2l, xi_l2i, xi_i2c, xi_dup, xi_dup2, xi_pop, xi_ifeq, xi_ifne, xi_iflt, xi_ifge, xi_ifgt, xi_ifle, xi_iceq, xi_icne, xi_iclt, xi_icge, xi_icgt, xi_icle, xi_iret, xi_zret, xi_lret, xi_vret, xi_getf, xi_putf, xi_ald, xi_ast, xi_alen, xi_callV, xi_callS, xpop, xroom, xl, xst, xok1, xok2, xnarrow, xwide, xone, xent, List.replicate, Option.isSome_some, Bool.and_self, Bool.true_and, Bool.and_true, List.length_cons, List.length_nil, Nat.reduceAdd, Nat.reduceLT, decide_true, Bool.not_false, Nat.beq, Nat.ble, Option.toList, List.nil_append, List.cons_append, xf_30_0, xf_30_1, xf_30_2, xf_30_3, xf_30_4, xf_30_5, xf_30_6, xf_30_7, xf_30_8, xf_30_9, xf_30_10, xf_30_11, xf_30_12, xf_30_13, xf_30_14, xf_30_15, xf_30_16, xf_30_17, xf_30_18, xf_30_19, xf_30_20, xf_30_21, xf_30_22, xf_30_23, xf_30_24, xf_30_25, xf_30_26, xf_30_27, xf_30_28, xf_30_29, xf_30_30, xf_30_31, xf_30_32, xf_30_33, xf_30_34, xf_30_35, xf_30_36, xf_30_37, xf_30_38, xf_30_39, xf_30_40, xf_30_41, xf_30_42, xf_30_43, xf_30_44, xf_30_45, xf_30_46, xf_30_47, xf_30_48, xf_30_49, xf_30_50, xa_55, xa_56, xa_57, xa_58, xa_59, xa_60, xa_61, xa_62, xa_63, xa_64, xa_65, xa_66, xa_67, xa_68, xa_69, xa_70, xa_71, xa_72, xa_73, xa_74, xa_75, xa_76, xa_77, xa_78, xa_79, xa_80, xa_81, xa_82, xa_83, xa_84, xa_85, xa_86, xa_87, xa_88, vp_nI, nI_clamp, true_and, and_true, nI_1, nI_add, pk_mul, nI_leI, nI_ltI, nI_eq, nI_le0, nI_lt0, b2i_ne, b2i_inj, b2i_nar, b2i_t, b2i_f, n1, n8, n13, n19, a55, a56, a57, a58, a59, a60, a61, a62, a63, a64, a65, a66, a67, a68, a69, a70, x115, x119, x108, x99, x97, q16, q2, q3, q4, q8, q10, q160, q40, q24, q100, q1000, q999, t38, oI, a73, hgg]
          rcases hok g rfl with hgd | ⟨o', n', hoo, hnn, hgc, hcc⟩
          · have hgs := (w.2.2.2.1 g hgd).1
            try simp (disch := omega) only [xi_iload, xi_aload, xi_lload, xi_istore, xi_astore, xi_lstore, xi_ic, xi_lc, xi_iinc, xi_iadd, xi_isub, xi_imul, xi_iand, xi_iushr, xi_ineg, xi_idiv, xi_irem, xi_ladd, xi_lmul, xi_lrem, xi_lcmp, xi_i2l, xi_l2i, xi_i2c, xi_dup, xi_dup2, xi_pop, xi_ifeq, xi_ifne, xi_iflt, xi_ifge, xi_ifgt, xi_ifle, xi_iceq, xi_icne, xi_iclt, xi_icge, xi_icgt, xi_icle, xi_iret, xi_zret, xi_lret, xi_vret, xi_getf, xi_putf, xi_ald, xi_ast, xi_alen, xi_callV, xi_callS, xpop, xroom, xl, xst, xok1, xok2, xnarrow, xwide, xone, xent, List.replicate, Option.isSome_some, Bool.and_self, Bool.true_and, Bool.and_true, List.length_cons, List.length_nil, Nat.reduceAdd, Nat.reduceLT, decide_true, Bool.not_false, Nat.beq, Nat.ble, Option.toList, List.nil_append, List.cons_append, xf_30_0, xf_30_1, xf_30_2, xf_30_3, xf_30_4, xf_30_5, xf_30_6, xf_30_7, xf_30_8, xf_30_9, xf_30_10, xf_30_11, xf_30_12, xf_30_13, xf_30_14, xf_30_15, xf_30_16, xf_30_17, xf_30_18, xf_30_19, xf_30_20, xf_30_21, xf_30_22, xf_30_23, xf_30_24, xf_30_25, xf_30_26, xf_30_27, xf_30_28, xf_30_29, xf_30_30, xf_30_31, xf_30_32, xf_30_33, xf_30_34, xf_30_35, xf_30_36, xf_30_37, xf_30_38, xf_30_39, xf_30_40, xf_30_41, xf_30_42, xf_30_43, xf_30_44, xf_30_45, xf_30_46, xf_30_47, xf_30_48, xf_30_49, xf_30_50, xa_55, xa_56, xa_57, xa_58, xa_59, xa_60, xa_61, xa_62, xa_63, xa_64, xa_65, xa_66, xa_67, xa_68, xa_69, xa_70, xa_71, xa_72, xa_73, xa_74, xa_75, xa_76, xa_77, xa_78, xa_79, xa_80, xa_81, xa_82, xa_83, xa_84, xa_85, xa_86, xa_87, xa_88, vp_nI, nI_clamp, true_and, and_true, nI_1, nI_add, pk_mul, nI_leI, nI_ltI, nI_eq, nI_le0, nI_lt0, b2i_ne, b2i_inj, b2i_nar, b2i_t, b2i_f, n1, n8, n13, n19, a55, a56, a57, a58, a59, a60, a61, a62, a63, a64, a65, a66, a67, a68, a69, a70, x115, x119, x108, x99, x97, q16, q2, q3, q4, q8, q10, q160, q40, q24, q100, q1000, q999]
            refine ⟨fun q => absurd q (nIm r (by omega)), fun _ => ⟨fun q => absurd q (by omega), fun _ => ⟨fun q => absurd hk q, fun _ => ⟨fun q => absurd q (by omega), fun _ => ⟨fun q => hf' ?_, fun q => ht ?_⟩⟩⟩⟩⟩
            · rw [q, Bool.and_false]
            · rw [decide_eq_true (show g < 100 by omega), Bool.true_and]; simpa using q
          · try simp (disch := omega) only [xi_iload, xi_aload, xi_lload, xi_istore, xi_astore, xi_lstore, xi_ic, xi_lc, xi_iinc, xi_iadd, xi_isub, xi_imul, xi_iand, xi_iushr, xi_ineg, xi_idiv, xi_irem, xi_ladd, xi_lmul, xi_lrem, xi_lcmp, xi_i2l, xi_l2i, xi_i2c, xi_dup, xi_dup2, xi_pop, xi_ifeq, xi_ifne, xi_iflt, xi_ifge, xi_ifgt, xi_ifle, xi_iceq, xi_icne, xi_iclt, xi_icge, xi_icgt, xi_icle, xi_iret, xi_zret, xi_lret, xi_vret, xi_getf, xi_putf, xi_ald, xi_ast, xi_alen, xi_callV, xi_callS, xpop, xroom, xl, xst, xok1, xok2, xnarrow, xwide, xone, xent, List.replicate, Option.isSome_some, Bool.and_self, Bool.true_and, Bool.and_true, List.length_cons, List.length_nil, Nat.reduceAdd, Nat.reduceLT, decide_true, Bool.not_false, Nat.beq, Nat.ble, Option.toList, List.nil_append, List.cons_append, xf_30_0, xf_30_1, xf_30_2, xf_30_3, xf_30_4, xf_30_5, xf_30_6, xf_30_7, xf_30_8, xf_30_9, xf_30_10, xf_30_11, xf_30_12, xf_30_13, xf_30_14, xf_30_15, xf_30_16, xf_30_17, xf_30_18, xf_30_19, xf_30_20, xf_30_21, xf_30_22, xf_30_23, xf_30_24, xf_30_25, xf_30_26, xf_30_27, xf_30_28, xf_30_29, xf_30_30, xf_30_31, xf_30_32, xf_30_33, xf_30_34, xf_30_35, xf_30_36, xf_30_37, xf_30_38, xf_30_39, xf_30_40, xf_30_41, xf_30_42, xf_30_43, xf_30_44, xf_30_45, xf_30_46, xf_30_47, xf_30_48, xf_30_49, xf_30_50, xa_55, xa_56, xa_57, xa_58, xa_59, xa_60, xa_61, xa_62, xa_63, xa_64, xa_65, xa_66, xa_67, xa_68, xa_69, xa_70, xa_71, xa_72, xa_73, xa_74, xa_75, xa_76, xa_77, xa_78, xa_79, xa_80, xa_81, xa_82, xa_83, xa_84, xa_85, xa_86, xa_87, xa_88, vp_nI, nI_clamp, true_and, and_true, nI_1, nI_add, pk_mul, nI_leI, nI_ltI, nI_eq, nI_le0, nI_lt0, b2i_ne, b2i_inj, b2i_nar, b2i_t, b2i_f, n1, n8, n13, n19, a55, a56, a57, a58, a59, a60, a61, a62, a63, a64, a65, a66, a67, a68, a69, a70, x115, x119, x108, x99, x97, q16, q2, q3, q4, q8, q10, q160, q40, q24, q100, q1000, q999]
            refine ⟨fun q => absurd q (nIm r (by omega)), fun _ => ⟨fun q => absurd q (by omega), fun _ => ⟨fun q => absurd hk q, fun _ => ⟨fun q => hf' ?_, fun q => absurd (by omega) q⟩⟩⟩⟩
            rw [decide_eq_false (show ¬ g < 100 by omega), Bool.false_and]
        · try simp (disch := omega) only [xi_iload, xi_aload, xi_lload, xi_istore, xi_astore, xi_lstore, xi_ic, xi_lc, xi_iinc, xi_iadd, xi_isub, xi_imul, xi_iand, xi_iushr, xi_ineg, xi_idiv, xi_irem, xi_ladd, xi_lmul, xi_lrem, xi_lcmp, xi_i2l, xi_l2i, xi_i2c, xi_dup, xi_dup2, xi_pop, xi_ifeq, xi_ifne, xi_iflt, xi_ifge, xi_ifgt, xi_ifle, xi_iceq, xi_icne, xi_iclt, xi_icge, xi_icgt, xi_icle, xi_iret, xi_zret, xi_lret, xi_vret, xi_getf, xi_putf, xi_ald, xi_ast, xi_alen, xi_callV, xi_callS, xpop, xroom, xl, xst, xok1, xok2, xnarrow, xwide, xone, xent, List.replicate, Option.isSome_some, Bool.and_self, Bool.true_and, Bool.and_true, List.length_cons, List.length_nil, Nat.reduceAdd, Nat.reduceLT, decide_true, Bool.not_false, Nat.beq, Nat.ble, Option.toList, List.nil_append, List.cons_append, xf_30_0, xf_30_1, xf_30_2, xf_30_3, xf_30_4, xf_30_5, xf_30_6, xf_30_7, xf_30_8, xf_30_9, xf_30_10, xf_30_11, xf_30_12, xf_30_13, xf_30_14, xf_30_15, xf_30_16, xf_30_17, xf_30_18, xf_30_19, xf_30_20, xf_30_21, xf_30_22, xf_30_23, xf_30_24, xf_30_25, xf_30_26, xf_30_27, xf_30_28, xf_30_29, xf_30_30, xf_30_31, xf_30_32, xf_30_33, xf_30_34, xf_30_35, xf_30_36, xf_30_37, xf_30_38, xf_30_39, xf_30_40, xf_30_41, xf_30_42, xf_30_43, xf_30_44, xf_30_45, xf_30_46, xf_30_47, xf_30_48, xf_30_49, xf_30_50, xa_55, xa_56, xa_57, xa_58, xa_59, xa_60, xa_61, xa_62, xa_63, xa_64, xa_65, xa_66, xa_67, xa_68, xa_69, xa_70, xa_71, xa_72, xa_73, xa_74, xa_75, xa_76, xa_77, xa_78, xa_79, xa_80, xa_81, xa_82, xa_83, xa_84, xa_85, xa_86, xa_87, xa_88, vp_nI, nI_clamp, true_and, and_true, nI_1, nI_add, pk_mul, nI_leI, nI_ltI, nI_eq, nI_le0, nI_lt0, b2i_ne, b2i_inj, b2i_nar, b2i_t, b2i_f, n1, n8, n13, n19, a55, a56, a57, a58, a59, a60, a61, a62, a63, a64, a65, a66, a67, a68, a69, a70, x115, x119, x108, x99, x97, q16, q2, q3, q4, q8, q10, q160, q40, q24, q100, q1000, q999, t38, oI, a73, hgg]
          refine ⟨fun q => absurd q (nIm r (by omega)), fun _ => ⟨fun q => absurd q (by omega), fun _ => ⟨fun _ => x_F (sX8_nextOf hM w (by omega) (by omega)) ?_, fun q => absurd q hk⟩⟩⟩
          try simp (disch := omega) only [xi_iload, xi_aload, xi_lload, xi_istore, xi_astore, xi_lstore, xi_ic, xi_lc, xi_iinc, xi_iadd, xi_isub, xi_imul, xi_iand, xi_iushr, xi_ineg, xi_idiv, xi_irem, xi_ladd, xi_lmul, xi_lrem, xi_lcmp, xi_i2l, xi_l2i, xi_i2c, xi_dup, xi_dup2, xi_pop, xi_ifeq, xi_ifne, xi_iflt, xi_ifge, xi_ifgt, xi_ifle, xi_iceq, xi_icne, xi_iclt, xi_icge, xi_icgt, xi_icle, xi_iret, xi_zret, xi_lret, xi_vret, xi_getf, xi_putf, xi_ald, xi_ast, xi_alen, xi_callV, xi_callS, xpop, xroom, xl, xst, xok1, xok2, xnarrow, xwide, xone, xent, List.replicate, Option.isSome_some, Bool.and_self, Bool.true_and, Bool.and_true, List.length_cons, List.length_nil, Nat.reduceAdd, Nat.reduceLT, decide_true, Bool.not_false, Nat.beq, Nat.ble, Option.toList, List.nil_append, List.cons_append, xf_30_0, xf_30_1, xf_30_2, xf_30_3, xf_30_4, xf_30_5, xf_30_6, xf_30_7, xf_30_8, xf_30_9, xf_30_10, xf_30_11, xf_30_12, xf_30_13, xf_30_14, xf_30_15, xf_30_16, xf_30_17, xf_30_18, xf_30_19, xf_30_20, xf_30_21, xf_30_22, xf_30_23, xf_30_24, xf_30_25, xf_30_26, xf_30_27, xf_30_28, xf_30_29, xf_30_30, xf_30_31, xf_30_32, xf_30_33, xf_30_34, xf_30_35, xf_30_36, xf_30_37, xf_30_38, xf_30_39, xf_30_40, xf_30_41, xf_30_42, xf_30_43, xf_30_44, xf_30_45, xf_30_46, xf_30_47, xf_30_48, xf_30_49, xf_30_50, xa_55, xa_56, xa_57, xa_58, xa_59, xa_60, xa_61, xa_62, xa_63, xa_64, xa_65, xa_66, xa_67, xa_68, xa_69, xa_70, xa_71, xa_72, xa_73, xa_74, xa_75, xa_76, xa_77, xa_78, xa_79, xa_80, xa_81, xa_82, xa_83, xa_84, xa_85, xa_86, xa_87, xa_88, vp_nI, nI_clamp, true_and, and_true, nI_1, nI_add, pk_mul, nI_leI, nI_ltI, nI_eq, nI_le0, nI_lt0, b2i_ne, b2i_inj, b2i_nar, b2i_t, b2i_f, n1, n8, n13, n19, a55, a56, a57, a58, a59, a60, a61, a62, a63, a64, a65, a66, a67, a68, a69, a70, x115, x119, x108, x99, x97, q16, q2, q3, q4, q8, q10, q160, q40, q24, q100, q1000, q999]
          refine hnext τ o1 n1' hsx t37 t38 ho1 hn1 hn2 (fun fr hfr => ?_) _
          rw [he2 fr hfr, hturn, if_neg hk]
      · try simp (disch := omega) only [xi_iload, xi_aload, xi_lload, xi_istore, xi_astore, xi_lstore, xi_ic, xi_lc, xi_iinc, xi_iadd, xi_isub, xi_imul, xi_iand, xi_iushr, xi_ineg, xi_idiv, xi_irem, xi_ladd, xi_lmul, xi_lrem, xi_lcmp, xi_i2l, xi_l2i, xi_i2c, xi_dup, xi_dup2, xi_pop, xi_ifeq, xi_ifne, xi_iflt, xi_ifge, xi_ifgt, xi_ifle, xi_iceq, xi_icne, xi_iclt, xi_icge, xi_icgt, xi_icle, xi_iret, xi_zret, xi_lret, xi_vret, xi_getf, xi_putf, xi_ald, xi_ast, xi_alen, xi_callV, xi_callS, xpop, xroom, xl, xst, xok1, xok2, xnarrow, xwide, xone, xent, List.replicate, Option.isSome_some, Bool.and_self, Bool.true_and, Bool.and_true, List.length_cons, List.length_nil, Nat.reduceAdd, Nat.reduceLT, decide_true, Bool.not_false, Nat.beq, Nat.ble, Option.toList, List.nil_append, List.cons_append, xf_30_0, xf_30_1, xf_30_2, xf_30_3, xf_30_4, xf_30_5, xf_30_6, xf_30_7, xf_30_8, xf_30_9, xf_30_10, xf_30_11, xf_30_12, xf_30_13, xf_30_14, xf_30_15, xf_30_16, xf_30_17, xf_30_18, xf_30_19, xf_30_20, xf_30_21, xf_30_22, xf_30_23, xf_30_24, xf_30_25, xf_30_26, xf_30_27, xf_30_28, xf_30_29, xf_30_30, xf_30_31, xf_30_32, xf_30_33, xf_30_34, xf_30_35, xf_30_36, xf_30_37, xf_30_38, xf_30_39, xf_30_40, xf_30_41, xf_30_42, xf_30_43, xf_30_44, xf_30_45, xf_30_46, xf_30_47, xf_30_48, xf_30_49, xf_30_50, xa_55, xa_56, xa_57, xa_58, xa_59, xa_60, xa_61, xa_62, xa_63, xa_64, xa_65, xa_66, xa_67, xa_68, xa_69, xa_70, xa_71, xa_72, xa_73, xa_74, xa_75, xa_76, xa_77, xa_78, xa_79, xa_80, xa_81, xa_82, xa_83, xa_84, xa_85, xa_86, xa_87, xa_88, vp_nI, nI_clamp, true_and, and_true, nI_1, nI_add, pk_mul, nI_leI, nI_ltI, nI_eq, nI_le0, nI_lt0, b2i_ne, b2i_inj, b2i_nar, b2i_t, b2i_f, n1, n8, n13, n19, a55, a56, a57, a58, a59, a60, a61, a62, a63, a64, a65, a66, a67, a68, a69, a70, x115, x119, x108, x99, x97, q16, q2, q3, q4, q8, q10, q160, q40, q24, q100, q1000, q999, t38, oI]
        refine ⟨fun q => absurd q (nIm r (by omega)), fun _ => ⟨fun _ => ⟨rfl, hsx, o1, n1', t37, t38, ho1, hn1, hn2, fun fr hfr => ?_⟩, fun q => absurd (by omega) q⟩⟩
        rw [he fr hfr, yE_stop (fun q => hn9 q.2), yE_stop (fun q => hn9 q.2)]
  have e6 : ∀ v : Int32, xup σ 30 38 v 60 s = nI (yST M s) := fun v => by rw [xup_n (by decide)]; exact a60 s hs
  try simp (disch := omega) only [xi_iload, xi_aload, xi_lload, xi_istore, xi_astore, xi_lstore, xi_ic, xi_lc, xi_iinc, xi_iadd, xi_isub, xi_imul, xi_iand, xi_iushr, xi_ineg, xi_idiv, xi_irem, xi_ladd, xi_lmul, xi_lrem, xi_lcmp, xi_i2l, xi_l2i, xi_i2c, xi_dup, xi_dup2, xi_pop, xi_ifeq, xi_ifne, xi_iflt, xi_ifge, xi_ifgt, xi_ifle, xi_iceq, xi_icne, xi_iclt, xi_icge, xi_icgt, xi_icle, xi_iret, xi_zret, xi_lret, xi_vret, xi_getf, xi_putf, xi_ald, xi_ast, xi_alen, xi_callV, xi_callS, xpop, xroom, xl, xst, xok1, xok2, xnarrow, xwide, xone, xent, List.replicate, Option.isSome_some, Bool.and_self, Bool.true_and, Bool.and_true, List.length_cons, List.length_nil, Nat.reduceAdd, Nat.reduceLT, decide_true, Bool.not_false, Nat.beq, Nat.ble, Option.toList, List.nil_append, List.cons_append, xf_30_0, xf_30_1, xf_30_2, xf_30_3, xf_30_4, xf_30_5, xf_30_6, xf_30_7, xf_30_8, xf_30_9, xf_30_10, xf_30_11, xf_30_12, xf_30_13, xf_30_14, xf_30_15, xf_30_16, xf_30_17, xf_30_18, xf_30_19, xf_30_20, xf_30_21, xf_30_22, xf_30_23, xf_30_24, xf_30_25, xf_30_26, xf_30_27, xf_30_28, xf_30_29, xf_30_30, xf_30_31, xf_30_32, xf_30_33, xf_30_34, xf_30_35, xf_30_36, xf_30_37, xf_30_38, xf_30_39, xf_30_40, xf_30_41, xf_30_42, xf_30_43, xf_30_44, xf_30_45, xf_30_46, xf_30_47, xf_30_48, xf_30_49, xf_30_50, xa_55, xa_56, xa_57, xa_58, xa_59, xa_60, xa_61, xa_62, xa_63, xa_64, xa_65, xa_66, xa_67, xa_68, xa_69, xa_70, xa_71, xa_72, xa_73, xa_74, xa_75, xa_76, xa_77, xa_78, xa_79, xa_80, xa_81, xa_82, xa_83, xa_84, xa_85, xa_86, xa_87, xa_88, vp_nI, nI_clamp, true_and, and_true, nI_1, nI_add, pk_mul, nI_leI, nI_ltI, nI_eq, nI_le0, nI_lt0, b2i_ne, b2i_inj, b2i_nar, b2i_t, b2i_f, n1, n8, n13, n19, a55, a56, a57, a58, a59, a60, a61, a62, a63, a64, a65, a66, a67, a68, a69, a70, x115, x119, x108, x99, x97, q16, q2, q3, q4, q8, q10, q160, q40, q24, q100, q1000, q999, h38, e6]
  refine ⟨fun _ => ⟨xnok_i _, x_F (sX8_turns ho hst (by rw [xup_ap, if_neg (by omega)]; exact h37)) ?_⟩, fun q => absurd q (by omega)⟩
  generalize hτ : xup (xup σ 30 38 (nI (n + 1))) 30 37 (nI (yMix o (yST M s))) = τ1
  have hs1 : xs30 [37, 38] [] σ τ1 := by rw [← hτ]; exact (xs30.up rfl).tr (xs30.up rfl)
  try simp (disch := omega) only [xi_iload, xi_aload, xi_lload, xi_istore, xi_astore, xi_lstore, xi_ic, xi_lc, xi_iinc, xi_iadd, xi_isub, xi_imul, xi_iand, xi_iushr, xi_ineg, xi_idiv, xi_irem, xi_ladd, xi_lmul, xi_lrem, xi_lcmp, xi_i2l, xi_l2i, xi_i2c, xi_dup, xi_dup2, xi_pop, xi_ifeq, xi_ifne, xi_iflt, xi_ifge, xi_ifgt, xi_ifle, xi_iceq, xi_icne, xi_iclt, xi_icge, xi_icgt, xi_icle, xi_iret, xi_zret, xi_lret, xi_vret, xi_getf, xi_putf, xi_ald, xi_ast, xi_alen, xi_callV, xi_callS, xpop, xroom, xl, xst, xok1, xok2, xnarrow, xwide, xone, xent, List.replicate, Option.isSome_some, Bool.and_self, Bool.true_and, Bool.and_true, List.length_cons, List.length_nil, Nat.reduceAdd, Nat.reduceLT, decide_true, Bool.not_false, Nat.beq, Nat.ble, Option.toList, List.nil_append, List.cons_append, xf_30_0, xf_30_1, xf_30_2, xf_30_3, xf_30_4, xf_30_5, xf_30_6, xf_30_7, xf_30_8, xf_30_9, xf_30_10, xf_30_11, xf_30_12, xf_30_13, xf_30_14, xf_30_15, xf_30_16, xf_30_17, xf_30_18, xf_30_19, xf_30_20, xf_30_21, xf_30_22, xf_30_23, xf_30_24, xf_30_25, xf_30_26, xf_30_27, xf_30_28, xf_30_29, xf_30_30, xf_30_31, xf_30_32, xf_30_33, xf_30_34, xf_30_35, xf_30_36, xf_30_37, xf_30_38, xf_30_39, xf_30_40, xf_30_41, xf_30_42, xf_30_43, xf_30_44, xf_30_45, xf_30_46, xf_30_47, xf_30_48, xf_30_49, xf_30_50, xa_55, xa_56, xa_57, xa_58, xa_59, xa_60, xa_61, xa_62, xa_63, xa_64, xa_65, xa_66, xa_67, xa_68, xa_69, xa_70, xa_71, xa_72, xa_73, xa_74, xa_75, xa_76, xa_77, xa_78, xa_79, xa_80, xa_81, xa_82, xa_83, xa_84, xa_85, xa_86, xa_87, xa_88, vp_nI, nI_clamp, true_and, and_true, nI_1, nI_add, pk_mul, nI_leI, nI_ltI, nI_eq, nI_le0, nI_lt0, b2i_ne, b2i_inj, b2i_nar, b2i_t, b2i_f, n1, n8, n13, n19, a55, a56, a57, a58, a59, a60, a61, a62, a63, a64, a65, a66, a67, a68, a69, a70, x115, x119, x108, x99, x97, q16, q2, q3, q4, q8, q10, q160, q40, q24, q100, q1000, q999]
  rw [← nI_0]
  refine x_F (sX8_nextOf (h.s30 hs1 (by decide) (by decide)) w (by omega) (by omega)) ?_
  try simp (disch := omega) only [xi_iload, xi_aload, xi_lload, xi_istore, xi_astore, xi_lstore, xi_ic, xi_lc, xi_iinc, xi_iadd, xi_isub, xi_imul, xi_iand, xi_iushr, xi_ineg, xi_idiv, xi_irem, xi_ladd, xi_lmul, xi_lrem, xi_lcmp, xi_i2l, xi_l2i, xi_i2c, xi_dup, xi_dup2, xi_pop, xi_ifeq, xi_ifne, xi_iflt, xi_ifge, xi_ifgt, xi_ifle, xi_iceq, xi_icne, xi_iclt, xi_icge, xi_icgt, xi_icle, xi_iret, xi_zret, xi_lret, xi_vret, xi_getf, xi_putf, xi_ald, xi_ast, xi_alen, xi_callV, xi_callS, xpop, xroom, xl, xst, xok1, xok2, xnarrow, xwide, xone, xent, List.replicate, Option.isSome_some, Bool.and_self, Bool.true_and, Bool.and_true, List.length_cons, List.length_nil, Nat.reduceAdd, Nat.reduceLT, decide_true, Bool.not_false, Nat.beq, Nat.ble, Option.toList, List.nil_append, List.cons_append, xf_30_0, xf_30_1, xf_30_2, xf_30_3, xf_30_4, xf_30_5, xf_30_6, xf_30_7, xf_30_8, xf_30_9, xf_30_10, xf_30_11, xf_30_12, xf_30_13, xf_30_14, xf_30_15, xf_30_16, xf_30_17, xf_30_18, xf_30_19, xf_30_20, xf_30_21, xf_30_22, xf_30_23, xf_30_24, xf_30_25, xf_30_26, xf_30_27, xf_30_28, xf_30_29, xf_30_30, xf_30_31, xf_30_32, xf_30_33, xf_30_34, xf_30_35, xf_30_36, xf_30_37, xf_30_38, xf_30_39, xf_30_40, xf_30_41, xf_30_42, xf_30_43, xf_30_44, xf_30_45, xf_30_46, xf_30_47, xf_30_48, xf_30_49, xf_30_50, xa_55, xa_56, xa_57, xa_58, xa_59, xa_60, xa_61, xa_62, xa_63, xa_64, xa_65, xa_66, xa_67, xa_68, xa_69, xa_70, xa_71, xa_72, xa_73, xa_74, xa_75, xa_76, xa_77, xa_78, xa_79, xa_80, xa_81, xa_82, xa_83, xa_84, xa_85, xa_86, xa_87, xa_88, vp_nI, nI_clamp, true_and, and_true, nI_1, nI_add, pk_mul, nI_leI, nI_ltI, nI_eq, nI_le0, nI_lt0, b2i_ne, b2i_inj, b2i_nar, b2i_t, b2i_f, n1, n8, n13, n19, a55, a56, a57, a58, a59, a60, a61, a62, a63, a64, a65, a66, a67, a68, a69, a70, x115, x119, x108, x99, x97, q16, q2, q3, q4, q8, q10, q160, q40, q24, q100, q1000, q999]
  exact loop 0 (by omega) τ1 0 (yMix o (yST M s)) (n + 1) hs1 (by rw [← hτ, xup_ap, if_pos ⟨rfl, rfl⟩]) (by rw [← hτ, xup_ap, if_neg (by omega), xup_ap, if_pos ⟨rfl, rfl⟩]) yMix_lt (by omega) (by omega) (by omega) (by have := yRest_0 w (s := s); omega) (fun fr _ => rfl) _
theorem sX8_runs {root : Nat} (h : MI σ M) (w : WF M) (hS : MS σ M T) (hG : MG σ M T) (h24 : σ 30 24 = nI root) (hroot : root < 16) (hgr : gLv M A (yStand M T root) = true) (hgo : ∀ r, r < nR M → A (yRS M r) = true → gLv M A (yGoal M T r) = true) : XM G mX8_runs (d + 102) [.ref 30] σ (fun v τ => v = none ∧ xs30 [37, 38] [] σ τ ∧ τ 30 37 = nI (yPerf M T A root false).1 ∧ τ 30 38 = nI (yPerf M T A root false).2) := by
  refine xm_of (by decide +kernel) rfl (Nat.le_of_ble_eq_true rfl) ?_
  refine bX8_runs_0 _ _ _ ?_
  obtain ⟨b1, b2, b3, b4, b5⟩ := id w.1
  try simp only [xi_iload, xi_aload, xi_lload, xi_istore, xi_astore, xi_lstore, xi_ic, xi_lc, xi_iinc, xi_iadd, xi_isub, xi_imul, xi_iand, xi_iushr, xi_ineg, xi_idiv, xi_irem, xi_ladd, xi_lmul, xi_lrem, xi_lcmp, xi_i2l, xi_l2i, xi_i2c, xi_dup, xi_dup2, xi_pop, xi_ifeq, xi_ifne, xi_iflt, xi_ifge, xi_ifgt, xi_ifle, xi_iceq, xi_icne, xi_iclt, xi_icge, xi_icgt, xi_icle, xi_iret, xi_zret, xi_lret, xi_vret, xi_getf, xi_putf, xi_ald, xi_ast, xi_alen, xi_callV, xi_callS, xpop, xroom, xl, xst, xok1, xok2, xnarrow, xwide, xone, xent, List.replicate, Option.isSome_some, Bool.and_self, Bool.true_and, Bool.and_true, List.length_cons, List.length_nil, Nat.reduceAdd, Nat.reduceLT, decide_true, Bool.not_false, Nat.beq, Nat.ble, Option.toList, List.nil_append, List.cons_append, xf_30_0, xf_30_1, xf_30_2, xf_30_3, xf_30_4, xf_30_5, xf_30_6, xf_30_7, xf_30_8, xf_30_9, xf_30_10, xf_30_11, xf_30_12, xf_30_13, xf_30_14, xf_30_15, xf_30_16, xf_30_17, xf_30_18, xf_30_19, xf_30_20, xf_30_21, xf_30_22, xf_30_23, xf_30_24, xf_30_25, xf_30_26, xf_30_27, xf_30_28, xf_30_29, xf_30_30, xf_30_31, xf_30_32, xf_30_33, xf_30_34, xf_30_35, xf_30_36, xf_30_37, xf_30_38, xf_30_39, xf_30_40, xf_30_41, xf_30_42, xf_30_43, xf_30_44, xf_30_45, xf_30_46, xf_30_47, xf_30_48, xf_30_49, xf_30_50, xa_55, xa_56, xa_57, xa_58, xa_59, xa_60, xa_61, xa_62, xa_63, xa_64, xa_65, xa_66, xa_67, xa_68, xa_69, xa_70, xa_71, xa_72, xa_73, xa_74, xa_75, xa_76, xa_77, xa_78, xa_79, xa_80, xa_81, xa_82, xa_83, xa_84, xa_85, xa_86, xa_87, xa_88]
  refine ⟨xnok_i _, xnok_i _, ?_⟩
  generalize hτ : xup (xup σ 30 37 0) 30 38 0 = τ1
  have hs1 : xs30 [37, 38] [] σ τ1 := by rw [← hτ]; exact (xs30.up rfl).tr (xs30.up rfl)
  have t37 : τ1 30 37 = nI 0 := by rw [← hτ, xup_ap, if_neg (by omega), xup_ap, if_pos ⟨rfl, rfl⟩]; rfl
  have t38 : τ1 30 38 = nI 0 := by rw [← hτ, xup_ap, if_pos ⟨rfl, rfl⟩]; rfl
  have h24' : τ1 30 24 = nI root := by rw [hs1.f (by decide)]; exact h24
  have hM := h.s30 hs1 (by decide) (by decide)
  have a72 : ∀ n, n < 16 → τ1 72 n = oI (yStand M T n) := hS.s30 hs1 (by decide)
  obtain ⟨⟨n1, n8, n13, n19⟩, a55, ⟨a56, a57, a58, a59, a60, a61⟩, ⟨a62, a63, a64, a65⟩, a66, a67, a68, a69, a70⟩ := id hM
  rcases hst : yStand M T root with _ | g
  · rw [hst] at hgr; cases hgr
  have hok := yStand_ok (M := M) (T := T) hroot
  rw [hst] at hok hgr
  have hg31 := gOk_lt w hok g rfl
  have hno : yCodeOf M (some g) = none → ((none : Option Value) = none ∧ xs30 [37, 38] [] σ (xup τ1 30 37 999) ∧ xup τ1 30 37 999 30 37 = nI (yPerf M T A root false).1 ∧ xup τ1 30 37 999 30 38 = nI (yPerf M T A root false).2) := by
    intro hc
    have e : yPerf M T A root false = (999, 0) := by unfold yPerf; rw [hst, hc]; rfl
    refine ⟨rfl, hs1.tr (xs30.up rfl), ?_, ?_⟩
    · rw [xup_ap, if_pos ⟨rfl, rfl⟩, e]; rfl
    · rw [xup_ap, if_neg (by omega), e]; exact t38
  rcases hok g rfl with hgd | ⟨o', n', hoo, hnn, hgc, hcc⟩
  · have hgs := (w.2.2.2.1 g hgd).1
    have hAt : A (yDS M g) = true := by
      unfold gLv at hgr
      rw [← nd_def w hgd]; exact hgr
    try simp (disch := omega) only [xi_iload, xi_aload, xi_lload, xi_istore, xi_astore, xi_lstore, xi_ic, xi_lc, xi_iinc, xi_iadd, xi_isub, xi_imul, xi_iand, xi_iushr, xi_ineg, xi_idiv, xi_irem, xi_ladd, xi_lmul, xi_lrem, xi_lcmp, xi_i2l, xi_l2i, xi_i2c, xi_dup, xi_dup2, xi_pop, xi_ifeq, xi_ifne, xi_iflt, xi_ifge, xi_ifgt, xi_ifle, xi_iceq, xi_icne, xi_iclt, xi_icge, xi_icgt, xi_icle, xi_iret, xi_zret, xi_lret, xi_vret, xi_getf, xi_putf, xi_ald, xi_ast, xi_alen, xi_callV, xi_callS, xpop, xroom, xl, xst, xok1, xok2, xnarrow, xwide, xone, xent, List.replicate, Option.isSome_some, Bool.and_self, Bool.true_and, Bool.and_true, List.length_cons, List.length_nil, Nat.reduceAdd, Nat.reduceLT, decide_true, Bool.not_false, Nat.beq, Nat.ble, Option.toList, List.nil_append, List.cons_append, xf_30_0, xf_30_1, xf_30_2, xf_30_3, xf_30_4, xf_30_5, xf_30_6, xf_30_7, xf_30_8, xf_30_9, xf_30_10, xf_30_11, xf_30_12, xf_30_13, xf_30_14, xf_30_15, xf_30_16, xf_30_17, xf_30_18, xf_30_19, xf_30_20, xf_30_21, xf_30_22, xf_30_23, xf_30_24, xf_30_25, xf_30_26, xf_30_27, xf_30_28, xf_30_29, xf_30_30, xf_30_31, xf_30_32, xf_30_33, xf_30_34, xf_30_35, xf_30_36, xf_30_37, xf_30_38, xf_30_39, xf_30_40, xf_30_41, xf_30_42, xf_30_43, xf_30_44, xf_30_45, xf_30_46, xf_30_47, xf_30_48, xf_30_49, xf_30_50, xa_55, xa_56, xa_57, xa_58, xa_59, xa_60, xa_61, xa_62, xa_63, xa_64, xa_65, xa_66, xa_67, xa_68, xa_69, xa_70, xa_71, xa_72, xa_73, xa_74, xa_75, xa_76, xa_77, xa_78, xa_79, xa_80, xa_81, xa_82, xa_83, xa_84, xa_85, xa_86, xa_87, xa_88, vp_nI, nI_clamp, true_and, and_true, nI_1, nI_add, pk_mul, nI_leI, nI_ltI, nI_eq, nI_le0, nI_lt0, b2i_ne, b2i_inj, b2i_nar, b2i_t, b2i_f, n1, n8, n13, n19, a55, a56, a57, a58, a59, a60, a61, a62, a63, a64, a65, a66, a67, a68, a69, a70, x115, x119, x108, x99, x97, q16, q2, q3, q4, q8, q10, q160, q40, q24, q100, q1000, q999, h24', a72, hst, oI]
    refine ⟨fun q => absurd q (by omega), fun _ => ⟨fun q => ⟨xnok_i _, ?_⟩, fun q => ?_⟩⟩
    · exact (hno (by
        unfold yCodeOf
        dsimp only
        rw [if_neg (fun z => by rw [z.2] at q; cases q)])).2
    · have hcd : ySC M (yDS M g) = 1 := by simpa using q
      have hc : yCodeOf M (some g) = some (yDS M g) := by
        unfold yCodeOf
        dsimp only
        rw [if_pos ⟨by omega, hcd⟩]
      refine x_R (sX8_goesInto (T := T) w hgo 99 (d := d) (s := yDS M g) (o := 0) (n := 0) (by omega) hM (hG.s30 hs1 (by decide)) t37 t38 (by omega) hgs hAt) (fun v τ2 hτ2 => ?_)
      obtain ⟨rfl, hs2, o', n', t37', t38', ho', hn1', hn2', hE⟩ := hτ2
      have e : yPerf M T A root false = (o', n') := by
        unfold yPerf
        rw [hst, hc]
        have h1 := hE [] (by simp [yPh])
        rw [yE_stop (q := ([], o', n')) (fun q => absurd q.1 (Nat.lt_irrefl _))] at h1
        exact h1
      try simp only [xi_iload, xi_aload, xi_lload, xi_istore, xi_astore, xi_lstore, xi_ic, xi_lc, xi_iinc, xi_iadd, xi_isub, xi_imul, xi_iand, xi_iushr, xi_ineg, xi_idiv, xi_irem, xi_ladd, xi_lmul, xi_lrem, xi_lcmp, xi_i2l, xi_l2i, xi_i2c, xi_dup, xi_dup2, xi_pop, xi_ifeq, xi_ifne, xi_iflt, xi_ifge, xi_ifgt, xi_ifle, xi_iceq, xi_icne, xi_iclt, xi_icge, xi_icgt, xi_icle, xi_iret, xi_zret, xi_lret, xi_vret, xi_getf, xi_putf, xi_ald, xi_ast, xi_alen, xi_callV, xi_callS, xpop, xroom, xl, xst, xok1, xok2, xnarrow, xwide, xone, xent, List.replicate, Option.isSome_some, Bool.and_self, Bool.true_and, Bool.and_true, List.length_cons, List.length_nil, Nat.reduceAdd, Nat.reduceLT, decide_true, Bool.not_false, Nat.beq, Nat.ble, Option.toList, List.nil_append, List.cons_append]
      exact ⟨hs1.tr hs2, by rw [e]; exact t37', by rw [e]; exact t38'⟩
  · try simp (disch := omega) only [xi_iload, xi_aload, xi_lload, xi_istore, xi_astore, xi_lstore, xi_ic, xi_lc, xi_iinc, xi_iadd, xi_isub, xi_imul, xi_iand, xi_iushr, xi_ineg, xi_idiv, xi_irem, xi_ladd, xi_lmul, xi_lrem, xi_lcmp, xi_i2l, xi_l2i, xi_i2c, xi_dup, xi_dup2, xi_pop, xi_ifeq, xi_ifne, xi_iflt, xi_ifge, xi_ifgt, xi_ifle, xi_iceq, xi_icne, xi_iclt, xi_icge, xi_icgt, xi_icle, xi_iret, xi_zret, xi_lret, xi_vret, xi_getf, xi_putf, xi_ald, xi_ast, xi_alen, xi_callV, xi_callS, xpop, xroom, xl, xst, xok1, xok2, xnarrow, xwide, xone, xent, List.replicate, Option.isSome_some, Bool.and_self, Bool.true_and, Bool.and_true, List.length_cons, List.length_nil, Nat.reduceAdd, Nat.reduceLT, decide_true, Bool.not_false, Nat.beq, Nat.ble, Option.toList, List.nil_append, List.cons_append, xf_30_0, xf_30_1, xf_30_2, xf_30_3, xf_30_4, xf_30_5, xf_30_6, xf_30_7, xf_30_8, xf_30_9, xf_30_10, xf_30_11, xf_30_12, xf_30_13, xf_30_14, xf_30_15, xf_30_16, xf_30_17, xf_30_18, xf_30_19, xf_30_20, xf_30_21, xf_30_22, xf_30_23, xf_30_24, xf_30_25, xf_30_26, xf_30_27, xf_30_28, xf_30_29, xf_30_30, xf_30_31, xf_30_32, xf_30_33, xf_30_34, xf_30_35, xf_30_36, xf_30_37, xf_30_38, xf_30_39, xf_30_40, xf_30_41, xf_30_42, xf_30_43, xf_30_44, xf_30_45, xf_30_46, xf_30_47, xf_30_48, xf_30_49, xf_30_50, xa_55, xa_56, xa_57, xa_58, xa_59, xa_60, xa_61, xa_62, xa_63, xa_64, xa_65, xa_66, xa_67, xa_68, xa_69, xa_70, xa_71, xa_72, xa_73, xa_74, xa_75, xa_76, xa_77, xa_78, xa_79, xa_80, xa_81, xa_82, xa_83, xa_84, xa_85, xa_86, xa_87, xa_88, vp_nI, nI_clamp, true_and, and_true, nI_1, nI_add, pk_mul, nI_leI, nI_ltI, nI_eq, nI_le0, nI_lt0, b2i_ne, b2i_inj, b2i_nar, b2i_t, b2i_f, n1, n8, n13, n19, a55, a56, a57, a58, a59, a60, a61, a62, a63, a64, a65, a66, a67, a68, a69, a70, x115, x119, x108, x99, x97, q16, q2, q3, q4, q8, q10, q160, q40, q24, q100, q1000, q999, h24', a72, hst, oI]
    refine ⟨fun _ => ⟨xnok_i _, ?_⟩, fun q => absurd (by omega) q⟩
    exact (hno (by
      unfold yCodeOf
      dsimp only
      rw [if_neg (fun z => by have := z.1; omega)])).2
end S58
