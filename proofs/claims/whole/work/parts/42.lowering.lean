/-! libraries are lowered -/
section S42
variable {G : XG} {N : YM}
abbrev YL : Type := YM × Nat
def yLowL (g : Nat → YM → YL) (l : Nat) : Nat → YL → YL
  | 0, s => s
  | k + 1, s => yLowL g l k (if yNd s.1 l k = true then ((g k s.1).1, s.2 + (g k s.1).2) else s)
def yLow : Nat → Nat → YM → YL
  | 0, _, N => (N, 0)
  | f + 1, l, N => if N 53 l = 0 then (N, 0) else if 1 < N 53 l then (yU N 53 l (N 53 l - 1), 0) else yLowL (yLow f) l (nL N) (yU (yU N 53 l (N 53 l - 1)) 54 l 1, 1)
/-- from N to N' counts fell; those that fell to 0 leave, c of them -/
def LGo (N N' : YM) (c : Nat) : Prop := (∀ a, a ≠ 53 → a ≠ 54 → N' a = N a) ∧ (∀ j, N' 53 j ≤ N 53 j) ∧ (∀ j, N' 54 j = if 0 < N 53 j ∧ N' 53 j = 0 then 1 else N 54 j) ∧ c = yCount (fun j => decide (0 < N 53 j ∧ N' 53 j = 0)) (nL N)
theorem yCount_none {p : Nat → Bool} : ∀ {n : Nat}, (∀ x, x < n → p x = false) → yCount p n = 0 := by
  intro n
  induction n with
  | zero => intro _; rfl
  | succ n ih =>
    intro h
    unfold yCount
    rw [ih (fun x hx => h x (by omega)), h n (by omega)]
    rfl
theorem yCount_or {p q r : Nat → Bool} : ∀ {n : Nat}, (∀ x, x < n → (r x = true ↔ p x = true ∨ q x = true) ∧ ¬ (p x = true ∧ q x = true)) → yCount r n = yCount p n + yCount q n := by
  intro n
  induction n with
  | zero => intro _; rfl
  | succ n ih =>
    intro h
    obtain ⟨h1, h2⟩ := h n (by omega)
    unfold yCount
    rw [ih (fun x hx => h x (by omega))]
    cases hp : p n <;> cases hq : q n <;> cases hr : r n <;> simp_all <;> omega
theorem LGo.rf : LGo N N 0 := by
  refine ⟨fun _ _ _ => rfl, fun _ => Nat.le_refl _, fun j => ?_, ?_⟩
  · rw [if_neg (by omega)]
  · rw [yCount_none]
    intro x _
    rw [decide_eq_false]
    omega
theorem LGo.nL {N' : YM} {c : Nat} (h : LGo N N' c) : nL N' = nL N := congrFun (h.1 13 (by decide) (by decide)) 3
theorem LGo.tr {N' N'' : YM} {c e : Nat} (h : LGo N N' c) (g : LGo N' N'' e) : LGo N N'' (c + e) := by
  have hn := h.nL
  obtain ⟨h1, h2, h3, h4⟩ := h
  obtain ⟨g1, g2, g3, g4⟩ := g
  refine ⟨fun a x y => (g1 a x y).trans (h1 a x y), fun j => Nat.le_trans (g2 j) (h2 j), fun j => ?_, ?_⟩
  · have := h2 j
    have := g2 j
    rw [g3, h3]
    by_cases hz : N' 53 j = 0
    · rw [if_neg (by omega)]
      by_cases hp : 0 < N 53 j
      · rw [if_pos ⟨hp, hz⟩, if_pos ⟨hp, by omega⟩]
      · rw [if_neg (by omega), if_neg (by omega)]
    · by_cases hz2 : N'' 53 j = 0
      · rw [if_pos ⟨by omega, hz2⟩, if_pos ⟨by omega, hz2⟩]
      · rw [if_neg (by omega), if_neg (by omega), if_neg (by omega)]
  · rw [h4, g4, hn]
    refine (yCount_or (fun x _ => ?_)).symm
    have := h2 x
    have := g2 x
    simp only [decide_eq_true_eq]
    omega
theorem LGo_low : ∀ (f : Nat) {l : Nat} {N : YM}, l < nL N → LGo N (yLow f l N).1 (yLow f l N).2 := by
  intro f
  induction f with
  | zero => intro l N _; exact LGo.rf
  | succ f ih =>
    intro l N hl
    unfold yLow
    by_cases h0 : N 53 l = 0
    · rw [if_pos h0]; exact LGo.rf
    rw [if_neg h0]
    by_cases h1 : 1 < N 53 l
    · rw [if_pos h1]
      show LGo N (yU N 53 l (N 53 l - 1)) 0
      have e53 : ∀ j, (yU N 53 l (N 53 l - 1)) 53 j = if j = l then N 53 l - 1 else N 53 j := by
        intro j
        unfold yU
        by_cases hj : j = l
        · rw [if_pos ⟨rfl, hj⟩, if_pos hj]
        · rw [if_neg (fun z => hj z.2), if_neg hj]
      refine ⟨fun a x y => ?_, fun j => ?_, fun j => ?_, ?_⟩
      · funext i; unfold yU; rw [if_neg (fun z => x z.1)]
      · rw [e53]; split
        · next hj => rw [hj]; omega
        · exact Nat.le_refl _
      · rw [e53, if_neg (by
          split
          · omega
          · omega)]
        rfl
      · rw [yCount_none]
        intro x _
        rw [decide_eq_false]
        rw [e53]
        split
        · omega
        · omega
    · rw [if_neg h1]
      generalize hN1 : yU (yU N 53 l (N 53 l - 1)) 54 l 1 = N1
      have e53 : ∀ j, N1 53 j = if j = l then 0 else N 53 j := by
        intro j
        rw [← hN1]
        unfold yU
        rw [if_neg (by omega)]
        by_cases hj : j = l
        · rw [if_pos ⟨rfl, hj⟩, if_pos hj]; omega
        · rw [if_neg (fun z => hj z.2), if_neg hj]
      have e54 : ∀ j, N1 54 j = if j = l then 1 else N 54 j := by
        intro j
        rw [← hN1]
        unfold yU
        by_cases hj : j = l
        · rw [if_pos ⟨rfl, hj⟩, if_pos hj]
        · rw [if_neg (fun z => hj z.2), if_neg (by omega), if_neg hj]
      have hfirst : LGo N N1 1 := by
        refine ⟨fun a x y => ?_, fun j => ?_, fun j => ?_, ?_⟩
        · rw [← hN1]; funext i; unfold yU; rw [if_neg (fun z => y z.1), if_neg (fun z => x z.1)]
        · rw [e53]; split <;> omega
        · rw [e53, e54]
          by_cases hj : j = l
          · rw [if_pos hj, if_pos ⟨by rw [hj]; omega, by rw [if_pos hj]⟩]
          · rw [if_neg hj, if_neg (by rw [if_neg hj]; omega)]
        · have h5 := yCount_put (p := fun _ => false) (q := fun j => decide (0 < N 53 j ∧ N1 53 j = 0)) (k := l) rfl (by
            rw [decide_eq_true_eq, e53, if_pos rfl]; omega) (fun x hx => by
            rw [decide_eq_false]
            rw [e53, if_neg hx]; omega) hl
          rw [h5, yCount_none (fun _ _ => rfl)]
      have loop : ∀ (k : Nat) (s : YL), k ≤ nL N → LGo N s.1 s.2 → LGo N (yLowL (yLow f) l k s).1 (yLowL (yLow f) l k s).2 := by
        intro k
        induction k with
        | zero => intro s _ h; exact h
        | succ k ihk =>
          intro s hk h
          unfold yLowL
          refine ihk _ (by omega) ?_
          split
          · exact h.tr (ih (by rw [h.nL]; omega))
          · exact h
      exact loop (nL N) (N1, 1) (Nat.le_refl _) hfirst
theorem pI_dec {k : Nat} : nI k + -1 = pI k := by
  cases k with
  | zero => rfl
  | succ t =>
    show _ = nI t
    rw [← nI_pred t]
    exact (Int32.sub_eq_add_neg _ _).symm
theorem pI_neg {k : Nat} (hk : k < 2 ^ 31) : pI k < 0 ↔ k = 0 := by
  cases k with
  | zero => exact ⟨fun _ => rfl, fun _ => by decide⟩
  | succ t => exact ⟨fun q => absurd q (nI_pos (n := t) (by omega)), fun q => by omega⟩
theorem sX2_lower : ∀ (f : Nat) {d l : Nat} {σ : Sg} {N : YM}, f ≤ 9 → LI σ N → nL N ≤ 8 → (∀ z, N 39 z ≤ 1) → (∀ j, N 53 j < 2 ^ 20) → l < nL N → XM G mX2_lower (d + f + 3) [.ref 5, .int (nI l), .int (nI (9 - f))] σ (fun v τ => v = some (.int (nI (yLow f l N).2)) ∧ xsame [53, 54] σ τ ∧ LI τ (yLow f l N).1) := by
  intro f
  induction f with
  | zero =>
    intro d l σ N hf hI hb hn hp hl
    refine xm_of (by decide +kernel) rfl (Nat.le_of_ble_eq_true rfl) ?_
    refine bX2_lower_0 _ _ _ ?_
    try simp only [xi_iload, xi_aload, xi_lload, xi_istore, xi_astore, xi_lstore, xi_ic, xi_lc, xi_iinc, xi_iadd, xi_isub, xi_imul, xi_iand, xi_iushr, xi_ineg, xi_idiv, xi_irem, xi_ladd, xi_lmul, xi_lrem, xi_lcmp, xi_i2l, xi_l2i, xi_i2c, xi_dup, xi_dup2, xi_pop, xi_ifeq, xi_ifne, xi_iflt, xi_ifge, xi_ifgt, xi_ifle, xi_iceq, xi_icne, xi_iclt, xi_icge, xi_icgt, xi_icle, xi_iret, xi_zret, xi_lret, xi_vret, xi_getf, xi_putf, xi_ald, xi_ast, xi_alen, xi_callV, xi_callS, xpop, xroom, xl, xst, xok1, xok2, xnarrow, xwide, xone, xent, List.replicate, Option.isSome_some, Bool.and_self, Bool.true_and, Bool.and_true, List.length_cons, List.length_nil, Nat.reduceAdd, Nat.reduceLT, decide_true, Bool.not_false, Nat.beq, Nat.ble, Option.toList, List.nil_append, List.cons_append, xf_0_0, xf_0_1, xf_0_2, xf_0_3, xf_0_4, xf_0_5, xf_0_6, xf_0_7, xf_0_8, xf_0_9, xf_1_0, xf_1_1, xf_1_2, xf_1_3, xf_1_4, xf_2_0, xf_2_1, xf_2_2, xf_2_3, xf_2_4, xf_2_5, xf_2_6, xf_2_7, xf_3_0, xf_3_1, xf_3_2, xf_3_3, xf_3_4, xf_3_5, xf_3_6, xf_3_7, xf_4_0, xf_4_1, xf_4_2, xf_4_3, xf_4_4, xf_4_5, xf_4_6, xf_5_0, xf_5_1, xf_5_2, xf_5_3, xf_5_4, xf_5_5, xf_5_6, xf_5_7, xf_6_3, xf_7_3, xf_8_3, xf_9_3, xf_10_3, xf_11_3, xf_12_3, xf_13_3, xf_14_3, xf_15_3, xf_16_3]
    refine x_F (sX3_get row28 (by omega)) ?_
    try simp only [xi_iload, xi_aload, xi_lload, xi_istore, xi_astore, xi_lstore, xi_ic, xi_lc, xi_iinc, xi_iadd, xi_isub, xi_imul, xi_iand, xi_iushr, xi_ineg, xi_idiv, xi_irem, xi_ladd, xi_lmul, xi_lrem, xi_lcmp, xi_i2l, xi_l2i, xi_i2c, xi_dup, xi_dup2, xi_pop, xi_ifeq, xi_ifne, xi_iflt, xi_ifge, xi_ifgt, xi_ifle, xi_iceq, xi_icne, xi_iclt, xi_icge, xi_icgt, xi_icle, xi_iret, xi_zret, xi_lret, xi_vret, xi_getf, xi_putf, xi_ald, xi_ast, xi_alen, xi_callV, xi_callS, xpop, xroom, xl, xst, xok1, xok2, xnarrow, xwide, xone, xent, List.replicate, Option.isSome_some, Bool.and_self, Bool.true_and, Bool.and_true, List.length_cons, List.length_nil, Nat.reduceAdd, Nat.reduceLT, decide_true, Bool.not_false, Nat.beq, Nat.ble, Option.toList, List.nil_append, List.cons_append, xf_0_0, xf_0_1, xf_0_2, xf_0_3, xf_0_4, xf_0_5, xf_0_6, xf_0_7, xf_0_8, xf_0_9, xf_1_0, xf_1_1, xf_1_2, xf_1_3, xf_1_4, xf_2_0, xf_2_1, xf_2_2, xf_2_3, xf_2_4, xf_2_5, xf_2_6, xf_2_7, xf_3_0, xf_3_1, xf_3_2, xf_3_3, xf_3_4, xf_3_5, xf_3_6, xf_3_7, xf_4_0, xf_4_1, xf_4_2, xf_4_3, xf_4_4, xf_4_5, xf_4_6, xf_5_0, xf_5_1, xf_5_2, xf_5_3, xf_5_4, xf_5_5, xf_5_6, xf_5_7, xf_6_3, xf_7_3, xf_8_3, xf_9_3, xf_10_3, xf_11_3, xf_12_3, xf_13_3, xf_14_3, xf_15_3, xf_16_3]
    exact ⟨fun _ => ⟨rfl, xsame.rf, hI⟩, fun q => absurd (by decide) q⟩
  | succ f ih =>
    intro d l σ N hf hI hb hn hp hl
    refine xm_of (by decide +kernel) rfl (Nat.le_of_ble_eq_true rfl) ?_
    refine bX2_lower_0 (d := d + f + 3) _ _ _ ?_
    have hpl := hp l
    try simp only [xi_iload, xi_aload, xi_lload, xi_istore, xi_astore, xi_lstore, xi_ic, xi_lc, xi_iinc, xi_iadd, xi_isub, xi_imul, xi_iand, xi_iushr, xi_ineg, xi_idiv, xi_irem, xi_ladd, xi_lmul, xi_lrem, xi_lcmp, xi_i2l, xi_l2i, xi_i2c, xi_dup, xi_dup2, xi_pop, xi_ifeq, xi_ifne, xi_iflt, xi_ifge, xi_ifgt, xi_ifle, xi_iceq, xi_icne, xi_iclt, xi_icge, xi_icgt, xi_icle, xi_iret, xi_zret, xi_lret, xi_vret, xi_getf, xi_putf, xi_ald, xi_ast, xi_alen, xi_callV, xi_callS, xpop, xroom, xl, xst, xok1, xok2, xnarrow, xwide, xone, xent, List.replicate, Option.isSome_some, Bool.and_self, Bool.true_and, Bool.and_true, List.length_cons, List.length_nil, Nat.reduceAdd, Nat.reduceLT, decide_true, Bool.not_false, Nat.beq, Nat.ble, Option.toList, List.nil_append, List.cons_append, xf_0_0, xf_0_1, xf_0_2, xf_0_3, xf_0_4, xf_0_5, xf_0_6, xf_0_7, xf_0_8, xf_0_9, xf_1_0, xf_1_1, xf_1_2, xf_1_3, xf_1_4, xf_2_0, xf_2_1, xf_2_2, xf_2_3, xf_2_4, xf_2_5, xf_2_6, xf_2_7, xf_3_0, xf_3_1, xf_3_2, xf_3_3, xf_3_4, xf_3_5, xf_3_6, xf_3_7, xf_4_0, xf_4_1, xf_4_2, xf_4_3, xf_4_4, xf_4_5, xf_4_6, xf_5_0, xf_5_1, xf_5_2, xf_5_3, xf_5_4, xf_5_5, xf_5_6, xf_5_7, xf_6_3, xf_7_3, xf_8_3, xf_9_3, xf_10_3, xf_11_3, xf_12_3, xf_13_3, xf_14_3, xf_15_3, xf_16_3]
    refine x_F (sX3_get row28 (by omega)) ?_
    rw [hI.pl (by omega)]
    try simp only [xi_iload, xi_aload, xi_lload, xi_istore, xi_astore, xi_lstore, xi_ic, xi_lc, xi_iinc, xi_iadd, xi_isub, xi_imul, xi_iand, xi_iushr, xi_ineg, xi_idiv, xi_irem, xi_ladd, xi_lmul, xi_lrem, xi_lcmp, xi_i2l, xi_l2i, xi_i2c, xi_dup, xi_dup2, xi_pop, xi_ifeq, xi_ifne, xi_iflt, xi_ifge, xi_ifgt, xi_ifle, xi_iceq, xi_icne, xi_iclt, xi_icge, xi_icgt, xi_icle, xi_iret, xi_zret, xi_lret, xi_vret, xi_getf, xi_putf, xi_ald, xi_ast, xi_alen, xi_callV, xi_callS, xpop, xroom, xl, xst, xok1, xok2, xnarrow, xwide, xone, xent, List.replicate, Option.isSome_some, Bool.and_self, Bool.true_and, Bool.and_true, List.length_cons, List.length_nil, Nat.reduceAdd, Nat.reduceLT, decide_true, Bool.not_false, Nat.beq, Nat.ble, Option.toList, List.nil_append, List.cons_append, xf_0_0, xf_0_1, xf_0_2, xf_0_3, xf_0_4, xf_0_5, xf_0_6, xf_0_7, xf_0_8, xf_0_9, xf_1_0, xf_1_1, xf_1_2, xf_1_3, xf_1_4, xf_2_0, xf_2_1, xf_2_2, xf_2_3, xf_2_4, xf_2_5, xf_2_6, xf_2_7, xf_3_0, xf_3_1, xf_3_2, xf_3_3, xf_3_4, xf_3_5, xf_3_6, xf_3_7, xf_4_0, xf_4_1, xf_4_2, xf_4_3, xf_4_4, xf_4_5, xf_4_6, xf_5_0, xf_5_1, xf_5_2, xf_5_3, xf_5_4, xf_5_5, xf_5_6, xf_5_7, xf_6_3, xf_7_3, xf_8_3, xf_9_3, xf_10_3, xf_11_3, xf_12_3, xf_13_3, xf_14_3, xf_15_3, xf_16_3]
    rw [show (8 : Int32) = nI 8 from rfl, ← nI_0, nI_ltI (by omega) (by omega)]
    rw [nI_ltI (by omega) (by omega)]
    refine ⟨fun q => absurd q (by omega), fun _ => ⟨fun q => x_F (sX3_set row28 (by omega)) ?_, fun q => ?_⟩⟩
    · try simp only [xi_iload, xi_aload, xi_lload, xi_istore, xi_astore, xi_lstore, xi_ic, xi_lc, xi_iinc, xi_iadd, xi_isub, xi_imul, xi_iand, xi_iushr, xi_ineg, xi_idiv, xi_irem, xi_ladd, xi_lmul, xi_lrem, xi_lcmp, xi_i2l, xi_l2i, xi_i2c, xi_dup, xi_dup2, xi_pop, xi_ifeq, xi_ifne, xi_iflt, xi_ifge, xi_ifgt, xi_ifle, xi_iceq, xi_icne, xi_iclt, xi_icge, xi_icgt, xi_icle, xi_iret, xi_zret, xi_lret, xi_vret, xi_getf, xi_putf, xi_ald, xi_ast, xi_alen, xi_callV, xi_callS, xpop, xroom, xl, xst, xok1, xok2, xnarrow, xwide, xone, xent, List.replicate, Option.isSome_some, Bool.and_self, Bool.true_and, Bool.and_true, List.length_cons, List.length_nil, Nat.reduceAdd, Nat.reduceLT, decide_true, Bool.not_false, Nat.beq, Nat.ble, Option.toList, List.nil_append, List.cons_append, xf_0_0, xf_0_1, xf_0_2, xf_0_3, xf_0_4, xf_0_5, xf_0_6, xf_0_7, xf_0_8, xf_0_9, xf_1_0, xf_1_1, xf_1_2, xf_1_3, xf_1_4, xf_2_0, xf_2_1, xf_2_2, xf_2_3, xf_2_4, xf_2_5, xf_2_6, xf_2_7, xf_3_0, xf_3_1, xf_3_2, xf_3_3, xf_3_4, xf_3_5, xf_3_6, xf_3_7, xf_4_0, xf_4_1, xf_4_2, xf_4_3, xf_4_4, xf_4_5, xf_4_6, xf_5_0, xf_5_1, xf_5_2, xf_5_3, xf_5_4, xf_5_5, xf_5_6, xf_5_7, xf_6_3, xf_7_3, xf_8_3, xf_9_3, xf_10_3, xf_11_3, xf_12_3, xf_13_3, xf_14_3, xf_15_3, xf_16_3]
      rw [show (1 : Int32) = nI 1 from rfl, nI_sub (by omega), nI_leI (by omega) (by omega)]
      have hI1 : LI (xup σ 53 l (nI (N 53 l - 1))) (yU N 53 l (N 53 l - 1)) := hI.up
      refine ⟨fun q2 => x_F (sX3_set row29 (by omega)) ?_, fun q2 => ?_⟩
      · have hI2 : LI (xup (xup σ 53 l (nI (N 53 l - 1))) 54 l (nI 1)) (yU (yU N 53 l (N 53 l - 1)) 54 l 1) := hI1.up
        have hfirst := LGo_low (f + 1) hl
        generalize hNn : yU (yU N 53 l (N 53 l - 1)) 54 l 1 = N1 at hI2
        have hy : yLow (f + 1) l N = yLowL (yLow f) l (nL N) (N1, 1) := by
          rw [yLow, if_neg (by omega), if_neg (by omega), hNn]
        generalize hR : (fun (v : Option Value) (τ : Sg) => v = some (.int (nI (yLow (f + 1) l N).2)) ∧ xsame [53, 54] σ τ ∧ LI τ (yLow (f + 1) l N).1) = R
        have hkeep : ∀ a, a ≠ 53 → a ≠ 54 → N1 a = N a := by
          intro a x y
          rw [← hNn]; funext i; unfold yU; rw [if_neg (fun z => y z.1), if_neg (fun z => x z.1)]
        have h53 : ∀ j, N1 53 j ≤ N 53 j := by
          intro j
          rw [← hNn]
          unfold yU
          rw [if_neg (by omega)]
          split
          · next hz => rw [hz.2]; omega
          · exact Nat.le_refl _
        have key : ∀ (k : Nat) (τ : Sg) (s : YL), k ≤ nL N → xsame [53, 54] σ τ → LI τ s.1 → (∀ a, a ≠ 53 → a ≠ 54 → s.1 a = N a) → (∀ j, s.1 53 j ≤ N 53 j) → yLow (f + 1) l N = yLowL (yLow f) l k s → AX2_lower G (d + f + 3 + 1) R 62 [some (.ref 5), some (.int (nI l)), some (.int (nI (9 - (f + 1)))), some (.int (nI (N 53 l))), some (.int (nI s.2)), some (.int (pI k))] [] τ := by
          intro k
          induction k with
          | zero =>
            intro τ s _ hs hJ _ _ he
            refine bX2_lower_62 (d := d + f + 3) _ _ _ ?_
            try simp only [xi_iload, xi_aload, xi_lload, xi_istore, xi_astore, xi_lstore, xi_ic, xi_lc, xi_iinc, xi_iadd, xi_isub, xi_imul, xi_iand, xi_iushr, xi_ineg, xi_idiv, xi_irem, xi_ladd, xi_lmul, xi_lrem, xi_lcmp, xi_i2l, xi_l2i, xi_i2c, xi_dup, xi_dup2, xi_pop, xi_ifeq, xi_ifne, xi_iflt, xi_ifge, xi_ifgt, xi_ifle, xi_iceq, xi_icne, xi_iclt, xi_icge, xi_icgt, xi_icle, xi_iret, xi_zret, xi_lret, xi_vret, xi_getf, xi_putf, xi_ald, xi_ast, xi_alen, xi_callV, xi_callS, xpop, xroom, xl, xst, xok1, xok2, xnarrow, xwide, xone, xent, List.replicate, Option.isSome_some, Bool.and_self, Bool.true_and, Bool.and_true, List.length_cons, List.length_nil, Nat.reduceAdd, Nat.reduceLT, decide_true, Bool.not_false, Nat.beq, Nat.ble, Option.toList, List.nil_append, List.cons_append, xf_0_0, xf_0_1, xf_0_2, xf_0_3, xf_0_4, xf_0_5, xf_0_6, xf_0_7, xf_0_8, xf_0_9, xf_1_0, xf_1_1, xf_1_2, xf_1_3, xf_1_4, xf_2_0, xf_2_1, xf_2_2, xf_2_3, xf_2_4, xf_2_5, xf_2_6, xf_2_7, xf_3_0, xf_3_1, xf_3_2, xf_3_3, xf_3_4, xf_3_5, xf_3_6, xf_3_7, xf_4_0, xf_4_1, xf_4_2, xf_4_3, xf_4_4, xf_4_5, xf_4_6, xf_5_0, xf_5_1, xf_5_2, xf_5_3, xf_5_4, xf_5_5, xf_5_6, xf_5_7, xf_6_3, xf_7_3, xf_8_3, xf_9_3, xf_10_3, xf_11_3, xf_12_3, xf_13_3, xf_14_3, xf_15_3, xf_16_3]
            rw [pI_neg (by omega)]
            refine ⟨fun _ => ?_, fun q => absurd rfl q⟩
            rw [← hR]
            unfold yLowL at he
            exact ⟨by rw [he], hs, by rw [he]; exact hJ⟩
          | succ k ihk =>
            intro τ s hk hs hJ hkp h5 he
            refine bX2_lower_62 (d := d + f + 3) _ _ _ ?_
            have e13 : nL s.1 = nL N := congrFun (hkp 13 (by decide) (by decide)) 3
            have e39 : s.1 39 = N 39 := hkp 39 (by decide) (by decide)
            try simp only [xi_iload, xi_aload, xi_lload, xi_istore, xi_astore, xi_lstore, xi_ic, xi_lc, xi_iinc, xi_iadd, xi_isub, xi_imul, xi_iand, xi_iushr, xi_ineg, xi_idiv, xi_irem, xi_ladd, xi_lmul, xi_lrem, xi_lcmp, xi_i2l, xi_l2i, xi_i2c, xi_dup, xi_dup2, xi_pop, xi_ifeq, xi_ifne, xi_iflt, xi_ifge, xi_ifgt, xi_ifle, xi_iceq, xi_icne, xi_iclt, xi_icge, xi_icgt, xi_icle, xi_iret, xi_zret, xi_lret, xi_vret, xi_getf, xi_putf, xi_ald, xi_ast, xi_alen, xi_callV, xi_callS, xpop, xroom, xl, xst, xok1, xok2, xnarrow, xwide, xone, xent, List.replicate, Option.isSome_some, Bool.and_self, Bool.true_and, Bool.and_true, List.length_cons, List.length_nil, Nat.reduceAdd, Nat.reduceLT, decide_true, Bool.not_false, Nat.beq, Nat.ble, Option.toList, List.nil_append, List.cons_append, xf_0_0, xf_0_1, xf_0_2, xf_0_3, xf_0_4, xf_0_5, xf_0_6, xf_0_7, xf_0_8, xf_0_9, xf_1_0, xf_1_1, xf_1_2, xf_1_3, xf_1_4, xf_2_0, xf_2_1, xf_2_2, xf_2_3, xf_2_4, xf_2_5, xf_2_6, xf_2_7, xf_3_0, xf_3_1, xf_3_2, xf_3_3, xf_3_4, xf_3_5, xf_3_6, xf_3_7, xf_4_0, xf_4_1, xf_4_2, xf_4_3, xf_4_4, xf_4_5, xf_4_6, xf_5_0, xf_5_1, xf_5_2, xf_5_3, xf_5_4, xf_5_5, xf_5_6, xf_5_7, xf_6_3, xf_7_3, xf_8_3, xf_9_3, xf_10_3, xf_11_3, xf_12_3, xf_13_3, xf_14_3, xf_15_3, xf_16_3]
            rw [pI_neg (by omega)]
            have epk : pI (k + 1) = nI k := rfl
            rw [epk]
            refine ⟨fun q => absurd q (by omega), fun _ => x_F (sX2_isNeeding (d := d + f + 2) hJ (by omega) (by omega) (by rw [e39]; exact hn _)) ?_⟩
            try simp only [xi_iload, xi_aload, xi_lload, xi_istore, xi_astore, xi_lstore, xi_ic, xi_lc, xi_iinc, xi_iadd, xi_isub, xi_imul, xi_iand, xi_iushr, xi_ineg, xi_idiv, xi_irem, xi_ladd, xi_lmul, xi_lrem, xi_lcmp, xi_i2l, xi_l2i, xi_i2c, xi_dup, xi_dup2, xi_pop, xi_ifeq, xi_ifne, xi_iflt, xi_ifge, xi_ifgt, xi_ifle, xi_iceq, xi_icne, xi_iclt, xi_icge, xi_icgt, xi_icle, xi_iret, xi_zret, xi_lret, xi_vret, xi_getf, xi_putf, xi_ald, xi_ast, xi_alen, xi_callV, xi_callS, xpop, xroom, xl, xst, xok1, xok2, xnarrow, xwide, xone, xent, List.replicate, Option.isSome_some, Bool.and_self, Bool.true_and, Bool.and_true, List.length_cons, List.length_nil, Nat.reduceAdd, Nat.reduceLT, decide_true, Bool.not_false, Nat.beq, Nat.ble, Option.toList, List.nil_append, List.cons_append, xf_0_0, xf_0_1, xf_0_2, xf_0_3, xf_0_4, xf_0_5, xf_0_6, xf_0_7, xf_0_8, xf_0_9, xf_1_0, xf_1_1, xf_1_2, xf_1_3, xf_1_4, xf_2_0, xf_2_1, xf_2_2, xf_2_3, xf_2_4, xf_2_5, xf_2_6, xf_2_7, xf_3_0, xf_3_1, xf_3_2, xf_3_3, xf_3_4, xf_3_5, xf_3_6, xf_3_7, xf_4_0, xf_4_1, xf_4_2, xf_4_3, xf_4_4, xf_4_5, xf_4_6, xf_5_0, xf_5_1, xf_5_2, xf_5_3, xf_5_4, xf_5_5, xf_5_6, xf_5_7, xf_6_3, xf_7_3, xf_8_3, xf_9_3, xf_10_3, xf_11_3, xf_12_3, xf_13_3, xf_14_3, xf_15_3, xf_16_3]
            rw [b2i_ne, pI_dec]
            unfold yLowL at he
            refine ⟨fun q => ?_, fun q => ?_⟩
            · rw [if_neg (by rw [q]; decide)] at he
              exact ihk τ s (by omega) hs hJ hkp h5 he
            · rw [if_pos (show yNd s.1 l k = true from by simpa using q)] at he
              rw [show nI (9 - (f + 1)) + 1 = nI (9 - f) by rw [nI_1]; congr 1; omega]
              refine x_R (ih (d := d) (by omega) hJ (by omega) (by rw [e39]; exact hn) (fun j => Nat.lt_of_le_of_lt (h5 j) (hp j)) (by omega)) (fun v ρ hρ => ?_)
              obtain ⟨rfl, hs2, hJ2⟩ := hρ
              have hg := LGo_low f (l := k) (N := s.1) (by omega)
              try simp only [xi_iload, xi_aload, xi_lload, xi_istore, xi_astore, xi_lstore, xi_ic, xi_lc, xi_iinc, xi_iadd, xi_isub, xi_imul, xi_iand, xi_iushr, xi_ineg, xi_idiv, xi_irem, xi_ladd, xi_lmul, xi_lrem, xi_lcmp, xi_i2l, xi_l2i, xi_i2c, xi_dup, xi_dup2, xi_pop, xi_ifeq, xi_ifne, xi_iflt, xi_ifge, xi_ifgt, xi_ifle, xi_iceq, xi_icne, xi_iclt, xi_icge, xi_icgt, xi_icle, xi_iret, xi_zret, xi_lret, xi_vret, xi_getf, xi_putf, xi_ald, xi_ast, xi_alen, xi_callV, xi_callS, xpop, xroom, xl, xst, xok1, xok2, xnarrow, xwide, xone, xent, List.replicate, Option.isSome_some, Bool.and_self, Bool.true_and, Bool.and_true, List.length_cons, List.length_nil, Nat.reduceAdd, Nat.reduceLT, decide_true, Bool.not_false, Nat.beq, Nat.ble, Option.toList, List.nil_append, List.cons_append, xf_0_0, xf_0_1, xf_0_2, xf_0_3, xf_0_4, xf_0_5, xf_0_6, xf_0_7, xf_0_8, xf_0_9, xf_1_0, xf_1_1, xf_1_2, xf_1_3, xf_1_4, xf_2_0, xf_2_1, xf_2_2, xf_2_3, xf_2_4, xf_2_5, xf_2_6, xf_2_7, xf_3_0, xf_3_1, xf_3_2, xf_3_3, xf_3_4, xf_3_5, xf_3_6, xf_3_7, xf_4_0, xf_4_1, xf_4_2, xf_4_3, xf_4_4, xf_4_5, xf_4_6, xf_5_0, xf_5_1, xf_5_2, xf_5_3, xf_5_4, xf_5_5, xf_5_6, xf_5_7, xf_6_3, xf_7_3, xf_8_3, xf_9_3, xf_10_3, xf_11_3, xf_12_3, xf_13_3, xf_14_3, xf_15_3, xf_16_3, nI_add]
              exact ihk ρ ((yLow f k s.1).1, s.2 + (yLow f k s.1).2) (by omega) (hs.tr hs2) hJ2 (fun a x y => (hg.1 a x y).trans (hkp a x y)) (fun j => Nat.le_trans (hg.2.1 j) (h5 j)) he
        try simp only [xi_iload, xi_aload, xi_lload, xi_istore, xi_astore, xi_lstore, xi_ic, xi_lc, xi_iinc, xi_iadd, xi_isub, xi_imul, xi_iand, xi_iushr, xi_ineg, xi_idiv, xi_irem, xi_ladd, xi_lmul, xi_lrem, xi_lcmp, xi_i2l, xi_l2i, xi_i2c, xi_dup, xi_dup2, xi_pop, xi_ifeq, xi_ifne, xi_iflt, xi_ifge, xi_ifgt, xi_ifle, xi_iceq, xi_icne, xi_iclt, xi_icge, xi_icgt, xi_icle, xi_iret, xi_zret, xi_lret, xi_vret, xi_getf, xi_putf, xi_ald, xi_ast, xi_alen, xi_callV, xi_callS, xpop, xroom, xl, xst, xok1, xok2, xnarrow, xwide, xone, xent, List.replicate, Option.isSome_some, Bool.and_self, Bool.true_and, Bool.and_true, List.length_cons, List.length_nil, Nat.reduceAdd, Nat.reduceLT, decide_true, Bool.not_false, Nat.beq, Nat.ble, Option.toList, List.nil_append, List.cons_append, xf_0_0, xf_0_1, xf_0_2, xf_0_3, xf_0_4, xf_0_5, xf_0_6, xf_0_7, xf_0_8, xf_0_9, xf_1_0, xf_1_1, xf_1_2, xf_1_3, xf_1_4, xf_2_0, xf_2_1, xf_2_2, xf_2_3, xf_2_4, xf_2_5, xf_2_6, xf_2_7, xf_3_0, xf_3_1, xf_3_2, xf_3_3, xf_3_4, xf_3_5, xf_3_6, xf_3_7, xf_4_0, xf_4_1, xf_4_2, xf_4_3, xf_4_4, xf_4_5, xf_4_6, xf_5_0, xf_5_1, xf_5_2, xf_5_3, xf_5_4, xf_5_5, xf_5_6, xf_5_7, xf_6_3, xf_7_3, xf_8_3, xf_9_3, xf_10_3, xf_11_3, xf_12_3, xf_13_3, xf_14_3, xf_15_3, xf_16_3]
        have hc : xup (xup σ 53 l (nI (N 53 l - 1))) 54 l (nI 1) 13 3 = nI (nL N) := by
          rw [xup_n (by decide), xup_n (by decide)]; exact hI.nL
        rw [hc]
        have hsub : nI (nL N) - nI 1 = pI (nL N) := by
          rw [nI_sub (by omega)]
          rcases hnn : nL N with _ | t
          · omega
          · rfl
        rw [hsub]
        exact key (nL N) _ (N1, 1) (Nat.le_refl _) ((xsame.up rfl).tr (xsame.up rfl)) hI2 hkeep h53 hy
      · rw [yLow, if_neg (by omega), if_pos (by omega)]
        exact ⟨rfl, xsame.up rfl, hI1⟩
    · rw [yLow, if_pos (by omega)]
      exact ⟨rfl, xsame.rf, hI⟩
/-- the plan begins with the counts -/
def yPl (N : YM) (j : Nat) : YM := fun c i => if c = 53 ∧ i < j then N 51 i else if c = 54 ∧ i < j then 0 else N c i
def yPlan (N : YM) (l : Nat) : YL := yLow 9 l (yPl N (nL N))
theorem sX2_planLowering {d l : Nat} {σ : Sg} (hI : LI σ N) (hb : nL N ≤ 8) (hn : ∀ z, N 39 z ≤ 1) (h51 : ∀ j, N 51 j < 2 ^ 20) (h53 : ∀ j, N 53 j < 2 ^ 20) (hl : l < nL N) : XM G mX2_planLowering (d + 13) [.ref 5, .int (nI l)] σ (fun v τ => v = some (.int (nI (yPlan N l).2)) ∧ xsame [53, 54] σ τ ∧ LI τ (yPlan N l).1) := by
  refine xm_of (by decide +kernel) rfl (Nat.le_of_ble_eq_true rfl) ?_
  refine bX2_planLowering_0 (d := d + 12) _ _ _ ?_
  try simp only [xi_iload, xi_aload, xi_lload, xi_istore, xi_astore, xi_lstore, xi_ic, xi_lc, xi_iinc, xi_iadd, xi_isub, xi_imul, xi_iand, xi_iushr, xi_ineg, xi_idiv, xi_irem, xi_ladd, xi_lmul, xi_lrem, xi_lcmp, xi_i2l, xi_l2i, xi_i2c, xi_dup, xi_dup2, xi_pop, xi_ifeq, xi_ifne, xi_iflt, xi_ifge, xi_ifgt, xi_ifle, xi_iceq, xi_icne, xi_iclt, xi_icge, xi_icgt, xi_icle, xi_iret, xi_zret, xi_lret, xi_vret, xi_getf, xi_putf, xi_ald, xi_ast, xi_alen, xi_callV, xi_callS, xpop, xroom, xl, xst, xok1, xok2, xnarrow, xwide, xone, xent, List.replicate, Option.isSome_some, Bool.and_self, Bool.true_and, Bool.and_true, List.length_cons, List.length_nil, Nat.reduceAdd, Nat.reduceLT, decide_true, Bool.not_false, Nat.beq, Nat.ble, Option.toList, List.nil_append, List.cons_append]
  generalize hR : (fun (v : Option Value) (τ : Sg) => v = some (.int (nI (yPlan N l).2)) ∧ xsame [53, 54] σ τ ∧ LI τ (yPlan N l).1) = R
  have key : ∀ j, j ≤ nL N → ∀ τ, xsame [53, 54] σ τ → LI τ (yPl N j) → AX2_planLowering G (d + 12 + 1) R 2 [some (.ref 5), some (.int (nI l)), some (.int (nI j))] [] τ := by
    refine loop_up (fun j hj ih τ hs hJ => ?_) (fun τ hs hJ => ?_)
    · refine bX2_planLowering_2 (d := d + 12) _ _ _ ?_
      have hc : τ 13 3 = nI (nL N) := hJ.nL
      try simp only [xi_iload, xi_aload, xi_lload, xi_istore, xi_astore, xi_lstore, xi_ic, xi_lc, xi_iinc, xi_iadd, xi_isub, xi_imul, xi_iand, xi_iushr, xi_ineg, xi_idiv, xi_irem, xi_ladd, xi_lmul, xi_lrem, xi_lcmp, xi_i2l, xi_l2i, xi_i2c, xi_dup, xi_dup2, xi_pop, xi_ifeq, xi_ifne, xi_iflt, xi_ifge, xi_ifgt, xi_ifle, xi_iceq, xi_icne, xi_iclt, xi_icge, xi_icgt, xi_icle, xi_iret, xi_zret, xi_lret, xi_vret, xi_getf, xi_putf, xi_ald, xi_ast, xi_alen, xi_callV, xi_callS, xpop, xroom, xl, xst, xok1, xok2, xnarrow, xwide, xone, xent, List.replicate, Option.isSome_some, Bool.and_self, Bool.true_and, Bool.and_true, List.length_cons, List.length_nil, Nat.reduceAdd, Nat.reduceLT, decide_true, Bool.not_false, Nat.beq, Nat.ble, Option.toList, List.nil_append, List.cons_append, xf_0_0, xf_0_1, xf_0_2, xf_0_3, xf_0_4, xf_0_5, xf_0_6, xf_0_7, xf_0_8, xf_0_9, xf_1_0, xf_1_1, xf_1_2, xf_1_3, xf_1_4, xf_2_0, xf_2_1, xf_2_2, xf_2_3, xf_2_4, xf_2_5, xf_2_6, xf_2_7, xf_3_0, xf_3_1, xf_3_2, xf_3_3, xf_3_4, xf_3_5, xf_3_6, xf_3_7, xf_4_0, xf_4_1, xf_4_2, xf_4_3, xf_4_4, xf_4_5, xf_4_6, xf_5_0, xf_5_1, xf_5_2, xf_5_3, xf_5_4, xf_5_5, xf_5_6, xf_5_7, xf_6_3, xf_7_3, xf_8_3, xf_9_3, xf_10_3, xf_11_3, xf_12_3, xf_13_3, xf_14_3, xf_15_3, xf_16_3, hc, nI_1]
      refine ⟨fun q => absurd q (nI_ge hj (by omega)), fun _ => x_F (sX3_get row26 (by omega)) ?_⟩
      have e51 : τ 51 j = nI (N 51 j) := hJ.cnt (by omega)
      rw [e51]
      try simp only [xi_iload, xi_aload, xi_lload, xi_istore, xi_astore, xi_lstore, xi_ic, xi_lc, xi_iinc, xi_iadd, xi_isub, xi_imul, xi_iand, xi_iushr, xi_ineg, xi_idiv, xi_irem, xi_ladd, xi_lmul, xi_lrem, xi_lcmp, xi_i2l, xi_l2i, xi_i2c, xi_dup, xi_dup2, xi_pop, xi_ifeq, xi_ifne, xi_iflt, xi_ifge, xi_ifgt, xi_ifle, xi_iceq, xi_icne, xi_iclt, xi_icge, xi_icgt, xi_icle, xi_iret, xi_zret, xi_lret, xi_vret, xi_getf, xi_putf, xi_ald, xi_ast, xi_alen, xi_callV, xi_callS, xpop, xroom, xl, xst, xok1, xok2, xnarrow, xwide, xone, xent, List.replicate, Option.isSome_some, Bool.and_self, Bool.true_and, Bool.and_true, List.length_cons, List.length_nil, Nat.reduceAdd, Nat.reduceLT, decide_true, Bool.not_false, Nat.beq, Nat.ble, Option.toList, List.nil_append, List.cons_append, xf_0_0, xf_0_1, xf_0_2, xf_0_3, xf_0_4, xf_0_5, xf_0_6, xf_0_7, xf_0_8, xf_0_9, xf_1_0, xf_1_1, xf_1_2, xf_1_3, xf_1_4, xf_2_0, xf_2_1, xf_2_2, xf_2_3, xf_2_4, xf_2_5, xf_2_6, xf_2_7, xf_3_0, xf_3_1, xf_3_2, xf_3_3, xf_3_4, xf_3_5, xf_3_6, xf_3_7, xf_4_0, xf_4_1, xf_4_2, xf_4_3, xf_4_4, xf_4_5, xf_4_6, xf_5_0, xf_5_1, xf_5_2, xf_5_3, xf_5_4, xf_5_5, xf_5_6, xf_5_7, xf_6_3, xf_7_3, xf_8_3, xf_9_3, xf_10_3, xf_11_3, xf_12_3, xf_13_3, xf_14_3, xf_15_3, xf_16_3, nI_1]
      refine x_F (sX3_set row28 (by omega)) ?_
      try simp only [xi_iload, xi_aload, xi_lload, xi_istore, xi_astore, xi_lstore, xi_ic, xi_lc, xi_iinc, xi_iadd, xi_isub, xi_imul, xi_iand, xi_iushr, xi_ineg, xi_idiv, xi_irem, xi_ladd, xi_lmul, xi_lrem, xi_lcmp, xi_i2l, xi_l2i, xi_i2c, xi_dup, xi_dup2, xi_pop, xi_ifeq, xi_ifne, xi_iflt, xi_ifge, xi_ifgt, xi_ifle, xi_iceq, xi_icne, xi_iclt, xi_icge, xi_icgt, xi_icle, xi_iret, xi_zret, xi_lret, xi_vret, xi_getf, xi_putf, xi_ald, xi_ast, xi_alen, xi_callV, xi_callS, xpop, xroom, xl, xst, xok1, xok2, xnarrow, xwide, xone, xent, List.replicate, Option.isSome_some, Bool.and_self, Bool.true_and, Bool.and_true, List.length_cons, List.length_nil, Nat.reduceAdd, Nat.reduceLT, decide_true, Bool.not_false, Nat.beq, Nat.ble, Option.toList, List.nil_append, List.cons_append, xf_0_0, xf_0_1, xf_0_2, xf_0_3, xf_0_4, xf_0_5, xf_0_6, xf_0_7, xf_0_8, xf_0_9, xf_1_0, xf_1_1, xf_1_2, xf_1_3, xf_1_4, xf_2_0, xf_2_1, xf_2_2, xf_2_3, xf_2_4, xf_2_5, xf_2_6, xf_2_7, xf_3_0, xf_3_1, xf_3_2, xf_3_3, xf_3_4, xf_3_5, xf_3_6, xf_3_7, xf_4_0, xf_4_1, xf_4_2, xf_4_3, xf_4_4, xf_4_5, xf_4_6, xf_5_0, xf_5_1, xf_5_2, xf_5_3, xf_5_4, xf_5_5, xf_5_6, xf_5_7, xf_6_3, xf_7_3, xf_8_3, xf_9_3, xf_10_3, xf_11_3, xf_12_3, xf_13_3, xf_14_3, xf_15_3, xf_16_3, nI_1]
      refine x_F (sX3_set row29 (by omega)) ?_
      try simp only [xi_iload, xi_aload, xi_lload, xi_istore, xi_astore, xi_lstore, xi_ic, xi_lc, xi_iinc, xi_iadd, xi_isub, xi_imul, xi_iand, xi_iushr, xi_ineg, xi_idiv, xi_irem, xi_ladd, xi_lmul, xi_lrem, xi_lcmp, xi_i2l, xi_l2i, xi_i2c, xi_dup, xi_dup2, xi_pop, xi_ifeq, xi_ifne, xi_iflt, xi_ifge, xi_ifgt, xi_ifle, xi_iceq, xi_icne, xi_iclt, xi_icge, xi_icgt, xi_icle, xi_iret, xi_zret, xi_lret, xi_vret, xi_getf, xi_putf, xi_ald, xi_ast, xi_alen, xi_callV, xi_callS, xpop, xroom, xl, xst, xok1, xok2, xnarrow, xwide, xone, xent, List.replicate, Option.isSome_some, Bool.and_self, Bool.true_and, Bool.and_true, List.length_cons, List.length_nil, Nat.reduceAdd, Nat.reduceLT, decide_true, Bool.not_false, Nat.beq, Nat.ble, Option.toList, List.nil_append, List.cons_append, xf_0_0, xf_0_1, xf_0_2, xf_0_3, xf_0_4, xf_0_5, xf_0_6, xf_0_7, xf_0_8, xf_0_9, xf_1_0, xf_1_1, xf_1_2, xf_1_3, xf_1_4, xf_2_0, xf_2_1, xf_2_2, xf_2_3, xf_2_4, xf_2_5, xf_2_6, xf_2_7, xf_3_0, xf_3_1, xf_3_2, xf_3_3, xf_3_4, xf_3_5, xf_3_6, xf_3_7, xf_4_0, xf_4_1, xf_4_2, xf_4_3, xf_4_4, xf_4_5, xf_4_6, xf_5_0, xf_5_1, xf_5_2, xf_5_3, xf_5_4, xf_5_5, xf_5_6, xf_5_7, xf_6_3, xf_7_3, xf_8_3, xf_9_3, xf_10_3, xf_11_3, xf_12_3, xf_13_3, xf_14_3, xf_15_3, xf_16_3, nI_1]
      refine ih _ (hs.tr ((xsame.up rfl).tr (xsame.up rfl))) ?_
      have h1 : LI (xup (xup τ 53 j (nI (N 51 j))) 54 j (nI 0)) (yU (yU (yPl N j) 53 j (N 51 j)) 54 j 0) := hJ.up.up
      refine h1.congr (fun c i _ => ?_)
      unfold yU yPl
      by_cases h54 : c = 54 ∧ i = j
      · rw [if_pos h54, if_neg (by omega), if_pos ⟨h54.1, by omega⟩]
      · rw [if_neg h54]
        by_cases h53 : c = 53 ∧ i = j
        · rw [if_pos h53, if_pos ⟨h53.1, by omega⟩, h53.2]
        · rw [if_neg h53]
          by_cases a1 : c = 53 ∧ i < j
          · rw [if_pos a1, if_pos ⟨a1.1, by omega⟩]
          · rw [if_neg a1]
            by_cases a2 : c = 54 ∧ i < j
            · rw [if_pos a2, if_neg (by omega), if_pos ⟨a2.1, by omega⟩]
            · rw [if_neg a2, if_neg (by omega), if_neg (by omega)]
    · refine bX2_planLowering_2 (d := d + 12) _ _ _ ?_
      have hc : τ 13 3 = nI (nL N) := hJ.nL
      try simp only [xi_iload, xi_aload, xi_lload, xi_istore, xi_astore, xi_lstore, xi_ic, xi_lc, xi_iinc, xi_iadd, xi_isub, xi_imul, xi_iand, xi_iushr, xi_ineg, xi_idiv, xi_irem, xi_ladd, xi_lmul, xi_lrem, xi_lcmp, xi_i2l, xi_l2i, xi_i2c, xi_dup, xi_dup2, xi_pop, xi_ifeq, xi_ifne, xi_iflt, xi_ifge, xi_ifgt, xi_ifle, xi_iceq, xi_icne, xi_iclt, xi_icge, xi_icgt, xi_icle, xi_iret, xi_zret, xi_lret, xi_vret, xi_getf, xi_putf, xi_ald, xi_ast, xi_alen, xi_callV, xi_callS, xpop, xroom, xl, xst, xok1, xok2, xnarrow, xwide, xone, xent, List.replicate, Option.isSome_some, Bool.and_self, Bool.true_and, Bool.and_true, List.length_cons, List.length_nil, Nat.reduceAdd, Nat.reduceLT, decide_true, Bool.not_false, Nat.beq, Nat.ble, Option.toList, List.nil_append, List.cons_append, xf_0_0, xf_0_1, xf_0_2, xf_0_3, xf_0_4, xf_0_5, xf_0_6, xf_0_7, xf_0_8, xf_0_9, xf_1_0, xf_1_1, xf_1_2, xf_1_3, xf_1_4, xf_2_0, xf_2_1, xf_2_2, xf_2_3, xf_2_4, xf_2_5, xf_2_6, xf_2_7, xf_3_0, xf_3_1, xf_3_2, xf_3_3, xf_3_4, xf_3_5, xf_3_6, xf_3_7, xf_4_0, xf_4_1, xf_4_2, xf_4_3, xf_4_4, xf_4_5, xf_4_6, xf_5_0, xf_5_1, xf_5_2, xf_5_3, xf_5_4, xf_5_5, xf_5_6, xf_5_7, xf_6_3, xf_7_3, xf_8_3, xf_9_3, xf_10_3, xf_11_3, xf_12_3, xf_13_3, xf_14_3, xf_15_3, xf_16_3, hc, nI_1]
      refine ⟨fun _ => ?_, fun q => absurd (nI_le (Nat.le_refl _) (by omega)) q⟩
      rw [show (0 : Int32) = nI (9 - 9) from rfl]
      have e39 : (yPl N (nL N)) 39 = N 39 := by funext i; rfl
      have e13 : nL (yPl N (nL N)) = nL N := rfl
      refine x_R (sX2_lower 9 (d := d) (Nat.le_refl _) hJ hb (by rw [e39]; exact hn) (fun j => ?_) hl) (fun v ρ hρ => ?_)
      · unfold yPl
        split
        · exact h51 j
        · rw [if_neg (by omega)]; exact h53 j
      obtain ⟨rfl, hs2, hJ2⟩ := hρ
      try simp only [xi_iload, xi_aload, xi_lload, xi_istore, xi_astore, xi_lstore, xi_ic, xi_lc, xi_iinc, xi_iadd, xi_isub, xi_imul, xi_iand, xi_iushr, xi_ineg, xi_idiv, xi_irem, xi_ladd, xi_lmul, xi_lrem, xi_lcmp, xi_i2l, xi_l2i, xi_i2c, xi_dup, xi_dup2, xi_pop, xi_ifeq, xi_ifne, xi_iflt, xi_ifge, xi_ifgt, xi_ifle, xi_iceq, xi_icne, xi_iclt, xi_icge, xi_icgt, xi_icle, xi_iret, xi_zret, xi_lret, xi_vret, xi_getf, xi_putf, xi_ald, xi_ast, xi_alen, xi_callV, xi_callS, xpop, xroom, xl, xst, xok1, xok2, xnarrow, xwide, xone, xent, List.replicate, Option.isSome_some, Bool.and_self, Bool.true_and, Bool.and_true, List.length_cons, List.length_nil, Nat.reduceAdd, Nat.reduceLT, decide_true, Bool.not_false, Nat.beq, Nat.ble, Option.toList, List.nil_append, List.cons_append]
      rw [← hR]
      exact ⟨rfl, hs.tr hs2, hJ2⟩
  refine x_forget (key 0 (by omega) σ xsame.rf (hI.congr (fun c i _ => ?_))) (by simp [xle, nI_0])
  unfold yPl
  rw [if_neg (by omega), if_neg (by omega)]
end S42
