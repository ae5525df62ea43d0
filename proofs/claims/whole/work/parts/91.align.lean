/-! alignments, strengths; the test of a living reference -/
section S91
variable {G : XG} {d : Nat} {σ τ : Sg} {M N : YM} {B : Nat} {S : YS}
def jb (x k : Int32) : Int32 := (x.toUInt32 >>> (k.toUInt32 &&& Int32.toUInt32 31)).toInt32
def jb1 (x : Int32) : Int32 := x - (jb x 1 &&& 1431655765)
def jb2 (x : Int32) : Int32 := (jb1 x &&& 858993459) + (jb (jb1 x) 2 &&& 858993459)
def jb3 (x : Int32) : Int32 := (jb2 x + jb (jb2 x) 4) &&& 252645135
def jb4 (x : Int32) : Int32 := jb3 x + jb (jb3 x) 8
def jbc (x : Int32) : Int32 := (jb4 x + jb (jb4 x) 16) &&& 63
theorem sJ_bitCount {x : Int32} : XM G mJ_bitCount d [.int x] σ (xF (some (.int (jbc x))) σ) := by
  refine xm_of (by decide +kernel) rfl (Nat.le_of_ble_eq_true rfl) ?_
  refine bJ_bitCount_0 _ _ _ ?_
  try simp only [xi_iload, xi_aload, xi_lload, xi_istore, xi_astore, xi_lstore, xi_ic, xi_lc, xi_iinc, xi_iadd, xi_isub, xi_imul, xi_iand, xi_iushr, xi_ineg, xi_idiv, xi_irem, xi_ladd, xi_lmul, xi_lrem, xi_lcmp, xi_i2l, xi_l2i, xi_i2c, xi_dup, xi_dup2, xi_pop, xi_ifeq, xi_ifne, xi_iflt, xi_ifge, xi_ifgt, xi_ifle, xi_iceq, xi_icne, xi_iclt, xi_icge, xi_icgt, xi_icle, xi_iret, xi_zret, xi_lret, xi_vret, xi_getf, xi_putf, xi_ald, xi_ast, xi_alen, xi_callV, xi_callS, xpop, xroom, xl, xst, xok1, xok2, xnarrow, xwide, xone, xent, List.replicate, Option.isSome_some, Bool.and_self, Bool.true_and, Bool.and_true, List.length_cons, List.length_nil, Nat.reduceAdd, Nat.reduceLT, decide_true, Bool.not_false, Nat.beq, Nat.ble, Option.toList, List.nil_append, List.cons_append]
  simp only [jbc, jb4, jb3, jb2, jb1, jb]
  exact xF_self
theorem jbc_ok : ∀ n : Fin 17, 1 ≤ n.val → (jbc (nI n.val) = 1 ↔ (algn (nI n.val)).isSome = true) := by decide +kernel
theorem sX7_isAlignment {x : Int32} : XM G mX7_isAlignment (d + 1) [.int x] σ (xF (some (.int (b2i (algn x).isSome))) σ) := by
  refine xm_of (by decide +kernel) rfl (Nat.le_of_ble_eq_true rfl) ?_
  refine bX7_isAlignment_0 _ _ _ ?_
  try simp only [xi_iload, xi_aload, xi_lload, xi_istore, xi_astore, xi_lstore, xi_ic, xi_lc, xi_iinc, xi_iadd, xi_isub, xi_imul, xi_iand, xi_iushr, xi_ineg, xi_idiv, xi_irem, xi_ladd, xi_lmul, xi_lrem, xi_lcmp, xi_i2l, xi_l2i, xi_i2c, xi_dup, xi_dup2, xi_pop, xi_ifeq, xi_ifne, xi_iflt, xi_ifge, xi_ifgt, xi_ifle, xi_iceq, xi_icne, xi_iclt, xi_icge, xi_icgt, xi_icle, xi_iret, xi_zret, xi_lret, xi_vret, xi_getf, xi_putf, xi_ald, xi_ast, xi_alen, xi_callV, xi_callS, xpop, xroom, xl, xst, xok1, xok2, xnarrow, xwide, xone, xent, List.replicate, Option.isSome_some, Bool.and_self, Bool.true_and, Bool.and_true, List.length_cons, List.length_nil, Nat.reduceAdd, Nat.reduceLT, decide_true, Bool.not_false, Nat.beq, Nat.ble, Option.toList, List.nil_append, List.cons_append]
  have hno : ¬ ((1 : Int32) ≤ x ∧ x ≤ 16) → (algn x).isSome = false := by
    intro h
    rcases algn_cases (a := x) with ⟨e, -⟩ | ⟨j, hj, rfl, e⟩
    · rw [e]; rfl
    · exfalso
      apply h
      rcases hj with rfl | rfl | rfl | rfl | rfl <;> decide
  refine ⟨fun q => ⟨by decide +kernel, ?_⟩, fun q => ⟨fun q2 => ⟨by decide +kernel, ?_⟩, fun q2 => x_F sJ_bitCount ?_⟩⟩
  · rw [hno (fun h => absurd h.1 (by rw [Int32.not_le]; exact q))]; exact xF_self
  · rw [hno (fun h => absurd h.2 (by rw [Int32.not_le]; exact q2))]; exact xF_self
  · try simp only [xi_iload, xi_aload, xi_lload, xi_istore, xi_astore, xi_lstore, xi_ic, xi_lc, xi_iinc, xi_iadd, xi_isub, xi_imul, xi_iand, xi_iushr, xi_ineg, xi_idiv, xi_irem, xi_ladd, xi_lmul, xi_lrem, xi_lcmp, xi_i2l, xi_l2i, xi_i2c, xi_dup, xi_dup2, xi_pop, xi_ifeq, xi_ifne, xi_iflt, xi_ifge, xi_ifgt, xi_ifle, xi_iceq, xi_icne, xi_iclt, xi_icge, xi_icgt, xi_icle, xi_iret, xi_zret, xi_lret, xi_vret, xi_getf, xi_putf, xi_ald, xi_ast, xi_alen, xi_callV, xi_callS, xpop, xroom, xl, xst, xok1, xok2, xnarrow, xwide, xone, xent, List.replicate, Option.isSome_some, Bool.and_self, Bool.true_and, Bool.and_true, List.length_cons, List.length_nil, Nat.reduceAdd, Nat.reduceLT, decide_true, Bool.not_false, Nat.beq, Nat.ble, Option.toList, List.nil_append, List.cons_append]
    rcases ivl_cases (x := x) (a := 1) (b := 16) (by omega) (by omega) with ⟨-, hn⟩ | ⟨j, hj, rfl, -⟩
    · exact absurd ⟨Int32.not_lt.mp q, Int32.not_lt.mp q2⟩ hn
    · have h := jbc_ok ⟨j, by omega⟩ hj.1
      dsimp only at h
      refine ⟨fun q3 => ⟨by decide +kernel, ?_⟩, fun q3 => ⟨by decide +kernel, ?_⟩⟩
      · rw [show (algn (nI j)).isSome = false from by rw [← Bool.not_eq_true]; exact fun e => q3 (h.mpr e)]; exact xF_self
      · rw [h.mp q3]; exact xF_self
theorem sX7_isStrength {x : Int32} : XM G mX7_isStrength d [.int x] σ (xF (some (.int (b2i (decide (x = 115 ∨ x = 119 ∨ x = 108))))) σ) := by
  refine xm_of (by decide +kernel) rfl (Nat.le_of_ble_eq_true rfl) ?_
  refine bX7_isStrength_0 _ _ _ ?_
  try simp only [xi_iload, xi_aload, xi_lload, xi_istore, xi_astore, xi_lstore, xi_ic, xi_lc, xi_iinc, xi_iadd, xi_isub, xi_imul, xi_iand, xi_iushr, xi_ineg, xi_idiv, xi_irem, xi_ladd, xi_lmul, xi_lrem, xi_lcmp, xi_i2l, xi_l2i, xi_i2c, xi_dup, xi_dup2, xi_pop, xi_ifeq, xi_ifne, xi_iflt, xi_ifge, xi_ifgt, xi_ifle, xi_iceq, xi_icne, xi_iclt, xi_icge, xi_icgt, xi_icle, xi_iret, xi_zret, xi_lret, xi_vret, xi_getf, xi_putf, xi_ald, xi_ast, xi_alen, xi_callV, xi_callS, xpop, xroom, xl, xst, xok1, xok2, xnarrow, xwide, xone, xent, List.replicate, Option.isSome_some, Bool.and_self, Bool.true_and, Bool.and_true, List.length_cons, List.length_nil, Nat.reduceAdd, Nat.reduceLT, decide_true, Bool.not_false, Nat.beq, Nat.ble, Option.toList, List.nil_append, List.cons_append]
  refine ⟨fun q => ⟨by decide +kernel, ?_⟩, fun q => ⟨fun q2 => ⟨by decide +kernel, ?_⟩, fun q2 => ⟨fun q3 => ⟨by decide +kernel, ?_⟩, fun q3 => ⟨by decide +kernel, ?_⟩⟩⟩⟩
  · rw [decide_eq_true (Or.inl q)]; exact xF_self
  · rw [decide_eq_true (Or.inr (Or.inl q2))]; exact xF_self
  · rw [decide_eq_false (by rintro (h | h | h); exact q h; exact q2 h; exact q3 h)]; exact xF_self
  · rw [decide_eq_true (Or.inr (Or.inr q3))]; exact xF_self
/-- what a living reference asks -/
def PLR (σ : Sg) (S : YS) (x : Int32) : Option Value → Sg → Prop := fun v τ => v = none ∧ τ = σ ∧ ∃ r root, rng x (nR S.1) = some r ∧ S.2.2.2.1 = some root ∧ kA S.1 root (yRS S.1 r) = true
def PLX (σ : Sg) (S : YS) (x : Int32) : String → Sg → Prop := fun E τ => τ = σ ∧ ((E = EIOB ∧ rng x (nR S.1) = none) ∨ (E = EISE ∧ (rng x (nR S.1)).isSome = true ∧ S.2.2.2.1 = none) ∨ (E = ENSE ∧ ∃ r root, rng x (nR S.1) = some r ∧ S.2.2.2.1 = some root ∧ kA S.1 root (yRS S.1 r) = false))
theorem sT7_requireLivingReference (hG : G.1.stackTraces = false) (z : ZC σ S) (w : ZW S B) {x : Int32} : XT G mX7_requireLivingReference (d + 10) 3 [.ref 0, .int x] σ
    (PLR σ S x) (PLX σ S x) := by
  refine xt_of hG (by decide +kernel) rfl (Nat.le_of_ble_eq_true rfl) ?_
  refine bT7_requireLivingReference (d := d + 1) _ _ _ ?_
  try simp only [xi_iload, xi_aload, xi_lload, xi_istore, xi_astore, xi_lstore, xi_ic, xi_lc, xi_iinc, xi_iadd, xi_isub, xi_imul, xi_iand, xi_iushr, xi_ineg, xi_idiv, xi_irem, xi_ladd, xi_lmul, xi_lrem, xi_lcmp, xi_i2l, xi_l2i, xi_i2c, xi_dup, xi_dup2, xi_pop, xi_ifeq, xi_ifne, xi_iflt, xi_ifge, xi_ifgt, xi_ifle, xi_iceq, xi_icne, xi_iclt, xi_icge, xi_icgt, xi_icle, xi_iret, xi_zret, xi_lret, xi_vret, xi_getf, xi_putf, xi_ald, xi_ast, xi_alen, xi_callV, xi_callS, xpop, xroom, xl, xst, xok1, xok2, xnarrow, xwide, xone, xent, List.replicate, Option.isSome_some, Bool.and_self, Bool.true_and, Bool.and_true, List.length_cons, List.length_nil, Nat.reduceAdd, Nat.reduceLT, decide_true, Bool.not_false, Nat.beq, Nat.ble, Option.toList, List.nil_append, List.cons_append, xf_0_0, xf_0_1, xf_0_2, xf_0_3, xf_0_4, xf_0_5, xf_0_6, xf_0_7, xf_0_8, xf_0_9, xf_1_0, xf_1_1, xf_1_2, xf_1_3, xf_1_4, xf_2_0, xf_2_1, xf_2_2, xf_2_3, xf_2_4, xf_2_5, xf_2_6, xf_2_7, xf_3_0, xf_3_1, xf_3_2, xf_3_3, xf_3_4, xf_3_5, xf_3_6, xf_3_7, xf_4_0, xf_4_1, xf_4_2, xf_4_3, xf_4_4, xf_4_5, xf_4_6, xf_5_0, xf_5_1, xf_5_2, xf_5_3, xf_5_4, xf_5_5, xf_5_6, xf_5_7, xf_6_3, xf_7_3, xf_8_3, xf_9_3, xf_10_3, xf_11_3, xf_12_3, xf_13_3, xf_14_3, xf_15_3, xf_16_3, xi_throw, xi_callVT]
  refine ⟨_, _, sT7_requireReference hG z, ?_, ?_⟩
  · rintro v τ ⟨rfl, rfl, hr⟩
    obtain ⟨r, hr⟩ := Option.isSome_iff_exists.mp hr
    try simp only [xi_iload, xi_aload, xi_lload, xi_istore, xi_astore, xi_lstore, xi_ic, xi_lc, xi_iinc, xi_iadd, xi_isub, xi_imul, xi_iand, xi_iushr, xi_ineg, xi_idiv, xi_irem, xi_ladd, xi_lmul, xi_lrem, xi_lcmp, xi_i2l, xi_l2i, xi_i2c, xi_dup, xi_dup2, xi_pop, xi_ifeq, xi_ifne, xi_iflt, xi_ifge, xi_ifgt, xi_ifle, xi_iceq, xi_icne, xi_iclt, xi_icge, xi_icgt, xi_icle, xi_iret, xi_zret, xi_lret, xi_vret, xi_getf, xi_putf, xi_ald, xi_ast, xi_alen, xi_callV, xi_callS, xpop, xroom, xl, xst, xok1, xok2, xnarrow, xwide, xone, xent, List.replicate, Option.isSome_some, Bool.and_self, Bool.true_and, Bool.and_true, List.length_cons, List.length_nil, Nat.reduceAdd, Nat.reduceLT, decide_true, Bool.not_false, Nat.beq, Nat.ble, Option.toList, List.nil_append, List.cons_append, xf_0_0, xf_0_1, xf_0_2, xf_0_3, xf_0_4, xf_0_5, xf_0_6, xf_0_7, xf_0_8, xf_0_9, xf_1_0, xf_1_1, xf_1_2, xf_1_3, xf_1_4, xf_2_0, xf_2_1, xf_2_2, xf_2_3, xf_2_4, xf_2_5, xf_2_6, xf_2_7, xf_3_0, xf_3_1, xf_3_2, xf_3_3, xf_3_4, xf_3_5, xf_3_6, xf_3_7, xf_4_0, xf_4_1, xf_4_2, xf_4_3, xf_4_4, xf_4_5, xf_4_6, xf_5_0, xf_5_1, xf_5_2, xf_5_3, xf_5_4, xf_5_5, xf_5_6, xf_5_7, xf_6_3, xf_7_3, xf_8_3, xf_9_3, xf_10_3, xf_11_3, xf_12_3, xf_13_3, xf_14_3, xf_15_3, xf_16_3, xi_throw, xi_callVT]
    refine ⟨_, _, sT7_requireLink hG z, ?_, ?_⟩
    · rintro v τ ⟨rfl, rfl, hl⟩
      obtain ⟨root, hl⟩ := Option.isSome_iff_exists.mp hl
      obtain ⟨hx, -⟩ := z.2.2.2.2 root hl
      rcases rng_cases (x := x) (n := nR S.1) (by have := w.1.1.1.2.2.2.2; omega) with ⟨h0, -⟩ | ⟨j, hj, rfl, h0⟩
      · rw [h0] at hr; cases hr
      · rw [h0] at hr
        have ej : j = r := Option.some.inj hr
        subst ej
        try simp only [xi_iload, xi_aload, xi_lload, xi_istore, xi_astore, xi_lstore, xi_ic, xi_lc, xi_iinc, xi_iadd, xi_isub, xi_imul, xi_iand, xi_iushr, xi_ineg, xi_idiv, xi_irem, xi_ladd, xi_lmul, xi_lrem, xi_lcmp, xi_i2l, xi_l2i, xi_i2c, xi_dup, xi_dup2, xi_pop, xi_ifeq, xi_ifne, xi_iflt, xi_ifge, xi_ifgt, xi_ifle, xi_iceq, xi_icne, xi_iclt, xi_icge, xi_icgt, xi_icle, xi_iret, xi_zret, xi_lret, xi_vret, xi_getf, xi_putf, xi_ald, xi_ast, xi_alen, xi_callV, xi_callS, xpop, xroom, xl, xst, xok1, xok2, xnarrow, xwide, xone, xent, List.replicate, Option.isSome_some, Bool.and_self, Bool.true_and, Bool.and_true, List.length_cons, List.length_nil, Nat.reduceAdd, Nat.reduceLT, decide_true, Bool.not_false, Nat.beq, Nat.ble, Option.toList, List.nil_append, List.cons_append, xf_0_0, xf_0_1, xf_0_2, xf_0_3, xf_0_4, xf_0_5, xf_0_6, xf_0_7, xf_0_8, xf_0_9, xf_1_0, xf_1_1, xf_1_2, xf_1_3, xf_1_4, xf_2_0, xf_2_1, xf_2_2, xf_2_3, xf_2_4, xf_2_5, xf_2_6, xf_2_7, xf_3_0, xf_3_1, xf_3_2, xf_3_3, xf_3_4, xf_3_5, xf_3_6, xf_3_7, xf_4_0, xf_4_1, xf_4_2, xf_4_3, xf_4_4, xf_4_5, xf_4_6, xf_5_0, xf_5_1, xf_5_2, xf_5_3, xf_5_4, xf_5_5, xf_5_6, xf_5_7, xf_6_3, xf_7_3, xf_8_3, xf_9_3, xf_10_3, xf_11_3, xf_12_3, xf_13_3, xf_14_3, xf_15_3, xf_16_3, xi_throw, xi_callVT]
        refine x_F (sX0_sectionOf hx.1 w.1.1 hj) ?_
        try simp only [xi_iload, xi_aload, xi_lload, xi_istore, xi_astore, xi_lstore, xi_ic, xi_lc, xi_iinc, xi_iadd, xi_isub, xi_imul, xi_iand, xi_iushr, xi_ineg, xi_idiv, xi_irem, xi_ladd, xi_lmul, xi_lrem, xi_lcmp, xi_i2l, xi_l2i, xi_i2c, xi_dup, xi_dup2, xi_pop, xi_ifeq, xi_ifne, xi_iflt, xi_ifge, xi_ifgt, xi_ifle, xi_iceq, xi_icne, xi_iclt, xi_icge, xi_icgt, xi_icle, xi_iret, xi_zret, xi_lret, xi_vret, xi_getf, xi_putf, xi_ald, xi_ast, xi_alen, xi_callV, xi_callS, xpop, xroom, xl, xst, xok1, xok2, xnarrow, xwide, xone, xent, List.replicate, Option.isSome_some, Bool.and_self, Bool.true_and, Bool.and_true, List.length_cons, List.length_nil, Nat.reduceAdd, Nat.reduceLT, decide_true, Bool.not_false, Nat.beq, Nat.ble, Option.toList, List.nil_append, List.cons_append, xf_0_0, xf_0_1, xf_0_2, xf_0_3, xf_0_4, xf_0_5, xf_0_6, xf_0_7, xf_0_8, xf_0_9, xf_1_0, xf_1_1, xf_1_2, xf_1_3, xf_1_4, xf_2_0, xf_2_1, xf_2_2, xf_2_3, xf_2_4, xf_2_5, xf_2_6, xf_2_7, xf_3_0, xf_3_1, xf_3_2, xf_3_3, xf_3_4, xf_3_5, xf_3_6, xf_3_7, xf_4_0, xf_4_1, xf_4_2, xf_4_3, xf_4_4, xf_4_5, xf_4_6, xf_5_0, xf_5_1, xf_5_2, xf_5_3, xf_5_4, xf_5_5, xf_5_6, xf_5_7, xf_6_3, xf_7_3, xf_8_3, xf_9_3, xf_10_3, xf_11_3, xf_12_3, xf_13_3, xf_14_3, xf_15_3, xf_16_3, xi_throw, xi_callVT]
        refine x_F (sX5_lives w.1.1 hx.2.2.2.2.1 (w.1.1.2.2.2.2.2.2.1 j hj).1) ?_
        try simp only [xi_iload, xi_aload, xi_lload, xi_istore, xi_astore, xi_lstore, xi_ic, xi_lc, xi_iinc, xi_iadd, xi_isub, xi_imul, xi_iand, xi_iushr, xi_ineg, xi_idiv, xi_irem, xi_ladd, xi_lmul, xi_lrem, xi_lcmp, xi_i2l, xi_l2i, xi_i2c, xi_dup, xi_dup2, xi_pop, xi_ifeq, xi_ifne, xi_iflt, xi_ifge, xi_ifgt, xi_ifle, xi_iceq, xi_icne, xi_iclt, xi_icge, xi_icgt, xi_icle, xi_iret, xi_zret, xi_lret, xi_vret, xi_getf, xi_putf, xi_ald, xi_ast, xi_alen, xi_callV, xi_callS, xpop, xroom, xl, xst, xok1, xok2, xnarrow, xwide, xone, xent, List.replicate, Option.isSome_some, Bool.and_self, Bool.true_and, Bool.and_true, List.length_cons, List.length_nil, Nat.reduceAdd, Nat.reduceLT, decide_true, Bool.not_false, Nat.beq, Nat.ble, Option.toList, List.nil_append, List.cons_append, xf_0_0, xf_0_1, xf_0_2, xf_0_3, xf_0_4, xf_0_5, xf_0_6, xf_0_7, xf_0_8, xf_0_9, xf_1_0, xf_1_1, xf_1_2, xf_1_3, xf_1_4, xf_2_0, xf_2_1, xf_2_2, xf_2_3, xf_2_4, xf_2_5, xf_2_6, xf_2_7, xf_3_0, xf_3_1, xf_3_2, xf_3_3, xf_3_4, xf_3_5, xf_3_6, xf_3_7, xf_4_0, xf_4_1, xf_4_2, xf_4_3, xf_4_4, xf_4_5, xf_4_6, xf_5_0, xf_5_1, xf_5_2, xf_5_3, xf_5_4, xf_5_5, xf_5_6, xf_5_7, xf_6_3, xf_7_3, xf_8_3, xf_9_3, xf_10_3, xf_11_3, xf_12_3, xf_13_3, xf_14_3, xf_15_3, xf_16_3, xi_throw, xi_callVT]
        exact ⟨fun q => ⟨rfl, rfl, j, root, h0, hl, b2i_ne0.mp q⟩, fun q => ⟨rfl, Or.inr (Or.inr ⟨rfl, j, root, h0, hl, b2i_eq0.mp q⟩)⟩⟩
    · rintro E τ ⟨rfl, rfl, hl⟩
      refine ⟨rfl, Or.inr (Or.inl ⟨rfl, by rw [hr]; rfl, ?_⟩)⟩
      cases h : S.2.2.2.1 with
      | none => rfl
      | some q => rw [h] at hl; exact absurd rfl hl
  · rintro E τ ⟨rfl, rfl, hr⟩
    refine ⟨rfl, Or.inl ⟨rfl, ?_⟩⟩
    cases h : rng x (nR S.1) with
    | none => rfl
    | some q => rw [h] at hr; exact absurd rfl hr
end S91
