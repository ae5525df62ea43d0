/-! the class: what is told -/
section S95
variable {G : XG} {d : Nat} {σ τ ρ : Sg} {M N : YM} {B : Nat} {S : YS} {l l' : List Nat}
theorem pcu {M' : YM} {o : YO} {x : Int32} (e : o = (0, x, unl S M')) (z : ZC τ (unl S M')) (hs : xsame l σ τ) (hl : l.all (fun r => !(r == 30) && decide (r < 55)) = true) : PC σ o (some (.int x)) τ := by
  rw [e]; exact ⟨rfl, rfl, z, xcls.of hs hl⟩
theorem no_b2i {b : Bool} (h : b2i b = 0) : ¬ b = true := fun e => by rw [e] at h; exact absurd h (by decide)
theorem sT7_setRooms (hG : G.1.stackTraces = false) (z : ZC σ S) (w : ZW S B) {x y : Int32} : XT G mX7_setRooms (d + 11) 1 [.ref 0, .int x, .int y] σ (PC σ (oRms S x y)) (PCX σ [EIAE] (oRms S x y)) := by
  refine xt_of hG (by decide +kernel) rfl (Nat.le_of_ble_eq_true rfl) ?_
  refine bT7_setRooms (d := d + 2) _ _ _ ?_
  have e1 : ¬ ((ivl x 1 999).isSome = true ∧ (ivl y 1 999).isSome = true) → oRms S x y = (1, 0, S) := by
    intro h
    cases hx : ivl x 1 999 with
    | none => simp only [oRms, hx]
    | some a =>
      cases hy : ivl y 1 999 with
      | none => simp only [oRms, hx, hy]
      | some b => exact absurd ⟨by rw [hx]; rfl, by rw [hy]; rfl⟩ h
  have hi : ∀ t : Int32, (ivl t 1 999).isSome = true → (1 : Int32) ≤ t ∧ t ≤ 999 := fun t h => of_decide_eq_true (by rw [ivl_some] at h; exact h)
  try simp only [xi_iload, xi_aload, xi_lload, xi_istore, xi_astore, xi_lstore, xi_ic, xi_lc, xi_iinc, xi_iadd, xi_isub, xi_imul, xi_iand, xi_iushr, xi_ineg, xi_idiv, xi_irem, xi_ladd, xi_lmul, xi_lrem, xi_lcmp, xi_i2l, xi_l2i, xi_i2c, xi_dup, xi_dup2, xi_pop, xi_ifeq, xi_ifne, xi_iflt, xi_ifge, xi_ifgt, xi_ifle, xi_iceq, xi_icne, xi_iclt, xi_icge, xi_icgt, xi_icle, xi_iret, xi_zret, xi_lret, xi_vret, xi_getf, xi_putf, xi_ald, xi_ast, xi_alen, xi_callV, xi_callS, xpop, xroom, xl, xst, xok1, xok2, xnarrow, xwide, xone, xent, List.replicate, Option.isSome_some, Bool.and_self, Bool.true_and, Bool.and_true, List.length_cons, List.length_nil, Nat.reduceAdd, Nat.reduceLT, decide_true, Bool.not_false, Nat.beq, Nat.ble, Option.toList, List.nil_append, List.cons_append, xf_0_0, xf_0_1, xf_0_2, xf_0_3, xf_0_4, xf_0_5, xf_0_6, xf_0_7, xf_0_8, xf_0_9, xf_1_0, xf_1_1, xf_1_2, xf_1_3, xf_1_4, xf_2_0, xf_2_1, xf_2_2, xf_2_3, xf_2_4, xf_2_5, xf_2_6, xf_2_7, xf_3_0, xf_3_1, xf_3_2, xf_3_3, xf_3_4, xf_3_5, xf_3_6, xf_3_7, xf_4_0, xf_4_1, xf_4_2, xf_4_3, xf_4_4, xf_4_5, xf_4_6, xf_5_0, xf_5_1, xf_5_2, xf_5_3, xf_5_4, xf_5_5, xf_5_6, xf_5_7, xf_6_3, xf_7_3, xf_8_3, xf_9_3, xf_10_3, xf_11_3, xf_12_3, xf_13_3, xf_14_3, xf_15_3, xf_16_3, xi_throw, xi_callVT]
  refine ⟨fun q => pcx (n := 1) (e1 (fun h => absurd (hi x h.1).1 (by rw [Int32.not_le]; exact q))) ⟨by decide, rfl⟩ z, fun q1 => ⟨fun q => pcx (n := 1) (e1 (fun h => absurd (hi x h.1).2 (by rw [Int32.not_le]; exact q))) ⟨by decide, rfl⟩ z, fun q2 => ⟨fun q => pcx (n := 1) (e1 (fun h => absurd (hi y h.2).1 (by rw [Int32.not_le]; exact q))) ⟨by decide, rfl⟩ z, fun q3 => ⟨fun q4 => ?_, fun q => pcx (n := 1) (e1 (fun h => absurd (hi y h.2).2 q)) ⟨by decide, rfl⟩ z⟩⟩⟩⟩
  obtain ⟨a, ha, rfl, hx⟩ := ivl_ok (x := x) (a := 1) (b := 999) (by omega) (by omega) (by rw [ivl_some]; exact decide_eq_true ⟨Int32.not_lt.mp q1, Int32.not_lt.mp q2⟩)
  obtain ⟨b, hb, rfl, hy⟩ := ivl_ok (x := y) (a := 1) (b := 999) (by omega) (by omega) (by rw [ivl_some]; exact decide_eq_true ⟨Int32.not_lt.mp q3, q4⟩)
  clear e1 hi
  refine ⟨xnok_i _, xnok_i _, xnok_z (Or.inl rfl), ?_⟩
  rw [z.2.1.1]
  have eo : oRms S (nI a) (nI b) = (0, nI S.2.2.1.1, (S.1, S.2.1, (a, b, S.2.2.1.2.2), none, S.2.2.2.2)) := by simp only [oRms, hx, hy]
  rw [eo]
  have hs : xsame [0] σ (xup (xup (xup σ 0 5 (nI a)) 0 6 (nI b)) 0 8 0) := (xsm1.tr xsm1).tr xsm1
  refine ⟨rfl, rfl, ?_, xcls.of hs rfl⟩
  obtain ⟨⟨z1, z2⟩, ⟨a5, a6, a7, a8, a9⟩, z4, z5, z6⟩ := z
  exact ⟨⟨z1.same hs rfl, z2.same hs rfl⟩, ⟨rfl, rfl, by rw [← a7]; rfl, rfl, by rw [← a9]; rfl⟩, by rw [hs.at rfl]; exact z4, z5.same hs rfl rfl rfl (Nat.le_refl _), fun root h => by cases h⟩
theorem sT7_setReach (hG : G.1.stackTraces = false) (z : ZC σ S) (w : ZW S B) {x : Int32} : XT G mX7_setReach (d + 11) 1 [.ref 0, .int x] σ (PC σ (oRch S x)) (PCX σ [EIAE] (oRch S x)) := by
  refine xt_of hG (by decide +kernel) rfl (Nat.le_of_ble_eq_true rfl) ?_
  refine bT7_setReach (d := d + 2) _ _ _ ?_
  have hi : ∀ t : Int32, (ivl t 80 999).isSome = true → (80 : Int32) ≤ t ∧ t ≤ 999 := fun t h => of_decide_eq_true (by rw [ivl_some] at h; exact h)
  have e1 : ¬ (ivl x 80 999).isSome = true → oRch S x = (1, 0, S) := fun h => by simp only [oRch, no_some h]
  try simp only [xi_iload, xi_aload, xi_lload, xi_istore, xi_astore, xi_lstore, xi_ic, xi_lc, xi_iinc, xi_iadd, xi_isub, xi_imul, xi_iand, xi_iushr, xi_ineg, xi_idiv, xi_irem, xi_ladd, xi_lmul, xi_lrem, xi_lcmp, xi_i2l, xi_l2i, xi_i2c, xi_dup, xi_dup2, xi_pop, xi_ifeq, xi_ifne, xi_iflt, xi_ifge, xi_ifgt, xi_ifle, xi_iceq, xi_icne, xi_iclt, xi_icge, xi_icgt, xi_icle, xi_iret, xi_zret, xi_lret, xi_vret, xi_getf, xi_putf, xi_ald, xi_ast, xi_alen, xi_callV, xi_callS, xpop, xroom, xl, xst, xok1, xok2, xnarrow, xwide, xone, xent, List.replicate, Option.isSome_some, Bool.and_self, Bool.true_and, Bool.and_true, List.length_cons, List.length_nil, Nat.reduceAdd, Nat.reduceLT, decide_true, Bool.not_false, Nat.beq, Nat.ble, Option.toList, List.nil_append, List.cons_append, xf_0_0, xf_0_1, xf_0_2, xf_0_3, xf_0_4, xf_0_5, xf_0_6, xf_0_7, xf_0_8, xf_0_9, xf_1_0, xf_1_1, xf_1_2, xf_1_3, xf_1_4, xf_2_0, xf_2_1, xf_2_2, xf_2_3, xf_2_4, xf_2_5, xf_2_6, xf_2_7, xf_3_0, xf_3_1, xf_3_2, xf_3_3, xf_3_4, xf_3_5, xf_3_6, xf_3_7, xf_4_0, xf_4_1, xf_4_2, xf_4_3, xf_4_4, xf_4_5, xf_4_6, xf_5_0, xf_5_1, xf_5_2, xf_5_3, xf_5_4, xf_5_5, xf_5_6, xf_5_7, xf_6_3, xf_7_3, xf_8_3, xf_9_3, xf_10_3, xf_11_3, xf_12_3, xf_13_3, xf_14_3, xf_15_3, xf_16_3, xi_throw, xi_callVT]
  refine ⟨fun q => pcx (n := 1) (e1 (fun h => absurd (hi x h).1 (by rw [Int32.not_le]; exact q))) ⟨by decide, rfl⟩ z, fun q1 => ⟨fun q2 => ?_, fun q => pcx (n := 1) (e1 (fun h => absurd (hi x h).2 q)) ⟨by decide, rfl⟩ z⟩⟩
  obtain ⟨a, ha, rfl, hx⟩ := ivl_ok (x := x) (a := 80) (b := 999) (by omega) (by omega) (by rw [ivl_some]; exact decide_eq_true ⟨Int32.not_lt.mp q1, q2⟩)
  clear e1 hi
  refine ⟨xnok_i _, xnok_z (Or.inl rfl), ?_⟩
  rw [z.2.1.2.2.1]
  have eo : oRch S (nI a) = (0, nI S.2.2.1.2.2, (S.1, S.2.1, (S.2.2.1.1, S.2.2.1.2.1, a), none, S.2.2.2.2)) := by simp only [oRch, hx]
  rw [eo]
  have hs : xsame [0] σ (xup (xup σ 0 7 (nI a)) 0 8 0) := xsm1.tr xsm1
  refine ⟨rfl, rfl, ?_, xcls.of hs rfl⟩
  obtain ⟨⟨z1, z2⟩, ⟨a5, a6, a7, a8, a9⟩, z4, z5, z6⟩ := z
  exact ⟨⟨z1.same hs rfl, z2.same hs rfl⟩, ⟨by rw [← a5]; rfl, by rw [← a6]; rfl, rfl, rfl, by rw [← a9]; rfl⟩, by rw [hs.at rfl]; exact z4, z5.same hs rfl rfl rfl (Nat.le_refl _), fun root h => by cases h⟩
theorem sT7_addSection (hG : G.1.stackTraces = false) (z : ZC σ S) (w : ZW S B) {x zz a t : Int32} {cb kb : Bool} : XT G mX7_addSection (d + 11) 2 [.ref 0, .int x, .int (b2i cb), .int zz, .int a, .int t, .int (b2i kb)] σ (PC σ (oSec S x cb zz a t kb)) (PCX σ [EIOB, EIAE, EISE] (oSec S x cb zz a t kb)) := by
  refine xt_of hG (by decide +kernel) rfl (Nat.le_of_ble_eq_true rfl) ?_
  refine bT7_addSection (d := d + 2) _ _ _ ?_
  obtain ⟨b1, b2, b3, b4, b5⟩ := w.1.1.1
  try simp only [xi_iload, xi_aload, xi_lload, xi_istore, xi_astore, xi_lstore, xi_ic, xi_lc, xi_iinc, xi_iadd, xi_isub, xi_imul, xi_iand, xi_iushr, xi_ineg, xi_idiv, xi_irem, xi_ladd, xi_lmul, xi_lrem, xi_lcmp, xi_i2l, xi_l2i, xi_i2c, xi_dup, xi_dup2, xi_pop, xi_ifeq, xi_ifne, xi_iflt, xi_ifge, xi_ifgt, xi_ifle, xi_iceq, xi_icne, xi_iclt, xi_icge, xi_icgt, xi_icle, xi_iret, xi_zret, xi_lret, xi_vret, xi_getf, xi_putf, xi_ald, xi_ast, xi_alen, xi_callV, xi_callS, xpop, xroom, xl, xst, xok1, xok2, xnarrow, xwide, xone, xent, List.replicate, Option.isSome_some, Bool.and_self, Bool.true_and, Bool.and_true, List.length_cons, List.length_nil, Nat.reduceAdd, Nat.reduceLT, decide_true, Bool.not_false, Nat.beq, Nat.ble, Option.toList, List.nil_append, List.cons_append, xf_0_0, xf_0_1, xf_0_2, xf_0_3, xf_0_4, xf_0_5, xf_0_6, xf_0_7, xf_0_8, xf_0_9, xf_1_0, xf_1_1, xf_1_2, xf_1_3, xf_1_4, xf_2_0, xf_2_1, xf_2_2, xf_2_3, xf_2_4, xf_2_5, xf_2_6, xf_2_7, xf_3_0, xf_3_1, xf_3_2, xf_3_3, xf_3_4, xf_3_5, xf_3_6, xf_3_7, xf_4_0, xf_4_1, xf_4_2, xf_4_3, xf_4_4, xf_4_5, xf_4_6, xf_5_0, xf_5_1, xf_5_2, xf_5_3, xf_5_4, xf_5_5, xf_5_6, xf_5_7, xf_6_3, xf_7_3, xf_8_3, xf_9_3, xf_10_3, xf_11_3, xf_12_3, xf_13_3, xf_14_3, xf_15_3, xf_16_3, xi_throw, xi_callVT]
  refine x_req (sT7_requireObject hG z) (fun hp => ?_) (fun hn => pcx (n := 1) (by simp only [oSec, no_some hn]) ⟨by decide, rfl⟩ z)
  obtain ⟨j, hj, rfl, hr⟩ := rng_ok (by omega) hp
  clear hp
  have e2 : ¬ ((ivl zz 1 64).isSome = true ∧ (algn a).isSome = true ∧ (ivl t 0 999).isSome = true) → oSec S (nI j) cb zz a t kb = (2, 0, S) := by
    intro h
    cases hz : ivl zz 1 64 with
    | none => simp only [oSec, hr, hz]
    | some zj =>
      cases ha : algn a with
      | none => simp only [oSec, hr, hz, ha]
      | some aj =>
        cases ht : ivl t 0 999 with
        | none => simp only [oSec, hr, hz, ha, ht]
        | some tj => exact absurd ⟨by rw [hz]; rfl, by rw [ha]; rfl, by rw [ht]; rfl⟩ h
  have hi : (ivl t 0 999).isSome = true → (0 : Int32) ≤ t ∧ t ≤ 999 := fun h => of_decide_eq_true (by rw [ivl_some] at h; exact h)
  try simp only [xi_iload, xi_aload, xi_lload, xi_istore, xi_astore, xi_lstore, xi_ic, xi_lc, xi_iinc, xi_iadd, xi_isub, xi_imul, xi_iand, xi_iushr, xi_ineg, xi_idiv, xi_irem, xi_ladd, xi_lmul, xi_lrem, xi_lcmp, xi_i2l, xi_l2i, xi_i2c, xi_dup, xi_dup2, xi_pop, xi_ifeq, xi_ifne, xi_iflt, xi_ifge, xi_ifgt, xi_ifle, xi_iceq, xi_icne, xi_iclt, xi_icge, xi_icgt, xi_icle, xi_iret, xi_zret, xi_lret, xi_vret, xi_getf, xi_putf, xi_ald, xi_ast, xi_alen, xi_callV, xi_callS, xpop, xroom, xl, xst, xok1, xok2, xnarrow, xwide, xone, xent, List.replicate, Option.isSome_some, Bool.and_self, Bool.true_and, Bool.and_true, List.length_cons, List.length_nil, Nat.reduceAdd, Nat.reduceLT, decide_true, Bool.not_false, Nat.beq, Nat.ble, Option.toList, List.nil_append, List.cons_append, xf_0_0, xf_0_1, xf_0_2, xf_0_3, xf_0_4, xf_0_5, xf_0_6, xf_0_7, xf_0_8, xf_0_9, xf_1_0, xf_1_1, xf_1_2, xf_1_3, xf_1_4, xf_2_0, xf_2_1, xf_2_2, xf_2_3, xf_2_4, xf_2_5, xf_2_6, xf_2_7, xf_3_0, xf_3_1, xf_3_2, xf_3_3, xf_3_4, xf_3_5, xf_3_6, xf_3_7, xf_4_0, xf_4_1, xf_4_2, xf_4_3, xf_4_4, xf_4_5, xf_4_6, xf_5_0, xf_5_1, xf_5_2, xf_5_3, xf_5_4, xf_5_5, xf_5_6, xf_5_7, xf_6_3, xf_7_3, xf_8_3, xf_9_3, xf_10_3, xf_11_3, xf_12_3, xf_13_3, xf_14_3, xf_15_3, xf_16_3, xi_throw, xi_callVT]
  refine x_F sX7_isSize ?_
  try simp only [xi_iload, xi_aload, xi_lload, xi_istore, xi_astore, xi_lstore, xi_ic, xi_lc, xi_iinc, xi_iadd, xi_isub, xi_imul, xi_iand, xi_iushr, xi_ineg, xi_idiv, xi_irem, xi_ladd, xi_lmul, xi_lrem, xi_lcmp, xi_i2l, xi_l2i, xi_i2c, xi_dup, xi_dup2, xi_pop, xi_ifeq, xi_ifne, xi_iflt, xi_ifge, xi_ifgt, xi_ifle, xi_iceq, xi_icne, xi_iclt, xi_icge, xi_icgt, xi_icle, xi_iret, xi_zret, xi_lret, xi_vret, xi_getf, xi_putf, xi_ald, xi_ast, xi_alen, xi_callV, xi_callS, xpop, xroom, xl, xst, xok1, xok2, xnarrow, xwide, xone, xent, List.replicate, Option.isSome_some, Bool.and_self, Bool.true_and, Bool.and_true, List.length_cons, List.length_nil, Nat.reduceAdd, Nat.reduceLT, decide_true, Bool.not_false, Nat.beq, Nat.ble, Option.toList, List.nil_append, List.cons_append, xf_0_0, xf_0_1, xf_0_2, xf_0_3, xf_0_4, xf_0_5, xf_0_6, xf_0_7, xf_0_8, xf_0_9, xf_1_0, xf_1_1, xf_1_2, xf_1_3, xf_1_4, xf_2_0, xf_2_1, xf_2_2, xf_2_3, xf_2_4, xf_2_5, xf_2_6, xf_2_7, xf_3_0, xf_3_1, xf_3_2, xf_3_3, xf_3_4, xf_3_5, xf_3_6, xf_3_7, xf_4_0, xf_4_1, xf_4_2, xf_4_3, xf_4_4, xf_4_5, xf_4_6, xf_5_0, xf_5_1, xf_5_2, xf_5_3, xf_5_4, xf_5_5, xf_5_6, xf_5_7, xf_6_3, xf_7_3, xf_8_3, xf_9_3, xf_10_3, xf_11_3, xf_12_3, xf_13_3, xf_14_3, xf_15_3, xf_16_3, xi_throw, xi_callVT]
  refine ⟨fun q => pcx (n := 2) (e2 (fun h => no_b2i q h.1)) ⟨by decide, rfl⟩ z, fun q1 => x_F sX7_isAlignment ?_⟩
  try simp only [xi_iload, xi_aload, xi_lload, xi_istore, xi_astore, xi_lstore, xi_ic, xi_lc, xi_iinc, xi_iadd, xi_isub, xi_imul, xi_iand, xi_iushr, xi_ineg, xi_idiv, xi_irem, xi_ladd, xi_lmul, xi_lrem, xi_lcmp, xi_i2l, xi_l2i, xi_i2c, xi_dup, xi_dup2, xi_pop, xi_ifeq, xi_ifne, xi_iflt, xi_ifge, xi_ifgt, xi_ifle, xi_iceq, xi_icne, xi_iclt, xi_icge, xi_icgt, xi_icle, xi_iret, xi_zret, xi_lret, xi_vret, xi_getf, xi_putf, xi_ald, xi_ast, xi_alen, xi_callV, xi_callS, xpop, xroom, xl, xst, xok1, xok2, xnarrow, xwide, xone, xent, List.replicate, Option.isSome_some, Bool.and_self, Bool.true_and, Bool.and_true, List.length_cons, List.length_nil, Nat.reduceAdd, Nat.reduceLT, decide_true, Bool.not_false, Nat.beq, Nat.ble, Option.toList, List.nil_append, List.cons_append, xf_0_0, xf_0_1, xf_0_2, xf_0_3, xf_0_4, xf_0_5, xf_0_6, xf_0_7, xf_0_8, xf_0_9, xf_1_0, xf_1_1, xf_1_2, xf_1_3, xf_1_4, xf_2_0, xf_2_1, xf_2_2, xf_2_3, xf_2_4, xf_2_5, xf_2_6, xf_2_7, xf_3_0, xf_3_1, xf_3_2, xf_3_3, xf_3_4, xf_3_5, xf_3_6, xf_3_7, xf_4_0, xf_4_1, xf_4_2, xf_4_3, xf_4_4, xf_4_5, xf_4_6, xf_5_0, xf_5_1, xf_5_2, xf_5_3, xf_5_4, xf_5_5, xf_5_6, xf_5_7, xf_6_3, xf_7_3, xf_8_3, xf_9_3, xf_10_3, xf_11_3, xf_12_3, xf_13_3, xf_14_3, xf_15_3, xf_16_3, xi_throw, xi_callVT]
  refine ⟨fun q => pcx (n := 2) (e2 (fun h => no_b2i q h.2.1)) ⟨by decide, rfl⟩ z, fun q2 => ⟨fun q => pcx (n := 2) (e2 (fun h => absurd (hi h.2.2).1 (by rw [Int32.not_le]; exact q))) ⟨by decide, rfl⟩ z, fun q3 => ⟨fun q4 => ?_, fun q => pcx (n := 2) (e2 (fun h => absurd (hi h.2.2).2 q)) ⟨by decide, rfl⟩ z⟩⟩⟩
  obtain ⟨zj, hzj, rfl, hz⟩ := ivl_ok (by omega) (by omega) (b2i_ne0.mp q1)
  obtain ⟨tj, htj, rfl, ht⟩ := ivl_ok (x := t) (a := 0) (b := 999) (by omega) (by omega) (by rw [ivl_some]; exact decide_eq_true ⟨Int32.not_lt.mp q3, q4⟩)
  have q2' := b2i_ne0.mp q2
  rcases algn_cases (a := a) with ⟨ha, -⟩ | ⟨aj, haj, rfl, ha⟩
  · rw [ha] at q2'; cases q2'
  clear e2 hi q1 q2 q2' q3 q4
  refine x_F (sX6_isFull tab7 (z.1.1.n (k := 1) (by omega)) (by show nS S.1 < _; omega)) ?_
  try simp only [xi_iload, xi_aload, xi_lload, xi_istore, xi_astore, xi_lstore, xi_ic, xi_lc, xi_iinc, xi_iadd, xi_isub, xi_imul, xi_iand, xi_iushr, xi_ineg, xi_idiv, xi_irem, xi_ladd, xi_lmul, xi_lrem, xi_lcmp, xi_i2l, xi_l2i, xi_i2c, xi_dup, xi_dup2, xi_pop, xi_ifeq, xi_ifne, xi_iflt, xi_ifge, xi_ifgt, xi_ifle, xi_iceq, xi_icne, xi_iclt, xi_icge, xi_icgt, xi_icle, xi_iret, xi_zret, xi_lret, xi_vret, xi_getf, xi_putf, xi_ald, xi_ast, xi_alen, xi_callV, xi_callS, xpop, xroom, xl, xst, xok1, xok2, xnarrow, xwide, xone, xent, List.replicate, Option.isSome_some, Bool.and_self, Bool.true_and, Bool.and_true, List.length_cons, List.length_nil, Nat.reduceAdd, Nat.reduceLT, decide_true, Bool.not_false, Nat.beq, Nat.ble, Option.toList, List.nil_append, List.cons_append, xf_0_0, xf_0_1, xf_0_2, xf_0_3, xf_0_4, xf_0_5, xf_0_6, xf_0_7, xf_0_8, xf_0_9, xf_1_0, xf_1_1, xf_1_2, xf_1_3, xf_1_4, xf_2_0, xf_2_1, xf_2_2, xf_2_3, xf_2_4, xf_2_5, xf_2_6, xf_2_7, xf_3_0, xf_3_1, xf_3_2, xf_3_3, xf_3_4, xf_3_5, xf_3_6, xf_3_7, xf_4_0, xf_4_1, xf_4_2, xf_4_3, xf_4_4, xf_4_5, xf_4_6, xf_5_0, xf_5_1, xf_5_2, xf_5_3, xf_5_4, xf_5_5, xf_5_6, xf_5_7, xf_6_3, xf_7_3, xf_8_3, xf_9_3, xf_10_3, xf_11_3, xf_12_3, xf_13_3, xf_14_3, xf_15_3, xf_16_3, xi_throw, xi_callVT]
  by_cases h : 24 ≤ nS S.1
  · have h' : 24 ≤ S.1 90 1 := h
    rw [if_pos h']
    exact ⟨fun q => absurd q (by decide), fun _ => pcx (n := 3) (by simp only [oSec, hr, hz, ha, ht, if_pos h]) ⟨by decide, rfl⟩ z⟩
  · have h' : ¬ 24 ≤ S.1 90 1 := h
    rw [if_neg h']
    refine ⟨fun _ => ⟨xnok_z (Or.inl rfl), _, sX0_insertSection (CI.same z.1.1 xsm1 rfl) (by omega), ?_⟩, fun q => absurd rfl q⟩
    rintro v τ ⟨rfl, hs, hI, h32⟩
    try simp only [xi_iload, xi_aload, xi_lload, xi_istore, xi_astore, xi_lstore, xi_ic, xi_lc, xi_iinc, xi_iadd, xi_isub, xi_imul, xi_iand, xi_iushr, xi_ineg, xi_idiv, xi_irem, xi_ladd, xi_lmul, xi_lrem, xi_lcmp, xi_i2l, xi_l2i, xi_i2c, xi_dup, xi_dup2, xi_pop, xi_ifeq, xi_ifne, xi_iflt, xi_ifge, xi_ifgt, xi_ifle, xi_iceq, xi_icne, xi_iclt, xi_icge, xi_icgt, xi_icle, xi_iret, xi_zret, xi_lret, xi_vret, xi_getf, xi_putf, xi_ald, xi_ast, xi_alen, xi_callV, xi_callS, xpop, xroom, xl, xst, xok1, xok2, xnarrow, xwide, xone, xent, List.replicate, Option.isSome_some, Bool.and_self, Bool.true_and, Bool.and_true, List.length_cons, List.length_nil, Nat.reduceAdd, Nat.reduceLT, decide_true, Bool.not_false, Nat.beq, Nat.ble, Option.toList, List.nil_append, List.cons_append, xf_0_0, xf_0_1, xf_0_2, xf_0_3, xf_0_4, xf_0_5, xf_0_6, xf_0_7, xf_0_8, xf_0_9, xf_1_0, xf_1_1, xf_1_2, xf_1_3, xf_1_4, xf_2_0, xf_2_1, xf_2_2, xf_2_3, xf_2_4, xf_2_5, xf_2_6, xf_2_7, xf_3_0, xf_3_1, xf_3_2, xf_3_3, xf_3_4, xf_3_5, xf_3_6, xf_3_7, xf_4_0, xf_4_1, xf_4_2, xf_4_3, xf_4_4, xf_4_5, xf_4_6, xf_5_0, xf_5_1, xf_5_2, xf_5_3, xf_5_4, xf_5_5, xf_5_6, xf_5_7, xf_6_3, xf_7_3, xf_8_3, xf_9_3, xf_10_3, xf_11_3, xf_12_3, xf_13_3, xf_14_3, xf_15_3, xf_16_3, xi_throw, xi_callVT]
    have hs2 := (xsm1 (σ := σ) (o := 0) (j := 8) (x := 0)).app hs
    refine pcu (by simp only [oSec, hr, hz, ha, ht, if_neg h]) (ZC_unl z hs2 rfl rfl (fun j hj => by rw [hs.at rfl]; exact up08 hj) (by rw [hs.at rfl]; exact up088) hI (fun s h1 h2 => ?_)) hs2 rfl
    have h1' : nS S.1 + 1 ≤ s := h1
    have hz9 := z.2.2.2.1 s (by omega) h2
    rw [hs2.at rfl, hs2.at rfl, h32 s (by omega), xup_n (by decide)]
    exact hz9
end S95
