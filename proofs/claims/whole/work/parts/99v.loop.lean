/-! the law's loop (written by wip/gen/lawloop.py) -/
theorem sub7_lt {N i : Nat} (hN : N ≤ 3584) (hi : i ≤ N) : (Int32.ofNat N - 7 < nI i) ↔ N < i + 7 := by
  have e : Int32.ofNat N = nI N := rfl
  rw [e]
  by_cases h : 7 ≤ N
  · have e2 : nI N - 7 = nI (N - 7) := by
      rw [show (7 : Int32) = nI 7 from rfl]
      have e3 : nI N = nI (N - 7) + nI 7 := by rw [nI_add]; congr 1; omega
      rw [e3, Int32.add_sub_cancel]
    rw [e2, nI_ltI (by omega) (by omega)]
    omega
  · have key : ∀ a b : Fin 7, nI a.val - 7 < nI b.val := by decide +kernel
    exact ⟨fun _ => by omega, fun _ => key ⟨N, by omega⟩ ⟨i, by omega⟩⟩
theorem dsw : decode code 45 = .ok (.tableswitch 2358 0 35 #[159, 231, 381, 475, 555, 649, 717, 773, 829, 892, 948, 1004, 1060, 1116, 1172, 1228, 1291, 1335, 1379, 1423, 1466, 1510, 1554, 1598, 1642, 1722, 1790, 1846, 1902, 1958, 2014, 2094, 2107, 2176, 2242, 2307], 159) := by decide +kernel
theorem sw_big : ∀ t : Fin 64, 36 ≤ t.val → (35 : Int) < (nI t.val).toInt := by decide +kernel
section S99v
variable {G : XG} {cL cD : ClassId} {p : Program} {e : Env} {R : Room} {s : State} {m : MethodId} {args : Array Value} {below : List Frame} {meth : Method} {c : Code} {A0 : Nat → Prop} {Q : State → Prop} {x y N i B : Nat} {xs : Nat → Int32} {kE kS : LK}
theorem LX_mono {o : OO} {L : List (Option Value)} {St : List Value} {σ : Sg} {B' : Nat} (hB : B ≤ B') (h : LX i B o L St σ) : LX i B' o L St σ := by
  obtain ⟨S, l6, l7, l8, ⟨z, zm, w⟩, e1, e2⟩ := h
  exact ⟨S, l6, l7, l8, ⟨z, zm, w.mono hB⟩, e1, e2⟩
theorem bhead (C : LC G cL cD p R s m args c A0 code 9) (hX : N ≤ 3584 ∧ va_X (G.2.1 91) N xs s s.heap ∧ G.2.1 91 < s.heap.size ∧ ¬ A0 (G.2.1 91)) (hE : LTo G cL cD p e R s m args below meth c A0 9 Q x y 2409 kE) (hS : LTo G cL cD p e R s m args below meth c A0 9 Q x y 45 kS) :
    LTo G cL cD p e R s m args below meth c A0 9 Q x y 28 (fun o => xi_iload 5 (xi_aload 0 (xi_sln N (xi_ic 7 (xi_isub (xi_icgt (kE o) (xi_aload 0 (xi_iload 5 (xi_sld xs N (xi_ic 63 (xi_iand (kS o))))))))))) ) :=
  l_iload (pc := 28) (i := 5) C (by decide +kernel) (l_aload_n (pc := 30) (i := 0) C (by decide +kernel) (l_sln (pc := 31) C hX.2.1 hX.2.2.1 hX.2.2.2 (by decide +kernel) (l_bipush (pc := 32) (n := 7) (v := 7) C (by decide +kernel) (by decide +kernel) (l_isub (pc := 34) C (by decide +kernel) (l_icgt (pc := 35) (tgt := 2409) (off := 2374) C (by decide +kernel) rfl hE (l_aload_n (pc := 38) (i := 0) C (by decide +kernel) (l_iload (pc := 39) (i := 5) C (by decide +kernel) (l_sld (pc := 41) C hX.2.1 hX.2.2.1 hX.2.2.2 (by decide +kernel) (l_bipush (pc := 42) (n := 63) (v := 63) C (by decide +kernel) (by decide +kernel) (l_iand (pc := 44) C (by decide +kernel) hS))))))))))
theorem bnext (C : LC G cL cD p R s m args c A0 code 9) (hk : LTo G cL cD p e R s m args below meth c A0 9 Q x y 28 kS) : LTo G cL cD p e R s m args below meth c A0 9 Q x y 2403 (fun o => xi_iinc 5 7 (kS o)) :=
  l_iinc (pc := 2403) (i := 5) (n := 7) (v := 7) C (by decide +kernel) rfl (l_goto (pc := 2406) (tgt := 28) (off := -2378) C (by decide +kernel) rfl hk)
theorem lnext (C : LC G cL cD p R s m args c A0 code 9) (hk : LTo G cL cD p e R s m args below meth c A0 9 Q x y 28 (LX (i + 7) B)) : LTo G cL cD p e R s m args below meth c A0 9 Q x y 2403 (LX i B) := by
  rintro o L St σ ⟨S, l6, l7, l8, hz, rfl, rfl⟩
  refine bnext C hk o _ _ _ ?_
  try simp only [xi_iload, xi_aload, xi_lload, xi_istore, xi_astore, xi_lstore, xi_ic, xi_lc, xi_iinc, xi_iadd, xi_isub, xi_imul, xi_iand, xi_iushr, xi_ineg, xi_idiv, xi_irem, xi_ladd, xi_lmul, xi_lrem, xi_lcmp, xi_i2l, xi_l2i, xi_i2c, xi_dup, xi_dup2, xi_pop, xi_ifeq, xi_ifne, xi_iflt, xi_ifge, xi_ifgt, xi_ifle, xi_iceq, xi_icne, xi_iclt, xi_icge, xi_icgt, xi_icle, xi_iret, xi_zret, xi_lret, xi_vret, xi_getf, xi_putf, xi_ald, xi_ast, xi_alen, xi_callV, xi_callS, xpop, xroom, xl, xst, xok1, xok2, xnarrow, xwide, xone, xent, List.replicate, Option.isSome_some, Bool.and_self, Bool.true_and, Bool.and_true, List.length_cons, List.length_nil, Nat.reduceAdd, Nat.reduceLT, decide_true, Bool.not_false, Nat.beq, Nat.ble, Option.toList, List.nil_append, List.cons_append]
  refine ⟨S, l6, l7, l8, hz, ?_, rfl⟩
  rw [show (7 : Int32) = nI 7 from rfl, nI_add]
theorem lswitch (C : LC G cL cD p R s m args c A0 code 9) (hX : N ≤ 3584 ∧ va_X (G.2.1 91) N xs s s.heap ∧ G.2.1 91 < s.heap.size ∧ ¬ A0 (G.2.1 91)) (hR : lRm R 300) (hi : i + 7 ≤ N) (hB : B < 2 ^ 20) (hxy : x + 4 ≤ R.cells ∧ y + 24 ≤ R.slots) (hk : LTo G cL cD p e R s m args below meth c A0 9 Q (x + 4) (y + 24) 2403 (LX i (B + 9)))
    (t : Nat) (ht : t < 64) {o : OO} {L : List (Option Value)} {St : List Value} {σ : Sg} (h : LX i B o L St σ) : LAt G cL cD p e R s m args below meth c A0 9 Q x y 45 o L (.int (nI t) :: St) σ := by
  match t, ht with
  | 0, _ => exact l_table C dsw (off := 159) (tgt := 204) (by decide +kernel) (by decide +kernel) rfl rfl (ca0 C hX hR hi hB hxy hk o L St σ h)
  | 1, _ => exact l_table C dsw (off := 231) (tgt := 276) (by decide +kernel) (by decide +kernel) rfl rfl (ca1 C hX hR hi hB hxy hk o L St σ h)
  | 2, _ => exact l_table C dsw (off := 381) (tgt := 426) (by decide +kernel) (by decide +kernel) rfl rfl (ca2 C hX hR hi hB hxy hk o L St σ h)
  | 3, _ => exact l_table C dsw (off := 475) (tgt := 520) (by decide +kernel) (by decide +kernel) rfl rfl (ca3 C hX hR hi hB hxy hk o L St σ h)
  | 4, _ => exact l_table C dsw (off := 555) (tgt := 600) (by decide +kernel) (by decide +kernel) rfl rfl (ca4 C hX hR hi hB hxy hk o L St σ h)
  | 5, _ => exact l_table C dsw (off := 649) (tgt := 694) (by decide +kernel) (by decide +kernel) rfl rfl (ca5 C hX hR hi hB hxy hk o L St σ h)
  | 6, _ => exact l_table C dsw (off := 717) (tgt := 762) (by decide +kernel) (by decide +kernel) rfl rfl (ca6 C hX hR hi hB hxy hk o L St σ h)
  | 7, _ => exact l_table C dsw (off := 773) (tgt := 818) (by decide +kernel) (by decide +kernel) rfl rfl (ca7 C hX hR hi hB hxy hk o L St σ h)
  | 8, _ => exact l_table C dsw (off := 829) (tgt := 874) (by decide +kernel) (by decide +kernel) rfl rfl (ca8 C hX hR hi hB hxy hk o L St σ h)
  | 9, _ => exact l_table C dsw (off := 892) (tgt := 937) (by decide +kernel) (by decide +kernel) rfl rfl (ca9 C hX hR hi hB hxy hk o L St σ h)
  | 10, _ => exact l_table C dsw (off := 948) (tgt := 993) (by decide +kernel) (by decide +kernel) rfl rfl (ca10 C hX hR hi hB hxy hk o L St σ h)
  | 11, _ => exact l_table C dsw (off := 1004) (tgt := 1049) (by decide +kernel) (by decide +kernel) rfl rfl (ca11 C hX hR hi hB hxy hk o L St σ h)
  | 12, _ => exact l_table C dsw (off := 1060) (tgt := 1105) (by decide +kernel) (by decide +kernel) rfl rfl (ca12 C hX hR hi hB hxy hk o L St σ h)
  | 13, _ => exact l_table C dsw (off := 1116) (tgt := 1161) (by decide +kernel) (by decide +kernel) rfl rfl (ca13 C hX hR hi hB hxy hk o L St σ h)
  | 14, _ => exact l_table C dsw (off := 1172) (tgt := 1217) (by decide +kernel) (by decide +kernel) rfl rfl (ca14 C hX hR hi hB hxy hk o L St σ h)
  | 15, _ => exact l_table C dsw (off := 1228) (tgt := 1273) (by decide +kernel) (by decide +kernel) rfl rfl (ca15 C hX hR hi hB hxy hk o L St σ h)
  | 16, _ => exact l_table C dsw (off := 1291) (tgt := 1336) (by decide +kernel) (by decide +kernel) rfl rfl (ca16 C hX hR hi hB hxy hk o L St σ h)
  | 17, _ => exact l_table C dsw (off := 1335) (tgt := 1380) (by decide +kernel) (by decide +kernel) rfl rfl (ca17 C hX hR hi hB hxy hk o L St σ h)
  | 18, _ => exact l_table C dsw (off := 1379) (tgt := 1424) (by decide +kernel) (by decide +kernel) rfl rfl (ca18 C hX hR hi hB hxy hk o L St σ h)
  | 19, _ => exact l_table C dsw (off := 1423) (tgt := 1468) (by decide +kernel) (by decide +kernel) rfl rfl (ca19 C hX hR hi hB hxy hk o L St σ h)
  | 20, _ => exact l_table C dsw (off := 1466) (tgt := 1511) (by decide +kernel) (by decide +kernel) rfl rfl (ca20 C hX hR hi hB hxy hk o L St σ h)
  | 21, _ => exact l_table C dsw (off := 1510) (tgt := 1555) (by decide +kernel) (by decide +kernel) rfl rfl (ca21 C hX hR hi hB hxy hk o L St σ h)
  | 22, _ => exact l_table C dsw (off := 1554) (tgt := 1599) (by decide +kernel) (by decide +kernel) rfl rfl (ca22 C hX hR hi hB hxy hk o L St σ h)
  | 23, _ => exact l_table C dsw (off := 1598) (tgt := 1643) (by decide +kernel) (by decide +kernel) rfl rfl (ca23 C hX hR hi hB hxy hk o L St σ h)
  | 24, _ => exact l_table C dsw (off := 1642) (tgt := 1687) (by decide +kernel) (by decide +kernel) rfl rfl (ca24 C hX hR hi hB hxy hk o L St σ h)
  | 25, _ => exact l_table C dsw (off := 1722) (tgt := 1767) (by decide +kernel) (by decide +kernel) rfl rfl (ca25 C hX hR hi hB hxy hk o L St σ h)
  | 26, _ => exact l_table C dsw (off := 1790) (tgt := 1835) (by decide +kernel) (by decide +kernel) rfl rfl (ca26 C hX hR hi hB hxy hk o L St σ h)
  | 27, _ => exact l_table C dsw (off := 1846) (tgt := 1891) (by decide +kernel) (by decide +kernel) rfl rfl (ca27 C hX hR hi hB hxy hk o L St σ h)
  | 28, _ => exact l_table C dsw (off := 1902) (tgt := 1947) (by decide +kernel) (by decide +kernel) rfl rfl (ca28 C hX hR hi hB hxy hk o L St σ h)
  | 29, _ => exact l_table C dsw (off := 1958) (tgt := 2003) (by decide +kernel) (by decide +kernel) rfl rfl (ca29 C hX hR hi hB hxy hk o L St σ h)
  | 30, _ => exact l_table C dsw (off := 2014) (tgt := 2059) (by decide +kernel) (by decide +kernel) rfl rfl (ca30 C hX hR hi hB hxy hk o L St σ h)
  | 31, _ => exact l_table C dsw (off := 2094) (tgt := 2139) (by decide +kernel) (by decide +kernel) rfl rfl (ca31 C hX hR hi hB hxy hk o L St σ h)
  | 32, _ => exact l_table C dsw (off := 2107) (tgt := 2152) (by decide +kernel) (by decide +kernel) rfl rfl (ca32 C hX hR hi hB hxy hk o L St σ h)
  | 33, _ => exact l_table C dsw (off := 2176) (tgt := 2221) (by decide +kernel) (by decide +kernel) rfl rfl (ca33 C hX hR hi hB hxy hk o L St σ h)
  | 34, _ => exact l_table C dsw (off := 2242) (tgt := 2287) (by decide +kernel) (by decide +kernel) rfl rfl (ca34 C hX hR hi hB hxy hk o L St σ h)
  | 35, _ => exact l_table C dsw (off := 2307) (tgt := 2352) (by decide +kernel) (by decide +kernel) rfl rfl (ca35 C hX hR hi hB hxy hk o L St σ h)
  | t + 36, ht => exact l_tableD C dsw (tgt := 2403) (Or.inr (sw_big ⟨t + 36, ht⟩ (Nat.le_add_left _ _))) rfl (l_wide (x' := x + 4) (y' := y + 24) (Nat.le_add_right _ _) (Nat.le_add_right _ _) hk o L St σ (LX_mono (Nat.le_add_right _ _) h))
theorem lloop (C : LC G cL cD p R s m args c A0 code 9) (hX : N ≤ 3584 ∧ va_X (G.2.1 91) N xs s s.heap ∧ G.2.1 91 < s.heap.size ∧ ¬ A0 (G.2.1 91)) (hR : lRm R 300) (hE : ∀ x y : Nat, x ≤ R.cells → y ≤ R.slots → LTo G cL cD p e R s m args below meth c A0 9 Q x y 2409 (fun _ _ St _ => St = [])) :
    ∀ (n x y i B : Nat), N < i + 7 * n + 7 → i ≤ N → x + 4 * n ≤ R.cells → y + 24 * n ≤ R.slots → B + 9 * n < 2 ^ 20 → LTo G cL cD p e R s m args below meth c A0 9 Q x y 28 (LX i B) := by
  intro n
  induction n with
  | zero =>
    intro x y i B h1 h2 h3 h4 h5
    rintro o L St σ ⟨S, l6, l7, l8, hz, rfl, rfl⟩
    refine bhead (kS := fun _ _ _ _ => False) C hX (hE x y (by omega) (by omega)) (fun _ _ _ _ h => h.elim) o _ _ _ ?_
    try simp only [xi_iload, xi_aload, xi_lload, xi_istore, xi_astore, xi_lstore, xi_ic, xi_lc, xi_iinc, xi_iadd, xi_isub, xi_imul, xi_iand, xi_iushr, xi_ineg, xi_idiv, xi_irem, xi_ladd, xi_lmul, xi_lrem, xi_lcmp, xi_i2l, xi_l2i, xi_i2c, xi_dup, xi_dup2, xi_pop, xi_ifeq, xi_ifne, xi_iflt, xi_ifge, xi_ifgt, xi_ifle, xi_iceq, xi_icne, xi_iclt, xi_icge, xi_icgt, xi_icle, xi_iret, xi_zret, xi_lret, xi_vret, xi_getf, xi_putf, xi_ald, xi_ast, xi_alen, xi_callV, xi_callS, xpop, xroom, xl, xst, xok1, xok2, xnarrow, xwide, xone, xent, List.replicate, Option.isSome_some, Bool.and_self, Bool.true_and, Bool.and_true, List.length_cons, List.length_nil, Nat.reduceAdd, Nat.reduceLT, decide_true, Bool.not_false, Nat.beq, Nat.ble, Option.toList, List.nil_append, List.cons_append, xi_sln, xi_sld]
    refine ⟨trivial, fun _ => trivial, fun q => absurd ((sub7_lt hX.1 h2).mpr (by omega)) q⟩
  | succ n ih =>
    intro x y i B h1 h2 h3 h4 h5
    rintro o L St σ ⟨S, l6, l7, l8, hz, rfl, rfl⟩
    by_cases hc : N < i + 7
    · refine bhead (kS := fun _ _ _ _ => False) C hX (hE x y (by omega) (by omega)) (fun _ _ _ _ h => h.elim) o _ _ _ ?_
      try simp only [xi_iload, xi_aload, xi_lload, xi_istore, xi_astore, xi_lstore, xi_ic, xi_lc, xi_iinc, xi_iadd, xi_isub, xi_imul, xi_iand, xi_iushr, xi_ineg, xi_idiv, xi_irem, xi_ladd, xi_lmul, xi_lrem, xi_lcmp, xi_i2l, xi_l2i, xi_i2c, xi_dup, xi_dup2, xi_pop, xi_ifeq, xi_ifne, xi_iflt, xi_ifge, xi_ifgt, xi_ifle, xi_iceq, xi_icne, xi_iclt, xi_icge, xi_icgt, xi_icle, xi_iret, xi_zret, xi_lret, xi_vret, xi_getf, xi_putf, xi_ald, xi_ast, xi_alen, xi_callV, xi_callS, xpop, xroom, xl, xst, xok1, xok2, xnarrow, xwide, xone, xent, List.replicate, Option.isSome_some, Bool.and_self, Bool.true_and, Bool.and_true, List.length_cons, List.length_nil, Nat.reduceAdd, Nat.reduceLT, decide_true, Bool.not_false, Nat.beq, Nat.ble, Option.toList, List.nil_append, List.cons_append, xi_sln, xi_sld]
      refine ⟨trivial, fun _ => trivial, fun q => absurd ((sub7_lt hX.1 h2).mpr hc) q⟩
    · have hk := lnext C (ih (x + 4) (y + 24) (i + 7) (B + 9) (by omega) (by omega) (by omega) (by omega) (by omega))
      refine bhead (kE := fun _ _ _ _ => False) (kS := LAt G cL cD p e R s m args below meth c A0 9 Q x y 45) C hX (fun _ _ _ _ h => h.elim) lto_at o _ _ _ ?_
      try simp only [xi_iload, xi_aload, xi_lload, xi_istore, xi_astore, xi_lstore, xi_ic, xi_lc, xi_iinc, xi_iadd, xi_isub, xi_imul, xi_iand, xi_iushr, xi_ineg, xi_idiv, xi_irem, xi_ladd, xi_lmul, xi_lrem, xi_lcmp, xi_i2l, xi_l2i, xi_i2c, xi_dup, xi_dup2, xi_pop, xi_ifeq, xi_ifne, xi_iflt, xi_ifge, xi_ifgt, xi_ifle, xi_iceq, xi_icne, xi_iclt, xi_icge, xi_icgt, xi_icle, xi_iret, xi_zret, xi_lret, xi_vret, xi_getf, xi_putf, xi_ald, xi_ast, xi_alen, xi_callV, xi_callS, xpop, xroom, xl, xst, xok1, xok2, xnarrow, xwide, xone, xent, List.replicate, Option.isSome_some, Bool.and_self, Bool.true_and, Bool.and_true, List.length_cons, List.length_nil, Nat.reduceAdd, Nat.reduceLT, decide_true, Bool.not_false, Nat.beq, Nat.ble, Option.toList, List.nil_append, List.cons_append, xi_sln, xi_sld]
      obtain ⟨t, ht, et⟩ := pk_andE (xs (nI i).toNatClampNeg) (m := 63) 6 (by decide +kernel)
      rw [et]
      refine ⟨trivial, fun q => absurd ((sub7_lt hX.1 h2).mp q) hc, fun _ => ⟨⟨trivial, ?_⟩, lswitch C hX hR (by omega) (by omega) ⟨by omega, by omega⟩ hk t ht ⟨S, l6, l7, l8, hz, rfl, rfl⟩⟩⟩
      intro q
      rw [nI_clamp (by omega)] at q
      rcases q with q | q
      · exact absurd ((nI_ltI (a := i) (b := 0) (by omega) (by omega)).mp q) (Nat.not_lt_zero _)
      · omega
end S99v
