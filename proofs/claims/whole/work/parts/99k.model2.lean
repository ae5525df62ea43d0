/-! what LinkerYardModel() makes behind LinkerYard() (written by wip/gen/made8.py) -/
section S99k
variable {l : Launch} {D : va_G} {cA : Nat → ClassId} {sz d : Nat}
def shY : List MkSh := [Sum.inr (7, [.ref 1, .ref 12, .ref 25, .ref 34, .ref 37, .int 999, .int 999, .int 999, .int 0, .int 0]), Sum.inr (0, [.ref 2, .ref 4, .ref 6, .ref 8, .ref 10]), Sum.inr (6, [.ref 3, .int 10, .int 1, .int 0]), Sum.inl (0, 10), Sum.inr (6, [.ref 5, .int 24, .int 6, .int 0]), Sum.inl (0, 144), Sum.inr (6, [.ref 7, .int 40, .int 5, .int 0]), Sum.inl (0, 200), Sum.inr (6, [.ref 9, .int 160, .int 3, .int 0]), Sum.inl (0, 480), Sum.inr (6, [.ref 11, .int 40, .int 4, .int 0]), Sum.inl (0, 160), Sum.inr (5, [.ref 1, .ref 13, .ref 15, .ref 17, .ref 19, .ref 21, .ref 23, .int 0]), Sum.inr (3, [.ref 14]), Sum.inl (0, 10), Sum.inr (3, [.ref 16]), Sum.inl (0, 16), Sum.inr (3, [.ref 18]), Sum.inl (0, 16), Sum.inr (3, [.ref 20]), Sum.inl (0, 40), Sum.inr (3, [.ref 22]), Sum.inl (0, 24), Sum.inr (3, [.ref 24]), Sum.inl (0, 160), Sum.inr (1, [.ref 1, .ref 12, .ref 26, .ref 28, .ref 30, .ref 32, .int 0, .int 0]), Sum.inr (3, [.ref 27]), Sum.inl (0, 24), Sum.inr (3, [.ref 29]), Sum.inl (0, 24), Sum.inr (3, [.ref 31]), Sum.inl (0, 160), Sum.inr (6, [.ref 33, .int 40, .int 2, .int 0]), Sum.inl (0, 80), Sum.inr (4, [.ref 1, .ref 12, .ref 25, .ref 35, .int 0, .int 0, .int 0]), Sum.inr (6, [.ref 36, .int 100, .int 2, .int 0]), Sum.inl (0, 200), Sum.inr (2, [.ref 38, .ref 40, .ref 42, .ref 44, .ref 46, .ref 48, .ref 50, .ref 52]), Sum.inr (6, [.ref 39, .int 8, .int 16, .int 0]), Sum.inl (0, 128), Sum.inr (6, [.ref 41, .int 8, .int 8, .int 0]), Sum.inl (0, 64), Sum.inr (3, [.ref 43]), Sum.inl (0, 8), Sum.inr (6, [.ref 45, .int 8, .int 1, .int 0]), Sum.inl (0, 8), Sum.inr (3, [.ref 47]), Sum.inl (0, 8), Sum.inr (6, [.ref 49, .int 128, .int 10, .int 0]), Sum.inl (0, 1280), Sum.inr (3, [.ref 51]), Sum.inl (0, 8), Sum.inr (3, [.ref 53]), Sum.inl (0, 8), Sum.inr (8, [.null, .int 0, .null, .null, .null, .null, .null, .null, .int 0, .null, .null, .null, .null, .int 0, .null, .null, .null, .null, .null, .int 0, .int 0, .int 0, .int 0, .int 0, .int 0, .null, .null, .null, .null, .null, .null, .null, .null, .null, .null, .int 0, .int 0, .int 0, .int 0, .null, .null, .null, .null, .int 0, .null, .int 0, .null, .null, .null, .int 0, .int 0])]
def shX : List MkSh := [Sum.inr (7, [.ref 1, .ref 12, .ref 25, .ref 34, .ref 37, .int 999, .int 999, .int 999, .int 0, .int 0]), Sum.inr (0, [.ref 2, .ref 4, .ref 6, .ref 8, .ref 10]), Sum.inr (6, [.ref 3, .int 10, .int 1, .int 0]), Sum.inl (0, 10), Sum.inr (6, [.ref 5, .int 24, .int 6, .int 0]), Sum.inl (0, 144), Sum.inr (6, [.ref 7, .int 40, .int 5, .int 0]), Sum.inl (0, 200), Sum.inr (6, [.ref 9, .int 160, .int 3, .int 0]), Sum.inl (0, 480), Sum.inr (6, [.ref 11, .int 40, .int 4, .int 0]), Sum.inl (0, 160), Sum.inr (5, [.ref 1, .ref 13, .ref 15, .ref 17, .ref 19, .ref 21, .ref 23, .int 0]), Sum.inr (3, [.ref 14]), Sum.inl (0, 10), Sum.inr (3, [.ref 16]), Sum.inl (0, 16), Sum.inr (3, [.ref 18]), Sum.inl (0, 16), Sum.inr (3, [.ref 20]), Sum.inl (0, 40), Sum.inr (3, [.ref 22]), Sum.inl (0, 24), Sum.inr (3, [.ref 24]), Sum.inl (0, 160), Sum.inr (1, [.ref 1, .ref 12, .ref 26, .ref 28, .ref 30, .ref 32, .int 0, .int 0]), Sum.inr (3, [.ref 27]), Sum.inl (0, 24), Sum.inr (3, [.ref 29]), Sum.inl (0, 24), Sum.inr (3, [.ref 31]), Sum.inl (0, 160), Sum.inr (6, [.ref 33, .int 40, .int 2, .int 0]), Sum.inl (0, 80), Sum.inr (4, [.ref 1, .ref 12, .ref 25, .ref 35, .int 0, .int 0, .int 0]), Sum.inr (6, [.ref 36, .int 100, .int 2, .int 0]), Sum.inl (0, 200), Sum.inr (2, [.ref 38, .ref 40, .ref 42, .ref 44, .ref 46, .ref 48, .ref 50, .ref 52]), Sum.inr (6, [.ref 39, .int 8, .int 16, .int 0]), Sum.inl (0, 128), Sum.inr (6, [.ref 41, .int 8, .int 8, .int 0]), Sum.inl (0, 64), Sum.inr (3, [.ref 43]), Sum.inl (0, 8), Sum.inr (6, [.ref 45, .int 8, .int 1, .int 0]), Sum.inl (0, 8), Sum.inr (3, [.ref 47]), Sum.inl (0, 8), Sum.inr (6, [.ref 49, .int 128, .int 10, .int 0]), Sum.inl (0, 1280), Sum.inr (3, [.ref 51]), Sum.inl (0, 8), Sum.inr (3, [.ref 53]), Sum.inl (0, 8), Sum.inr (8, [.ref 55, .int 0, .ref 56, .ref 57, .ref 58, .ref 59, .ref 60, .ref 61, .int 0, .ref 62, .ref 63, .ref 64, .ref 65, .int 0, .ref 66, .ref 67, .ref 68, .ref 69, .ref 70, .int 0, .int 999, .int 999, .int 999, .int 0, .int 0, .ref 71, .ref 72, .ref 73, .ref 74, .ref 75, .ref 76, .ref 77, .ref 78, .ref 79, .ref 80, .int 0, .int 0, .int 0, .int 0, .ref 81, .ref 82, .ref 83, .ref 84, .int 0, .ref 85, .int 0, .ref 86, .ref 87, .ref 88, .int 0, .int 0]), Sum.inl (1, 10), Sum.inl (0, 24), Sum.inl (1, 24), Sum.inl (0, 24), Sum.inl (0, 24), Sum.inl (0, 24), Sum.inl (1, 24), Sum.inl (0, 40), Sum.inl (0, 40), Sum.inl (0, 40), Sum.inl (2, 40), Sum.inl (0, 160), Sum.inl (0, 40), Sum.inl (0, 40), Sum.inl (0, 40), Sum.inl (2, 40), Sum.inl (1, 10), Sum.inl (0, 16), Sum.inl (0, 40), Sum.inl (1, 24), Sum.inl (1, 160), Sum.inl (0, 24), Sum.inl (0, 24), Sum.inl (0, 160), Sum.inl (0, 40), Sum.inl (0, 24), Sum.inl (0, 128), Sum.inl (1, 64), Sum.inl (0, 8), Sum.inl (0, 8), Sum.inl (1, 8), Sum.inl (0, 1280), Sum.inl (0, 8), Sum.inl (1, 8)]
def shZ : List MkSh := shX.set 86 (Sum.inl (3 + 1280, 1280))
set_option maxRecDepth 100000 in
set_option maxHeartbeats 4000000 in
theorem cX8 : MkM l D cA sz mX8_init (d + 1) 34 2668 [.ref 54] shY (fun sh' => sh' = shZ) := by
  refine mk_of (by decide +kernel) rfl rfl rfl (Nat.le_of_ble_eq_true rfl) ?_
  refine bM_X8 _ _ _ ?_
  have hfill : MkAt l D cA sz RX8 prog_10_method_1_code 2 (d + 1) 34 2668 (fun sh' => sh' = shZ) 34 2668 304 [some (.ref 54), some (.int (nI 0))] [] shX := mFill (b := 86) rfl rfl rfl
  generalize (fun sh' => sh' = shZ) = R at hfill ⊢
  have e : shX = _ := rfl
  try simp only [xi_iload, xi_aload, xi_lload, xi_istore, xi_astore, xi_lstore, xi_ic, xi_lc, xi_iinc, xi_iadd, xi_isub, xi_imul, xi_iand, xi_iushr, xi_ineg, xi_idiv, xi_irem, xi_ladd, xi_lmul, xi_lrem, xi_lcmp, xi_i2l, xi_l2i, xi_i2c, xi_dup, xi_dup2, xi_pop, xi_ifeq, xi_ifne, xi_iflt, xi_ifge, xi_ifgt, xi_ifle, xi_iceq, xi_icne, xi_iclt, xi_icge, xi_icgt, xi_icle, xi_iret, xi_zret, xi_lret, xi_vret, xi_getf, xi_putf, xi_ald, xi_ast, xi_alen, xi_callV, xi_callS, xpop, xroom, xl, xst, xok1, xok2, xnarrow, xwide, xone, xent, List.replicate, Option.isSome_some, Bool.and_self, Bool.true_and, Bool.and_true, List.length_cons, List.length_nil, Nat.reduceAdd, Nat.reduceLT, decide_true, Bool.not_false, Nat.beq, Nat.ble, Option.toList, List.nil_append, List.cons_append, shY, mi_aload, mi_istore, mi_obj, mi_ic, mi_new, mi_newa, mi_dup, mi_ret, xone, mi_putf, List.length_append, List.length_set, List.set, List.length_cons, List.length_nil]
  refine ⟨rfl, rfl, by decide, fun ad => ⟨rfl, rfl⟩, ?_⟩
  refine ⟨rfl, rfl, by decide, fun ad => ⟨rfl, rfl⟩, ?_⟩
  refine ⟨rfl, rfl, by decide, fun ad => ⟨rfl, rfl⟩, ?_⟩
  refine ⟨rfl, rfl, by decide, fun ad => ⟨rfl, rfl⟩, ?_⟩
  refine ⟨rfl, rfl, by decide, fun ad => ⟨rfl, rfl⟩, ?_⟩
  refine ⟨rfl, rfl, by decide, fun ad => ⟨rfl, rfl⟩, ?_⟩
  refine ⟨rfl, rfl, by decide, fun ad => ⟨rfl, rfl⟩, ?_⟩
  refine ⟨rfl, rfl, by decide, fun ad => ⟨rfl, rfl⟩, ?_⟩
  refine ⟨rfl, rfl, by decide, fun ad => ⟨rfl, rfl⟩, ?_⟩
  refine ⟨rfl, rfl, by decide, fun ad => ⟨rfl, rfl⟩, ?_⟩
  refine ⟨rfl, rfl, by decide, fun ad => ⟨rfl, rfl⟩, ?_⟩
  refine ⟨rfl, rfl, by decide, fun ad => ⟨rfl, rfl⟩, ?_⟩
  refine ⟨rfl, rfl, by decide, fun ad => ⟨rfl, rfl⟩, ?_⟩
  refine ⟨rfl, rfl, by decide, fun ad => ⟨rfl, rfl⟩, ?_⟩
  refine ⟨rfl, rfl, by decide, fun ad => ⟨rfl, rfl⟩, ?_⟩
  refine ⟨rfl, rfl, by decide, fun ad => ⟨rfl, rfl⟩, ?_⟩
  refine ⟨rfl, by decide, fun ad => ⟨rfl, rfl⟩, ?_⟩
  refine ⟨rfl, by decide, fun ad => ⟨rfl, rfl⟩, ?_⟩
  refine ⟨rfl, by decide, fun ad => ⟨rfl, rfl⟩, ?_⟩
  refine ⟨rfl, rfl, by decide, fun ad => ⟨rfl, rfl⟩, ?_⟩
  refine ⟨rfl, rfl, by decide, fun ad => ⟨rfl, rfl⟩, ?_⟩
  refine ⟨rfl, rfl, by decide, fun ad => ⟨rfl, rfl⟩, ?_⟩
  refine ⟨rfl, rfl, by decide, fun ad => ⟨rfl, rfl⟩, ?_⟩
  refine ⟨rfl, rfl, by decide, fun ad => ⟨rfl, rfl⟩, ?_⟩
  refine ⟨rfl, rfl, by decide, fun ad => ⟨rfl, rfl⟩, ?_⟩
  refine ⟨rfl, rfl, by decide, fun ad => ⟨rfl, rfl⟩, ?_⟩
  refine ⟨rfl, rfl, by decide, fun ad => ⟨rfl, rfl⟩, ?_⟩
  refine ⟨rfl, rfl, by decide, fun ad => ⟨rfl, rfl⟩, ?_⟩
  refine ⟨rfl, rfl, by decide, fun ad => ⟨rfl, rfl⟩, ?_⟩
  refine ⟨rfl, rfl, by decide, fun ad => ⟨rfl, rfl⟩, ?_⟩
  refine ⟨rfl, rfl, by decide, fun ad => ⟨rfl, rfl⟩, ?_⟩
  refine ⟨rfl, rfl, by decide, fun ad => ⟨rfl, rfl⟩, ?_⟩
  refine ⟨rfl, rfl, by decide, fun ad => ⟨rfl, rfl⟩, ?_⟩
  refine ⟨rfl, rfl, by decide, fun ad => ⟨rfl, rfl⟩, ?_⟩
  refine ⟨rfl, rfl, by decide, fun ad => ⟨rfl, rfl⟩, ?_⟩
  refine ⟨rfl, rfl, by decide, fun ad => ⟨rfl, rfl⟩, ?_⟩
  refine ⟨rfl, rfl, by decide, fun ad => ⟨rfl, rfl⟩, ?_⟩
  exact hfill
end S99k
