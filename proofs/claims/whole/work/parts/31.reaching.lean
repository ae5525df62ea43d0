/-! starts, places, islands, what does not reach -/
section S31
variable {G : XG} {d : Nat} {σ : Sg} {M : YM} {T A P : Nat → Bool} {il : Nat → Nat} {L : Nat}
theorem ng_toInt {k : Nat} (h : k < 2 ^ 31) : (-nI k).toInt = -(k : Int) := by
  rw [Int32.toInt_neg, nI_toInt h]
  unfold Int.bmod
  dsimp only
  split <;> omega
theorem nI_sub {a b : Nat} (h : b ≤ a) : nI a - nI b = nI (a - b) := by
  have e : a = (a - b) + b := by omega
  rw [show nI a = nI (a - b) + nI b by rw [nI_add, ← e], Int32.add_sub_cancel]
theorem nI_sub' {a b : Nat} (h : a ≤ b) : nI a - nI b = -nI (b - a) := by
  rw [← nI_sub h, Int32.neg_sub]
theorem sb_toInt {a b : Nat} (ha : a < 2 ^ 31) (hb : b < 2 ^ 31) : (nI a - nI b).toInt = (a : Int) - b := by
  by_cases h : b ≤ a
  · rw [nI_sub h, nI_toInt (by omega)]; omega
  · rw [nI_sub' (by omega), ng_toInt (by omega)]; omega
theorem abs_nI {a b : Nat} (ha : a < 2 ^ 31) (hb : b < 2 ^ 31) : (if 0 ≤ nI a - nI b then nI a - nI b else 0 - (nI a - nI b)) = nI (if b ≤ a then a - b else b - a) := by
  have h0 : (0 : Int32).toInt = 0 := by decide
  by_cases q : 0 ≤ nI a - nI b
  · rw [if_pos q]
    rw [Int32.le_iff_toInt_le, h0, sb_toInt ha hb] at q
    rw [if_pos (by omega), nI_sub (by omega)]
  · rw [if_neg q]
    rw [Int32.le_iff_toInt_le, h0, sb_toInt ha hb] at q
    rw [if_neg (by omega), nI_sub' (by omega), Int32.zero_sub, Int32.neg_neg]
theorem yRef_trans {a b c : Nat} (h1 : yRef M T a b = true) (h2 : yRef M T b c = true) : yRef M T a c = true := by
  simp only [yRef, Bool.and_eq_true, beq_iff_eq, decide_eq_true_eq] at h1 h2 ⊢
  exact ⟨h1.1.trans h2.1, h1.2.1.trans h2.2.1, h1.2.2.trans h2.2.2⟩
theorem yRun_trans {s t u : Nat} : ∀ {k f : Nat}, yRun M T s t k f = true → yRun M T t u k f = true → yRun M T s u k f = true := by
  intro k
  induction k with
  | zero => intro f _ _; rfl
  | succ k ih =>
    intro f h1 h2
    unfold yRun at h1 h2 ⊢
    rcases e1 : yNext M s f with _ | a <;> rcases e2 : yNext M t f with _ | b <;> rcases e3 : yNext M u f with _ | c <;> rw [e1, e2] at h1 <;> rw [e2, e3] at h2 <;> first | rfl | (cases h1; done) | (cases h2; done) | skip
    dsimp only at h1 h2 ⊢
    rw [Bool.and_eq_true] at h1 h2 ⊢
    refine ⟨yRef_trans h1.1 h2.1, ih h1.2 ?_⟩
    have h3 := h1.1
    simp only [yRef, Bool.and_eq_true, beq_iff_eq] at h3
    rw [h3.1]
    exact h2.2
theorem yAlike_trans {s t u : Nat} (h1 : yAlike M T s t = true) (h2 : yAlike M T t u = true) : yAlike M T s u = true := by
  simp only [yAlike, Bool.and_eq_true, beq_iff_eq] at h1 h2 ⊢
  exact ⟨h1.1.trans h2.1, h1.2.1.trans h2.2.1, h1.2.2.1.trans h2.2.2.1, yRun_trans h1.2.2.2 h2.2.2.2⟩
/-- where a section is laid -/
def yHome (M : YM) (T A : Nat → Bool) (s : Nat) : Nat := (yFd M T A s).getD s
theorem yFo_lv {s : Nat} (h : yFo M T A s = true) : A s = true ∧ ySC M s = 1 := by
  simp only [yFo, Bool.and_eq_true, beq_iff_eq] at h
  exact ⟨h.1, h.2.1⟩
theorem yHome_laid {s : Nat} (hA : A s = true) : yLaid M T A (yHome M T A s) = true := by
  unfold yHome
  cases hf : yFd M T A s with
  | none =>
    show yLaid M T A s = true
    unfold yLaid
    rw [hA, hf]; rfl
  | some t =>
    obtain ⟨h1, h2, h3, h4, h5⟩ := yFd_lt hf
    show yLaid M T A t = true
    unfold yLaid
    rw [(yFo_lv h3).1, Bool.true_and]
    cases hf2 : yFd M T A t with
    | none => rfl
    | some u =>
      obtain ⟨g1, g2, g3, g4, g5⟩ := yFd_lt hf2
      have := h5 u g1
      rw [g3, yAlike_trans h4 g4] at this
      cases this
theorem yHome_le {s : Nat} : yHome M T A s ≤ s := by
  unfold yHome
  cases hf : yFd M T A s with
  | none => exact Nat.le_refl _
  | some t => exact Nat.le_of_lt (yFd_lt hf).1
theorem yHome_self {s : Nat} (h : yLaid M T A s = true) : yHome M T A s = s := by
  unfold yLaid at h
  unfold yHome
  rw [Bool.and_eq_true] at h
  cases hf : yFd M T A s with
  | none => rfl
  | some t => rw [hf] at h; cases h.2
theorem yStd_home {s : Nat} (hA : A s = true) : yStd M T A s = some (yHome M T A s) := by
  unfold yStd yHome
  rw [if_pos hA]
/-- a goal that its name stands for, where it is a common -/
def gFit (M : YM) (T : Nat → Bool) (g : Option Nat) : Prop := gOk M g ∧ ∀ z, g = some (100 + z) → yStand M T (z % 16) = g
theorem yStand_fit (w : WF M) {n : Nat} (hn : n < 16) : gFit M T (yStand M T n) := by
  refine ⟨yStand_ok hn, fun z hz => ?_⟩
  have hz0 := hz
  unfold yStand at hz
  split at hz
  · next j hj => cases hz; have := yBest_lt hj; have := w.1.2.2.1; omega
  · split at hz
    · next o ho =>
      have := Option.some.inj hz
      rw [show z % 16 = n by omega]
    · have := yBest_lt hz; have := w.1.2.2.1; omega
theorem yGoal_fit (w : WF M) {r : Nat} (hr : r < nR M) : gFit M T (yGoal M T r) := by
  have hw := w.2.2.2.2.2.2.1 r hr
  have h2 := w.1.2.2.1
  unfold yGoal
  split
  · next j hj =>
    have hj2 : j < nD M := (bestD_lt hj).1
    refine ⟨fun z hz => by cases hz; exact Or.inl hj2, fun z hz => ?_⟩
    have := Option.some.inj hz
    omega
  · exact yStand_fit w hw.2.2.1
/-- where the commons begin -/
def yCB (M : YM) (P : Nat → Bool) (il : Nat → Nat) (L : Nat) : Nat := ySecAt M P il L false (nS M)
def yCA (M : YM) (T A P : Nat → Bool) (il : Nat → Nat) (L n : Nat) : Nat := yAl (yComAt M T A (yCB M P il L) n) 4
/-- the address of a goal -/
def yGoS (M : YM) (T A P : Nat → Bool) (il : Nat → Nat) (L : Nat) (g : Option Nat) : Nat := match g with
  | none => 0
  | some g => if g < 100 then yAdr M P il L (yHome M T A (yDS M g)) + yDF M g else yCA M T A P il L ((g - 100) % 16)
def yPlS (M : YM) (T A P : Nat → Bool) (il : Nat → Nat) (L r : Nat) : Nat := yAdr M P il L (yHome M T A (yRS M r)) + yRF M r
theorem yCA_le (w : WF M) (hL : L ≤ 40) {n : Nat} (hn : n < 16) : yCA M T A P il L n < 8000 := by
  have h1 := ySecAt_le w (P := P) (il := il) (cb := false) hL (nS M) (Nat.le_refl _)
  have h2 := yComAt_le w (T := T) (A := A) (f := yCB M P il L) n (by omega)
  have h3 := yAl_le (a := yComAt M T A (yCB M P il L) n) (k := 4)
  have h4 := w.1.2.1
  unfold yCA
  unfold yCB at *
  omega
theorem yGoS_le (w : WF M) (hL : L ≤ 40) {g : Option Nat} (hg : gOk M g) : yGoS M T A P il L g < 8000 := by
  rcases gC_cases w hg with ⟨rfl, e⟩ | ⟨j, hj, rfl, e⟩ | ⟨c, hc, rfl, e⟩
  · exact Nat.zero_lt_succ _
  · have hw := w.2.2.2.1 j hj
    have h1 := yAdr_le w (P := P) (il := il) hL (Nat.lt_of_le_of_lt (yHome_le (M := M) (T := T) (A := A)) hw.1)
    have h2 := (w.2.2.1 _ hw.1).2.2.1
    have h3 := w.1.2.2.1
    have h4 := hw.2.2.1
    unfold yGoS
    dsimp only
    rw [if_pos (by omega)]
    omega
  · unfold yGoS
    dsimp only
    rw [if_neg (by unfold cz; omega)]
    exact yCA_le w hL (by omega)
theorem yPlS_le (w : WF M) (hL : L ≤ 40) {r : Nat} (hr : r < nR M) : yPlS M T A P il L r < 8000 := by
  have hw := w.2.2.2.2.2.2.1 r hr
  have h1 := yAdr_le w (P := P) (il := il) hL (Nat.lt_of_le_of_lt (yHome_le (M := M) (T := T) (A := A)) hw.1)
  have h2 := (w.2.2.1 _ hw.1).2.2.1
  have h3 := hw.2.1
  unfold yPlS
  omega
theorem sX1_startOf {s : Nat} (w : WF M) (hd : CD σ M T A) (ha : CLay σ M T A P il L) (hP : P = yLaid M T A) (hs : s < nS M) (hA : A s = true) : XM G mX1_startOf (d + 1) [.ref 3, .int (nI s)] σ (xF (some (.int (nI (yAdr M P il L (yHome M T A s))))) σ) := by
  refine xm_of (by decide +kernel) rfl (Nat.le_of_ble_eq_true rfl) ?_
  refine bX1_startOf_0 _ _ _ ?_
  have hb2 : nS M ≤ 24 := w.1.2.1
  have hle := yHome_le (M := M) (T := T) (A := A) (s := s)
  try simp only [xi_iload, xi_aload, xi_lload, xi_istore, xi_astore, xi_lstore, xi_ic, xi_lc, xi_iinc, xi_iadd, xi_isub, xi_imul, xi_iand, xi_iushr, xi_ineg, xi_idiv, xi_irem, xi_ladd, xi_lmul, xi_lrem, xi_lcmp, xi_i2l, xi_l2i, xi_i2c, xi_dup, xi_dup2, xi_pop, xi_ifeq, xi_ifne, xi_iflt, xi_ifge, xi_ifgt, xi_ifle, xi_iceq, xi_icne, xi_iclt, xi_icge, xi_icgt, xi_icle, xi_iret, xi_zret, xi_lret, xi_vret, xi_getf, xi_putf, xi_ald, xi_ast, xi_alen, xi_callV, xi_callS, xpop, xroom, xl, xst, xok1, xok2, xnarrow, xwide, xone, xent, List.replicate, Option.isSome_some, Bool.and_self, Bool.true_and, Bool.and_true, List.length_cons, List.length_nil, Nat.reduceAdd, Nat.reduceLT, decide_true, Bool.not_false, Nat.beq, Nat.ble, Option.toList, List.nil_append, List.cons_append, xf_0_0, xf_0_1, xf_0_2, xf_0_3, xf_0_4, xf_0_5, xf_0_6, xf_0_7, xf_0_8, xf_0_9, xf_1_0, xf_1_1, xf_1_2, xf_1_3, xf_1_4, xf_2_0, xf_2_1, xf_2_2, xf_2_3, xf_2_4, xf_2_5, xf_2_6, xf_2_7, xf_3_0, xf_3_1, xf_3_2, xf_3_3, xf_3_4, xf_3_5, xf_3_6, xf_3_7, xf_4_0, xf_4_1, xf_4_2, xf_4_3, xf_4_4, xf_4_5, xf_4_6, xf_5_0, xf_5_1, xf_5_2, xf_5_3, xf_5_4, xf_5_5, xf_5_6, xf_5_7, xf_6_3, xf_7_3, xf_8_3, xf_9_3, xf_10_3, xf_11_3, xf_12_3, xf_13_3, xf_14_3, xf_15_3, xf_16_3]
  refine x_F (sX3_get row23 (by omega)) ?_
  rw [hd s hs, yStd_home hA]
  try simp only [xi_iload, xi_aload, xi_lload, xi_istore, xi_astore, xi_lstore, xi_ic, xi_lc, xi_iinc, xi_iadd, xi_isub, xi_imul, xi_iand, xi_iushr, xi_ineg, xi_idiv, xi_irem, xi_ladd, xi_lmul, xi_lrem, xi_lcmp, xi_i2l, xi_l2i, xi_i2c, xi_dup, xi_dup2, xi_pop, xi_ifeq, xi_ifne, xi_iflt, xi_ifge, xi_ifgt, xi_ifle, xi_iceq, xi_icne, xi_iclt, xi_icge, xi_icgt, xi_icle, xi_iret, xi_zret, xi_lret, xi_vret, xi_getf, xi_putf, xi_ald, xi_ast, xi_alen, xi_callV, xi_callS, xpop, xroom, xl, xst, xok1, xok2, xnarrow, xwide, xone, xent, List.replicate, Option.isSome_some, Bool.and_self, Bool.true_and, Bool.and_true, List.length_cons, List.length_nil, Nat.reduceAdd, Nat.reduceLT, decide_true, Bool.not_false, Nat.beq, Nat.ble, Option.toList, List.nil_append, List.cons_append, xf_0_0, xf_0_1, xf_0_2, xf_0_3, xf_0_4, xf_0_5, xf_0_6, xf_0_7, xf_0_8, xf_0_9, xf_1_0, xf_1_1, xf_1_2, xf_1_3, xf_1_4, xf_2_0, xf_2_1, xf_2_2, xf_2_3, xf_2_4, xf_2_5, xf_2_6, xf_2_7, xf_3_0, xf_3_1, xf_3_2, xf_3_3, xf_3_4, xf_3_5, xf_3_6, xf_3_7, xf_4_0, xf_4_1, xf_4_2, xf_4_3, xf_4_4, xf_4_5, xf_4_6, xf_5_0, xf_5_1, xf_5_2, xf_5_3, xf_5_4, xf_5_5, xf_5_6, xf_5_7, xf_6_3, xf_7_3, xf_8_3, xf_9_3, xf_10_3, xf_11_3, xf_12_3, xf_13_3, xf_14_3, xf_15_3, xf_16_3, oI]
  refine x_F (sX3_get row24 (by omega)) ?_
  rw [ha.1.1 _ (by omega) (by rw [hP]; exact yHome_laid hA)]
  try simp only [xi_iload, xi_aload, xi_lload, xi_istore, xi_astore, xi_lstore, xi_ic, xi_lc, xi_iinc, xi_iadd, xi_isub, xi_imul, xi_iand, xi_iushr, xi_ineg, xi_idiv, xi_irem, xi_ladd, xi_lmul, xi_lrem, xi_lcmp, xi_i2l, xi_l2i, xi_i2c, xi_dup, xi_dup2, xi_pop, xi_ifeq, xi_ifne, xi_iflt, xi_ifge, xi_ifgt, xi_ifle, xi_iceq, xi_icne, xi_iclt, xi_icge, xi_icgt, xi_icle, xi_iret, xi_zret, xi_lret, xi_vret, xi_getf, xi_putf, xi_ald, xi_ast, xi_alen, xi_callV, xi_callS, xpop, xroom, xl, xst, xok1, xok2, xnarrow, xwide, xone, xent, List.replicate, Option.isSome_some, Bool.and_self, Bool.true_and, Bool.and_true, List.length_cons, List.length_nil, Nat.reduceAdd, Nat.reduceLT, decide_true, Bool.not_false, Nat.beq, Nat.ble, Option.toList, List.nil_append, List.cons_append]
  exact xF_self
theorem sX1_goalStart {g : Option Nat} (h : CI σ M) (w : WF M) (hd : CD σ M T A) (ha : CLay σ M T A P il L) (hP : P = yLaid M T A) (hg : gFit M T g) (hA : gLv M A g = true) : XM G mX1_goalStart (d + 2) [.ref 3, .int (gC M g)] σ (xF (some (.int (nI (yGoS M T A P il L g)))) σ) := by
  refine xm_of (by decide +kernel) rfl (Nat.le_of_ble_eq_true rfl) ?_
  refine bX1_goalStart_0 _ _ _ ?_
  have hb := w.1.2.1
  have hb2 := w.1.2.2.1
  have hb3 := w.1.2.2.2.1
  rcases gC_cases w hg.1 with ⟨rfl, e⟩ | ⟨j, hj, rfl, e⟩ | ⟨c, hc, rfl, e⟩
  · cases hA
  · rw [e]
    have hw := w.2.2.2.1 j hj
    have hw1 := hw.1
    have hA2 : A (yDS M j) = true := by
      unfold gLv at hA
      rw [← nd_def w hj]; exact hA
    try simp only [xi_iload, xi_aload, xi_lload, xi_istore, xi_astore, xi_lstore, xi_ic, xi_lc, xi_iinc, xi_iadd, xi_isub, xi_imul, xi_iand, xi_iushr, xi_ineg, xi_idiv, xi_irem, xi_ladd, xi_lmul, xi_lrem, xi_lcmp, xi_i2l, xi_l2i, xi_i2c, xi_dup, xi_dup2, xi_pop, xi_ifeq, xi_ifne, xi_iflt, xi_ifge, xi_ifgt, xi_ifle, xi_iceq, xi_icne, xi_iclt, xi_icge, xi_icgt, xi_icle, xi_iret, xi_zret, xi_lret, xi_vret, xi_getf, xi_putf, xi_ald, xi_ast, xi_alen, xi_callV, xi_callS, xpop, xroom, xl, xst, xok1, xok2, xnarrow, xwide, xone, xent, List.replicate, Option.isSome_some, Bool.and_self, Bool.true_and, Bool.and_true, List.length_cons, List.length_nil, Nat.reduceAdd, Nat.reduceLT, decide_true, Bool.not_false, Nat.beq, Nat.ble, Option.toList, List.nil_append, List.cons_append, xf_0_0, xf_0_1, xf_0_2, xf_0_3, xf_0_4, xf_0_5, xf_0_6, xf_0_7, xf_0_8, xf_0_9, xf_1_0, xf_1_1, xf_1_2, xf_1_3, xf_1_4, xf_2_0, xf_2_1, xf_2_2, xf_2_3, xf_2_4, xf_2_5, xf_2_6, xf_2_7, xf_3_0, xf_3_1, xf_3_2, xf_3_3, xf_3_4, xf_3_5, xf_3_6, xf_3_7, xf_4_0, xf_4_1, xf_4_2, xf_4_3, xf_4_4, xf_4_5, xf_4_6, xf_5_0, xf_5_1, xf_5_2, xf_5_3, xf_5_4, xf_5_5, xf_5_6, xf_5_7, xf_6_3, xf_7_3, xf_8_3, xf_9_3, xf_10_3, xf_11_3, xf_12_3, xf_13_3, xf_14_3, xf_15_3, xf_16_3]
    rw [show (40 : Int32) = nI 40 from rfl]
    try simp (disch := omega) only [nI_leI, nI_ltI, nI_eq, nI_pos, nI_1, nI_add, pk_mul, nIm, nIm', not_false_eq_true, not_true_eq_false, false_implies, true_implies, and_true, true_and, b2i_t, b2i_f]
    refine ⟨fun _ => x_F (sX0_definerOf h w hj) ?_, fun q => absurd (by omega) q⟩
    try simp only [xi_iload, xi_aload, xi_lload, xi_istore, xi_astore, xi_lstore, xi_ic, xi_lc, xi_iinc, xi_iadd, xi_isub, xi_imul, xi_iand, xi_iushr, xi_ineg, xi_idiv, xi_irem, xi_ladd, xi_lmul, xi_lrem, xi_lcmp, xi_i2l, xi_l2i, xi_i2c, xi_dup, xi_dup2, xi_pop, xi_ifeq, xi_ifne, xi_iflt, xi_ifge, xi_ifgt, xi_ifle, xi_iceq, xi_icne, xi_iclt, xi_icge, xi_icgt, xi_icle, xi_iret, xi_zret, xi_lret, xi_vret, xi_getf, xi_putf, xi_ald, xi_ast, xi_alen, xi_callV, xi_callS, xpop, xroom, xl, xst, xok1, xok2, xnarrow, xwide, xone, xent, List.replicate, Option.isSome_some, Bool.and_self, Bool.true_and, Bool.and_true, List.length_cons, List.length_nil, Nat.reduceAdd, Nat.reduceLT, decide_true, Bool.not_false, Nat.beq, Nat.ble, Option.toList, List.nil_append, List.cons_append, xf_0_0, xf_0_1, xf_0_2, xf_0_3, xf_0_4, xf_0_5, xf_0_6, xf_0_7, xf_0_8, xf_0_9, xf_1_0, xf_1_1, xf_1_2, xf_1_3, xf_1_4, xf_2_0, xf_2_1, xf_2_2, xf_2_3, xf_2_4, xf_2_5, xf_2_6, xf_2_7, xf_3_0, xf_3_1, xf_3_2, xf_3_3, xf_3_4, xf_3_5, xf_3_6, xf_3_7, xf_4_0, xf_4_1, xf_4_2, xf_4_3, xf_4_4, xf_4_5, xf_4_6, xf_5_0, xf_5_1, xf_5_2, xf_5_3, xf_5_4, xf_5_5, xf_5_6, xf_5_7, xf_6_3, xf_7_3, xf_8_3, xf_9_3, xf_10_3, xf_11_3, xf_12_3, xf_13_3, xf_14_3, xf_15_3, xf_16_3]
    refine x_F (sX1_startOf w hd ha hP hw1 hA2) ?_
    try simp only [xi_iload, xi_aload, xi_lload, xi_istore, xi_astore, xi_lstore, xi_ic, xi_lc, xi_iinc, xi_iadd, xi_isub, xi_imul, xi_iand, xi_iushr, xi_ineg, xi_idiv, xi_irem, xi_ladd, xi_lmul, xi_lrem, xi_lcmp, xi_i2l, xi_l2i, xi_i2c, xi_dup, xi_dup2, xi_pop, xi_ifeq, xi_ifne, xi_iflt, xi_ifge, xi_ifgt, xi_ifle, xi_iceq, xi_icne, xi_iclt, xi_icge, xi_icgt, xi_icle, xi_iret, xi_zret, xi_lret, xi_vret, xi_getf, xi_putf, xi_ald, xi_ast, xi_alen, xi_callV, xi_callS, xpop, xroom, xl, xst, xok1, xok2, xnarrow, xwide, xone, xent, List.replicate, Option.isSome_some, Bool.and_self, Bool.true_and, Bool.and_true, List.length_cons, List.length_nil, Nat.reduceAdd, Nat.reduceLT, decide_true, Bool.not_false, Nat.beq, Nat.ble, Option.toList, List.nil_append, List.cons_append, xf_0_0, xf_0_1, xf_0_2, xf_0_3, xf_0_4, xf_0_5, xf_0_6, xf_0_7, xf_0_8, xf_0_9, xf_1_0, xf_1_1, xf_1_2, xf_1_3, xf_1_4, xf_2_0, xf_2_1, xf_2_2, xf_2_3, xf_2_4, xf_2_5, xf_2_6, xf_2_7, xf_3_0, xf_3_1, xf_3_2, xf_3_3, xf_3_4, xf_3_5, xf_3_6, xf_3_7, xf_4_0, xf_4_1, xf_4_2, xf_4_3, xf_4_4, xf_4_5, xf_4_6, xf_5_0, xf_5_1, xf_5_2, xf_5_3, xf_5_4, xf_5_5, xf_5_6, xf_5_7, xf_6_3, xf_7_3, xf_8_3, xf_9_3, xf_10_3, xf_11_3, xf_12_3, xf_13_3, xf_14_3, xf_15_3, xf_16_3]
    refine x_F (sX0_offsetDefined h w hj) ?_
    try simp only [xi_iload, xi_aload, xi_lload, xi_istore, xi_astore, xi_lstore, xi_ic, xi_lc, xi_iinc, xi_iadd, xi_isub, xi_imul, xi_iand, xi_iushr, xi_ineg, xi_idiv, xi_irem, xi_ladd, xi_lmul, xi_lrem, xi_lcmp, xi_i2l, xi_l2i, xi_i2c, xi_dup, xi_dup2, xi_pop, xi_ifeq, xi_ifne, xi_iflt, xi_ifge, xi_ifgt, xi_ifle, xi_iceq, xi_icne, xi_iclt, xi_icge, xi_icgt, xi_icle, xi_iret, xi_zret, xi_lret, xi_vret, xi_getf, xi_putf, xi_ald, xi_ast, xi_alen, xi_callV, xi_callS, xpop, xroom, xl, xst, xok1, xok2, xnarrow, xwide, xone, xent, List.replicate, Option.isSome_some, Bool.and_self, Bool.true_and, Bool.and_true, List.length_cons, List.length_nil, Nat.reduceAdd, Nat.reduceLT, decide_true, Bool.not_false, Nat.beq, Nat.ble, Option.toList, List.nil_append, List.cons_append, xf_0_0, xf_0_1, xf_0_2, xf_0_3, xf_0_4, xf_0_5, xf_0_6, xf_0_7, xf_0_8, xf_0_9, xf_1_0, xf_1_1, xf_1_2, xf_1_3, xf_1_4, xf_2_0, xf_2_1, xf_2_2, xf_2_3, xf_2_4, xf_2_5, xf_2_6, xf_2_7, xf_3_0, xf_3_1, xf_3_2, xf_3_3, xf_3_4, xf_3_5, xf_3_6, xf_3_7, xf_4_0, xf_4_1, xf_4_2, xf_4_3, xf_4_4, xf_4_5, xf_4_6, xf_5_0, xf_5_1, xf_5_2, xf_5_3, xf_5_4, xf_5_5, xf_5_6, xf_5_7, xf_6_3, xf_7_3, xf_8_3, xf_9_3, xf_10_3, xf_11_3, xf_12_3, xf_13_3, xf_14_3, xf_15_3, xf_16_3, nI_add]
    unfold yGoS
    dsimp only
    rw [if_pos (by omega)]
    exact xF_self
  · rw [e]
    have hst := hg.2 _ rfl
    have hn : (16 * yCO M c + yCN M c) % 16 < 16 := by omega
    have hAc : A (cz M c) = true := by
      unfold gLv at hA
      dsimp only at hA
      rw [nd_com] at hA; exact hA
    have hp : yComP M T A ((16 * yCO M c + yCN M c) % 16) = some (16 * yCO M c + yCN M c) := by
      unfold yComP
      rw [hst]
      dsimp only
      unfold cz at hAc ⊢
      rw [if_pos ⟨by omega, hAc⟩, Nat.add_sub_cancel_left]
    have hcl := ha.2.1 _ hn _ hp
    obtain ⟨u1, u2, u3, u4, u5, u6, u7⟩ := yComP_spec w hn hp
    have hcc : M 91 (16 * yCO M c + yCN M c) = c := cz_inj w u3 hc u6
    rw [hcc] at hcl
    try simp only [xi_iload, xi_aload, xi_lload, xi_istore, xi_astore, xi_lstore, xi_ic, xi_lc, xi_iinc, xi_iadd, xi_isub, xi_imul, xi_iand, xi_iushr, xi_ineg, xi_idiv, xi_irem, xi_ladd, xi_lmul, xi_lrem, xi_lcmp, xi_i2l, xi_l2i, xi_i2c, xi_dup, xi_dup2, xi_pop, xi_ifeq, xi_ifne, xi_iflt, xi_ifge, xi_ifgt, xi_ifle, xi_iceq, xi_icne, xi_iclt, xi_icge, xi_icgt, xi_icle, xi_iret, xi_zret, xi_lret, xi_vret, xi_getf, xi_putf, xi_ald, xi_ast, xi_alen, xi_callV, xi_callS, xpop, xroom, xl, xst, xok1, xok2, xnarrow, xwide, xone, xent, List.replicate, Option.isSome_some, Bool.and_self, Bool.true_and, Bool.and_true, List.length_cons, List.length_nil, Nat.reduceAdd, Nat.reduceLT, decide_true, Bool.not_false, Nat.beq, Nat.ble, Option.toList, List.nil_append, List.cons_append, xf_0_0, xf_0_1, xf_0_2, xf_0_3, xf_0_4, xf_0_5, xf_0_6, xf_0_7, xf_0_8, xf_0_9, xf_1_0, xf_1_1, xf_1_2, xf_1_3, xf_1_4, xf_2_0, xf_2_1, xf_2_2, xf_2_3, xf_2_4, xf_2_5, xf_2_6, xf_2_7, xf_3_0, xf_3_1, xf_3_2, xf_3_3, xf_3_4, xf_3_5, xf_3_6, xf_3_7, xf_4_0, xf_4_1, xf_4_2, xf_4_3, xf_4_4, xf_4_5, xf_4_6, xf_5_0, xf_5_1, xf_5_2, xf_5_3, xf_5_4, xf_5_5, xf_5_6, xf_5_7, xf_6_3, xf_7_3, xf_8_3, xf_9_3, xf_10_3, xf_11_3, xf_12_3, xf_13_3, xf_14_3, xf_15_3, xf_16_3]
    rw [show (40 : Int32) = nI 40 from rfl]
    try simp (disch := omega) only [nI_leI, nI_ltI, nI_eq, nI_pos, nI_1, nI_add, pk_mul, nIm, nIm', not_false_eq_true, not_true_eq_false, false_implies, true_implies, and_true, true_and, b2i_t, b2i_f]
    rw [show nI (40 + c) - nI 40 = nI c by rw [Nat.add_comm, ← nI_add, Int32.add_sub_cancel]]
    refine ⟨fun q => absurd q (by omega), fun _ => x_F (sX3_get row25 (by omega)) ?_⟩
    rw [hcl]
    try simp only [xi_iload, xi_aload, xi_lload, xi_istore, xi_astore, xi_lstore, xi_ic, xi_lc, xi_iinc, xi_iadd, xi_isub, xi_imul, xi_iand, xi_iushr, xi_ineg, xi_idiv, xi_irem, xi_ladd, xi_lmul, xi_lrem, xi_lcmp, xi_i2l, xi_l2i, xi_i2c, xi_dup, xi_dup2, xi_pop, xi_ifeq, xi_ifne, xi_iflt, xi_ifge, xi_ifgt, xi_ifle, xi_iceq, xi_icne, xi_iclt, xi_icge, xi_icgt, xi_icle, xi_iret, xi_zret, xi_lret, xi_vret, xi_getf, xi_putf, xi_ald, xi_ast, xi_alen, xi_callV, xi_callS, xpop, xroom, xl, xst, xok1, xok2, xnarrow, xwide, xone, xent, List.replicate, Option.isSome_some, Bool.and_self, Bool.true_and, Bool.and_true, List.length_cons, List.length_nil, Nat.reduceAdd, Nat.reduceLT, decide_true, Bool.not_false, Nat.beq, Nat.ble, Option.toList, List.nil_append, List.cons_append]
    unfold yGoS
    dsimp only
    rw [if_neg (by unfold cz; omega), show cz M c - 100 = 16 * yCO M c + yCN M c by unfold cz; omega]
    exact xF_self
theorem sX1_placeOf {r : Nat} (h : CI σ M) (w : WF M) (hd : CD σ M T A) (ha : CLay σ M T A P il L) (hP : P = yLaid M T A) (hr : r < nR M) (hA : A (yRS M r) = true) : XM G mX1_placeOf (d + 2) [.ref 3, .int (nI r)] σ (xF (some (.int (nI (yPlS M T A P il L r)))) σ) := by
  refine xm_of (by decide +kernel) rfl (Nat.le_of_ble_eq_true rfl) ?_
  refine bX1_placeOf_0 _ _ _ ?_
  have hw := w.2.2.2.2.2.2.1 r hr
  try simp only [xi_iload, xi_aload, xi_lload, xi_istore, xi_astore, xi_lstore, xi_ic, xi_lc, xi_iinc, xi_iadd, xi_isub, xi_imul, xi_iand, xi_iushr, xi_ineg, xi_idiv, xi_irem, xi_ladd, xi_lmul, xi_lrem, xi_lcmp, xi_i2l, xi_l2i, xi_i2c, xi_dup, xi_dup2, xi_pop, xi_ifeq, xi_ifne, xi_iflt, xi_ifge, xi_ifgt, xi_ifle, xi_iceq, xi_icne, xi_iclt, xi_icge, xi_icgt, xi_icle, xi_iret, xi_zret, xi_lret, xi_vret, xi_getf, xi_putf, xi_ald, xi_ast, xi_alen, xi_callV, xi_callS, xpop, xroom, xl, xst, xok1, xok2, xnarrow, xwide, xone, xent, List.replicate, Option.isSome_some, Bool.and_self, Bool.true_and, Bool.and_true, List.length_cons, List.length_nil, Nat.reduceAdd, Nat.reduceLT, decide_true, Bool.not_false, Nat.beq, Nat.ble, Option.toList, List.nil_append, List.cons_append, xf_0_0, xf_0_1, xf_0_2, xf_0_3, xf_0_4, xf_0_5, xf_0_6, xf_0_7, xf_0_8, xf_0_9, xf_1_0, xf_1_1, xf_1_2, xf_1_3, xf_1_4, xf_2_0, xf_2_1, xf_2_2, xf_2_3, xf_2_4, xf_2_5, xf_2_6, xf_2_7, xf_3_0, xf_3_1, xf_3_2, xf_3_3, xf_3_4, xf_3_5, xf_3_6, xf_3_7, xf_4_0, xf_4_1, xf_4_2, xf_4_3, xf_4_4, xf_4_5, xf_4_6, xf_5_0, xf_5_1, xf_5_2, xf_5_3, xf_5_4, xf_5_5, xf_5_6, xf_5_7, xf_6_3, xf_7_3, xf_8_3, xf_9_3, xf_10_3, xf_11_3, xf_12_3, xf_13_3, xf_14_3, xf_15_3, xf_16_3]
  refine x_F (sX0_sectionOf h w hr) ?_
  try simp only [xi_iload, xi_aload, xi_lload, xi_istore, xi_astore, xi_lstore, xi_ic, xi_lc, xi_iinc, xi_iadd, xi_isub, xi_imul, xi_iand, xi_iushr, xi_ineg, xi_idiv, xi_irem, xi_ladd, xi_lmul, xi_lrem, xi_lcmp, xi_i2l, xi_l2i, xi_i2c, xi_dup, xi_dup2, xi_pop, xi_ifeq, xi_ifne, xi_iflt, xi_ifge, xi_ifgt, xi_ifle, xi_iceq, xi_icne, xi_iclt, xi_icge, xi_icgt, xi_icle, xi_iret, xi_zret, xi_lret, xi_vret, xi_getf, xi_putf, xi_ald, xi_ast, xi_alen, xi_callV, xi_callS, xpop, xroom, xl, xst, xok1, xok2, xnarrow, xwide, xone, xent, List.replicate, Option.isSome_some, Bool.and_self, Bool.true_and, Bool.and_true, List.length_cons, List.length_nil, Nat.reduceAdd, Nat.reduceLT, decide_true, Bool.not_false, Nat.beq, Nat.ble, Option.toList, List.nil_append, List.cons_append, xf_0_0, xf_0_1, xf_0_2, xf_0_3, xf_0_4, xf_0_5, xf_0_6, xf_0_7, xf_0_8, xf_0_9, xf_1_0, xf_1_1, xf_1_2, xf_1_3, xf_1_4, xf_2_0, xf_2_1, xf_2_2, xf_2_3, xf_2_4, xf_2_5, xf_2_6, xf_2_7, xf_3_0, xf_3_1, xf_3_2, xf_3_3, xf_3_4, xf_3_5, xf_3_6, xf_3_7, xf_4_0, xf_4_1, xf_4_2, xf_4_3, xf_4_4, xf_4_5, xf_4_6, xf_5_0, xf_5_1, xf_5_2, xf_5_3, xf_5_4, xf_5_5, xf_5_6, xf_5_7, xf_6_3, xf_7_3, xf_8_3, xf_9_3, xf_10_3, xf_11_3, xf_12_3, xf_13_3, xf_14_3, xf_15_3, xf_16_3]
  refine x_F (sX1_startOf w hd ha hP hw.1 hA) ?_
  try simp only [xi_iload, xi_aload, xi_lload, xi_istore, xi_astore, xi_lstore, xi_ic, xi_lc, xi_iinc, xi_iadd, xi_isub, xi_imul, xi_iand, xi_iushr, xi_ineg, xi_idiv, xi_irem, xi_ladd, xi_lmul, xi_lrem, xi_lcmp, xi_i2l, xi_l2i, xi_i2c, xi_dup, xi_dup2, xi_pop, xi_ifeq, xi_ifne, xi_iflt, xi_ifge, xi_ifgt, xi_ifle, xi_iceq, xi_icne, xi_iclt, xi_icge, xi_icgt, xi_icle, xi_iret, xi_zret, xi_lret, xi_vret, xi_getf, xi_putf, xi_ald, xi_ast, xi_alen, xi_callV, xi_callS, xpop, xroom, xl, xst, xok1, xok2, xnarrow, xwide, xone, xent, List.replicate, Option.isSome_some, Bool.and_self, Bool.true_and, Bool.and_true, List.length_cons, List.length_nil, Nat.reduceAdd, Nat.reduceLT, decide_true, Bool.not_false, Nat.beq, Nat.ble, Option.toList, List.nil_append, List.cons_append, xf_0_0, xf_0_1, xf_0_2, xf_0_3, xf_0_4, xf_0_5, xf_0_6, xf_0_7, xf_0_8, xf_0_9, xf_1_0, xf_1_1, xf_1_2, xf_1_3, xf_1_4, xf_2_0, xf_2_1, xf_2_2, xf_2_3, xf_2_4, xf_2_5, xf_2_6, xf_2_7, xf_3_0, xf_3_1, xf_3_2, xf_3_3, xf_3_4, xf_3_5, xf_3_6, xf_3_7, xf_4_0, xf_4_1, xf_4_2, xf_4_3, xf_4_4, xf_4_5, xf_4_6, xf_5_0, xf_5_1, xf_5_2, xf_5_3, xf_5_4, xf_5_5, xf_5_6, xf_5_7, xf_6_3, xf_7_3, xf_8_3, xf_9_3, xf_10_3, xf_11_3, xf_12_3, xf_13_3, xf_14_3, xf_15_3, xf_16_3]
  refine x_F (sX0_offsetOf h w hr) ?_
  try simp only [xi_iload, xi_aload, xi_lload, xi_istore, xi_astore, xi_lstore, xi_ic, xi_lc, xi_iinc, xi_iadd, xi_isub, xi_imul, xi_iand, xi_iushr, xi_ineg, xi_idiv, xi_irem, xi_ladd, xi_lmul, xi_lrem, xi_lcmp, xi_i2l, xi_l2i, xi_i2c, xi_dup, xi_dup2, xi_pop, xi_ifeq, xi_ifne, xi_iflt, xi_ifge, xi_ifgt, xi_ifle, xi_iceq, xi_icne, xi_iclt, xi_icge, xi_icgt, xi_icle, xi_iret, xi_zret, xi_lret, xi_vret, xi_getf, xi_putf, xi_ald, xi_ast, xi_alen, xi_callV, xi_callS, xpop, xroom, xl, xst, xok1, xok2, xnarrow, xwide, xone, xent, List.replicate, Option.isSome_some, Bool.and_self, Bool.true_and, Bool.and_true, List.length_cons, List.length_nil, Nat.reduceAdd, Nat.reduceLT, decide_true, Bool.not_false, Nat.beq, Nat.ble, Option.toList, List.nil_append, List.cons_append, xf_0_0, xf_0_1, xf_0_2, xf_0_3, xf_0_4, xf_0_5, xf_0_6, xf_0_7, xf_0_8, xf_0_9, xf_1_0, xf_1_1, xf_1_2, xf_1_3, xf_1_4, xf_2_0, xf_2_1, xf_2_2, xf_2_3, xf_2_4, xf_2_5, xf_2_6, xf_2_7, xf_3_0, xf_3_1, xf_3_2, xf_3_3, xf_3_4, xf_3_5, xf_3_6, xf_3_7, xf_4_0, xf_4_1, xf_4_2, xf_4_3, xf_4_4, xf_4_5, xf_4_6, xf_5_0, xf_5_1, xf_5_2, xf_5_3, xf_5_4, xf_5_5, xf_5_6, xf_5_7, xf_6_3, xf_7_3, xf_8_3, xf_9_3, xf_10_3, xf_11_3, xf_12_3, xf_13_3, xf_14_3, xf_15_3, xf_16_3, nI_add]
  exact xF_self
/-- the island of a reference -/
def yIsl (il : Nat → Nat) (L r : Nat) : Option Nat := firstB (fun k => il k == r) L
theorem sX1_islandFor {r : Nat} (w : WF M) (hil : ILok M il L) (hi : CIs σ il L) (hr : r < 2 ^ 31) : XM G mX1_islandFor (d + 1) [.ref 3, .int (nI r)] σ (xF (some (.int (oI (yIsl il L r)))) σ) := by
  refine xm_of (by decide +kernel) rfl (Nat.le_of_ble_eq_true rfl) ?_
  refine bX1_islandFor_0 _ _ _ ?_
  have hL := hil.1
  have hb := w.1.2.2.2.2
  have hc := hi.1
  try simp only [xi_iload, xi_aload, xi_lload, xi_istore, xi_astore, xi_lstore, xi_ic, xi_lc, xi_iinc, xi_iadd, xi_isub, xi_imul, xi_iand, xi_iushr, xi_ineg, xi_idiv, xi_irem, xi_ladd, xi_lmul, xi_lrem, xi_lcmp, xi_i2l, xi_l2i, xi_i2c, xi_dup, xi_dup2, xi_pop, xi_ifeq, xi_ifne, xi_iflt, xi_ifge, xi_ifgt, xi_ifle, xi_iceq, xi_icne, xi_iclt, xi_icge, xi_icgt, xi_icle, xi_iret, xi_zret, xi_lret, xi_vret, xi_getf, xi_putf, xi_ald, xi_ast, xi_alen, xi_callV, xi_callS, xpop, xroom, xl, xst, xok1, xok2, xnarrow, xwide, xone, xent, List.replicate, Option.isSome_some, Bool.and_self, Bool.true_and, Bool.and_true, List.length_cons, List.length_nil, Nat.reduceAdd, Nat.reduceLT, decide_true, Bool.not_false, Nat.beq, Nat.ble, Option.toList, List.nil_append, List.cons_append]
  unfold yIsl
  generalize hQ : (fun k => il k == r) = Q
  have key : ∀ j, j ≤ L → (∀ i, i < j → Q i = false) → AX1_islandFor G (d + 1) (xF (some (.int (oI (firstB Q L)))) σ) 2 [some (.ref 3), some (.int (nI r)), some (.int (nI j))] [] σ := by
    refine loop_up (fun j hj ih h1 => ?_) (fun h1 => ?_)
    · refine bX1_islandFor_2 _ _ _ ?_
      have hr2 := hil.2 j hj
      try simp only [xi_iload, xi_aload, xi_lload, xi_istore, xi_astore, xi_lstore, xi_ic, xi_lc, xi_iinc, xi_iadd, xi_isub, xi_imul, xi_iand, xi_iushr, xi_ineg, xi_idiv, xi_irem, xi_ladd, xi_lmul, xi_lrem, xi_lcmp, xi_i2l, xi_l2i, xi_i2c, xi_dup, xi_dup2, xi_pop, xi_ifeq, xi_ifne, xi_iflt, xi_ifge, xi_ifgt, xi_ifle, xi_iceq, xi_icne, xi_iclt, xi_icge, xi_icgt, xi_icle, xi_iret, xi_zret, xi_lret, xi_vret, xi_getf, xi_putf, xi_ald, xi_ast, xi_alen, xi_callV, xi_callS, xpop, xroom, xl, xst, xok1, xok2, xnarrow, xwide, xone, xent, List.replicate, Option.isSome_some, Bool.and_self, Bool.true_and, Bool.and_true, List.length_cons, List.length_nil, Nat.reduceAdd, Nat.reduceLT, decide_true, Bool.not_false, Nat.beq, Nat.ble, Option.toList, List.nil_append, List.cons_append, xf_0_0, xf_0_1, xf_0_2, xf_0_3, xf_0_4, xf_0_5, xf_0_6, xf_0_7, xf_0_8, xf_0_9, xf_1_0, xf_1_1, xf_1_2, xf_1_3, xf_1_4, xf_2_0, xf_2_1, xf_2_2, xf_2_3, xf_2_4, xf_2_5, xf_2_6, xf_2_7, xf_3_0, xf_3_1, xf_3_2, xf_3_3, xf_3_4, xf_3_5, xf_3_6, xf_3_7, xf_4_0, xf_4_1, xf_4_2, xf_4_3, xf_4_4, xf_4_5, xf_4_6, xf_5_0, xf_5_1, xf_5_2, xf_5_3, xf_5_4, xf_5_5, xf_5_6, xf_5_7, xf_6_3, xf_7_3, xf_8_3, xf_9_3, xf_10_3, xf_11_3, xf_12_3, xf_13_3, xf_14_3, xf_15_3, xf_16_3, hc, nI_1]
      refine ⟨fun q => absurd q (nI_ge hj (by omega)), fun _ => x_F (sX6_get (i := j) (c := 0) tab11 (by omega) (by decide)) ?_⟩
      rw [hi.2 j hj]
      try simp only [xi_iload, xi_aload, xi_lload, xi_istore, xi_astore, xi_lstore, xi_ic, xi_lc, xi_iinc, xi_iadd, xi_isub, xi_imul, xi_iand, xi_iushr, xi_ineg, xi_idiv, xi_irem, xi_ladd, xi_lmul, xi_lrem, xi_lcmp, xi_i2l, xi_l2i, xi_i2c, xi_dup, xi_dup2, xi_pop, xi_ifeq, xi_ifne, xi_iflt, xi_ifge, xi_ifgt, xi_ifle, xi_iceq, xi_icne, xi_iclt, xi_icge, xi_icgt, xi_icle, xi_iret, xi_zret, xi_lret, xi_vret, xi_getf, xi_putf, xi_ald, xi_ast, xi_alen, xi_callV, xi_callS, xpop, xroom, xl, xst, xok1, xok2, xnarrow, xwide, xone, xent, List.replicate, Option.isSome_some, Bool.and_self, Bool.true_and, Bool.and_true, List.length_cons, List.length_nil, Nat.reduceAdd, Nat.reduceLT, decide_true, Bool.not_false, Nat.beq, Nat.ble, Option.toList, List.nil_append, List.cons_append, xf_0_0, xf_0_1, xf_0_2, xf_0_3, xf_0_4, xf_0_5, xf_0_6, xf_0_7, xf_0_8, xf_0_9, xf_1_0, xf_1_1, xf_1_2, xf_1_3, xf_1_4, xf_2_0, xf_2_1, xf_2_2, xf_2_3, xf_2_4, xf_2_5, xf_2_6, xf_2_7, xf_3_0, xf_3_1, xf_3_2, xf_3_3, xf_3_4, xf_3_5, xf_3_6, xf_3_7, xf_4_0, xf_4_1, xf_4_2, xf_4_3, xf_4_4, xf_4_5, xf_4_6, xf_5_0, xf_5_1, xf_5_2, xf_5_3, xf_5_4, xf_5_5, xf_5_6, xf_5_7, xf_6_3, xf_7_3, xf_8_3, xf_9_3, xf_10_3, xf_11_3, xf_12_3, xf_13_3, xf_14_3, xf_15_3, xf_16_3, nI_1]
      try simp (disch := omega) only [nI_leI, nI_ltI, nI_eq, nI_pos, nI_1, nI_add, pk_mul, nIm, nIm', not_false_eq_true, not_true_eq_false, false_implies, true_implies, and_true, true_and, b2i_t, b2i_f]
      refine ⟨fun q => ih (fun i hi => ?_), fun q => ?_⟩
      · by_cases hij : i = j
        · rw [hij, ← hQ]; simpa using q
        · exact h1 i (by omega)
      · rw [firstB_at (p := Q) h1 (by rw [← hQ]; simpa using q) hj]
        exact xF_self
    · refine bX1_islandFor_2 _ _ _ ?_
      try simp only [xi_iload, xi_aload, xi_lload, xi_istore, xi_astore, xi_lstore, xi_ic, xi_lc, xi_iinc, xi_iadd, xi_isub, xi_imul, xi_iand, xi_iushr, xi_ineg, xi_idiv, xi_irem, xi_ladd, xi_lmul, xi_lrem, xi_lcmp, xi_i2l, xi_l2i, xi_i2c, xi_dup, xi_dup2, xi_pop, xi_ifeq, xi_ifne, xi_iflt, xi_ifge, xi_ifgt, xi_ifle, xi_iceq, xi_icne, xi_iclt, xi_icge, xi_icgt, xi_icle, xi_iret, xi_zret, xi_lret, xi_vret, xi_getf, xi_putf, xi_ald, xi_ast, xi_alen, xi_callV, xi_callS, xpop, xroom, xl, xst, xok1, xok2, xnarrow, xwide, xone, xent, List.replicate, Option.isSome_some, Bool.and_self, Bool.true_and, Bool.and_true, List.length_cons, List.length_nil, Nat.reduceAdd, Nat.reduceLT, decide_true, Bool.not_false, Nat.beq, Nat.ble, Option.toList, List.nil_append, List.cons_append, xf_0_0, xf_0_1, xf_0_2, xf_0_3, xf_0_4, xf_0_5, xf_0_6, xf_0_7, xf_0_8, xf_0_9, xf_1_0, xf_1_1, xf_1_2, xf_1_3, xf_1_4, xf_2_0, xf_2_1, xf_2_2, xf_2_3, xf_2_4, xf_2_5, xf_2_6, xf_2_7, xf_3_0, xf_3_1, xf_3_2, xf_3_3, xf_3_4, xf_3_5, xf_3_6, xf_3_7, xf_4_0, xf_4_1, xf_4_2, xf_4_3, xf_4_4, xf_4_5, xf_4_6, xf_5_0, xf_5_1, xf_5_2, xf_5_3, xf_5_4, xf_5_5, xf_5_6, xf_5_7, xf_6_3, xf_7_3, xf_8_3, xf_9_3, xf_10_3, xf_11_3, xf_12_3, xf_13_3, xf_14_3, xf_15_3, xf_16_3, hc]
      refine ⟨fun _ => ?_, fun q => absurd (nI_le (Nat.le_refl _) (by omega)) q⟩
      rw [firstB_no h1]
      exact xF_self
  exact x_forget (key 0 (by omega) (fun i hi => by omega)) (by simp [xle, nI_0])
theorem yIsA_le (w : WF M) (hil : ILok M il L) {k : Nat} (hk : k < L) : yIsA M P il L k < 8000 := by
  have hw := w.2.2.2.2.2.2.1 _ (hil.2 k hk)
  have h1 := yAdr_le w (P := P) (il := il) hil.1 hw.1
  have h2 := (w.2.2.1 _ hw.1).2.2.1
  have h3 : nIs M il (yRS M (il k)) k ≤ k := yCount_le
  have h4 := hil.1
  unfold yIsA
  omega
theorem sX1_islandAt {x : Int32} (w : WF M) (hil : ILok M il L) (hi : CIs σ il L) (ha : CLay σ M T A P il L) (hlp : ∀ k, k < L → P (yRS M (il k)) = true) : XM G mX1_islandAt (d + 1) [.ref 3, .int x] σ (xF (some (.int (oI (firstB (fun k => decide (nI (yIsA M P il L k) = x)) L)))) σ) := by
  refine xm_of (by decide +kernel) rfl (Nat.le_of_ble_eq_true rfl) ?_
  refine bX1_islandAt_0 _ _ _ ?_
  have hL := hil.1
  have hc := hi.1
  try simp only [xi_iload, xi_aload, xi_lload, xi_istore, xi_astore, xi_lstore, xi_ic, xi_lc, xi_iinc, xi_iadd, xi_isub, xi_imul, xi_iand, xi_iushr, xi_ineg, xi_idiv, xi_irem, xi_ladd, xi_lmul, xi_lrem, xi_lcmp, xi_i2l, xi_l2i, xi_i2c, xi_dup, xi_dup2, xi_pop, xi_ifeq, xi_ifne, xi_iflt, xi_ifge, xi_ifgt, xi_ifle, xi_iceq, xi_icne, xi_iclt, xi_icge, xi_icgt, xi_icle, xi_iret, xi_zret, xi_lret, xi_vret, xi_getf, xi_putf, xi_ald, xi_ast, xi_alen, xi_callV, xi_callS, xpop, xroom, xl, xst, xok1, xok2, xnarrow, xwide, xone, xent, List.replicate, Option.isSome_some, Bool.and_self, Bool.true_and, Bool.and_true, List.length_cons, List.length_nil, Nat.reduceAdd, Nat.reduceLT, decide_true, Bool.not_false, Nat.beq, Nat.ble, Option.toList, List.nil_append, List.cons_append]
  generalize hQ : (fun k => decide (nI (yIsA M P il L k) = x)) = Q
  have key : ∀ j, j ≤ L → (∀ i, i < j → Q i = false) → AX1_islandAt G (d + 1) (xF (some (.int (oI (firstB Q L)))) σ) 2 [some (.ref 3), some (.int x), some (.int (nI j))] [] σ := by
    refine loop_up (fun j hj ih h1 => ?_) (fun h1 => ?_)
    · refine bX1_islandAt_2 _ _ _ ?_
      try simp only [xi_iload, xi_aload, xi_lload, xi_istore, xi_astore, xi_lstore, xi_ic, xi_lc, xi_iinc, xi_iadd, xi_isub, xi_imul, xi_iand, xi_iushr, xi_ineg, xi_idiv, xi_irem, xi_ladd, xi_lmul, xi_lrem, xi_lcmp, xi_i2l, xi_l2i, xi_i2c, xi_dup, xi_dup2, xi_pop, xi_ifeq, xi_ifne, xi_iflt, xi_ifge, xi_ifgt, xi_ifle, xi_iceq, xi_icne, xi_iclt, xi_icge, xi_icgt, xi_icle, xi_iret, xi_zret, xi_lret, xi_vret, xi_getf, xi_putf, xi_ald, xi_ast, xi_alen, xi_callV, xi_callS, xpop, xroom, xl, xst, xok1, xok2, xnarrow, xwide, xone, xent, List.replicate, Option.isSome_some, Bool.and_self, Bool.true_and, Bool.and_true, List.length_cons, List.length_nil, Nat.reduceAdd, Nat.reduceLT, decide_true, Bool.not_false, Nat.beq, Nat.ble, Option.toList, List.nil_append, List.cons_append, xf_0_0, xf_0_1, xf_0_2, xf_0_3, xf_0_4, xf_0_5, xf_0_6, xf_0_7, xf_0_8, xf_0_9, xf_1_0, xf_1_1, xf_1_2, xf_1_3, xf_1_4, xf_2_0, xf_2_1, xf_2_2, xf_2_3, xf_2_4, xf_2_5, xf_2_6, xf_2_7, xf_3_0, xf_3_1, xf_3_2, xf_3_3, xf_3_4, xf_3_5, xf_3_6, xf_3_7, xf_4_0, xf_4_1, xf_4_2, xf_4_3, xf_4_4, xf_4_5, xf_4_6, xf_5_0, xf_5_1, xf_5_2, xf_5_3, xf_5_4, xf_5_5, xf_5_6, xf_5_7, xf_6_3, xf_7_3, xf_8_3, xf_9_3, xf_10_3, xf_11_3, xf_12_3, xf_13_3, xf_14_3, xf_15_3, xf_16_3, hc, nI_1]
      refine ⟨fun q => absurd q (nI_ge hj (by omega)), fun _ => x_F (sX6_get (i := j) (c := 1) tab11 (by omega) (by decide)) ?_⟩
      rw [ha.1.2 j hj (hlp j hj)]
      try simp only [xi_iload, xi_aload, xi_lload, xi_istore, xi_astore, xi_lstore, xi_ic, xi_lc, xi_iinc, xi_iadd, xi_isub, xi_imul, xi_iand, xi_iushr, xi_ineg, xi_idiv, xi_irem, xi_ladd, xi_lmul, xi_lrem, xi_lcmp, xi_i2l, xi_l2i, xi_i2c, xi_dup, xi_dup2, xi_pop, xi_ifeq, xi_ifne, xi_iflt, xi_ifge, xi_ifgt, xi_ifle, xi_iceq, xi_icne, xi_iclt, xi_icge, xi_icgt, xi_icle, xi_iret, xi_zret, xi_lret, xi_vret, xi_getf, xi_putf, xi_ald, xi_ast, xi_alen, xi_callV, xi_callS, xpop, xroom, xl, xst, xok1, xok2, xnarrow, xwide, xone, xent, List.replicate, Option.isSome_some, Bool.and_self, Bool.true_and, Bool.and_true, List.length_cons, List.length_nil, Nat.reduceAdd, Nat.reduceLT, decide_true, Bool.not_false, Nat.beq, Nat.ble, Option.toList, List.nil_append, List.cons_append, xf_0_0, xf_0_1, xf_0_2, xf_0_3, xf_0_4, xf_0_5, xf_0_6, xf_0_7, xf_0_8, xf_0_9, xf_1_0, xf_1_1, xf_1_2, xf_1_3, xf_1_4, xf_2_0, xf_2_1, xf_2_2, xf_2_3, xf_2_4, xf_2_5, xf_2_6, xf_2_7, xf_3_0, xf_3_1, xf_3_2, xf_3_3, xf_3_4, xf_3_5, xf_3_6, xf_3_7, xf_4_0, xf_4_1, xf_4_2, xf_4_3, xf_4_4, xf_4_5, xf_4_6, xf_5_0, xf_5_1, xf_5_2, xf_5_3, xf_5_4, xf_5_5, xf_5_6, xf_5_7, xf_6_3, xf_7_3, xf_8_3, xf_9_3, xf_10_3, xf_11_3, xf_12_3, xf_13_3, xf_14_3, xf_15_3, xf_16_3, nI_1]
      refine ⟨fun q => ih (fun i hi => ?_), fun q => ?_⟩
      · by_cases hij : i = j
        · rw [hij, ← hQ]; simpa using q
        · exact h1 i (by omega)
      · rw [firstB_at (p := Q) h1 (by rw [← hQ]; simpa using q) hj]
        exact xF_self
    · refine bX1_islandAt_2 _ _ _ ?_
      try simp only [xi_iload, xi_aload, xi_lload, xi_istore, xi_astore, xi_lstore, xi_ic, xi_lc, xi_iinc, xi_iadd, xi_isub, xi_imul, xi_iand, xi_iushr, xi_ineg, xi_idiv, xi_irem, xi_ladd, xi_lmul, xi_lrem, xi_lcmp, xi_i2l, xi_l2i, xi_i2c, xi_dup, xi_dup2, xi_pop, xi_ifeq, xi_ifne, xi_iflt, xi_ifge, xi_ifgt, xi_ifle, xi_iceq, xi_icne, xi_iclt, xi_icge, xi_icgt, xi_icle, xi_iret, xi_zret, xi_lret, xi_vret, xi_getf, xi_putf, xi_ald, xi_ast, xi_alen, xi_callV, xi_callS, xpop, xroom, xl, xst, xok1, xok2, xnarrow, xwide, xone, xent, List.replicate, Option.isSome_some, Bool.and_self, Bool.true_and, Bool.and_true, List.length_cons, List.length_nil, Nat.reduceAdd, Nat.reduceLT, decide_true, Bool.not_false, Nat.beq, Nat.ble, Option.toList, List.nil_append, List.cons_append, xf_0_0, xf_0_1, xf_0_2, xf_0_3, xf_0_4, xf_0_5, xf_0_6, xf_0_7, xf_0_8, xf_0_9, xf_1_0, xf_1_1, xf_1_2, xf_1_3, xf_1_4, xf_2_0, xf_2_1, xf_2_2, xf_2_3, xf_2_4, xf_2_5, xf_2_6, xf_2_7, xf_3_0, xf_3_1, xf_3_2, xf_3_3, xf_3_4, xf_3_5, xf_3_6, xf_3_7, xf_4_0, xf_4_1, xf_4_2, xf_4_3, xf_4_4, xf_4_5, xf_4_6, xf_5_0, xf_5_1, xf_5_2, xf_5_3, xf_5_4, xf_5_5, xf_5_6, xf_5_7, xf_6_3, xf_7_3, xf_8_3, xf_9_3, xf_10_3, xf_11_3, xf_12_3, xf_13_3, xf_14_3, xf_15_3, xf_16_3, hc]
      refine ⟨fun _ => ?_, fun q => absurd (nI_le (Nat.le_refl _) (by omega)) q⟩
      rw [firstB_no h1]
      exact xF_self
  exact x_forget (key 0 (by omega) (fun i hi => by omega)) (by simp [xle, nI_0])
/-- a call that does not reach and has no island -/
def yFarB (M : YM) (T A P : Nat → Bool) (il : Nat → Nat) (L reach r : Nat) : Bool := yRK M r == 99 && ((yIsl il L r).isNone && decide (yPlS M T A P il L r + reach < yGoS M T A P il L (yGoal M T r) ∨ yGoS M T A P il L (yGoal M T r) + reach < yPlS M T A P il L r))
theorem yIsl_lt {r k : Nat} (h : yIsl il L r = some k) : k < L ∧ il k = r ∧ ∀ i, i < k → il i ≠ r := by
  obtain ⟨h1, h2, h3⟩ := firstB_some h
  exact ⟨h1, by simpa using h2, fun i hi => by simpa using h3 i hi⟩
theorem sX1_isUnreached {r reach : Nat} (h : CI σ M) (w : WF M) (hG : CG σ M T) (hd : CD σ M T A) (ha : CLay σ M T A P il L) (hP : P = yLaid M T A) (hil : ILok M il L) (hi : CIs σ il L) (hr : r < nR M) (hA : A (yRS M r) = true) (hgl : gLv M A (yGoal M T r) = true) (hre : reach ≤ 999) : XM G mX1_isUnreached (d + 3) [.ref 3, .int (nI r), .int (nI reach)] σ (xF (some (.int (b2i (yFarB M T A P il L reach r)))) σ) := by
  refine xm_of (by decide +kernel) rfl (Nat.le_of_ble_eq_true rfl) ?_
  refine bX1_isUnreached_a _ _ _ ?_
  have hL := hil.1
  have hb := w.1.2.2.2.2
  have hg8 := yGoS_le w (T := T) (A := A) (P := P) (il := il) hL (yGoal_ok (T := T) w hr)
  have hp8 := yPlS_le w (T := T) (A := A) (P := P) (il := il) hL hr
  try simp only [xi_iload, xi_aload, xi_lload, xi_istore, xi_astore, xi_lstore, xi_ic, xi_lc, xi_iinc, xi_iadd, xi_isub, xi_imul, xi_iand, xi_iushr, xi_ineg, xi_idiv, xi_irem, xi_ladd, xi_lmul, xi_lrem, xi_lcmp, xi_i2l, xi_l2i, xi_i2c, xi_dup, xi_dup2, xi_pop, xi_ifeq, xi_ifne, xi_iflt, xi_ifge, xi_ifgt, xi_ifle, xi_iceq, xi_icne, xi_iclt, xi_icge, xi_icgt, xi_icle, xi_iret, xi_zret, xi_lret, xi_vret, xi_getf, xi_putf, xi_ald, xi_ast, xi_alen, xi_callV, xi_callS, xpop, xroom, xl, xst, xok1, xok2, xnarrow, xwide, xone, xent, List.replicate, Option.isSome_some, Bool.and_self, Bool.true_and, Bool.and_true, List.length_cons, List.length_nil, Nat.reduceAdd, Nat.reduceLT, decide_true, Bool.not_false, Nat.beq, Nat.ble, Option.toList, List.nil_append, List.cons_append, xf_0_0, xf_0_1, xf_0_2, xf_0_3, xf_0_4, xf_0_5, xf_0_6, xf_0_7, xf_0_8, xf_0_9, xf_1_0, xf_1_1, xf_1_2, xf_1_3, xf_1_4, xf_2_0, xf_2_1, xf_2_2, xf_2_3, xf_2_4, xf_2_5, xf_2_6, xf_2_7, xf_3_0, xf_3_1, xf_3_2, xf_3_3, xf_3_4, xf_3_5, xf_3_6, xf_3_7, xf_4_0, xf_4_1, xf_4_2, xf_4_3, xf_4_4, xf_4_5, xf_4_6, xf_5_0, xf_5_1, xf_5_2, xf_5_3, xf_5_4, xf_5_5, xf_5_6, xf_5_7, xf_6_3, xf_7_3, xf_8_3, xf_9_3, xf_10_3, xf_11_3, xf_12_3, xf_13_3, xf_14_3, xf_15_3, xf_16_3]
  refine x_F (sX0_isCall h w hr) ?_
  try simp only [xi_iload, xi_aload, xi_lload, xi_istore, xi_astore, xi_lstore, xi_ic, xi_lc, xi_iinc, xi_iadd, xi_isub, xi_imul, xi_iand, xi_iushr, xi_ineg, xi_idiv, xi_irem, xi_ladd, xi_lmul, xi_lrem, xi_lcmp, xi_i2l, xi_l2i, xi_i2c, xi_dup, xi_dup2, xi_pop, xi_ifeq, xi_ifne, xi_iflt, xi_ifge, xi_ifgt, xi_ifle, xi_iceq, xi_icne, xi_iclt, xi_icge, xi_icgt, xi_icle, xi_iret, xi_zret, xi_lret, xi_vret, xi_getf, xi_putf, xi_ald, xi_ast, xi_alen, xi_callV, xi_callS, xpop, xroom, xl, xst, xok1, xok2, xnarrow, xwide, xone, xent, List.replicate, Option.isSome_some, Bool.and_self, Bool.true_and, Bool.and_true, List.length_cons, List.length_nil, Nat.reduceAdd, Nat.reduceLT, decide_true, Bool.not_false, Nat.beq, Nat.ble, Option.toList, List.nil_append, List.cons_append, xf_0_0, xf_0_1, xf_0_2, xf_0_3, xf_0_4, xf_0_5, xf_0_6, xf_0_7, xf_0_8, xf_0_9, xf_1_0, xf_1_1, xf_1_2, xf_1_3, xf_1_4, xf_2_0, xf_2_1, xf_2_2, xf_2_3, xf_2_4, xf_2_5, xf_2_6, xf_2_7, xf_3_0, xf_3_1, xf_3_2, xf_3_3, xf_3_4, xf_3_5, xf_3_6, xf_3_7, xf_4_0, xf_4_1, xf_4_2, xf_4_3, xf_4_4, xf_4_5, xf_4_6, xf_5_0, xf_5_1, xf_5_2, xf_5_3, xf_5_4, xf_5_5, xf_5_6, xf_5_7, xf_6_3, xf_7_3, xf_8_3, xf_9_3, xf_10_3, xf_11_3, xf_12_3, xf_13_3, xf_14_3, xf_15_3, xf_16_3]
  rw [b2i_ne]
  unfold yFarB
  refine ⟨fun q => ⟨by decide +kernel, ?_⟩, fun q => x_F (sX1_islandFor w hil hi (by omega)) ?_⟩
  · rw [q, Bool.false_and]; exact xF_self
  rw [show (yRK M r == 99) = true from by simpa using q, Bool.true_and]
  try simp only [xi_iload, xi_aload, xi_lload, xi_istore, xi_astore, xi_lstore, xi_ic, xi_lc, xi_iinc, xi_iadd, xi_isub, xi_imul, xi_iand, xi_iushr, xi_ineg, xi_idiv, xi_irem, xi_ladd, xi_lmul, xi_lrem, xi_lcmp, xi_i2l, xi_l2i, xi_i2c, xi_dup, xi_dup2, xi_pop, xi_ifeq, xi_ifne, xi_iflt, xi_ifge, xi_ifgt, xi_ifle, xi_iceq, xi_icne, xi_iclt, xi_icge, xi_icgt, xi_icle, xi_iret, xi_zret, xi_lret, xi_vret, xi_getf, xi_putf, xi_ald, xi_ast, xi_alen, xi_callV, xi_callS, xpop, xroom, xl, xst, xok1, xok2, xnarrow, xwide, xone, xent, List.replicate, Option.isSome_some, Bool.and_self, Bool.true_and, Bool.and_true, List.length_cons, List.length_nil, Nat.reduceAdd, Nat.reduceLT, decide_true, Bool.not_false, Nat.beq, Nat.ble, Option.toList, List.nil_append, List.cons_append, xf_0_0, xf_0_1, xf_0_2, xf_0_3, xf_0_4, xf_0_5, xf_0_6, xf_0_7, xf_0_8, xf_0_9, xf_1_0, xf_1_1, xf_1_2, xf_1_3, xf_1_4, xf_2_0, xf_2_1, xf_2_2, xf_2_3, xf_2_4, xf_2_5, xf_2_6, xf_2_7, xf_3_0, xf_3_1, xf_3_2, xf_3_3, xf_3_4, xf_3_5, xf_3_6, xf_3_7, xf_4_0, xf_4_1, xf_4_2, xf_4_3, xf_4_4, xf_4_5, xf_4_6, xf_5_0, xf_5_1, xf_5_2, xf_5_3, xf_5_4, xf_5_5, xf_5_6, xf_5_7, xf_6_3, xf_7_3, xf_8_3, xf_9_3, xf_10_3, xf_11_3, xf_12_3, xf_13_3, xf_14_3, xf_15_3, xf_16_3]
  rw [oI_none (fun a ha => by have := (yIsl_lt ha).1; omega)]
  refine ⟨fun q2 => x_F (sX3_get row20 (by omega)) ?_, fun q2 => ⟨by decide +kernel, ?_⟩⟩
  · rw [q2, hG r hr]
    try simp only [xi_iload, xi_aload, xi_lload, xi_istore, xi_astore, xi_lstore, xi_ic, xi_lc, xi_iinc, xi_iadd, xi_isub, xi_imul, xi_iand, xi_iushr, xi_ineg, xi_idiv, xi_irem, xi_ladd, xi_lmul, xi_lrem, xi_lcmp, xi_i2l, xi_l2i, xi_i2c, xi_dup, xi_dup2, xi_pop, xi_ifeq, xi_ifne, xi_iflt, xi_ifge, xi_ifgt, xi_ifle, xi_iceq, xi_icne, xi_iclt, xi_icge, xi_icgt, xi_icle, xi_iret, xi_zret, xi_lret, xi_vret, xi_getf, xi_putf, xi_ald, xi_ast, xi_alen, xi_callV, xi_callS, xpop, xroom, xl, xst, xok1, xok2, xnarrow, xwide, xone, xent, List.replicate, Option.isSome_some, Bool.and_self, Bool.true_and, Bool.and_true, List.length_cons, List.length_nil, Nat.reduceAdd, Nat.reduceLT, decide_true, Bool.not_false, Nat.beq, Nat.ble, Option.toList, List.nil_append, List.cons_append, xf_0_0, xf_0_1, xf_0_2, xf_0_3, xf_0_4, xf_0_5, xf_0_6, xf_0_7, xf_0_8, xf_0_9, xf_1_0, xf_1_1, xf_1_2, xf_1_3, xf_1_4, xf_2_0, xf_2_1, xf_2_2, xf_2_3, xf_2_4, xf_2_5, xf_2_6, xf_2_7, xf_3_0, xf_3_1, xf_3_2, xf_3_3, xf_3_4, xf_3_5, xf_3_6, xf_3_7, xf_4_0, xf_4_1, xf_4_2, xf_4_3, xf_4_4, xf_4_5, xf_4_6, xf_5_0, xf_5_1, xf_5_2, xf_5_3, xf_5_4, xf_5_5, xf_5_6, xf_5_7, xf_6_3, xf_7_3, xf_8_3, xf_9_3, xf_10_3, xf_11_3, xf_12_3, xf_13_3, xf_14_3, xf_15_3, xf_16_3]
    refine x_F (sX1_goalStart h w hd ha hP (yGoal_fit w hr) hgl) ?_
    try simp only [xi_iload, xi_aload, xi_lload, xi_istore, xi_astore, xi_lstore, xi_ic, xi_lc, xi_iinc, xi_iadd, xi_isub, xi_imul, xi_iand, xi_iushr, xi_ineg, xi_idiv, xi_irem, xi_ladd, xi_lmul, xi_lrem, xi_lcmp, xi_i2l, xi_l2i, xi_i2c, xi_dup, xi_dup2, xi_pop, xi_ifeq, xi_ifne, xi_iflt, xi_ifge, xi_ifgt, xi_ifle, xi_iceq, xi_icne, xi_iclt, xi_icge, xi_icgt, xi_icle, xi_iret, xi_zret, xi_lret, xi_vret, xi_getf, xi_putf, xi_ald, xi_ast, xi_alen, xi_callV, xi_callS, xpop, xroom, xl, xst, xok1, xok2, xnarrow, xwide, xone, xent, List.replicate, Option.isSome_some, Bool.and_self, Bool.true_and, Bool.and_true, List.length_cons, List.length_nil, Nat.reduceAdd, Nat.reduceLT, decide_true, Bool.not_false, Nat.beq, Nat.ble, Option.toList, List.nil_append, List.cons_append, xf_0_0, xf_0_1, xf_0_2, xf_0_3, xf_0_4, xf_0_5, xf_0_6, xf_0_7, xf_0_8, xf_0_9, xf_1_0, xf_1_1, xf_1_2, xf_1_3, xf_1_4, xf_2_0, xf_2_1, xf_2_2, xf_2_3, xf_2_4, xf_2_5, xf_2_6, xf_2_7, xf_3_0, xf_3_1, xf_3_2, xf_3_3, xf_3_4, xf_3_5, xf_3_6, xf_3_7, xf_4_0, xf_4_1, xf_4_2, xf_4_3, xf_4_4, xf_4_5, xf_4_6, xf_5_0, xf_5_1, xf_5_2, xf_5_3, xf_5_4, xf_5_5, xf_5_6, xf_5_7, xf_6_3, xf_7_3, xf_8_3, xf_9_3, xf_10_3, xf_11_3, xf_12_3, xf_13_3, xf_14_3, xf_15_3, xf_16_3]
    refine x_F (sX1_placeOf h w hd ha hP hr hA) ?_
    try simp only [xi_iload, xi_aload, xi_lload, xi_istore, xi_astore, xi_lstore, xi_ic, xi_lc, xi_iinc, xi_iadd, xi_isub, xi_imul, xi_iand, xi_iushr, xi_ineg, xi_idiv, xi_irem, xi_ladd, xi_lmul, xi_lrem, xi_lcmp, xi_i2l, xi_l2i, xi_i2c, xi_dup, xi_dup2, xi_pop, xi_ifeq, xi_ifne, xi_iflt, xi_ifge, xi_ifgt, xi_ifle, xi_iceq, xi_icne, xi_iclt, xi_icge, xi_icgt, xi_icle, xi_iret, xi_zret, xi_lret, xi_vret, xi_getf, xi_putf, xi_ald, xi_ast, xi_alen, xi_callV, xi_callS, xpop, xroom, xl, xst, xok1, xok2, xnarrow, xwide, xone, xent, List.replicate, Option.isSome_some, Bool.and_self, Bool.true_and, Bool.and_true, List.length_cons, List.length_nil, Nat.reduceAdd, Nat.reduceLT, decide_true, Bool.not_false, Nat.beq, Nat.ble, Option.toList, List.nil_append, List.cons_append, xf_0_0, xf_0_1, xf_0_2, xf_0_3, xf_0_4, xf_0_5, xf_0_6, xf_0_7, xf_0_8, xf_0_9, xf_1_0, xf_1_1, xf_1_2, xf_1_3, xf_1_4, xf_2_0, xf_2_1, xf_2_2, xf_2_3, xf_2_4, xf_2_5, xf_2_6, xf_2_7, xf_3_0, xf_3_1, xf_3_2, xf_3_3, xf_3_4, xf_3_5, xf_3_6, xf_3_7, xf_4_0, xf_4_1, xf_4_2, xf_4_3, xf_4_4, xf_4_5, xf_4_6, xf_5_0, xf_5_1, xf_5_2, xf_5_3, xf_5_4, xf_5_5, xf_5_6, xf_5_7, xf_6_3, xf_7_3, xf_8_3, xf_9_3, xf_10_3, xf_11_3, xf_12_3, xf_13_3, xf_14_3, xf_15_3, xf_16_3, xi_mabs]
    rw [abs_nI (by omega) (by omega)]
    refine ⟨trivial, ?_⟩
    have hbd : (if yPlS M T A P il L r ≤ yGoS M T A P il L (yGoal M T r) then yGoS M T A P il L (yGoal M T r) - yPlS M T A P il L r else yPlS M T A P il L r - yGoS M T A P il L (yGoal M T r)) < 2 ^ 31 := by split <;> omega
    rw [nI_leI hbd (by omega)]
    refine ⟨fun q3 => ⟨by decide +kernel, ?_⟩, fun q3 => ⟨by decide +kernel, ?_⟩⟩
    · rw [decide_eq_false (by split at q3 <;> omega)]; exact xF_self
    · rw [decide_eq_true (by split at q3 <;> omega)]; exact xF_self
  · rw [isN_f q2]; exact xF_self
end S31
