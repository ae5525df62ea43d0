/-! laying -/
section S29
variable {G : XG} {d : Nat} {σ : Sg} {M : YM} {T A : Nat → Bool}
def yLaid (M : YM) (T A : Nat → Bool) (s : Nat) : Bool := A s && (yFd M T A s).isNone
theorem yFd_lt {s t : Nat} (h : yFd M T A s = some t) : t < s ∧ yFo M T A s = true ∧ yFo M T A t = true ∧ yAlike M T s t = true ∧ ∀ i, i < t → (yFo M T A i && yAlike M T s i) = false := by
  unfold yFd at h
  split at h
  · next hf =>
    obtain ⟨h1, h2, h3⟩ := firstB_some h
    rw [Bool.and_eq_true] at h2
    exact ⟨h1, hf, h2.1, h2.2, h3⟩
  · cases h
theorem yStd_self {s : Nat} : yStd M T A s = some s ↔ yLaid M T A s = true := by
  unfold yStd yLaid
  cases hA : A s with
  | false => simp
  | true =>
    rw [if_pos rfl, Bool.true_and]
    cases hf : yFd M T A s with
    | none => simp
    | some t =>
      have := (yFd_lt hf).1
      simp
      omega
theorem yStd_lt {s a : Nat} (hs : s < nS M) (h : yStd M T A s = some a) : a < nS M := by
  unfold yStd at h
  split at h
  · cases hf : yFd M T A s with
    | none => rw [hf] at h; cases h; exact hs
    | some t =>
      have := (yFd_lt hf).1
      rw [hf] at h; cases h
      exact Nat.lt_trans this hs
  · cases h
theorem sX1_isLaid {s : Nat} (w : WF M) (hd : CD σ M T A) (hs : s < nS M) : XM G mX1_isLaid (d + 1) [.ref 3, .int (nI s)] σ (xF (some (.int (b2i (yLaid M T A s)))) σ) := by
  refine xm_of (by decide +kernel) rfl (Nat.le_of_ble_eq_true rfl) ?_
  refine bX1_isLaid_0 _ _ _ ?_
  have hb2 : nS M ≤ 24 := w.1.2.1
  try simp only [xi_iload, xi_aload, xi_lload, xi_istore, xi_astore, xi_lstore, xi_ic, xi_lc, xi_iinc, xi_iadd, xi_isub, xi_imul, xi_iand, xi_iushr, xi_ineg, xi_idiv, xi_irem, xi_ladd, xi_lmul, xi_lrem, xi_lcmp, xi_i2l, xi_l2i, xi_i2c, xi_dup, xi_dup2, xi_pop, xi_ifeq, xi_ifne, xi_iflt, xi_ifge, xi_ifgt, xi_ifle, xi_iceq, xi_icne, xi_iclt, xi_icge, xi_icgt, xi_icle, xi_iret, xi_zret, xi_lret, xi_vret, xi_getf, xi_putf, xi_ald, xi_ast, xi_alen, xi_callV, xi_callS, xpop, xroom, xl, xst, xok1, xok2, xnarrow, xwide, xone, xent, List.replicate, Option.isSome_some, Bool.and_self, Bool.true_and, Bool.and_true, List.length_cons, List.length_nil, Nat.reduceAdd, Nat.reduceLT, decide_true, Bool.not_false, Nat.beq, Nat.ble, Option.toList, List.nil_append, List.cons_append, xf_0_0, xf_0_1, xf_0_2, xf_0_3, xf_0_4, xf_0_5, xf_0_6, xf_0_7, xf_0_8, xf_0_9, xf_1_0, xf_1_1, xf_1_2, xf_1_3, xf_1_4, xf_2_0, xf_2_1, xf_2_2, xf_2_3, xf_2_4, xf_2_5, xf_2_6, xf_2_7, xf_3_0, xf_3_1, xf_3_2, xf_3_3, xf_3_4, xf_3_5, xf_3_6, xf_3_7, xf_4_0, xf_4_1, xf_4_2, xf_4_3, xf_4_4, xf_4_5, xf_4_6, xf_5_0, xf_5_1, xf_5_2, xf_5_3, xf_5_4, xf_5_5, xf_5_6, xf_5_7, xf_6_3, xf_7_3, xf_8_3, xf_9_3, xf_10_3, xf_11_3, xf_12_3, xf_13_3, xf_14_3, xf_15_3, xf_16_3]
  refine ⟨fun q => absurd q (nIm s (by omega)), fun _ => x_F (sX3_get row23 (by omega)) ?_⟩
  rw [hd s hs]
  try simp only [xi_iload, xi_aload, xi_lload, xi_istore, xi_astore, xi_lstore, xi_ic, xi_lc, xi_iinc, xi_iadd, xi_isub, xi_imul, xi_iand, xi_iushr, xi_ineg, xi_idiv, xi_irem, xi_ladd, xi_lmul, xi_lrem, xi_lcmp, xi_i2l, xi_l2i, xi_i2c, xi_dup, xi_dup2, xi_pop, xi_ifeq, xi_ifne, xi_iflt, xi_ifge, xi_ifgt, xi_ifle, xi_iceq, xi_icne, xi_iclt, xi_icge, xi_icgt, xi_icle, xi_iret, xi_zret, xi_lret, xi_vret, xi_getf, xi_putf, xi_ald, xi_ast, xi_alen, xi_callV, xi_callS, xpop, xroom, xl, xst, xok1, xok2, xnarrow, xwide, xone, xent, List.replicate, Option.isSome_some, Bool.and_self, Bool.true_and, Bool.and_true, List.length_cons, List.length_nil, Nat.reduceAdd, Nat.reduceLT, decide_true, Bool.not_false, Nat.beq, Nat.ble, Option.toList, List.nil_append, List.cons_append, xf_0_0, xf_0_1, xf_0_2, xf_0_3, xf_0_4, xf_0_5, xf_0_6, xf_0_7, xf_0_8, xf_0_9, xf_1_0, xf_1_1, xf_1_2, xf_1_3, xf_1_4, xf_2_0, xf_2_1, xf_2_2, xf_2_3, xf_2_4, xf_2_5, xf_2_6, xf_2_7, xf_3_0, xf_3_1, xf_3_2, xf_3_3, xf_3_4, xf_3_5, xf_3_6, xf_3_7, xf_4_0, xf_4_1, xf_4_2, xf_4_3, xf_4_4, xf_4_5, xf_4_6, xf_5_0, xf_5_1, xf_5_2, xf_5_3, xf_5_4, xf_5_5, xf_5_6, xf_5_7, xf_6_3, xf_7_3, xf_8_3, xf_9_3, xf_10_3, xf_11_3, xf_12_3, xf_13_3, xf_14_3, xf_15_3, xf_16_3]
  rw [oI_eq (by omega) (fun a ha => by have := yStd_lt hs ha; omega), yStd_self]
  refine ⟨fun q => ⟨by decide +kernel, ?_⟩, fun q => ⟨by decide +kernel, ?_⟩⟩
  · rw [show yLaid M T A s = false from by simpa using q]; exact xF_self
  · rw [q]; exact xF_self
/-- the next multiple -/
def yAl (a k : Nat) : Nat := (a + k - 1) / k * k
theorem yAl_ge {a k : Nat} (hk : 0 < k) : a ≤ yAl a k := by
  unfold yAl
  have h1 := Nat.div_add_mod (a + k - 1) k
  have h2 := Nat.mod_lt (a + k - 1) hk
  rw [Nat.mul_comm] at h1
  omega
theorem yAl_le {a k : Nat} : yAl a k ≤ a + k - 1 := Nat.div_mul_le_self _ _
theorem bv_al (x : BitVec 32) (i : Nat) : x &&& (BitVec.allOnes 32 <<< i) = (x >>> i) <<< i := by
  apply BitVec.eq_of_getLsbD_eq
  intro j hj
  simp only [BitVec.getLsbD_and, BitVec.getLsbD_shiftLeft, BitVec.getLsbD_allOnes, BitVec.getLsbD_ushiftRight, hj, decide_true, Bool.true_and]
  by_cases h : j < i
  · simp [h]
  · simp only [h, decide_false, Bool.not_false, Bool.true_and]
    rw [show i + (j - i) = j by omega]
    simp [show j - i < 32 by omega]
theorem nI_bv {a : Nat} : (nI a).toBitVec = BitVec.ofNat 32 a := rfl
theorem nI_al {x i : Nat} {m : Int32} (hx : x < 2 ^ 31) (hm : m.toBitVec = BitVec.allOnes 32 <<< i) : nI x &&& m = nI (x / 2 ^ i * 2 ^ i) := by
  apply Int32.toBitVec.inj
  show (nI x).toBitVec &&& m.toBitVec = _
  rw [hm, bv_al, nI_bv, nI_bv]
  apply BitVec.eq_of_toNat_eq
  have h1 : x / 2 ^ i * 2 ^ i ≤ x := Nat.div_mul_le_self _ _
  simp only [BitVec.toNat_shiftLeft, BitVec.toNat_ushiftRight, BitVec.toNat_ofNat, Nat.shiftRight_eq_div_pow, Nat.shiftLeft_eq]
  rw [Nat.mod_eq_of_lt (show x < 2 ^ 32 by omega)]
theorem sX1_alignedUp {a k : Nat} (ha : a < 2 ^ 20) (hk : k = 1 ∨ k = 2 ∨ k = 4 ∨ k = 8 ∨ k = 16) : XM G mX1_alignedUp d [.int (nI a), .int (nI k)] σ (xF (some (.int (nI (yAl a k)))) σ) := by
  refine xm_of (by decide +kernel) rfl (Nat.le_of_ble_eq_true rfl) ?_
  refine bX1_alignedUp_0 _ _ _ ?_
  try simp only [xi_iload, xi_aload, xi_lload, xi_istore, xi_astore, xi_lstore, xi_ic, xi_lc, xi_iinc, xi_iadd, xi_isub, xi_imul, xi_iand, xi_iushr, xi_ineg, xi_idiv, xi_irem, xi_ladd, xi_lmul, xi_lrem, xi_lcmp, xi_i2l, xi_l2i, xi_i2c, xi_dup, xi_dup2, xi_pop, xi_ifeq, xi_ifne, xi_iflt, xi_ifge, xi_ifgt, xi_ifle, xi_iceq, xi_icne, xi_iclt, xi_icge, xi_icgt, xi_icle, xi_iret, xi_zret, xi_lret, xi_vret, xi_getf, xi_putf, xi_ald, xi_ast, xi_alen, xi_callV, xi_callS, xpop, xroom, xl, xst, xok1, xok2, xnarrow, xwide, xone, xent, List.replicate, Option.isSome_some, Bool.and_self, Bool.true_and, Bool.and_true, List.length_cons, List.length_nil, Nat.reduceAdd, Nat.reduceLT, decide_true, Bool.not_false, Nat.beq, Nat.ble, Option.toList, List.nil_append, List.cons_append]
  have e : nI a + nI k - 1 = nI (a + k - 1) := by
    rw [nI_add, show a + k = (a + k - 1) + 1 by omega, nI_pred]
    rfl
  have key : (nI a + nI k - 1) &&& (-nI k) = nI (yAl a k) := by
    rw [e]
    unfold yAl
    rcases hk with rfl | rfl | rfl | rfl | rfl
    · exact nI_al (i := 0) (by omega) (by decide)
    · exact nI_al (i := 1) (by omega) (by decide)
    · exact nI_al (i := 2) (by omega) (by decide)
    · exact nI_al (i := 3) (by omega) (by decide)
    · exact nI_al (i := 4) (by omega) (by decide)
  rw [key]
  exact xF_self
/-- islands of a section among the first k -/
def nIs (M : YM) (il : Nat → Nat) (s k : Nat) : Nat := yCount (fun i => yRS M (il i) == s) k
def ySecAt (M : YM) (P : Nat → Bool) (il : Nat → Nat) (L : Nat) (cb : Bool) : Nat → Nat
  | 0 => if cb = true then 0 else 1000
  | j + 1 => if P j = true ∧ (ySC M j == 1) = cb then yAl (ySecAt M P il L cb j) (ySA M j) + ySZ M j + 2 * nIs M il j L else ySecAt M P il L cb j
def yAdr (M : YM) (P : Nat → Bool) (il : Nat → Nat) (L s : Nat) : Nat := yAl (ySecAt M P il L (ySC M s == 1) s) (ySA M s)
def yIsA (M : YM) (P : Nat → Bool) (il : Nat → Nat) (L k : Nat) : Nat := yAdr M P il L (yRS M (il k)) + ySZ M (yRS M (il k)) + 2 * nIs M il (yRS M (il k)) k
def ILok (M : YM) (il : Nat → Nat) (L : Nat) : Prop := L ≤ 40 ∧ ∀ k, k < L → il k < nR M
def CIs (σ : Sg) (il : Nat → Nat) (L : Nat) : Prop := σ 11 3 = nI L ∧ ∀ k, k < L → σ 36 (k * 2 + 0) = nI (il k)
theorem yAlg (w : WF M) {s : Nat} (hs : s < nS M) : 0 < ySA M s ∧ ySA M s ≤ 16 := by
  have := (w.2.2.1 s hs).2.2.2.1
  omega
theorem ySecAt_le (w : WF M) {P : Nat → Bool} {il : Nat → Nat} {L : Nat} {cb : Bool} (hL : L ≤ 40) : ∀ j, j ≤ nS M → ySecAt M P il L cb j ≤ 1000 + 160 * j := by
  intro j
  induction j with
  | zero => intro _; unfold ySecAt; split <;> omega
  | succ j ih =>
    intro hj
    have h1 := ih (by omega)
    unfold ySecAt
    split
    · have h2 := yAl_le (a := ySecAt M P il L cb j) (k := ySA M j)
      have h3 := yAlg w (s := j) (by omega)
      have h4 := (w.2.2.1 j (by omega)).2.2.1
      have h5 : nIs M il j L ≤ L := yCount_le
      omega
    · omega
theorem yAdr_le (w : WF M) {P : Nat → Bool} {il : Nat → Nat} {L s : Nat} (hL : L ≤ 40) (hs : s < nS M) : yAdr M P il L s ≤ 5000 := by
  have h1 := ySecAt_le w (P := P) (il := il) (cb := ySC M s == 1) hL s (by omega)
  have h2 := yAl_le (a := ySecAt M P il L (ySC M s == 1) s) (k := ySA M s)
  have h3 := yAlg w hs
  have h4 := w.1.2.1
  unfold yAdr
  omega
theorem sX1_layIslands {s a : Nat} {il : Nat → Nat} {L : Nat} (h : CI σ M) (w : WF M) (hil : ILok M il L) (hi : CIs σ il L) (hs : s < nS M) (ha : a < 2 ^ 20) : XM G mX1_layIslands (d + 2) [.ref 3, .int (nI s), .int (nI a)] σ (fun v τ => v = some (.int (nI (a + 2 * nIs M il s L))) ∧ xsame [36] σ τ ∧ CIs τ il L ∧ (∀ k, k < L → yRS M (il k) = s → τ 36 (k * 2 + 1) = nI (a + 2 * nIs M il s k)) ∧ ∀ k, yRS M (il k) ≠ s → τ 36 (k * 2 + 1) = σ 36 (k * 2 + 1)) := by
  refine xm_of (by decide +kernel) rfl (Nat.le_of_ble_eq_true rfl) ?_
  refine bX1_layIslands_0 _ _ _ ?_
  have hb2 : nS M ≤ 24 := w.1.2.1
  have hL := hil.1
  try simp only [xi_iload, xi_aload, xi_lload, xi_istore, xi_astore, xi_lstore, xi_ic, xi_lc, xi_iinc, xi_iadd, xi_isub, xi_imul, xi_iand, xi_iushr, xi_ineg, xi_idiv, xi_irem, xi_ladd, xi_lmul, xi_lrem, xi_lcmp, xi_i2l, xi_l2i, xi_i2c, xi_dup, xi_dup2, xi_pop, xi_ifeq, xi_ifne, xi_iflt, xi_ifge, xi_ifgt, xi_ifle, xi_iceq, xi_icne, xi_iclt, xi_icge, xi_icgt, xi_icle, xi_iret, xi_zret, xi_lret, xi_vret, xi_getf, xi_putf, xi_ald, xi_ast, xi_alen, xi_callV, xi_callS, xpop, xroom, xl, xst, xok1, xok2, xnarrow, xwide, xone, xent, List.replicate, Option.isSome_some, Bool.and_self, Bool.true_and, Bool.and_true, List.length_cons, List.length_nil, Nat.reduceAdd, Nat.reduceLT, decide_true, Bool.not_false, Nat.beq, Nat.ble, Option.toList, List.nil_append, List.cons_append]
  have key : ∀ j, j ≤ L → ∀ τ, xsame [36] σ τ → CIs τ il L → (∀ k, k < j → yRS M (il k) = s → τ 36 (k * 2 + 1) = nI (a + 2 * nIs M il s k)) → (∀ k, yRS M (il k) ≠ s → τ 36 (k * 2 + 1) = σ 36 (k * 2 + 1)) → AX1_layIslands G (d + 1 + 1) (fun v τ => v = some (.int (nI (a + 2 * nIs M il s L))) ∧ xsame [36] σ τ ∧ CIs τ il L ∧ (∀ k, k < L → yRS M (il k) = s → τ 36 (k * 2 + 1) = nI (a + 2 * nIs M il s k)) ∧ ∀ k, yRS M (il k) ≠ s → τ 36 (k * 2 + 1) = σ 36 (k * 2 + 1)) 5 [some (.ref 3), some (.int (nI s)), none, some (.int (nI (a + 2 * nIs M il s j))), some (.int (nI j))] [] τ := by
    refine loop_up (fun j hj ih τ hs hC h1 h2 => ?_) (fun τ hs hC h1 h2 => ?_)
    · refine bX1_layIslands_5 _ _ _ ?_
      have hI := h.same hs (by decide)
      have hc := hC.1
      have hr := hil.2 j hj
      have hw := w.2.2.2.2.2.2.1 _ hr
      have hw1 := hw.1
      have hnc : nIs M il s j ≤ j := yCount_le
      try simp only [xi_iload, xi_aload, xi_lload, xi_istore, xi_astore, xi_lstore, xi_ic, xi_lc, xi_iinc, xi_iadd, xi_isub, xi_imul, xi_iand, xi_iushr, xi_ineg, xi_idiv, xi_irem, xi_ladd, xi_lmul, xi_lrem, xi_lcmp, xi_i2l, xi_l2i, xi_i2c, xi_dup, xi_dup2, xi_pop, xi_ifeq, xi_ifne, xi_iflt, xi_ifge, xi_ifgt, xi_ifle, xi_iceq, xi_icne, xi_iclt, xi_icge, xi_icgt, xi_icle, xi_iret, xi_zret, xi_lret, xi_vret, xi_getf, xi_putf, xi_ald, xi_ast, xi_alen, xi_callV, xi_callS, xpop, xroom, xl, xst, xok1, xok2, xnarrow, xwide, xone, xent, List.replicate, Option.isSome_some, Bool.and_self, Bool.true_and, Bool.and_true, List.length_cons, List.length_nil, Nat.reduceAdd, Nat.reduceLT, decide_true, Bool.not_false, Nat.beq, Nat.ble, Option.toList, List.nil_append, List.cons_append, xf_0_0, xf_0_1, xf_0_2, xf_0_3, xf_0_4, xf_0_5, xf_0_6, xf_0_7, xf_0_8, xf_0_9, xf_1_0, xf_1_1, xf_1_2, xf_1_3, xf_1_4, xf_2_0, xf_2_1, xf_2_2, xf_2_3, xf_2_4, xf_2_5, xf_2_6, xf_2_7, xf_3_0, xf_3_1, xf_3_2, xf_3_3, xf_3_4, xf_3_5, xf_3_6, xf_3_7, xf_4_0, xf_4_1, xf_4_2, xf_4_3, xf_4_4, xf_4_5, xf_4_6, xf_5_0, xf_5_1, xf_5_2, xf_5_3, xf_5_4, xf_5_5, xf_5_6, xf_5_7, xf_6_3, xf_7_3, xf_8_3, xf_9_3, xf_10_3, xf_11_3, xf_12_3, xf_13_3, xf_14_3, xf_15_3, xf_16_3, hc]
      refine ⟨fun q => absurd q (nI_ge hj (by omega)), fun _ => x_F (sX6_get (i := j) (c := 0) tab11 (by omega) (by decide)) ?_⟩
      rw [hC.2 j hj]
      try simp only [xi_iload, xi_aload, xi_lload, xi_istore, xi_astore, xi_lstore, xi_ic, xi_lc, xi_iinc, xi_iadd, xi_isub, xi_imul, xi_iand, xi_iushr, xi_ineg, xi_idiv, xi_irem, xi_ladd, xi_lmul, xi_lrem, xi_lcmp, xi_i2l, xi_l2i, xi_i2c, xi_dup, xi_dup2, xi_pop, xi_ifeq, xi_ifne, xi_iflt, xi_ifge, xi_ifgt, xi_ifle, xi_iceq, xi_icne, xi_iclt, xi_icge, xi_icgt, xi_icle, xi_iret, xi_zret, xi_lret, xi_vret, xi_getf, xi_putf, xi_ald, xi_ast, xi_alen, xi_callV, xi_callS, xpop, xroom, xl, xst, xok1, xok2, xnarrow, xwide, xone, xent, List.replicate, Option.isSome_some, Bool.and_self, Bool.true_and, Bool.and_true, List.length_cons, List.length_nil, Nat.reduceAdd, Nat.reduceLT, decide_true, Bool.not_false, Nat.beq, Nat.ble, Option.toList, List.nil_append, List.cons_append, xf_0_0, xf_0_1, xf_0_2, xf_0_3, xf_0_4, xf_0_5, xf_0_6, xf_0_7, xf_0_8, xf_0_9, xf_1_0, xf_1_1, xf_1_2, xf_1_3, xf_1_4, xf_2_0, xf_2_1, xf_2_2, xf_2_3, xf_2_4, xf_2_5, xf_2_6, xf_2_7, xf_3_0, xf_3_1, xf_3_2, xf_3_3, xf_3_4, xf_3_5, xf_3_6, xf_3_7, xf_4_0, xf_4_1, xf_4_2, xf_4_3, xf_4_4, xf_4_5, xf_4_6, xf_5_0, xf_5_1, xf_5_2, xf_5_3, xf_5_4, xf_5_5, xf_5_6, xf_5_7, xf_6_3, xf_7_3, xf_8_3, xf_9_3, xf_10_3, xf_11_3, xf_12_3, xf_13_3, xf_14_3, xf_15_3, xf_16_3]
      refine x_F (sX0_sectionOf hI w hr) ?_
      try simp only [xi_iload, xi_aload, xi_lload, xi_istore, xi_astore, xi_lstore, xi_ic, xi_lc, xi_iinc, xi_iadd, xi_isub, xi_imul, xi_iand, xi_iushr, xi_ineg, xi_idiv, xi_irem, xi_ladd, xi_lmul, xi_lrem, xi_lcmp, xi_i2l, xi_l2i, xi_i2c, xi_dup, xi_dup2, xi_pop, xi_ifeq, xi_ifne, xi_iflt, xi_ifge, xi_ifgt, xi_ifle, xi_iceq, xi_icne, xi_iclt, xi_icge, xi_icgt, xi_icle, xi_iret, xi_zret, xi_lret, xi_vret, xi_getf, xi_putf, xi_ald, xi_ast, xi_alen, xi_callV, xi_callS, xpop, xroom, xl, xst, xok1, xok2, xnarrow, xwide, xone, xent, List.replicate, Option.isSome_some, Bool.and_self, Bool.true_and, Bool.and_true, List.length_cons, List.length_nil, Nat.reduceAdd, Nat.reduceLT, decide_true, Bool.not_false, Nat.beq, Nat.ble, Option.toList, List.nil_append, List.cons_append, xf_0_0, xf_0_1, xf_0_2, xf_0_3, xf_0_4, xf_0_5, xf_0_6, xf_0_7, xf_0_8, xf_0_9, xf_1_0, xf_1_1, xf_1_2, xf_1_3, xf_1_4, xf_2_0, xf_2_1, xf_2_2, xf_2_3, xf_2_4, xf_2_5, xf_2_6, xf_2_7, xf_3_0, xf_3_1, xf_3_2, xf_3_3, xf_3_4, xf_3_5, xf_3_6, xf_3_7, xf_4_0, xf_4_1, xf_4_2, xf_4_3, xf_4_4, xf_4_5, xf_4_6, xf_5_0, xf_5_1, xf_5_2, xf_5_3, xf_5_4, xf_5_5, xf_5_6, xf_5_7, xf_6_3, xf_7_3, xf_8_3, xf_9_3, xf_10_3, xf_11_3, xf_12_3, xf_13_3, xf_14_3, xf_15_3, xf_16_3, nI_1]
      try simp (disch := omega) only [nI_leI, nI_ltI, nI_eq, nI_pos, nI_1, nI_add, pk_mul, nIm, nIm', not_false_eq_true, not_true_eq_false, false_implies, true_implies, and_true, true_and, b2i_t, b2i_f]
      refine ⟨fun q => ?_, fun q => x_F (sX6_set (i := j) (c := 1) tab11 (by omega) (by decide)) ?_⟩
      · have e : nIs M il s (j + 1) = nIs M il s j := by simp [nIs, yCount, q]
        rw [e] at ih
        refine ih τ hs hC (fun k hk h3 => ?_) h2
        by_cases hkj : k = j
        · subst hkj; exact absurd h3 q
        · exact h1 k (by omega) h3
      · have e : nIs M il s (j + 1) = nIs M il s j + 1 := by simp [nIs, yCount, q]
        rw [e] at ih
        try simp only [xi_iload, xi_aload, xi_lload, xi_istore, xi_astore, xi_lstore, xi_ic, xi_lc, xi_iinc, xi_iadd, xi_isub, xi_imul, xi_iand, xi_iushr, xi_ineg, xi_idiv, xi_irem, xi_ladd, xi_lmul, xi_lrem, xi_lcmp, xi_i2l, xi_l2i, xi_i2c, xi_dup, xi_dup2, xi_pop, xi_ifeq, xi_ifne, xi_iflt, xi_ifge, xi_ifgt, xi_ifle, xi_iceq, xi_icne, xi_iclt, xi_icge, xi_icgt, xi_icle, xi_iret, xi_zret, xi_lret, xi_vret, xi_getf, xi_putf, xi_ald, xi_ast, xi_alen, xi_callV, xi_callS, xpop, xroom, xl, xst, xok1, xok2, xnarrow, xwide, xone, xent, List.replicate, Option.isSome_some, Bool.and_self, Bool.true_and, Bool.and_true, List.length_cons, List.length_nil, Nat.reduceAdd, Nat.reduceLT, decide_true, Bool.not_false, Nat.beq, Nat.ble, Option.toList, List.nil_append, List.cons_append, xf_0_0, xf_0_1, xf_0_2, xf_0_3, xf_0_4, xf_0_5, xf_0_6, xf_0_7, xf_0_8, xf_0_9, xf_1_0, xf_1_1, xf_1_2, xf_1_3, xf_1_4, xf_2_0, xf_2_1, xf_2_2, xf_2_3, xf_2_4, xf_2_5, xf_2_6, xf_2_7, xf_3_0, xf_3_1, xf_3_2, xf_3_3, xf_3_4, xf_3_5, xf_3_6, xf_3_7, xf_4_0, xf_4_1, xf_4_2, xf_4_3, xf_4_4, xf_4_5, xf_4_6, xf_5_0, xf_5_1, xf_5_2, xf_5_3, xf_5_4, xf_5_5, xf_5_6, xf_5_7, xf_6_3, xf_7_3, xf_8_3, xf_9_3, xf_10_3, xf_11_3, xf_12_3, xf_13_3, xf_14_3, xf_15_3, xf_16_3, nI_1]
        have e2 : nI (a + 2 * nIs M il s j) + 2 = nI (a + 2 * (nIs M il s j + 1)) := by
          rw [show (2 : Int32) = nI 2 from rfl, nI_add]; congr 1
        rw [e2]
        refine ih _ (hs.tr (xsame.up rfl)) ⟨?_, fun k hk => ?_⟩ (fun k hk h3 => ?_) (fun k h3 => ?_)
        · rw [xup_ap, if_neg (by omega)]; exact hC.1
        · rw [xup_ap, if_neg (by omega)]; exact hC.2 k hk
        · rw [xup_ap]
          by_cases hkj : k = j
          · subst hkj; rw [if_pos ⟨rfl, rfl⟩]
          · rw [if_neg (by omega)]; exact h1 k (by omega) h3
        · rw [xup_ap]
          by_cases hkj : k = j
          · subst hkj; exact absurd q h3
          · rw [if_neg (by omega)]; exact h2 k h3
    · refine bX1_layIslands_5 _ _ _ ?_
      have hc := hC.1
      try simp only [xi_iload, xi_aload, xi_lload, xi_istore, xi_astore, xi_lstore, xi_ic, xi_lc, xi_iinc, xi_iadd, xi_isub, xi_imul, xi_iand, xi_iushr, xi_ineg, xi_idiv, xi_irem, xi_ladd, xi_lmul, xi_lrem, xi_lcmp, xi_i2l, xi_l2i, xi_i2c, xi_dup, xi_dup2, xi_pop, xi_ifeq, xi_ifne, xi_iflt, xi_ifge, xi_ifgt, xi_ifle, xi_iceq, xi_icne, xi_iclt, xi_icge, xi_icgt, xi_icle, xi_iret, xi_zret, xi_lret, xi_vret, xi_getf, xi_putf, xi_ald, xi_ast, xi_alen, xi_callV, xi_callS, xpop, xroom, xl, xst, xok1, xok2, xnarrow, xwide, xone, xent, List.replicate, Option.isSome_some, Bool.and_self, Bool.true_and, Bool.and_true, List.length_cons, List.length_nil, Nat.reduceAdd, Nat.reduceLT, decide_true, Bool.not_false, Nat.beq, Nat.ble, Option.toList, List.nil_append, List.cons_append, xf_0_0, xf_0_1, xf_0_2, xf_0_3, xf_0_4, xf_0_5, xf_0_6, xf_0_7, xf_0_8, xf_0_9, xf_1_0, xf_1_1, xf_1_2, xf_1_3, xf_1_4, xf_2_0, xf_2_1, xf_2_2, xf_2_3, xf_2_4, xf_2_5, xf_2_6, xf_2_7, xf_3_0, xf_3_1, xf_3_2, xf_3_3, xf_3_4, xf_3_5, xf_3_6, xf_3_7, xf_4_0, xf_4_1, xf_4_2, xf_4_3, xf_4_4, xf_4_5, xf_4_6, xf_5_0, xf_5_1, xf_5_2, xf_5_3, xf_5_4, xf_5_5, xf_5_6, xf_5_7, xf_6_3, xf_7_3, xf_8_3, xf_9_3, xf_10_3, xf_11_3, xf_12_3, xf_13_3, xf_14_3, xf_15_3, xf_16_3, hc]
      exact ⟨fun _ => ⟨trivial, hs, hC, h1, h2⟩, fun q => absurd (nI_le (Nat.le_refl _) (by omega)) q⟩
  exact x_forget (key 0 (by omega) σ xsame.rf hi (fun k hk => by omega) (fun k _ => rfl)) (by simp [xle, nIs, yCount, nI_0])
end S29
