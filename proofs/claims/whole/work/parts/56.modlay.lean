/-! the reference: laying -/
section S56
variable {G : XG} {d : Nat} {σ τ ρ : Sg} {M : YM} {T A P : Nat → Bool} {il : Nat → Nat} {L : Nat} {js l : List Nat}
/-- only these cells, and of the reference's own fields only these, have changed -/
def xs30 (js l : List Nat) (σ τ : Sg) : Prop := (∀ r, r ≠ 30 → r ∉ l → τ r = σ r) ∧ ∀ i, i ∉ js → τ 30 i = σ 30 i
theorem xs30.rf : xs30 js l σ σ := ⟨fun _ _ _ => rfl, fun _ _ => rfl⟩
theorem xs30.tr (h : xs30 js l σ τ) (h2 : xs30 js l τ ρ) : xs30 js l σ ρ := ⟨fun r a b => (h2.1 r a b).trans (h.1 r a b), fun i a => (h2.2 i a).trans (h.2 i a)⟩
theorem xs30.wk {js' l' : List Nat} (h : xs30 js l σ τ) (hj : js.all (fun r => js'.contains r) = true) (hl : l.all (fun r => l'.contains r) = true) : xs30 js' l' σ τ :=
  ⟨fun r a b => h.1 r a (fun z => b (by have := List.all_eq_true.mp hl r z; simpa using this)), fun i a => h.2 i (fun z => a (by have := List.all_eq_true.mp hj i z; simpa using this))⟩
theorem xs30.of (h : xsame l σ τ) (hl : l.contains 30 = false) : xs30 js l σ τ := ⟨fun r _ b => h r b, fun i _ => by rw [h.at hl]⟩
theorem xs30.ow {l' : List Nat} (h : xsame l' σ τ) (hl : l'.all (fun r => !(r == 30) && l.contains r) = true) : xs30 js l σ τ := by
  have h1 : ∀ z, z ∈ l' → z ≠ 30 ∧ z ∈ l := fun z hz => by
    have := List.all_eq_true.mp hl z hz
    simpa using this
  exact ⟨fun r _ b => h r (fun z => b (h1 r z).2), fun i _ => by rw [h 30 (fun z => (h1 30 z).1 rfl)]⟩
theorem xs30.up {j : Nat} {x : Int32} (hj : js.contains j = true) : xs30 js l σ (xup σ 30 j x) := ⟨fun r a _ => xup_n a, fun i a => by rw [xup_ap, if_neg (fun z => a (by rw [z.2]; simpa using hj))]⟩
theorem xs30.upc {a j : Nat} {x : Int32} (ha : l.contains a = true) (h30 : (a == 30) = false) : xs30 js l σ (xup σ a j x) := ⟨fun r _ b => xup_n (fun e => b (by rw [e]; simpa using ha)), fun i _ => by rw [xup_n (fun e => by rw [← e] at h30; simp at h30)]⟩
theorem xs30.at (h : xs30 js l σ τ) {r : Nat} (hr : (r == 30) = false) (hl : l.contains r = false) : τ r = σ r := h.1 r (by simpa using hr) (by simpa using hl)
theorem xs30.f (h : xs30 js l σ τ) {i : Nat} (hi : js.contains i = false) : τ 30 i = σ 30 i := h.2 i (by simpa using hi)
theorem MI.s30 (h : MI σ M) (hs : xs30 js l σ τ) (hj : js.all (fun r => !(r == 1 || r == 8 || r == 13 || r == 19)) = true) (hl : l.all (fun r => !(decide (54 < r) && decide (r < 71))) = true) : MI τ M := by
  have h2 : ∀ r, (54 < r ∧ r < 71) → τ r = σ r := by
    intro r hr
    refine hs.1 r (by omega) (fun z => ?_)
    have := List.all_eq_true.mp hl r z
    simp at this
    omega
  have h3 : ∀ i, (i = 1 ∨ i = 8 ∨ i = 13 ∨ i = 19) → τ 30 i = σ 30 i := by
    intro i hi
    refine hs.2 i (fun z => ?_)
    have := List.all_eq_true.mp hj i z
    simp at this
    omega
  unfold MI
  rw [h3 1 (by omega), h3 8 (by omega), h3 13 (by omega), h3 19 (by omega), h2 55 (by omega), h2 56 (by omega), h2 57 (by omega), h2 58 (by omega), h2 59 (by omega), h2 60 (by omega), h2 61 (by omega), h2 62 (by omega), h2 63 (by omega), h2 64 (by omega), h2 65 (by omega), h2 66 (by omega), h2 67 (by omega), h2 68 (by omega), h2 69 (by omega), h2 70 (by omega)]
  exact h
theorem MT.s30 (h : MT σ M T) (hs : xs30 js l σ τ) (hl : l.contains 71 = false) : MT τ M T := fun o ho => by rw [hs.at rfl hl]; exact h o ho
theorem MS.s30 (h : MS σ M T) (hs : xs30 js l σ τ) (hl : l.contains 72 = false) : MS τ M T := fun o ho => by rw [hs.at rfl hl]; exact h o ho
theorem MG.s30 (h : MG σ M T) (hs : xs30 js l σ τ) (hl : l.contains 73 = false) : MG τ M T := fun o ho => by rw [hs.at rfl hl]; exact h o ho
theorem ML.s30 (h : ML σ M A) (hs : xs30 js l σ τ) (hl : l.contains 74 = false) (hl2 : l.contains 75 = false) : ML τ M A := ⟨fun o ho => by rw [hs.at rfl hl]; exact h.1 o ho, fun o ho => by rw [hs.at rfl hl2]; exact h.2 o ho⟩
theorem MF.s30 (h : MF σ M T A) (hs : xs30 js l σ τ) (hl : l.contains 76 = false) : MF τ M T A := fun o ho => by rw [hs.at rfl hl]; exact h o ho
theorem sX8_isLaid {s : Nat} (w : WF M) (hL : ML σ M A) (hF : MF σ M T A) (hs : s < nS M) : XM G mX8_isLaid d [.ref 30, .int (nI s)] σ (xF (some (.int (b2i (yLaid M T A s)))) σ) := by
  refine xm_of (by decide +kernel) rfl (Nat.le_of_ble_eq_true rfl) ?_
  refine bX8_isLaid_0 _ _ _ ?_
  obtain ⟨b1, b2, b3, b4, b5⟩ := w.1
  try simp only [xi_iload, xi_aload, xi_lload, xi_istore, xi_astore, xi_lstore, xi_ic, xi_lc, xi_iinc, xi_iadd, xi_isub, xi_imul, xi_iand, xi_iushr, xi_ineg, xi_idiv, xi_irem, xi_ladd, xi_lmul, xi_lrem, xi_lcmp, xi_i2l, xi_l2i, xi_i2c, xi_dup, xi_dup2, xi_pop, xi_ifeq, xi_ifne, xi_iflt, xi_ifge, xi_ifgt, xi_ifle, xi_iceq, xi_icne, xi_iclt, xi_icge, xi_icgt, xi_icle, xi_iret, xi_zret, xi_lret, xi_vret, xi_getf, xi_putf, xi_ald, xi_ast, xi_alen, xi_callV, xi_callS, xpop, xroom, xl, xst, xok1, xok2, xnarrow, xwide, xone, xent, List.replicate, Option.isSome_some, Bool.and_self, Bool.true_and, Bool.and_true, List.length_cons, List.length_nil, Nat.reduceAdd, Nat.reduceLT, decide_true, Bool.not_false, Nat.beq, Nat.ble, Option.toList, List.nil_append, List.cons_append, xf_30_0, xf_30_1, xf_30_2, xf_30_3, xf_30_4, xf_30_5, xf_30_6, xf_30_7, xf_30_8, xf_30_9, xf_30_10, xf_30_11, xf_30_12, xf_30_13, xf_30_14, xf_30_15, xf_30_16, xf_30_17, xf_30_18, xf_30_19, xf_30_20, xf_30_21, xf_30_22, xf_30_23, xf_30_24, xf_30_25, xf_30_26, xf_30_27, xf_30_28, xf_30_29, xf_30_30, xf_30_31, xf_30_32, xf_30_33, xf_30_34, xf_30_35, xf_30_36, xf_30_37, xf_30_38, xf_30_39, xf_30_40, xf_30_41, xf_30_42, xf_30_43, xf_30_44, xf_30_45, xf_30_46, xf_30_47, xf_30_48, xf_30_49, xf_30_50, xa_55, xa_56, xa_57, xa_58, xa_59, xa_60, xa_61, xa_62, xa_63, xa_64, xa_65, xa_66, xa_67, xa_68, xa_69, xa_70, xa_71, xa_72, xa_73, xa_74, xa_75, xa_76, xa_77, xa_78, xa_79, xa_80, xa_81, xa_82, xa_83, xa_84, xa_85, xa_86, xa_87, xa_88]
  simp (disch := omega) only [vp_nI, nI_clamp, true_and]
  rw [hL.1 s hs, hF s hs, b2i_ne, oI_none (yFd_b (by omega))]
  unfold yLaid
  refine ⟨fun q => ⟨by decide +kernel, ?_⟩, fun q => ⟨fun q2 => ⟨by decide +kernel, ?_⟩, fun q2 => ⟨by decide +kernel, ?_⟩⟩⟩
  · rw [q, Bool.false_and]; exact xF_self
  · rw [isN_f q2, Bool.and_false]; exact xF_self
  · rw [q2, show A s = true by simpa using q]; exact xF_self
theorem sX8_laidOf {s : Nat} (w : WF M) (hF : MF σ M T A) (hs : s < nS M) : XM G mX8_laidOf d [.ref 30, .int (nI s)] σ (xF (some (.int (nI (yHome M T A s)))) σ) := by
  refine xm_of (by decide +kernel) rfl (Nat.le_of_ble_eq_true rfl) ?_
  refine bX8_laidOf_0 _ _ _ ?_
  obtain ⟨b1, b2, b3, b4, b5⟩ := w.1
  try simp only [xi_iload, xi_aload, xi_lload, xi_istore, xi_astore, xi_lstore, xi_ic, xi_lc, xi_iinc, xi_iadd, xi_isub, xi_imul, xi_iand, xi_iushr, xi_ineg, xi_idiv, xi_irem, xi_ladd, xi_lmul, xi_lrem, xi_lcmp, xi_i2l, xi_l2i, xi_i2c, xi_dup, xi_dup2, xi_pop, xi_ifeq, xi_ifne, xi_iflt, xi_ifge, xi_ifgt, xi_ifle, xi_iceq, xi_icne, xi_iclt, xi_icge, xi_icgt, xi_icle, xi_iret, xi_zret, xi_lret, xi_vret, xi_getf, xi_putf, xi_ald, xi_ast, xi_alen, xi_callV, xi_callS, xpop, xroom, xl, xst, xok1, xok2, xnarrow, xwide, xone, xent, List.replicate, Option.isSome_some, Bool.and_self, Bool.true_and, Bool.and_true, List.length_cons, List.length_nil, Nat.reduceAdd, Nat.reduceLT, decide_true, Bool.not_false, Nat.beq, Nat.ble, Option.toList, List.nil_append, List.cons_append, xf_30_0, xf_30_1, xf_30_2, xf_30_3, xf_30_4, xf_30_5, xf_30_6, xf_30_7, xf_30_8, xf_30_9, xf_30_10, xf_30_11, xf_30_12, xf_30_13, xf_30_14, xf_30_15, xf_30_16, xf_30_17, xf_30_18, xf_30_19, xf_30_20, xf_30_21, xf_30_22, xf_30_23, xf_30_24, xf_30_25, xf_30_26, xf_30_27, xf_30_28, xf_30_29, xf_30_30, xf_30_31, xf_30_32, xf_30_33, xf_30_34, xf_30_35, xf_30_36, xf_30_37, xf_30_38, xf_30_39, xf_30_40, xf_30_41, xf_30_42, xf_30_43, xf_30_44, xf_30_45, xf_30_46, xf_30_47, xf_30_48, xf_30_49, xf_30_50, xa_55, xa_56, xa_57, xa_58, xa_59, xa_60, xa_61, xa_62, xa_63, xa_64, xa_65, xa_66, xa_67, xa_68, xa_69, xa_70, xa_71, xa_72, xa_73, xa_74, xa_75, xa_76, xa_77, xa_78, xa_79, xa_80, xa_81, xa_82, xa_83, xa_84, xa_85, xa_86, xa_87, xa_88]
  simp (disch := omega) only [vp_nI, nI_clamp, true_and]
  rw [hF s hs, oI_none (yFd_b (by omega))]
  unfold yHome
  refine ⟨fun q => ?_, fun q => ?_⟩
  · cases hf : yFd M T A s with
    | none => exact absurd hf q
    | some t => exact xF_self
  · rw [q]; exact xF_self
theorem sX8_aligned {a k : Nat} (ha : a < 2 ^ 20) (hk : 0 < k) (hk2 : k ≤ 16) : XM G mX8_aligned d [.int (nI a), .int (nI k)] σ (xF (some (.int (nI (yAl a k)))) σ) := by
  refine xm_of (by decide +kernel) rfl (Nat.le_of_ble_eq_true rfl) ?_
  refine bX8_aligned_0 _ _ _ ?_
  have e : nI a + nI k - 1 = nI (a + k - 1) := by
    rw [nI_add, show a + k = (a + k - 1) + 1 by omega, nI_pred]
    rfl
  try simp only [xi_iload, xi_aload, xi_lload, xi_istore, xi_astore, xi_lstore, xi_ic, xi_lc, xi_iinc, xi_iadd, xi_isub, xi_imul, xi_iand, xi_iushr, xi_ineg, xi_idiv, xi_irem, xi_ladd, xi_lmul, xi_lrem, xi_lcmp, xi_i2l, xi_l2i, xi_i2c, xi_dup, xi_dup2, xi_pop, xi_ifeq, xi_ifne, xi_iflt, xi_ifge, xi_ifgt, xi_ifle, xi_iceq, xi_icne, xi_iclt, xi_icge, xi_icgt, xi_icle, xi_iret, xi_zret, xi_lret, xi_vret, xi_getf, xi_putf, xi_ald, xi_ast, xi_alen, xi_callV, xi_callS, xpop, xroom, xl, xst, xok1, xok2, xnarrow, xwide, xone, xent, List.replicate, Option.isSome_some, Bool.and_self, Bool.true_and, Bool.and_true, List.length_cons, List.length_nil, Nat.reduceAdd, Nat.reduceLT, decide_true, Bool.not_false, Nat.beq, Nat.ble, Option.toList, List.nil_append, List.cons_append]
  rw [e, pk_div (by omega) hk (by omega), pk_mul]
  exact ⟨nI_ne0 hk (by omega), xF_self⟩
theorem nIs_le {s : Nat} : nIs M il s L ≤ L := yCount_le
/-- the reference's cells hold the islands -/
def MIs (σ : Sg) (M : YM) (il : Nat → Nat) (L : Nat) : Prop := (∀ s, s < nS M → σ 80 s = nI (nIs M il s L)) ∧ ∀ r, r < nR M → σ 79 r = oI ((yIsl il L r).map (fun k => nIs M il (yRS M r) k))
theorem MIs.s30 (h : MIs σ M il L) (hs : xs30 js l σ τ) (hl : l.contains 80 = false) (hl2 : l.contains 79 = false) : MIs τ M il L := ⟨fun o ho => by rw [hs.at rfl hl]; exact h.1 o ho, fun o ho => by rw [hs.at rfl hl2]; exact h.2 o ho⟩
theorem sX8_lays {cb : Bool} (h : MI σ M) (w : WF M) (hL : ML σ M A) (hF : MF σ M T A) (hL4 : L ≤ 40) (hi : MIs σ M il L) (hP : P = yLaid M T A) : XM G mX8_lays (d + 1) [.ref 30, .int (b2i cb), .int (nI (ySecAt M P il L cb 0))] σ (fun v τ => v = some (.int (nI (ySecAt M P il L cb (nS M)))) ∧ xsame [77] σ τ ∧ (∀ s, s < nS M → P s = true → (ySC M s == 1) = cb → τ 77 s = nI (yAdr M P il L s)) ∧ ∀ s, ¬ (P s = true ∧ (ySC M s == 1) = cb) → τ 77 s = σ 77 s) := by
  refine xm_of (by decide +kernel) rfl (Nat.le_of_ble_eq_true rfl) ?_
  refine bX8_lays_0 _ _ _ ?_
  obtain ⟨b1, b2, b3, b4, b5⟩ := w.1
  try simp only [xi_iload, xi_aload, xi_lload, xi_istore, xi_astore, xi_lstore, xi_ic, xi_lc, xi_iinc, xi_iadd, xi_isub, xi_imul, xi_iand, xi_iushr, xi_ineg, xi_idiv, xi_irem, xi_ladd, xi_lmul, xi_lrem, xi_lcmp, xi_i2l, xi_l2i, xi_i2c, xi_dup, xi_dup2, xi_pop, xi_ifeq, xi_ifne, xi_iflt, xi_ifge, xi_ifgt, xi_ifle, xi_iceq, xi_icne, xi_iclt, xi_icge, xi_icgt, xi_icle, xi_iret, xi_zret, xi_lret, xi_vret, xi_getf, xi_putf, xi_ald, xi_ast, xi_alen, xi_callV, xi_callS, xpop, xroom, xl, xst, xok1, xok2, xnarrow, xwide, xone, xent, List.replicate, Option.isSome_some, Bool.and_self, Bool.true_and, Bool.and_true, List.length_cons, List.length_nil, Nat.reduceAdd, Nat.reduceLT, decide_true, Bool.not_false, Nat.beq, Nat.ble, Option.toList, List.nil_append, List.cons_append]
  generalize hR : (fun (v : Option Value) (τ : Sg) => v = some (.int (nI (ySecAt M P il L cb (nS M)))) ∧ xsame [77] σ τ ∧ (∀ s, s < nS M → P s = true → (ySC M s == 1) = cb → τ 77 s = nI (yAdr M P il L s)) ∧ ∀ s, ¬ (P s = true ∧ (ySC M s == 1) = cb) → τ 77 s = σ 77 s) = R
  have key : ∀ j, j ≤ nS M → ∀ τ, xsame [77] σ τ → (∀ s, s < j → P s = true → (ySC M s == 1) = cb → τ 77 s = nI (yAdr M P il L s)) → (∀ s, ¬ (P s = true ∧ (ySC M s == 1) = cb) → τ 77 s = σ 77 s) → AX8_lays G (d + 1) R 5 [some (.ref 30), some (.int (b2i cb)), none, some (.int (nI (ySecAt M P il L cb j))), some (.int (nI j))] [] τ := by
    refine loop_up (fun j hj ih τ hs ha hz => ?_) (fun τ hs ha hz => ?_)
    · refine bX8_lays_5 _ _ _ ?_
      have hM := h.same hs (by decide)
      obtain ⟨⟨n1, n8, n13, n19⟩, a55, ⟨a56, a57, a58, a59, a60, a61⟩, ⟨a62, a63, a64, a65⟩, a66, a67, a68, a69, a70⟩ := id hM
      have a80 : ∀ s, s < nS M → τ 80 s = nI (nIs M il s L) := fun s hs2 => by rw [hs.at rfl]; exact hi.1 s hs2
      have hw := w.2.2.1 j hj
      have hal := yAlg w hj
      have hal1 := hal.1
      have hal2 := hal.2
      have hat := ySecAt_le w (P := P) (il := il) (cb := cb) hL4 j (by omega)
      have hstep : ySecAt M P il L cb (j + 1) = if P j = true ∧ (ySC M j == 1) = cb then yAl (ySecAt M P il L cb j) (ySA M j) + ySZ M j + 2 * nIs M il j L else ySecAt M P il L cb j := rfl
      try simp (disch := omega) only [xi_iload, xi_aload, xi_lload, xi_istore, xi_astore, xi_lstore, xi_ic, xi_lc, xi_iinc, xi_iadd, xi_isub, xi_imul, xi_iand, xi_iushr, xi_ineg, xi_idiv, xi_irem, xi_ladd, xi_lmul, xi_lrem, xi_lcmp, xi_i2l, xi_l2i, xi_i2c, xi_dup, xi_dup2, xi_pop, xi_ifeq, xi_ifne, xi_iflt, xi_ifge, xi_ifgt, xi_ifle, xi_iceq, xi_icne, xi_iclt, xi_icge, xi_icgt, xi_icle, xi_iret, xi_zret, xi_lret, xi_vret, xi_getf, xi_putf, xi_ald, xi_ast, xi_alen, xi_callV, xi_callS, xpop, xroom, xl, xst, xok1, xok2, xnarrow, xwide, xone, xent, List.replicate, Option.isSome_some, Bool.and_self, Bool.true_and, Bool.and_true, List.length_cons, List.length_nil, Nat.reduceAdd, Nat.reduceLT, decide_true, Bool.not_false, Nat.beq, Nat.ble, Option.toList, List.nil_append, List.cons_append, xf_30_0, xf_30_1, xf_30_2, xf_30_3, xf_30_4, xf_30_5, xf_30_6, xf_30_7, xf_30_8, xf_30_9, xf_30_10, xf_30_11, xf_30_12, xf_30_13, xf_30_14, xf_30_15, xf_30_16, xf_30_17, xf_30_18, xf_30_19, xf_30_20, xf_30_21, xf_30_22, xf_30_23, xf_30_24, xf_30_25, xf_30_26, xf_30_27, xf_30_28, xf_30_29, xf_30_30, xf_30_31, xf_30_32, xf_30_33, xf_30_34, xf_30_35, xf_30_36, xf_30_37, xf_30_38, xf_30_39, xf_30_40, xf_30_41, xf_30_42, xf_30_43, xf_30_44, xf_30_45, xf_30_46, xf_30_47, xf_30_48, xf_30_49, xf_30_50, xa_55, xa_56, xa_57, xa_58, xa_59, xa_60, xa_61, xa_62, xa_63, xa_64, xa_65, xa_66, xa_67, xa_68, xa_69, xa_70, xa_71, xa_72, xa_73, xa_74, xa_75, xa_76, xa_77, xa_78, xa_79, xa_80, xa_81, xa_82, xa_83, xa_84, xa_85, xa_86, xa_87, xa_88, vp_nI, nI_clamp, true_and, and_true, nI_1, nI_add, pk_mul, nI_leI, nI_ltI, nI_eq, nI_le0, nI_lt0, b2i_ne, b2i_inj, b2i_nar, b2i_t, b2i_f, n1, n8, n13, n19, a55, a56, a57, a58, a59, a60, a61, a62, a63, a64, a65, a66, a67, a68, a69, a70, x115, x119, x108, x99, x97, q16, q2, q3, q4, q8, q10, q160, q40, q24, q100, q1000, q999]
      refine ⟨fun q => absurd q (by omega), fun _ => x_F (sX8_isLaid w (hL.same hs (by decide) (by decide)) (hF.same hs (by decide)) hj) ?_⟩
      rw [← hP]
      have hskip : ¬ (P j = true ∧ (ySC M j == 1) = cb) → AX8_lays G (d + 1) R 5 [some (.ref 30), some (.int (b2i cb)), none, some (.int (nI (ySecAt M P il L cb j))), some (.int (nI (j + 1)))] [] τ := by
        intro hn
        rw [hstep, if_neg hn] at ih
        exact ih τ hs (fun s hsj hp hc => by
          by_cases hsj2 : s = j
          · subst hsj2; exact absurd ⟨hp, hc⟩ hn
          · exact ha s (by omega) hp hc) hz
      try simp (disch := omega) only [xi_iload, xi_aload, xi_lload, xi_istore, xi_astore, xi_lstore, xi_ic, xi_lc, xi_iinc, xi_iadd, xi_isub, xi_imul, xi_iand, xi_iushr, xi_ineg, xi_idiv, xi_irem, xi_ladd, xi_lmul, xi_lrem, xi_lcmp, xi_i2l, xi_l2i, xi_i2c, xi_dup, xi_dup2, xi_pop, xi_ifeq, xi_ifne, xi_iflt, xi_ifge, xi_ifgt, xi_ifle, xi_iceq, xi_icne, xi_iclt, xi_icge, xi_icgt, xi_icle, xi_iret, xi_zret, xi_lret, xi_vret, xi_getf, xi_putf, xi_ald, xi_ast, xi_alen, xi_callV, xi_callS, xpop, xroom, xl, xst, xok1, xok2, xnarrow, xwide, xone, xent, List.replicate, Option.isSome_some, Bool.and_self, Bool.true_and, Bool.and_true, List.length_cons, List.length_nil, Nat.reduceAdd, Nat.reduceLT, decide_true, Bool.not_false, Nat.beq, Nat.ble, Option.toList, List.nil_append, List.cons_append, xf_30_0, xf_30_1, xf_30_2, xf_30_3, xf_30_4, xf_30_5, xf_30_6, xf_30_7, xf_30_8, xf_30_9, xf_30_10, xf_30_11, xf_30_12, xf_30_13, xf_30_14, xf_30_15, xf_30_16, xf_30_17, xf_30_18, xf_30_19, xf_30_20, xf_30_21, xf_30_22, xf_30_23, xf_30_24, xf_30_25, xf_30_26, xf_30_27, xf_30_28, xf_30_29, xf_30_30, xf_30_31, xf_30_32, xf_30_33, xf_30_34, xf_30_35, xf_30_36, xf_30_37, xf_30_38, xf_30_39, xf_30_40, xf_30_41, xf_30_42, xf_30_43, xf_30_44, xf_30_45, xf_30_46, xf_30_47, xf_30_48, xf_30_49, xf_30_50, xa_55, xa_56, xa_57, xa_58, xa_59, xa_60, xa_61, xa_62, xa_63, xa_64, xa_65, xa_66, xa_67, xa_68, xa_69, xa_70, xa_71, xa_72, xa_73, xa_74, xa_75, xa_76, xa_77, xa_78, xa_79, xa_80, xa_81, xa_82, xa_83, xa_84, xa_85, xa_86, xa_87, xa_88, vp_nI, nI_clamp, true_and, and_true, nI_1, nI_add, pk_mul, nI_leI, nI_ltI, nI_eq, nI_le0, nI_lt0, b2i_ne, b2i_inj, b2i_nar, b2i_t, b2i_f, n1, n8, n13, n19, a55, a56, a57, a58, a59, a60, a61, a62, a63, a64, a65, a66, a67, a68, a69, a70, x115, x119, x108, x99, x97, q16, q2, q3, q4, q8, q10, q160, q40, q24, q100, q1000, q999]
      refine ⟨fun q => hskip (fun z => by rw [q] at z; cases z.1), fun q => ⟨fun q2 => hskip (fun z => q2 z.2), fun q2 => x_F (sX8_aligned (by omega) hal1 hal2) ?_⟩⟩
      have hPj : P j = true := by simpa using q
      have eA : yAl (ySecAt M P il L cb j) (ySA M j) = yAdr M P il L j := by unfold yAdr; rw [q2]
      rw [hstep, if_pos ⟨hPj, q2⟩] at ih
      have i0 := ih (xup τ 77 j (nI (yAl (ySecAt M P il L cb j) (ySA M j)))) (hs.tr (xsame.up rfl)) (fun s hsj hp hc => by
        rw [xup_ap]
        by_cases hsj2 : s = j
        · rw [if_pos ⟨rfl, hsj2⟩, hsj2, eA]
        · rw [if_neg (fun z => hsj2 z.2)]; exact ha s (by omega) hp hc) (fun s hn => by
        rw [xup_ap, if_neg (fun z => hn (by rw [z.2]; exact ⟨hPj, q2⟩))]; exact hz s hn)
      have e77 : ∀ x : Int32, xup τ 77 j x 77 j = x := fun x => by rw [xup_ap, if_pos ⟨rfl, rfl⟩]
      have e58 : ∀ (x : Int32), xup τ 77 j x 58 j = nI (ySZ M j) := fun x => by rw [xup_n (by decide)]; exact a58 j hj
      have e80 : ∀ (x : Int32), xup τ 77 j x 80 j = nI (nIs M il j L) := fun x => by rw [xup_n (by decide)]; exact a80 j hj
      try simp (disch := omega) only [xi_iload, xi_aload, xi_lload, xi_istore, xi_astore, xi_lstore, xi_ic, xi_lc, xi_iinc, xi_iadd, xi_isub, xi_imul, xi_iand, xi_iushr, xi_ineg, xi_idiv, xi_irem, xi_ladd, xi_lmul, xi_lrem, xi_lcmp, xi_i2l, xi_l2i, xi_i2c, xi_dup, xi_dup2, xi_pop, xi_ifeq, xi_ifne, xi_iflt, xi_ifge, xi_ifgt, xi_ifle, xi_iceq, xi_icne, xi_iclt, xi_icge, xi_icgt, xi_icle, xi_iret, xi_zret, xi_lret, xi_vret, xi_getf, xi_putf, xi_ald, xi_ast, xi_alen, xi_callV, xi_callS, xpop, xroom, xl, xst, xok1, xok2, xnarrow, xwide, xone, xent, List.replicate, Option.isSome_some, Bool.and_self, Bool.true_and, Bool.and_true, List.length_cons, List.length_nil, Nat.reduceAdd, Nat.reduceLT, decide_true, Bool.not_false, Nat.beq, Nat.ble, Option.toList, List.nil_append, List.cons_append, xf_30_0, xf_30_1, xf_30_2, xf_30_3, xf_30_4, xf_30_5, xf_30_6, xf_30_7, xf_30_8, xf_30_9, xf_30_10, xf_30_11, xf_30_12, xf_30_13, xf_30_14, xf_30_15, xf_30_16, xf_30_17, xf_30_18, xf_30_19, xf_30_20, xf_30_21, xf_30_22, xf_30_23, xf_30_24, xf_30_25, xf_30_26, xf_30_27, xf_30_28, xf_30_29, xf_30_30, xf_30_31, xf_30_32, xf_30_33, xf_30_34, xf_30_35, xf_30_36, xf_30_37, xf_30_38, xf_30_39, xf_30_40, xf_30_41, xf_30_42, xf_30_43, xf_30_44, xf_30_45, xf_30_46, xf_30_47, xf_30_48, xf_30_49, xf_30_50, xa_55, xa_56, xa_57, xa_58, xa_59, xa_60, xa_61, xa_62, xa_63, xa_64, xa_65, xa_66, xa_67, xa_68, xa_69, xa_70, xa_71, xa_72, xa_73, xa_74, xa_75, xa_76, xa_77, xa_78, xa_79, xa_80, xa_81, xa_82, xa_83, xa_84, xa_85, xa_86, xa_87, xa_88, vp_nI, nI_clamp, true_and, and_true, nI_1, nI_add, pk_mul, nI_leI, nI_ltI, nI_eq, nI_le0, nI_lt0, b2i_ne, b2i_inj, b2i_nar, b2i_t, b2i_f, n1, n8, n13, n19, a55, a56, a57, a58, a59, a60, a61, a62, a63, a64, a65, a66, a67, a68, a69, a70, x115, x119, x108, x99, x97, q16, q2, q3, q4, q8, q10, q160, q40, q24, q100, q1000, q999, e77, e58, e80]
      exact i0
    · refine bX8_lays_5 _ _ _ ?_
      have hM := h.same hs (by decide)
      obtain ⟨⟨n1, n8, n13, n19⟩, a55, ⟨a56, a57, a58, a59, a60, a61⟩, ⟨a62, a63, a64, a65⟩, a66, a67, a68, a69, a70⟩ := id hM
      try simp (disch := omega) only [xi_iload, xi_aload, xi_lload, xi_istore, xi_astore, xi_lstore, xi_ic, xi_lc, xi_iinc, xi_iadd, xi_isub, xi_imul, xi_iand, xi_iushr, xi_ineg, xi_idiv, xi_irem, xi_ladd, xi_lmul, xi_lrem, xi_lcmp, xi_i2l, xi_l2i, xi_i2c, xi_dup, xi_dup2, xi_pop, xi_ifeq, xi_ifne, xi_iflt, xi_ifge, xi_ifgt, xi_ifle, xi_iceq, xi_icne, xi_iclt, xi_icge, xi_icgt, xi_icle, xi_iret, xi_zret, xi_lret, xi_vret, xi_getf, xi_putf, xi_ald, xi_ast, xi_alen, xi_callV, xi_callS, xpop, xroom, xl, xst, xok1, xok2, xnarrow, xwide, xone, xent, List.replicate, Option.isSome_some, Bool.and_self, Bool.true_and, Bool.and_true, List.length_cons, List.length_nil, Nat.reduceAdd, Nat.reduceLT, decide_true, Bool.not_false, Nat.beq, Nat.ble, Option.toList, List.nil_append, List.cons_append, xf_30_0, xf_30_1, xf_30_2, xf_30_3, xf_30_4, xf_30_5, xf_30_6, xf_30_7, xf_30_8, xf_30_9, xf_30_10, xf_30_11, xf_30_12, xf_30_13, xf_30_14, xf_30_15, xf_30_16, xf_30_17, xf_30_18, xf_30_19, xf_30_20, xf_30_21, xf_30_22, xf_30_23, xf_30_24, xf_30_25, xf_30_26, xf_30_27, xf_30_28, xf_30_29, xf_30_30, xf_30_31, xf_30_32, xf_30_33, xf_30_34, xf_30_35, xf_30_36, xf_30_37, xf_30_38, xf_30_39, xf_30_40, xf_30_41, xf_30_42, xf_30_43, xf_30_44, xf_30_45, xf_30_46, xf_30_47, xf_30_48, xf_30_49, xf_30_50, xa_55, xa_56, xa_57, xa_58, xa_59, xa_60, xa_61, xa_62, xa_63, xa_64, xa_65, xa_66, xa_67, xa_68, xa_69, xa_70, xa_71, xa_72, xa_73, xa_74, xa_75, xa_76, xa_77, xa_78, xa_79, xa_80, xa_81, xa_82, xa_83, xa_84, xa_85, xa_86, xa_87, xa_88, vp_nI, nI_clamp, true_and, and_true, nI_1, nI_add, pk_mul, nI_leI, nI_ltI, nI_eq, nI_le0, nI_lt0, b2i_ne, b2i_inj, b2i_nar, b2i_t, b2i_f, n1, n8, n13, n19, a55, a56, a57, a58, a59, a60, a61, a62, a63, a64, a65, a66, a67, a68, a69, a70, x115, x119, x108, x99, x97, q16, q2, q3, q4, q8, q10, q160, q40, q24, q100, q1000, q999]
      rw [← hR]
      exact ⟨fun _ => ⟨rfl, hs, ha, hz⟩, fun q => absurd (Nat.le_refl _) q⟩
  exact x_forget (key 0 (by omega) σ xsame.rf (fun s hs => by omega) (fun s _ => rfl)) (by simp [xle, xst, nI_0])
def MLay (σ : Sg) (M : YM) (T A P : Nat → Bool) (il : Nat → Nat) (L : Nat) : Prop := (∀ s, s < nS M → P s = true → σ 77 s = nI (yAdr M P il L s)) ∧ (∀ n, n < 16 → ∀ z, yComP M T A n = some z → σ 78 z = nI (yAl (yComAt M T A (ySecAt M P il L false (nS M)) n) 4)) ∧ σ 30 35 = nI (ySecAt M P il L true (nS M)) ∧ σ 30 36 = nI (yComAt M T A (ySecAt M P il L false (nS M)) 16)
theorem MLay.s30 (h : MLay σ M T A P il L) (hs : xs30 js l σ τ) (h1 : l.contains 77 = false) (h2 : l.contains 78 = false) (h3 : js.contains 35 = false) (h4 : js.contains 36 = false) : MLay τ M T A P il L := by
  unfold MLay
  rw [hs.at rfl h1, hs.at rfl h2, hs.f h3, hs.f h4]
  exact h
theorem nI_sub100l {g : Nat} (h : g < 100) : nI g - nI 100 < 0 := by
  rw [Int32.lt_iff_toInt_lt, sb_toInt (by omega) (by omega)]
  have : (0 : Int32).toInt = 0 := by decide
  omega
theorem yComP_mod (w : WF M) {n z : Nat} (hn : n < 16) (h : yComP M T A n = some z) : z % 16 = n ∧ z < 160 := by
  obtain ⟨h1, h2, h3, h4, h5, h6, h7⟩ := yComP_spec w hn h
  have h8 := (w.2.2.2.2.1 _ h3).1
  have h9 := w.1.1
  unfold cz at h6
  rw [h4] at h6
  omega
theorem sX8_laysAll (h : MI σ M) (w : WF M) (x : WX M) (hS : MS σ M T) (hL : ML σ M A) (hF : MF σ M T A) (hL4 : L ≤ 40) (hi : MIs σ M il L) (hP : P = yLaid M T A) : XM G mX8_laysAll (d + 2) [.ref 30] σ (fun v τ => v = none ∧ xs30 [35, 36] [77, 78] σ τ ∧ MLay τ M T A P il L) := by
  refine xm_of (by decide +kernel) rfl (Nat.le_of_ble_eq_true rfl) ?_
  refine bX8_laysAll_0 _ _ _ ?_
  obtain ⟨b1, b2, b3, b4, b5⟩ := w.1
  try simp only [xi_iload, xi_aload, xi_lload, xi_istore, xi_astore, xi_lstore, xi_ic, xi_lc, xi_iinc, xi_iadd, xi_isub, xi_imul, xi_iand, xi_iushr, xi_ineg, xi_idiv, xi_irem, xi_ladd, xi_lmul, xi_lrem, xi_lcmp, xi_i2l, xi_l2i, xi_i2c, xi_dup, xi_dup2, xi_pop, xi_ifeq, xi_ifne, xi_iflt, xi_ifge, xi_ifgt, xi_ifle, xi_iceq, xi_icne, xi_iclt, xi_icge, xi_icgt, xi_icle, xi_iret, xi_zret, xi_lret, xi_vret, xi_getf, xi_putf, xi_ald, xi_ast, xi_alen, xi_callV, xi_callS, xpop, xroom, xl, xst, xok1, xok2, xnarrow, xwide, xone, xent, List.replicate, Option.isSome_some, Bool.and_self, Bool.true_and, Bool.and_true, List.length_cons, List.length_nil, Nat.reduceAdd, Nat.reduceLT, decide_true, Bool.not_false, Nat.beq, Nat.ble, Option.toList, List.nil_append, List.cons_append, xf_30_0, xf_30_1, xf_30_2, xf_30_3, xf_30_4, xf_30_5, xf_30_6, xf_30_7, xf_30_8, xf_30_9, xf_30_10, xf_30_11, xf_30_12, xf_30_13, xf_30_14, xf_30_15, xf_30_16, xf_30_17, xf_30_18, xf_30_19, xf_30_20, xf_30_21, xf_30_22, xf_30_23, xf_30_24, xf_30_25, xf_30_26, xf_30_27, xf_30_28, xf_30_29, xf_30_30, xf_30_31, xf_30_32, xf_30_33, xf_30_34, xf_30_35, xf_30_36, xf_30_37, xf_30_38, xf_30_39, xf_30_40, xf_30_41, xf_30_42, xf_30_43, xf_30_44, xf_30_45, xf_30_46, xf_30_47, xf_30_48, xf_30_49, xf_30_50, xa_55, xa_56, xa_57, xa_58, xa_59, xa_60, xa_61, xa_62, xa_63, xa_64, xa_65, xa_66, xa_67, xa_68, xa_69, xa_70, xa_71, xa_72, xa_73, xa_74, xa_75, xa_76, xa_77, xa_78, xa_79, xa_80, xa_81, xa_82, xa_83, xa_84, xa_85, xa_86, xa_87, xa_88]
  refine x_R (sX8_lays (cb := true) h w hL hF hL4 hi hP) (fun v τ1 hτ1 => ?_)
  obtain ⟨rfl, hs1, c1, c2⟩ := hτ1
  try simp only [xi_iload, xi_aload, xi_lload, xi_istore, xi_astore, xi_lstore, xi_ic, xi_lc, xi_iinc, xi_iadd, xi_isub, xi_imul, xi_iand, xi_iushr, xi_ineg, xi_idiv, xi_irem, xi_ladd, xi_lmul, xi_lrem, xi_lcmp, xi_i2l, xi_l2i, xi_i2c, xi_dup, xi_dup2, xi_pop, xi_ifeq, xi_ifne, xi_iflt, xi_ifge, xi_ifgt, xi_ifle, xi_iceq, xi_icne, xi_iclt, xi_icge, xi_icgt, xi_icle, xi_iret, xi_zret, xi_lret, xi_vret, xi_getf, xi_putf, xi_ald, xi_ast, xi_alen, xi_callV, xi_callS, xpop, xroom, xl, xst, xok1, xok2, xnarrow, xwide, xone, xent, List.replicate, Option.isSome_some, Bool.and_self, Bool.true_and, Bool.and_true, List.length_cons, List.length_nil, Nat.reduceAdd, Nat.reduceLT, decide_true, Bool.not_false, Nat.beq, Nat.ble, Option.toList, List.nil_append, List.cons_append, xf_30_0, xf_30_1, xf_30_2, xf_30_3, xf_30_4, xf_30_5, xf_30_6, xf_30_7, xf_30_8, xf_30_9, xf_30_10, xf_30_11, xf_30_12, xf_30_13, xf_30_14, xf_30_15, xf_30_16, xf_30_17, xf_30_18, xf_30_19, xf_30_20, xf_30_21, xf_30_22, xf_30_23, xf_30_24, xf_30_25, xf_30_26, xf_30_27, xf_30_28, xf_30_29, xf_30_30, xf_30_31, xf_30_32, xf_30_33, xf_30_34, xf_30_35, xf_30_36, xf_30_37, xf_30_38, xf_30_39, xf_30_40, xf_30_41, xf_30_42, xf_30_43, xf_30_44, xf_30_45, xf_30_46, xf_30_47, xf_30_48, xf_30_49, xf_30_50, xa_55, xa_56, xa_57, xa_58, xa_59, xa_60, xa_61, xa_62, xa_63, xa_64, xa_65, xa_66, xa_67, xa_68, xa_69, xa_70, xa_71, xa_72, xa_73, xa_74, xa_75, xa_76, xa_77, xa_78, xa_79, xa_80, xa_81, xa_82, xa_83, xa_84, xa_85, xa_86, xa_87, xa_88]
  refine ⟨xnok_i _, ?_⟩
  generalize hτ2 : xup τ1 30 35 (nI (ySecAt M P il L true (nS M))) = τ2
  have hs12 : xs30 [35, 36] [77, 78] τ1 τ2 := by rw [← hτ2]; exact xs30.up rfl
  have hs2 : xs30 [35, 36] [77, 78] σ τ2 := (xs30.ow hs1 (by decide)).tr hs12
  refine x_R (sX8_lays (cb := false) (h.s30 hs2 (by decide) (by decide)) w (hL.s30 hs2 (by decide) (by decide)) (hF.s30 hs2 (by decide)) hL4 (hi.s30 hs2 (by decide) (by decide)) hP) (fun v τ3 hτ3 => ?_)
  obtain ⟨rfl, hs3, c3, c4⟩ := hτ3
  have hs23 : xs30 [35, 36] [77, 78] τ2 τ3 := xs30.ow hs3 (by decide)
  have hs03 := hs2.tr hs23
  try simp only [xi_iload, xi_aload, xi_lload, xi_istore, xi_astore, xi_lstore, xi_ic, xi_lc, xi_iinc, xi_iadd, xi_isub, xi_imul, xi_iand, xi_iushr, xi_ineg, xi_idiv, xi_irem, xi_ladd, xi_lmul, xi_lrem, xi_lcmp, xi_i2l, xi_l2i, xi_i2c, xi_dup, xi_dup2, xi_pop, xi_ifeq, xi_ifne, xi_iflt, xi_ifge, xi_ifgt, xi_ifle, xi_iceq, xi_icne, xi_iclt, xi_icge, xi_icgt, xi_icle, xi_iret, xi_zret, xi_lret, xi_vret, xi_getf, xi_putf, xi_ald, xi_ast, xi_alen, xi_callV, xi_callS, xpop, xroom, xl, xst, xok1, xok2, xnarrow, xwide, xone, xent, List.replicate, Option.isSome_some, Bool.and_self, Bool.true_and, Bool.and_true, List.length_cons, List.length_nil, Nat.reduceAdd, Nat.reduceLT, decide_true, Bool.not_false, Nat.beq, Nat.ble, Option.toList, List.nil_append, List.cons_append, xf_30_0, xf_30_1, xf_30_2, xf_30_3, xf_30_4, xf_30_5, xf_30_6, xf_30_7, xf_30_8, xf_30_9, xf_30_10, xf_30_11, xf_30_12, xf_30_13, xf_30_14, xf_30_15, xf_30_16, xf_30_17, xf_30_18, xf_30_19, xf_30_20, xf_30_21, xf_30_22, xf_30_23, xf_30_24, xf_30_25, xf_30_26, xf_30_27, xf_30_28, xf_30_29, xf_30_30, xf_30_31, xf_30_32, xf_30_33, xf_30_34, xf_30_35, xf_30_36, xf_30_37, xf_30_38, xf_30_39, xf_30_40, xf_30_41, xf_30_42, xf_30_43, xf_30_44, xf_30_45, xf_30_46, xf_30_47, xf_30_48, xf_30_49, xf_30_50, xa_55, xa_56, xa_57, xa_58, xa_59, xa_60, xa_61, xa_62, xa_63, xa_64, xa_65, xa_66, xa_67, xa_68, xa_69, xa_70, xa_71, xa_72, xa_73, xa_74, xa_75, xa_76, xa_77, xa_78, xa_79, xa_80, xa_81, xa_82, xa_83, xa_84, xa_85, xa_86, xa_87, xa_88]
  have h77 : ∀ s, s < nS M → P s = true → τ3 77 s = nI (yAdr M P il L s) := by
    intro s hs hp
    cases hcb : (ySC M s == 1) with
    | true =>
      rw [c4 s (fun z => by rw [hcb] at z; cases z.2), ← hτ2, xup_n (by decide)]
      exact c1 s hs hp hcb
    | false => exact c3 s hs hp hcb
  have h35 : τ3 30 35 = nI (ySecAt M P il L true (nS M)) := by
    rw [hs3.at rfl, ← hτ2, xup_ap, if_pos ⟨rfl, rfl⟩]
  generalize hR : (fun (v : Option Value) (τ : Sg) => v = none ∧ xs30 [35, 36] [77, 78] σ τ ∧ MLay τ M T A P il L) = R
  have hf := ySecAt_le w (P := P) (il := il) (cb := false) hL4 (nS M) (Nat.le_refl _)
  generalize hf0 : ySecAt M P il L false (nS M) = f at hf
  have h92 := y92_le w x
  have key : ∀ j, j ≤ 16 → ∀ τ, xs30 [35, 36] [77, 78] σ τ → xsame [78] τ3 τ → (∀ n, n < j → ∀ z, yComP M T A n = some z → τ 78 z = nI (yAl (yComAt M T A f n) 4)) → AX8_laysAll G (d + 1 + 1) R 21 [some (.ref 30), some (.int (nI (yComAt M T A f j))), some (.int (nI j)), none] [] τ := by
    refine loop_up (fun j hj ih τ hs hs8 ha => ?_) (fun τ hs hs8 ha => ?_)
    · refine bX8_laysAll_21 _ _ _ ?_
      have hM := h.s30 hs (by decide) (by decide)
      obtain ⟨⟨n1, n8, n13, n19⟩, a55, ⟨a56, a57, a58, a59, a60, a61⟩, ⟨a62, a63, a64, a65⟩, a66, a67, a68, a69, a70⟩ := id hM
      have a72 : ∀ n, n < 16 → τ 72 n = oI (yStand M T n) := hS.s30 hs (by decide)
      obtain ⟨a74, a75⟩ := hL.s30 hs (by decide) (by decide)
      have hat := yComAt_le w (T := T) (A := A) (f := f) j (by omega)
      have hstep : yComAt M T A f (j + 1) = match yComP M T A j with
        | none => yComAt M T A f j
        | some z => yAl (yComAt M T A f j) 4 + M 92 z := rfl
      have hskip : yComP M T A j = none → ∀ z, AX8_laysAll G (d + 1 + 1) R 21 [some (.ref 30), some (.int (nI (yComAt M T A f j))), some (.int (nI (j + 1))), z] [] τ := by
        intro hn z
        rw [hstep, hn] at ih
        exact x_forget (ih τ hs hs8 (fun n hnj z hz => by
          by_cases hnj2 : n = j
          · subst hnj2; rw [hn] at hz; cases hz
          · exact ha n (by omega) z hz)) (by simp [xle, xst])
      rcases hst : yStand M T j with _ | g
      · have hn : yComP M T A j = none := by unfold yComP; rw [hst]
        try simp (disch := omega) only [xi_iload, xi_aload, xi_lload, xi_istore, xi_astore, xi_lstore, xi_ic, xi_lc, xi_iinc, xi_iadd, xi_isub, xi_imul, xi_iand, xi_iushr, xi_ineg, xi_idiv, xi_irem, xi_ladd, xi_lmul, xi_lrem, xi_lcmp, xi_i2l, xi_l2i, xi_i2c, xi_dup, xi_dup2, xi_pop, xi_ifeq, xi_ifne, xi_iflt, xi_ifge, xi_ifgt, xi_ifle, xi_iceq, xi_icne, xi_iclt, xi_icge, xi_icgt, xi_icle, xi_iret, xi_zret, xi_lret, xi_vret, xi_getf, xi_putf, xi_ald, xi_ast, xi_alen, xi_callV, xi_callS, xpop, xroom, xl, xst, xok1, xok2, xnarrow, xwide, xone, xent, List.replicate, Option.isSome_some, Bool.and_self, Bool.true_and, Bool.and_true, List.length_cons, List.length_nil, Nat.reduceAdd, Nat.reduceLT, decide_true, Bool.not_false, Nat.beq, Nat.ble, Option.toList, List.nil_append, List.cons_append, xf_30_0, xf_30_1, xf_30_2, xf_30_3, xf_30_4, xf_30_5, xf_30_6, xf_30_7, xf_30_8, xf_30_9, xf_30_10, xf_30_11, xf_30_12, xf_30_13, xf_30_14, xf_30_15, xf_30_16, xf_30_17, xf_30_18, xf_30_19, xf_30_20, xf_30_21, xf_30_22, xf_30_23, xf_30_24, xf_30_25, xf_30_26, xf_30_27, xf_30_28, xf_30_29, xf_30_30, xf_30_31, xf_30_32, xf_30_33, xf_30_34, xf_30_35, xf_30_36, xf_30_37, xf_30_38, xf_30_39, xf_30_40, xf_30_41, xf_30_42, xf_30_43, xf_30_44, xf_30_45, xf_30_46, xf_30_47, xf_30_48, xf_30_49, xf_30_50, xa_55, xa_56, xa_57, xa_58, xa_59, xa_60, xa_61, xa_62, xa_63, xa_64, xa_65, xa_66, xa_67, xa_68, xa_69, xa_70, xa_71, xa_72, xa_73, xa_74, xa_75, xa_76, xa_77, xa_78, xa_79, xa_80, xa_81, xa_82, xa_83, xa_84, xa_85, xa_86, xa_87, xa_88, vp_nI, nI_clamp, true_and, and_true, nI_1, nI_add, pk_mul, nI_leI, nI_ltI, nI_eq, nI_le0, nI_lt0, b2i_ne, b2i_inj, b2i_nar, b2i_t, b2i_f, n1, n8, n13, n19, a55, a56, a57, a58, a59, a60, a61, a62, a63, a64, a65, a66, a67, a68, a69, a70, x115, x119, x108, x99, x97, q16, q2, q3, q4, q8, q10, q160, q40, q24, q100, q1000, q999, a72, hst, oI]
        refine ⟨fun q => absurd q (by omega), fun _ => ⟨fun _ => hskip hn _, fun q => absurd (by decide) q⟩⟩
      · by_cases hg : g < 100
        · have hn : yComP M T A j = none := by unfold yComP; rw [hst]; dsimp only; rw [if_neg (by omega)]
          have hneg := nI_sub100l hg
          try simp (disch := omega) only [xi_iload, xi_aload, xi_lload, xi_istore, xi_astore, xi_lstore, xi_ic, xi_lc, xi_iinc, xi_iadd, xi_isub, xi_imul, xi_iand, xi_iushr, xi_ineg, xi_idiv, xi_irem, xi_ladd, xi_lmul, xi_lrem, xi_lcmp, xi_i2l, xi_l2i, xi_i2c, xi_dup, xi_dup2, xi_pop, xi_ifeq, xi_ifne, xi_iflt, xi_ifge, xi_ifgt, xi_ifle, xi_iceq, xi_icne, xi_iclt, xi_icge, xi_icgt, xi_icle, xi_iret, xi_zret, xi_lret, xi_vret, xi_getf, xi_putf, xi_ald, xi_ast, xi_alen, xi_callV, xi_callS, xpop, xroom, xl, xst, xok1, xok2, xnarrow, xwide, xone, xent, List.replicate, Option.isSome_some, Bool.and_self, Bool.true_and, Bool.and_true, List.length_cons, List.length_nil, Nat.reduceAdd, Nat.reduceLT, decide_true, Bool.not_false, Nat.beq, Nat.ble, Option.toList, List.nil_append, List.cons_append, xf_30_0, xf_30_1, xf_30_2, xf_30_3, xf_30_4, xf_30_5, xf_30_6, xf_30_7, xf_30_8, xf_30_9, xf_30_10, xf_30_11, xf_30_12, xf_30_13, xf_30_14, xf_30_15, xf_30_16, xf_30_17, xf_30_18, xf_30_19, xf_30_20, xf_30_21, xf_30_22, xf_30_23, xf_30_24, xf_30_25, xf_30_26, xf_30_27, xf_30_28, xf_30_29, xf_30_30, xf_30_31, xf_30_32, xf_30_33, xf_30_34, xf_30_35, xf_30_36, xf_30_37, xf_30_38, xf_30_39, xf_30_40, xf_30_41, xf_30_42, xf_30_43, xf_30_44, xf_30_45, xf_30_46, xf_30_47, xf_30_48, xf_30_49, xf_30_50, xa_55, xa_56, xa_57, xa_58, xa_59, xa_60, xa_61, xa_62, xa_63, xa_64, xa_65, xa_66, xa_67, xa_68, xa_69, xa_70, xa_71, xa_72, xa_73, xa_74, xa_75, xa_76, xa_77, xa_78, xa_79, xa_80, xa_81, xa_82, xa_83, xa_84, xa_85, xa_86, xa_87, xa_88, vp_nI, nI_clamp, true_and, and_true, nI_1, nI_add, pk_mul, nI_leI, nI_ltI, nI_eq, nI_le0, nI_lt0, b2i_ne, b2i_inj, b2i_nar, b2i_t, b2i_f, n1, n8, n13, n19, a55, a56, a57, a58, a59, a60, a61, a62, a63, a64, a65, a66, a67, a68, a69, a70, x115, x119, x108, x99, x97, q16, q2, q3, q4, q8, q10, q160, q40, q24, q100, q1000, q999, a72, hst, oI]
          refine ⟨fun q => absurd q (by omega), fun _ => ⟨fun _ => hskip hn _, fun q => absurd hneg q⟩⟩
        · have hok := yStand_ok (M := M) (T := T) hj
          rw [hst] at hok
          obtain ⟨z, rfl⟩ : ∃ z, g = 100 + z := ⟨g - 100, by omega⟩
          have hz : z < 160 := by rcases hok _ rfl with h1 | ⟨o, n, h1, h2, h3, h4⟩ <;> omega
          have hz9 := h92 z
          cases hAz : A (100 + z) with
          | false =>
            have hn : yComP M T A j = none := by unfold yComP; rw [hst]; dsimp only; rw [if_neg (fun q => by rw [hAz] at q; cases q.2)]
            try simp (disch := omega) only [xi_iload, xi_aload, xi_lload, xi_istore, xi_astore, xi_lstore, xi_ic, xi_lc, xi_iinc, xi_iadd, xi_isub, xi_imul, xi_iand, xi_iushr, xi_ineg, xi_idiv, xi_irem, xi_ladd, xi_lmul, xi_lrem, xi_lcmp, xi_i2l, xi_l2i, xi_i2c, xi_dup, xi_dup2, xi_pop, xi_ifeq, xi_ifne, xi_iflt, xi_ifge, xi_ifgt, xi_ifle, xi_iceq, xi_icne, xi_iclt, xi_icge, xi_icgt, xi_icle, xi_iret, xi_zret, xi_lret, xi_vret, xi_getf, xi_putf, xi_ald, xi_ast, xi_alen, xi_callV, xi_callS, xpop, xroom, xl, xst, xok1, xok2, xnarrow, xwide, xone, xent, List.replicate, Option.isSome_some, Bool.and_self, Bool.true_and, Bool.and_true, List.length_cons, List.length_nil, Nat.reduceAdd, Nat.reduceLT, decide_true, Bool.not_false, Nat.beq, Nat.ble, Option.toList, List.nil_append, List.cons_append, xf_30_0, xf_30_1, xf_30_2, xf_30_3, xf_30_4, xf_30_5, xf_30_6, xf_30_7, xf_30_8, xf_30_9, xf_30_10, xf_30_11, xf_30_12, xf_30_13, xf_30_14, xf_30_15, xf_30_16, xf_30_17, xf_30_18, xf_30_19, xf_30_20, xf_30_21, xf_30_22, xf_30_23, xf_30_24, xf_30_25, xf_30_26, xf_30_27, xf_30_28, xf_30_29, xf_30_30, xf_30_31, xf_30_32, xf_30_33, xf_30_34, xf_30_35, xf_30_36, xf_30_37, xf_30_38, xf_30_39, xf_30_40, xf_30_41, xf_30_42, xf_30_43, xf_30_44, xf_30_45, xf_30_46, xf_30_47, xf_30_48, xf_30_49, xf_30_50, xa_55, xa_56, xa_57, xa_58, xa_59, xa_60, xa_61, xa_62, xa_63, xa_64, xa_65, xa_66, xa_67, xa_68, xa_69, xa_70, xa_71, xa_72, xa_73, xa_74, xa_75, xa_76, xa_77, xa_78, xa_79, xa_80, xa_81, xa_82, xa_83, xa_84, xa_85, xa_86, xa_87, xa_88, vp_nI, nI_clamp, true_and, and_true, nI_1, nI_add, pk_mul, nI_leI, nI_ltI, nI_eq, nI_le0, nI_lt0, b2i_ne, b2i_inj, b2i_nar, b2i_t, b2i_f, n1, n8, n13, n19, a55, a56, a57, a58, a59, a60, a61, a62, a63, a64, a65, a66, a67, a68, a69, a70, x115, x119, x108, x99, x97, q16, q2, q3, q4, q8, q10, q160, q40, q24, q100, q1000, q999, a72, hst, oI, nI_sub100, a75, hAz]
            refine ⟨fun q => absurd q (by omega), fun _ => ⟨fun q => absurd q (nI_pos (by omega)), fun _ => ⟨fun _ => hskip hn _, fun q => absurd (by trivial) q⟩⟩⟩
          | true =>
            have hn : yComP M T A j = some z := by unfold yComP; rw [hst]; dsimp only; rw [if_pos ⟨by omega, hAz⟩, Nat.add_sub_cancel_left]
            have hmod := yComP_mod w hj hn
            have hal := yAl_le (a := yComAt M T A f j) (k := 4)
            try simp (disch := omega) only [xi_iload, xi_aload, xi_lload, xi_istore, xi_astore, xi_lstore, xi_ic, xi_lc, xi_iinc, xi_iadd, xi_isub, xi_imul, xi_iand, xi_iushr, xi_ineg, xi_idiv, xi_irem, xi_ladd, xi_lmul, xi_lrem, xi_lcmp, xi_i2l, xi_l2i, xi_i2c, xi_dup, xi_dup2, xi_pop, xi_ifeq, xi_ifne, xi_iflt, xi_ifge, xi_ifgt, xi_ifle, xi_iceq, xi_icne, xi_iclt, xi_icge, xi_icgt, xi_icle, xi_iret, xi_zret, xi_lret, xi_vret, xi_getf, xi_putf, xi_ald, xi_ast, xi_alen, xi_callV, xi_callS, xpop, xroom, xl, xst, xok1, xok2, xnarrow, xwide, xone, xent, List.replicate, Option.isSome_some, Bool.and_self, Bool.true_and, Bool.and_true, List.length_cons, List.length_nil, Nat.reduceAdd, Nat.reduceLT, decide_true, Bool.not_false, Nat.beq, Nat.ble, Option.toList, List.nil_append, List.cons_append, xf_30_0, xf_30_1, xf_30_2, xf_30_3, xf_30_4, xf_30_5, xf_30_6, xf_30_7, xf_30_8, xf_30_9, xf_30_10, xf_30_11, xf_30_12, xf_30_13, xf_30_14, xf_30_15, xf_30_16, xf_30_17, xf_30_18, xf_30_19, xf_30_20, xf_30_21, xf_30_22, xf_30_23, xf_30_24, xf_30_25, xf_30_26, xf_30_27, xf_30_28, xf_30_29, xf_30_30, xf_30_31, xf_30_32, xf_30_33, xf_30_34, xf_30_35, xf_30_36, xf_30_37, xf_30_38, xf_30_39, xf_30_40, xf_30_41, xf_30_42, xf_30_43, xf_30_44, xf_30_45, xf_30_46, xf_30_47, xf_30_48, xf_30_49, xf_30_50, xa_55, xa_56, xa_57, xa_58, xa_59, xa_60, xa_61, xa_62, xa_63, xa_64, xa_65, xa_66, xa_67, xa_68, xa_69, xa_70, xa_71, xa_72, xa_73, xa_74, xa_75, xa_76, xa_77, xa_78, xa_79, xa_80, xa_81, xa_82, xa_83, xa_84, xa_85, xa_86, xa_87, xa_88, vp_nI, nI_clamp, true_and, and_true, nI_1, nI_add, pk_mul, nI_leI, nI_ltI, nI_eq, nI_le0, nI_lt0, b2i_ne, b2i_inj, b2i_nar, b2i_t, b2i_f, n1, n8, n13, n19, a55, a56, a57, a58, a59, a60, a61, a62, a63, a64, a65, a66, a67, a68, a69, a70, x115, x119, x108, x99, x97, q16, q2, q3, q4, q8, q10, q160, q40, q24, q100, q1000, q999, a72, hst, oI, nI_sub100, a75, hAz]
            refine ⟨fun q => absurd q (by omega), fun _ => ⟨fun q => absurd q (nI_pos (by omega)), fun _ => ⟨fun q => absurd q (by decide), fun _ => x_F (sX8_aligned (by omega) (by decide) (by decide)) ?_⟩⟩⟩
            rw [hstep, hn] at ih
            have i0 := ih (xup τ 78 z (nI (yAl (yComAt M T A f j) 4))) (hs.tr (xs30.upc rfl rfl)) (hs8.tr (xsame.up rfl)) (fun n hnj z2 hz2 => by
              rw [xup_ap]
              by_cases hnj2 : n = j
              · rw [hnj2] at hz2 ⊢
                rw [hn] at hz2
                rw [if_pos ⟨rfl, (Option.some.inj hz2).symm⟩]
              · rw [if_neg (fun q => by
                  have := (yComP_mod w (by omega) hz2).1
                  have := q.2
                  omega)]
                exact ha n (by omega) z2 hz2)
            have e78 : ∀ v : Int32, xup τ 78 z v 78 z = v := fun v => by rw [xup_ap, if_pos ⟨rfl, rfl⟩]
            have e66 : ∀ v : Int32, xup τ 78 z v 66 z = nI (M 92 z) := fun v => by rw [xup_n (by decide)]; exact a66 z hz
            try simp (disch := omega) only [xi_iload, xi_aload, xi_lload, xi_istore, xi_astore, xi_lstore, xi_ic, xi_lc, xi_iinc, xi_iadd, xi_isub, xi_imul, xi_iand, xi_iushr, xi_ineg, xi_idiv, xi_irem, xi_ladd, xi_lmul, xi_lrem, xi_lcmp, xi_i2l, xi_l2i, xi_i2c, xi_dup, xi_dup2, xi_pop, xi_ifeq, xi_ifne, xi_iflt, xi_ifge, xi_ifgt, xi_ifle, xi_iceq, xi_icne, xi_iclt, xi_icge, xi_icgt, xi_icle, xi_iret, xi_zret, xi_lret, xi_vret, xi_getf, xi_putf, xi_ald, xi_ast, xi_alen, xi_callV, xi_callS, xpop, xroom, xl, xst, xok1, xok2, xnarrow, xwide, xone, xent, List.replicate, Option.isSome_some, Bool.and_self, Bool.true_and, Bool.and_true, List.length_cons, List.length_nil, Nat.reduceAdd, Nat.reduceLT, decide_true, Bool.not_false, Nat.beq, Nat.ble, Option.toList, List.nil_append, List.cons_append, xf_30_0, xf_30_1, xf_30_2, xf_30_3, xf_30_4, xf_30_5, xf_30_6, xf_30_7, xf_30_8, xf_30_9, xf_30_10, xf_30_11, xf_30_12, xf_30_13, xf_30_14, xf_30_15, xf_30_16, xf_30_17, xf_30_18, xf_30_19, xf_30_20, xf_30_21, xf_30_22, xf_30_23, xf_30_24, xf_30_25, xf_30_26, xf_30_27, xf_30_28, xf_30_29, xf_30_30, xf_30_31, xf_30_32, xf_30_33, xf_30_34, xf_30_35, xf_30_36, xf_30_37, xf_30_38, xf_30_39, xf_30_40, xf_30_41, xf_30_42, xf_30_43, xf_30_44, xf_30_45, xf_30_46, xf_30_47, xf_30_48, xf_30_49, xf_30_50, xa_55, xa_56, xa_57, xa_58, xa_59, xa_60, xa_61, xa_62, xa_63, xa_64, xa_65, xa_66, xa_67, xa_68, xa_69, xa_70, xa_71, xa_72, xa_73, xa_74, xa_75, xa_76, xa_77, xa_78, xa_79, xa_80, xa_81, xa_82, xa_83, xa_84, xa_85, xa_86, xa_87, xa_88, vp_nI, nI_clamp, true_and, and_true, nI_1, nI_add, pk_mul, nI_leI, nI_ltI, nI_eq, nI_le0, nI_lt0, b2i_ne, b2i_inj, b2i_nar, b2i_t, b2i_f, n1, n8, n13, n19, a55, a56, a57, a58, a59, a60, a61, a62, a63, a64, a65, a66, a67, a68, a69, a70, x115, x119, x108, x99, x97, q16, q2, q3, q4, q8, q10, q160, q40, q24, q100, q1000, q999, e78, e66]
            exact x_forget i0 (by simp [xle, xst])
    · refine bX8_laysAll_21 _ _ _ ?_
      try simp only [xi_iload, xi_aload, xi_lload, xi_istore, xi_astore, xi_lstore, xi_ic, xi_lc, xi_iinc, xi_iadd, xi_isub, xi_imul, xi_iand, xi_iushr, xi_ineg, xi_idiv, xi_irem, xi_ladd, xi_lmul, xi_lrem, xi_lcmp, xi_i2l, xi_l2i, xi_i2c, xi_dup, xi_dup2, xi_pop, xi_ifeq, xi_ifne, xi_iflt, xi_ifge, xi_ifgt, xi_ifle, xi_iceq, xi_icne, xi_iclt, xi_icge, xi_icgt, xi_icle, xi_iret, xi_zret, xi_lret, xi_vret, xi_getf, xi_putf, xi_ald, xi_ast, xi_alen, xi_callV, xi_callS, xpop, xroom, xl, xst, xok1, xok2, xnarrow, xwide, xone, xent, List.replicate, Option.isSome_some, Bool.and_self, Bool.true_and, Bool.and_true, List.length_cons, List.length_nil, Nat.reduceAdd, Nat.reduceLT, decide_true, Bool.not_false, Nat.beq, Nat.ble, Option.toList, List.nil_append, List.cons_append, xf_30_0, xf_30_1, xf_30_2, xf_30_3, xf_30_4, xf_30_5, xf_30_6, xf_30_7, xf_30_8, xf_30_9, xf_30_10, xf_30_11, xf_30_12, xf_30_13, xf_30_14, xf_30_15, xf_30_16, xf_30_17, xf_30_18, xf_30_19, xf_30_20, xf_30_21, xf_30_22, xf_30_23, xf_30_24, xf_30_25, xf_30_26, xf_30_27, xf_30_28, xf_30_29, xf_30_30, xf_30_31, xf_30_32, xf_30_33, xf_30_34, xf_30_35, xf_30_36, xf_30_37, xf_30_38, xf_30_39, xf_30_40, xf_30_41, xf_30_42, xf_30_43, xf_30_44, xf_30_45, xf_30_46, xf_30_47, xf_30_48, xf_30_49, xf_30_50, xa_55, xa_56, xa_57, xa_58, xa_59, xa_60, xa_61, xa_62, xa_63, xa_64, xa_65, xa_66, xa_67, xa_68, xa_69, xa_70, xa_71, xa_72, xa_73, xa_74, xa_75, xa_76, xa_77, xa_78, xa_79, xa_80, xa_81, xa_82, xa_83, xa_84, xa_85, xa_86, xa_87, xa_88, q16]
      refine ⟨fun _ => ⟨xnok_i _, ?_⟩, fun q => absurd (nI_le (Nat.le_refl _) (by omega)) q⟩
      rw [← hR]
      refine ⟨rfl, hs.tr (xs30.up rfl), fun s hs2 hp => ?_, fun n hn z hz => ?_, ?_, ?_⟩
      · rw [xup_n (by decide), hs8.at rfl]; exact h77 s hs2 hp
      · rw [xup_n (by decide), hf0]; exact ha n hn z hz
      · rw [xup_ap, if_neg (by omega), hs8.at rfl]; exact h35
      · rw [xup_ap, if_pos ⟨rfl, rfl⟩, hf0]
  exact x_forget (key 0 (by omega) τ3 hs03 xsame.rf (fun n hn => by omega)) (by simp [xle, xst, nI_0, yComAt])
end S56
