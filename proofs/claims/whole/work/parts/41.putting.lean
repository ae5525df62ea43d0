/-! libraries are put on in the order of their needs -/
section S41
variable {G : XG} {N : YM}
def yApp (N : YM) (l : Nat) : YM := yRaise (yU (yU N 15 3 (nSt N + 1)) 40 (nSt N) l) l (nL N)
def yPutL (g : Nat → YM → YM) (l : Nat) : Nat → YM → YM
  | 0, N => N
  | k + 1, N => if yNd (yPutL g l k N) l k = true ∧ yLd (yPutL g l k N) k = false ∧ (yPutL g l k N) 52 k ≠ 1 then g k (yPutL g l k N) else yPutL g l k N
def yPut : Nat → Nat → YM → YM
  | 0, _, N => N
  | f + 1, l, N => yApp (yU (yPutL (yPut f) l (nL N) (yU N 52 l 1)) 52 l 0) l
/-- what stands stands once, and nothing that is underway stands -/
def PS (N : YM) : Prop := nL N ≤ 8 ∧ (∀ z, N 39 z ≤ 1) ∧ (∀ k, k < nSt N → N 40 k < nL N) ∧ nSt N = yCount (yLd N) (nL N) ∧ (∀ l, N 52 l ≤ 1) ∧ ∀ l, l < nL N → N 52 l = 1 → yLd N l = false
theorem PS.room (p : PS N) {l : Nat} (hl : l < nL N) (h : yLd N l = false) : nSt N < nL N := by
  have h1 := yCount_lt (p := yLd N) (q := fun _ => true) (n := nL N) (fun _ _ _ => rfl) ⟨l, hl, rfl, h⟩
  rw [yCount_all] at h1
  rw [p.2.2.2.1]
  exact h1
theorem PS.le (p : PS N) : nSt N ≤ nL N := by
  rw [p.2.2.2.1]
  exact yCount_le
/-- from N to N' libraries were put on, and all is as it was else -/
def PGo (N N' : YM) : Prop := PS N' ∧ N' 52 = N 52 ∧ (∀ c, c ≠ 15 → c ≠ 40 → c ≠ 51 → N' c = N c) ∧ nSt N ≤ nSt N' ∧ ∀ j, N' 51 j ≤ N 51 j + (nSt N' - nSt N)
theorem PGo.rf (p : PS N) : PGo N N := ⟨p, rfl, fun _ _ _ _ => rfl, Nat.le_refl _, fun j => Nat.le_add_right _ _⟩
theorem PGo.tr {N' N'' : YM} (h : PGo N N') (g : PGo N' N'') : PGo N N'' := by
  obtain ⟨h1, h2, h3, h4, h5⟩ := h
  obtain ⟨g1, g2, g3, g4, g5⟩ := g
  refine ⟨g1, g2.trans h2, fun c a b e => (g3 c a b e).trans (h3 c a b e), Nat.le_trans h4 g4, fun j => ?_⟩
  have := h5 j
  have := g5 j
  omega
theorem PGo.nL {N' : YM} (h : PGo N N') : nL N' = nL N := congrFun (h.2.2.1 13 (by decide) (by decide) (by decide)) 3
theorem PGo.nd {N' : YM} (h : PGo N N') {l o : Nat} : yNd N' l o = yNd N l o := by
  unfold yNd
  rw [h.2.2.1 39 (by decide) (by decide) (by decide)]
theorem yLd_52 {l i v : Nat} : yLd (yU N 52 i v) l = yLd N l := by
  unfold yLd
  have e1 : nSt (yU N 52 i v) = nSt N := rfl
  have e2 : (yU N 52 i v) 40 = N 40 := rfl
  rw [e1, e2]
theorem yLd_app {l j : Nat} : yLd (yApp N l) j = (yLd N j || l == j) := by
  have e1 : nSt (yApp N l) = nSt N + 1 := by
    show yRaise _ _ _ 15 3 = _
    rw [yRaise_ot (by decide)]
    rfl
  have e2 : (yApp N l) 40 = (yU (yU N 15 3 (nSt N + 1)) 40 (nSt N) l) 40 := yRaise_ot (by decide)
  unfold yLd
  rw [e1, e2, anyB]
  congr 1
  · rw [Bool.eq_iff_iff, anyB_iff, anyB_iff]
    constructor
    · rintro ⟨k, hk, h⟩
      refine ⟨k, hk, ?_⟩
      have e3 : (yU (yU N 15 3 (nSt N + 1)) 40 (nSt N) l) 40 k = N 40 k := by
        unfold yU
        rw [if_neg (by omega), if_neg (by omega)]
      rw [e3] at h
      exact h
    · rintro ⟨k, hk, h⟩
      refine ⟨k, hk, ?_⟩
      have e3 : (yU (yU N 15 3 (nSt N + 1)) 40 (nSt N) l) 40 k = N 40 k := by
        unfold yU
        rw [if_neg (by omega), if_neg (by omega)]
      rw [e3]
      exact h
  · have e3 : (yU (yU N 15 3 (nSt N + 1)) 40 (nSt N) l) 40 (nSt N) = l := by
      unfold yU
      rw [if_pos ⟨rfl, rfl⟩]
    rw [e3]
theorem PGo_app (p : PS N) {l : Nat} (hl : l < nL N) (h0 : yLd N l = false) (hu : N 52 l = 0) : PGo N (yApp N l) ∧ nSt (yApp N l) = nSt N + 1 := by
  obtain ⟨p1, p2, p3, p4, p5, p6⟩ := id p
  have hr := p.room hl h0
  have e1 : nSt (yApp N l) = nSt N + 1 := by
    show yRaise _ _ _ 15 3 = _
    rw [yRaise_ot (by decide)]
    rfl
  have e2 : (yApp N l) 40 = (yU (yU N 15 3 (nSt N + 1)) 40 (nSt N) l) 40 := yRaise_ot (by decide)
  have e3 : ∀ c, c ≠ 15 → c ≠ 40 → c ≠ 51 → yApp N l c = N c := by
    intro c h1 h2 h3
    refine (yRaise_ot h3).trans ?_
    funext i
    unfold yU
    rw [if_neg (fun z => h2 z.1), if_neg (fun z => h1 z.1)]
  have e4 : nL (yApp N l) = nL N := congrFun (e3 13 (by decide) (by decide) (by decide)) 3
  refine ⟨⟨⟨by rw [e4]; exact p1, fun z => ?_, fun k hk => ?_, ?_, fun j => ?_, fun j hj h1 => ?_⟩, e3 52 (by decide) (by decide) (by decide), e3, by omega, fun j => ?_⟩, e1⟩
  · rw [e3 39 (by decide) (by decide) (by decide)]; exact p2 z
  · rw [e1] at hk
    rw [e2, e4]
    unfold yU
    by_cases hkn : k = nSt N
    · rw [if_pos ⟨rfl, hkn⟩]; exact hl
    · rw [if_neg (fun z => hkn z.2), if_neg (by omega)]; exact p3 k (by omega)
  · rw [e1, e4, p4]
    refine (yCount_put (k := l) h0 (by rw [yLd_app]; simp) (fun x hx => ?_) hl).symm
    rw [yLd_app, show (l == x) = false from by simpa using Ne.symm hx, Bool.or_false]
  · rw [e3 52 (by decide) (by decide) (by decide)]; exact p5 j
  · rw [e3 52 (by decide) (by decide) (by decide)] at h1
    rw [e4] at hj
    rw [yLd_app, p6 j hj h1, Bool.false_or]
    have : l ≠ j := by intro z; rw [z] at hu; omega
    simpa using this
  · rw [e1]
    show yRaise _ _ _ 51 j ≤ _
    rw [yRaise_at]
    have e5 : (yU (yU N 15 3 (nSt N + 1)) 40 (nSt N) l) 51 j = N 51 j := rfl
    rw [e5]
    split <;> omega
theorem PGo_put : ∀ (f : Nat) {l : Nat} {N : YM}, PS N → l < nL N → N 52 l = 0 → yLd N l = false → PGo N (yPut f l N) := by
  intro f
  induction f with
  | zero => intro l N p _ _ _; exact PGo.rf p
  | succ f ih =>
    intro l N p hl hu h0
    obtain ⟨p1, p2, p3, p4, p5, p6⟩ := id p
    have pN1 : PS (yU N 52 l 1) := by
      refine ⟨p1, p2, p3, ?_, fun j => ?_, fun j hj h1 => ?_⟩
      · show nSt N = yCount (yLd (yU N 52 l 1)) (nL N)
        rw [p4]
        exact yCount_cg (fun x _ => yLd_52.symm)
      · unfold yU; split
        · omega
        · exact p5 j
      · rw [yLd_52]
        unfold yU at h1
        split at h1
        · next hz => rw [hz.2]; exact h0
        · exact p6 j hj h1
    have loop : ∀ k, k ≤ nL N → PGo (yU N 52 l 1) (yPutL (yPut f) l k (yU N 52 l 1)) := by
      intro k
      induction k with
      | zero => intro _; exact PGo.rf pN1
      | succ k ihk =>
        intro hk
        have h1 := ihk (by omega)
        unfold yPutL
        split
        · next hc =>
          have h5 := h1.1.2.2.2.2.1 k
          exact h1.tr (ih h1.1 (by rw [h1.nL]; show k < nL N; omega) (by omega) hc.2.1)
        · exact h1
    have hg := loop (nL N) (Nat.le_refl _)
    generalize hN2 : yPutL (yPut f) l (nL N) (yU N 52 l 1) = N2 at hg
    have hu2 : N2 52 l = 1 := by
      rw [hg.2.1]
      unfold yU
      rw [if_pos ⟨rfl, rfl⟩]
    have hl2 : l < nL N2 := by rw [hg.nL]; exact hl
    have h02 := hg.1.2.2.2.2.2 l hl2 hu2
    obtain ⟨q1, q2, q3, q4, q5, q6⟩ := hg.1
    have pN3 : PS (yU N2 52 l 0) := by
      refine ⟨q1, q2, q3, ?_, fun j => ?_, fun j hj h1 => ?_⟩
      · show nSt N2 = yCount (yLd (yU N2 52 l 0)) (nL N2)
        rw [q4]
        exact yCount_cg (fun x _ => yLd_52.symm)
      · unfold yU; split
        · omega
        · exact q5 j
      · rw [yLd_52]
        unfold yU at h1
        split at h1
        · cases h1
        · exact q6 j hj h1
    obtain ⟨ha, hb⟩ := PGo_app pN3 (l := l) hl2 (by rw [yLd_52]; exact h02) (by unfold yU; rw [if_pos ⟨rfl, rfl⟩])
    have e0 : yPut (f + 1) l N = yApp (yU N2 52 l 0) l := by rw [yPut, hN2]
    rw [e0]
    obtain ⟨a1, a2, a3, a4, a5⟩ := ha
    obtain ⟨b1, b2, b3, b4, b5⟩ := hg
    have e52 : ∀ j, (yU N2 52 l 0) 52 j = N 52 j := by
      intro j
      unfold yU
      by_cases hj : j = l
      · rw [if_pos ⟨rfl, hj⟩, hj, hu]
      · rw [if_neg (fun z => hj z.2), b2]
        unfold yU
        rw [if_neg (fun z => hj z.2)]
    refine ⟨a1, ?_, fun c c1 c2 c3 => ?_, Nat.le_trans b4 a4, fun j => ?_⟩
    · rw [a2]; exact funext e52
    · rw [a3 c c1 c2 c3]
      by_cases h52 : c = 52
      · rw [h52]; exact funext e52
      · have e6 : (yU N2 52 l 0) c = N2 c := by
          funext i
          unfold yU
          rw [if_neg (fun z => h52 z.1)]
        rw [e6, b3 c c1 c2 c3]
        funext i
        unfold yU
        rw [if_neg (fun z => h52 z.1)]
    · have h1 := a5 j
      have h2 := b5 j
      have e7 : nSt (yU N2 52 l 0) = nSt N2 := rfl
      have e8 : nSt (yU N 52 l 1) = nSt N := rfl
      have e9 : (yU N2 52 l 0) 51 j = N2 51 j := rfl
      have e10 : (yU N 52 l 1) 51 j = N 51 j := rfl
      rw [e7, e9] at h1
      rw [e8, e10] at h2
      have e11 : nSt (yU N2 52 l 0) ≤ nSt (yApp (yU N2 52 l 0) l) := a4
      rw [e7] at e11
      rw [e8] at b4
      omega
/-- the loop over what a library needs -/
theorem PGo_putL {f l : Nat} (p : PS N) (hl : l < nL N) (hu : N 52 l = 0) (h0 : yLd N l = false) : ∀ k, k ≤ nL N → PGo (yU N 52 l 1) (yPutL (yPut f) l k (yU N 52 l 1)) := by
  obtain ⟨p1, p2, p3, p4, p5, p6⟩ := id p
  have pN1 : PS (yU N 52 l 1) := by
    refine ⟨p1, p2, p3, ?_, fun j => ?_, fun j hj h1 => ?_⟩
    · show nSt N = yCount (yLd (yU N 52 l 1)) (nL N)
      rw [p4]
      exact yCount_cg (fun x _ => yLd_52.symm)
    · unfold yU; split
      · omega
      · exact p5 j
    · rw [yLd_52]
      unfold yU at h1
      split at h1
      · next hz => rw [hz.2]; exact h0
      · exact p6 j hj h1
  intro k
  induction k with
  | zero => intro _; exact PGo.rf pN1
  | succ k ihk =>
    intro hk
    have h1 := ihk (by omega)
    unfold yPutL
    split
    · next hc =>
      have h5 := h1.1.2.2.2.2.1 k
      exact h1.tr (PGo_put f h1.1 (by rw [h1.nL]; show k < nL N; omega) (by omega) hc.2.1)
    · exact h1
theorem sX2_putOn : ∀ (f : Nat) {d l : Nat} {σ : Sg} {N : YM}, f ≤ 9 → LI σ N → PS N → l < nL N → N 52 l = 0 → yLd N l = false → XM G mX2_putOn (d + f + 3) [.ref 5, .int (nI l), .int (nI (9 - f))] σ (fun v τ => v = none ∧ xsame [15, 40, 51, 52] σ τ ∧ LI τ (yPut f l N)) := by
  intro f
  induction f with
  | zero =>
    intro d l σ N hf hI p hl hu h0
    refine xm_of (by decide +kernel) rfl (Nat.le_of_ble_eq_true rfl) ?_
    refine bX2_putOn_0 _ _ _ ?_
    try simp only [xi_iload, xi_aload, xi_lload, xi_istore, xi_astore, xi_lstore, xi_ic, xi_lc, xi_iinc, xi_iadd, xi_isub, xi_imul, xi_iand, xi_iushr, xi_ineg, xi_idiv, xi_irem, xi_ladd, xi_lmul, xi_lrem, xi_lcmp, xi_i2l, xi_l2i, xi_i2c, xi_dup, xi_dup2, xi_pop, xi_ifeq, xi_ifne, xi_iflt, xi_ifge, xi_ifgt, xi_ifle, xi_iceq, xi_icne, xi_iclt, xi_icge, xi_icgt, xi_icle, xi_iret, xi_zret, xi_lret, xi_vret, xi_getf, xi_putf, xi_ald, xi_ast, xi_alen, xi_callV, xi_callS, xpop, xroom, xl, xst, xok1, xok2, xnarrow, xwide, xone, xent, List.replicate, Option.isSome_some, Bool.and_self, Bool.true_and, Bool.and_true, List.length_cons, List.length_nil, Nat.reduceAdd, Nat.reduceLT, decide_true, Bool.not_false, Nat.beq, Nat.ble, Option.toList, List.nil_append, List.cons_append, xf_0_0, xf_0_1, xf_0_2, xf_0_3, xf_0_4, xf_0_5, xf_0_6, xf_0_7, xf_0_8, xf_0_9, xf_1_0, xf_1_1, xf_1_2, xf_1_3, xf_1_4, xf_2_0, xf_2_1, xf_2_2, xf_2_3, xf_2_4, xf_2_5, xf_2_6, xf_2_7, xf_3_0, xf_3_1, xf_3_2, xf_3_3, xf_3_4, xf_3_5, xf_3_6, xf_3_7, xf_4_0, xf_4_1, xf_4_2, xf_4_3, xf_4_4, xf_4_5, xf_4_6, xf_5_0, xf_5_1, xf_5_2, xf_5_3, xf_5_4, xf_5_5, xf_5_6, xf_5_7, xf_6_3, xf_7_3, xf_8_3, xf_9_3, xf_10_3, xf_11_3, xf_12_3, xf_13_3, xf_14_3, xf_15_3, xf_16_3]
    exact ⟨fun q => absurd q (by decide), fun _ => ⟨trivial, xsame.rf, hI⟩⟩
  | succ f ih =>
    intro d l σ N hf hI p hl hu h0
    refine xm_of (by decide +kernel) rfl (Nat.le_of_ble_eq_true rfl) ?_
    refine bX2_putOn_0 (d := d + f + 3) _ _ _ ?_
    have hb := p.1
    try simp only [xi_iload, xi_aload, xi_lload, xi_istore, xi_astore, xi_lstore, xi_ic, xi_lc, xi_iinc, xi_iadd, xi_isub, xi_imul, xi_iand, xi_iushr, xi_ineg, xi_idiv, xi_irem, xi_ladd, xi_lmul, xi_lrem, xi_lcmp, xi_i2l, xi_l2i, xi_i2c, xi_dup, xi_dup2, xi_pop, xi_ifeq, xi_ifne, xi_iflt, xi_ifge, xi_ifgt, xi_ifle, xi_iceq, xi_icne, xi_iclt, xi_icge, xi_icgt, xi_icle, xi_iret, xi_zret, xi_lret, xi_vret, xi_getf, xi_putf, xi_ald, xi_ast, xi_alen, xi_callV, xi_callS, xpop, xroom, xl, xst, xok1, xok2, xnarrow, xwide, xone, xent, List.replicate, Option.isSome_some, Bool.and_self, Bool.true_and, Bool.and_true, List.length_cons, List.length_nil, Nat.reduceAdd, Nat.reduceLT, decide_true, Bool.not_false, Nat.beq, Nat.ble, Option.toList, List.nil_append, List.cons_append, xf_0_0, xf_0_1, xf_0_2, xf_0_3, xf_0_4, xf_0_5, xf_0_6, xf_0_7, xf_0_8, xf_0_9, xf_1_0, xf_1_1, xf_1_2, xf_1_3, xf_1_4, xf_2_0, xf_2_1, xf_2_2, xf_2_3, xf_2_4, xf_2_5, xf_2_6, xf_2_7, xf_3_0, xf_3_1, xf_3_2, xf_3_3, xf_3_4, xf_3_5, xf_3_6, xf_3_7, xf_4_0, xf_4_1, xf_4_2, xf_4_3, xf_4_4, xf_4_5, xf_4_6, xf_5_0, xf_5_1, xf_5_2, xf_5_3, xf_5_4, xf_5_5, xf_5_6, xf_5_7, xf_6_3, xf_7_3, xf_8_3, xf_9_3, xf_10_3, xf_11_3, xf_12_3, xf_13_3, xf_14_3, xf_15_3, xf_16_3]
    rw [show (8 : Int32) = nI 8 from rfl, nI_leI (by omega) (by omega)]
    refine ⟨fun _ => x_F (sX3_set row27 (by omega)) ?_, fun q => absurd (by omega) q⟩
    try simp only [xi_iload, xi_aload, xi_lload, xi_istore, xi_astore, xi_lstore, xi_ic, xi_lc, xi_iinc, xi_iadd, xi_isub, xi_imul, xi_iand, xi_iushr, xi_ineg, xi_idiv, xi_irem, xi_ladd, xi_lmul, xi_lrem, xi_lcmp, xi_i2l, xi_l2i, xi_i2c, xi_dup, xi_dup2, xi_pop, xi_ifeq, xi_ifne, xi_iflt, xi_ifge, xi_ifgt, xi_ifle, xi_iceq, xi_icne, xi_iclt, xi_icge, xi_icgt, xi_icle, xi_iret, xi_zret, xi_lret, xi_vret, xi_getf, xi_putf, xi_ald, xi_ast, xi_alen, xi_callV, xi_callS, xpop, xroom, xl, xst, xok1, xok2, xnarrow, xwide, xone, xent, List.replicate, Option.isSome_some, Bool.and_self, Bool.true_and, Bool.and_true, List.length_cons, List.length_nil, Nat.reduceAdd, Nat.reduceLT, decide_true, Bool.not_false, Nat.beq, Nat.ble, Option.toList, List.nil_append, List.cons_append, xf_0_0, xf_0_1, xf_0_2, xf_0_3, xf_0_4, xf_0_5, xf_0_6, xf_0_7, xf_0_8, xf_0_9, xf_1_0, xf_1_1, xf_1_2, xf_1_3, xf_1_4, xf_2_0, xf_2_1, xf_2_2, xf_2_3, xf_2_4, xf_2_5, xf_2_6, xf_2_7, xf_3_0, xf_3_1, xf_3_2, xf_3_3, xf_3_4, xf_3_5, xf_3_6, xf_3_7, xf_4_0, xf_4_1, xf_4_2, xf_4_3, xf_4_4, xf_4_5, xf_4_6, xf_5_0, xf_5_1, xf_5_2, xf_5_3, xf_5_4, xf_5_5, xf_5_6, xf_5_7, xf_6_3, xf_7_3, xf_8_3, xf_9_3, xf_10_3, xf_11_3, xf_12_3, xf_13_3, xf_14_3, xf_15_3, xf_16_3]
    generalize hR : (fun (v : Option Value) (τ : Sg) => v = none ∧ xsame [15, 40, 51, 52] σ τ ∧ LI τ (yPut (f + 1) l N)) = R
    have hloop := PGo_putL (f := f) p hl hu h0
    have key : ∀ j, j ≤ nL N → ∀ τ, xsame [15, 40, 51, 52] σ τ → LI τ (yPutL (yPut f) l j (yU N 52 l 1)) → AX2_putOn G (d + f + 3 + 1) R 18 [some (.ref 5), some (.int (nI l)), some (.int (nI (9 - (f + 1)))), some (.int (nI j))] [] τ := by
      refine loop_up (fun j hj ihj τ hs hJ => ?_) (fun τ hs hJ => ?_)
      · refine bX2_putOn_18 (d := d + f + 3) _ _ _ ?_
        have hg := hloop j (by omega)
        have hc : τ 13 3 = nI (nL N) := by
          rw [hJ.nL, hg.nL]
          rfl
        generalize hNj : yPutL (yPut f) l j (yU N 52 l 1) = Nj at hJ hg
        have hps := hg.1
        have hnl : nL Nj = nL N := hg.nL
        have hstl := hps.le
        try simp only [xi_iload, xi_aload, xi_lload, xi_istore, xi_astore, xi_lstore, xi_ic, xi_lc, xi_iinc, xi_iadd, xi_isub, xi_imul, xi_iand, xi_iushr, xi_ineg, xi_idiv, xi_irem, xi_ladd, xi_lmul, xi_lrem, xi_lcmp, xi_i2l, xi_l2i, xi_i2c, xi_dup, xi_dup2, xi_pop, xi_ifeq, xi_ifne, xi_iflt, xi_ifge, xi_ifgt, xi_ifle, xi_iceq, xi_icne, xi_iclt, xi_icge, xi_icgt, xi_icle, xi_iret, xi_zret, xi_lret, xi_vret, xi_getf, xi_putf, xi_ald, xi_ast, xi_alen, xi_callV, xi_callS, xpop, xroom, xl, xst, xok1, xok2, xnarrow, xwide, xone, xent, List.replicate, Option.isSome_some, Bool.and_self, Bool.true_and, Bool.and_true, List.length_cons, List.length_nil, Nat.reduceAdd, Nat.reduceLT, decide_true, Bool.not_false, Nat.beq, Nat.ble, Option.toList, List.nil_append, List.cons_append, xf_0_0, xf_0_1, xf_0_2, xf_0_3, xf_0_4, xf_0_5, xf_0_6, xf_0_7, xf_0_8, xf_0_9, xf_1_0, xf_1_1, xf_1_2, xf_1_3, xf_1_4, xf_2_0, xf_2_1, xf_2_2, xf_2_3, xf_2_4, xf_2_5, xf_2_6, xf_2_7, xf_3_0, xf_3_1, xf_3_2, xf_3_3, xf_3_4, xf_3_5, xf_3_6, xf_3_7, xf_4_0, xf_4_1, xf_4_2, xf_4_3, xf_4_4, xf_4_5, xf_4_6, xf_5_0, xf_5_1, xf_5_2, xf_5_3, xf_5_4, xf_5_5, xf_5_6, xf_5_7, xf_6_3, xf_7_3, xf_8_3, xf_9_3, xf_10_3, xf_11_3, xf_12_3, xf_13_3, xf_14_3, xf_15_3, xf_16_3, hc, nI_1]
        refine ⟨fun q => absurd q (nI_ge hj (by omega)), fun _ => x_F (sX2_isNeeding (d := d + f + 2) hJ (by omega) (by omega) (hps.2.1 _)) ?_⟩
        try simp only [xi_iload, xi_aload, xi_lload, xi_istore, xi_astore, xi_lstore, xi_ic, xi_lc, xi_iinc, xi_iadd, xi_isub, xi_imul, xi_iand, xi_iushr, xi_ineg, xi_idiv, xi_irem, xi_ladd, xi_lmul, xi_lrem, xi_lcmp, xi_i2l, xi_l2i, xi_i2c, xi_dup, xi_dup2, xi_pop, xi_ifeq, xi_ifne, xi_iflt, xi_ifge, xi_ifgt, xi_ifle, xi_iceq, xi_icne, xi_iclt, xi_icge, xi_icgt, xi_icle, xi_iret, xi_zret, xi_lret, xi_vret, xi_getf, xi_putf, xi_ald, xi_ast, xi_alen, xi_callV, xi_callS, xpop, xroom, xl, xst, xok1, xok2, xnarrow, xwide, xone, xent, List.replicate, Option.isSome_some, Bool.and_self, Bool.true_and, Bool.and_true, List.length_cons, List.length_nil, Nat.reduceAdd, Nat.reduceLT, decide_true, Bool.not_false, Nat.beq, Nat.ble, Option.toList, List.nil_append, List.cons_append, xf_0_0, xf_0_1, xf_0_2, xf_0_3, xf_0_4, xf_0_5, xf_0_6, xf_0_7, xf_0_8, xf_0_9, xf_1_0, xf_1_1, xf_1_2, xf_1_3, xf_1_4, xf_2_0, xf_2_1, xf_2_2, xf_2_3, xf_2_4, xf_2_5, xf_2_6, xf_2_7, xf_3_0, xf_3_1, xf_3_2, xf_3_3, xf_3_4, xf_3_5, xf_3_6, xf_3_7, xf_4_0, xf_4_1, xf_4_2, xf_4_3, xf_4_4, xf_4_5, xf_4_6, xf_5_0, xf_5_1, xf_5_2, xf_5_3, xf_5_4, xf_5_5, xf_5_6, xf_5_7, xf_6_3, xf_7_3, xf_8_3, xf_9_3, xf_10_3, xf_11_3, xf_12_3, xf_13_3, xf_14_3, xf_15_3, xf_16_3, nI_1]
        rw [b2i_ne]
        have hskip : ¬ (yNd Nj l j = true ∧ yLd Nj j = false ∧ Nj 52 j ≠ 1) → AX2_putOn G (d + f + 3 + 1) R 18 [some (.ref 5), some (.int (nI l)), some (.int (nI (9 - (f + 1)))), some (.int (nI (j + 1)))] [] τ := by
          intro hno
          refine ihj τ hs ?_
          rw [yPutL, hNj, if_neg hno]
          exact hJ
        refine ⟨fun q => hskip (fun z => by rw [z.1] at q; cases q), fun q => x_F (sX2_isLoaded (d := d + f + 2) hJ (by omega) (fun k hk => by have := hps.2.2.1 k hk; omega) (by omega)) ?_⟩
        try simp only [xi_iload, xi_aload, xi_lload, xi_istore, xi_astore, xi_lstore, xi_ic, xi_lc, xi_iinc, xi_iadd, xi_isub, xi_imul, xi_iand, xi_iushr, xi_ineg, xi_idiv, xi_irem, xi_ladd, xi_lmul, xi_lrem, xi_lcmp, xi_i2l, xi_l2i, xi_i2c, xi_dup, xi_dup2, xi_pop, xi_ifeq, xi_ifne, xi_iflt, xi_ifge, xi_ifgt, xi_ifle, xi_iceq, xi_icne, xi_iclt, xi_icge, xi_icgt, xi_icle, xi_iret, xi_zret, xi_lret, xi_vret, xi_getf, xi_putf, xi_ald, xi_ast, xi_alen, xi_callV, xi_callS, xpop, xroom, xl, xst, xok1, xok2, xnarrow, xwide, xone, xent, List.replicate, Option.isSome_some, Bool.and_self, Bool.true_and, Bool.and_true, List.length_cons, List.length_nil, Nat.reduceAdd, Nat.reduceLT, decide_true, Bool.not_false, Nat.beq, Nat.ble, Option.toList, List.nil_append, List.cons_append, xf_0_0, xf_0_1, xf_0_2, xf_0_3, xf_0_4, xf_0_5, xf_0_6, xf_0_7, xf_0_8, xf_0_9, xf_1_0, xf_1_1, xf_1_2, xf_1_3, xf_1_4, xf_2_0, xf_2_1, xf_2_2, xf_2_3, xf_2_4, xf_2_5, xf_2_6, xf_2_7, xf_3_0, xf_3_1, xf_3_2, xf_3_3, xf_3_4, xf_3_5, xf_3_6, xf_3_7, xf_4_0, xf_4_1, xf_4_2, xf_4_3, xf_4_4, xf_4_5, xf_4_6, xf_5_0, xf_5_1, xf_5_2, xf_5_3, xf_5_4, xf_5_5, xf_5_6, xf_5_7, xf_6_3, xf_7_3, xf_8_3, xf_9_3, xf_10_3, xf_11_3, xf_12_3, xf_13_3, xf_14_3, xf_15_3, xf_16_3, nI_1]
        rw [b2i_ne]
        refine ⟨fun q2 => hskip (fun z => by rw [z.2.1] at q2; exact q2 rfl), fun q2 => x_F (sX3_get row27 (by omega)) ?_⟩
        rw [hJ.uw (by omega)]
        try simp only [xi_iload, xi_aload, xi_lload, xi_istore, xi_astore, xi_lstore, xi_ic, xi_lc, xi_iinc, xi_iadd, xi_isub, xi_imul, xi_iand, xi_iushr, xi_ineg, xi_idiv, xi_irem, xi_ladd, xi_lmul, xi_lrem, xi_lcmp, xi_i2l, xi_l2i, xi_i2c, xi_dup, xi_dup2, xi_pop, xi_ifeq, xi_ifne, xi_iflt, xi_ifge, xi_ifgt, xi_ifle, xi_iceq, xi_icne, xi_iclt, xi_icge, xi_icgt, xi_icle, xi_iret, xi_zret, xi_lret, xi_vret, xi_getf, xi_putf, xi_ald, xi_ast, xi_alen, xi_callV, xi_callS, xpop, xroom, xl, xst, xok1, xok2, xnarrow, xwide, xone, xent, List.replicate, Option.isSome_some, Bool.and_self, Bool.true_and, Bool.and_true, List.length_cons, List.length_nil, Nat.reduceAdd, Nat.reduceLT, decide_true, Bool.not_false, Nat.beq, Nat.ble, Option.toList, List.nil_append, List.cons_append, xf_0_0, xf_0_1, xf_0_2, xf_0_3, xf_0_4, xf_0_5, xf_0_6, xf_0_7, xf_0_8, xf_0_9, xf_1_0, xf_1_1, xf_1_2, xf_1_3, xf_1_4, xf_2_0, xf_2_1, xf_2_2, xf_2_3, xf_2_4, xf_2_5, xf_2_6, xf_2_7, xf_3_0, xf_3_1, xf_3_2, xf_3_3, xf_3_4, xf_3_5, xf_3_6, xf_3_7, xf_4_0, xf_4_1, xf_4_2, xf_4_3, xf_4_4, xf_4_5, xf_4_6, xf_5_0, xf_5_1, xf_5_2, xf_5_3, xf_5_4, xf_5_5, xf_5_6, xf_5_7, xf_6_3, xf_7_3, xf_8_3, xf_9_3, xf_10_3, xf_11_3, xf_12_3, xf_13_3, xf_14_3, xf_15_3, xf_16_3, nI_1]
        have h52 := hps.2.2.2.2.1 j
        rw [show (1 : Int32) = nI 1 from rfl, nI_eq (by omega) (by omega)]
        refine ⟨fun q3 => hskip (fun z => z.2.2 q3), fun q3 => ?_⟩
        have hld : yLd Nj j = false := by simpa using q2
        rw [show 9 - (f + 1) + 1 = 9 - f by omega]
        refine x_R (ih (d := d) (by omega) hJ hps (by omega) (by omega) hld) (fun v ρ hρ => ?_)
        obtain ⟨rfl, hs2, hJ2⟩ := hρ
        try simp only [xi_iload, xi_aload, xi_lload, xi_istore, xi_astore, xi_lstore, xi_ic, xi_lc, xi_iinc, xi_iadd, xi_isub, xi_imul, xi_iand, xi_iushr, xi_ineg, xi_idiv, xi_irem, xi_ladd, xi_lmul, xi_lrem, xi_lcmp, xi_i2l, xi_l2i, xi_i2c, xi_dup, xi_dup2, xi_pop, xi_ifeq, xi_ifne, xi_iflt, xi_ifge, xi_ifgt, xi_ifle, xi_iceq, xi_icne, xi_iclt, xi_icge, xi_icgt, xi_icle, xi_iret, xi_zret, xi_lret, xi_vret, xi_getf, xi_putf, xi_ald, xi_ast, xi_alen, xi_callV, xi_callS, xpop, xroom, xl, xst, xok1, xok2, xnarrow, xwide, xone, xent, List.replicate, Option.isSome_some, Bool.and_self, Bool.true_and, Bool.and_true, List.length_cons, List.length_nil, Nat.reduceAdd, Nat.reduceLT, decide_true, Bool.not_false, Nat.beq, Nat.ble, Option.toList, List.nil_append, List.cons_append, xf_0_0, xf_0_1, xf_0_2, xf_0_3, xf_0_4, xf_0_5, xf_0_6, xf_0_7, xf_0_8, xf_0_9, xf_1_0, xf_1_1, xf_1_2, xf_1_3, xf_1_4, xf_2_0, xf_2_1, xf_2_2, xf_2_3, xf_2_4, xf_2_5, xf_2_6, xf_2_7, xf_3_0, xf_3_1, xf_3_2, xf_3_3, xf_3_4, xf_3_5, xf_3_6, xf_3_7, xf_4_0, xf_4_1, xf_4_2, xf_4_3, xf_4_4, xf_4_5, xf_4_6, xf_5_0, xf_5_1, xf_5_2, xf_5_3, xf_5_4, xf_5_5, xf_5_6, xf_5_7, xf_6_3, xf_7_3, xf_8_3, xf_9_3, xf_10_3, xf_11_3, xf_12_3, xf_13_3, xf_14_3, xf_15_3, xf_16_3, nI_1]
        refine ihj ρ (hs.tr hs2) ?_
        rw [yPutL, hNj, if_pos ⟨by simpa using q, hld, q3⟩]
        exact hJ2
      · refine bX2_putOn_18 (d := d + f + 3) _ _ _ ?_
        have hg := hloop (nL N) (Nat.le_refl _)
        have hc : τ 13 3 = nI (nL N) := by
          rw [hJ.nL, hg.nL]
          rfl
        generalize hNj : yPutL (yPut f) l (nL N) (yU N 52 l 1) = Nj at hJ hg
        have hps := hg.1
        have hnl : nL Nj = nL N := hg.nL
        have hu2 : Nj 52 l = 1 := by
          rw [hg.2.1]
          unfold yU
          rw [if_pos ⟨rfl, rfl⟩]
        have h02 := hps.2.2.2.2.2 l (by omega) hu2
        have hroom := hps.room (by omega) h02
        try simp only [xi_iload, xi_aload, xi_lload, xi_istore, xi_astore, xi_lstore, xi_ic, xi_lc, xi_iinc, xi_iadd, xi_isub, xi_imul, xi_iand, xi_iushr, xi_ineg, xi_idiv, xi_irem, xi_ladd, xi_lmul, xi_lrem, xi_lcmp, xi_i2l, xi_l2i, xi_i2c, xi_dup, xi_dup2, xi_pop, xi_ifeq, xi_ifne, xi_iflt, xi_ifge, xi_ifgt, xi_ifle, xi_iceq, xi_icne, xi_iclt, xi_icge, xi_icgt, xi_icle, xi_iret, xi_zret, xi_lret, xi_vret, xi_getf, xi_putf, xi_ald, xi_ast, xi_alen, xi_callV, xi_callS, xpop, xroom, xl, xst, xok1, xok2, xnarrow, xwide, xone, xent, List.replicate, Option.isSome_some, Bool.and_self, Bool.true_and, Bool.and_true, List.length_cons, List.length_nil, Nat.reduceAdd, Nat.reduceLT, decide_true, Bool.not_false, Nat.beq, Nat.ble, Option.toList, List.nil_append, List.cons_append, xf_0_0, xf_0_1, xf_0_2, xf_0_3, xf_0_4, xf_0_5, xf_0_6, xf_0_7, xf_0_8, xf_0_9, xf_1_0, xf_1_1, xf_1_2, xf_1_3, xf_1_4, xf_2_0, xf_2_1, xf_2_2, xf_2_3, xf_2_4, xf_2_5, xf_2_6, xf_2_7, xf_3_0, xf_3_1, xf_3_2, xf_3_3, xf_3_4, xf_3_5, xf_3_6, xf_3_7, xf_4_0, xf_4_1, xf_4_2, xf_4_3, xf_4_4, xf_4_5, xf_4_6, xf_5_0, xf_5_1, xf_5_2, xf_5_3, xf_5_4, xf_5_5, xf_5_6, xf_5_7, xf_6_3, xf_7_3, xf_8_3, xf_9_3, xf_10_3, xf_11_3, xf_12_3, xf_13_3, xf_14_3, xf_15_3, xf_16_3, hc, nI_1]
        refine ⟨fun _ => x_F (sX3_set row27 (by omega)) ?_, fun q => absurd (nI_le (Nat.le_refl _) (by omega)) q⟩
        rw [← nI_0]
        have hJ3 : LI (xup τ 52 l (nI 0)) (yU Nj 52 l 0) := hJ.up
        have hs3 : xsame [15, 40, 51, 52] σ (xup τ 52 l (nI 0)) := hs.tr (xsame.up rfl)
        try simp only [xi_iload, xi_aload, xi_lload, xi_istore, xi_astore, xi_lstore, xi_ic, xi_lc, xi_iinc, xi_iadd, xi_isub, xi_imul, xi_iand, xi_iushr, xi_ineg, xi_idiv, xi_irem, xi_ladd, xi_lmul, xi_lrem, xi_lcmp, xi_i2l, xi_l2i, xi_i2c, xi_dup, xi_dup2, xi_pop, xi_ifeq, xi_ifne, xi_iflt, xi_ifge, xi_ifgt, xi_ifle, xi_iceq, xi_icne, xi_iclt, xi_icge, xi_icgt, xi_icle, xi_iret, xi_zret, xi_lret, xi_vret, xi_getf, xi_putf, xi_ald, xi_ast, xi_alen, xi_callV, xi_callS, xpop, xroom, xl, xst, xok1, xok2, xnarrow, xwide, xone, xent, List.replicate, Option.isSome_some, Bool.and_self, Bool.true_and, Bool.and_true, List.length_cons, List.length_nil, Nat.reduceAdd, Nat.reduceLT, decide_true, Bool.not_false, Nat.beq, Nat.ble, Option.toList, List.nil_append, List.cons_append, xf_0_0, xf_0_1, xf_0_2, xf_0_3, xf_0_4, xf_0_5, xf_0_6, xf_0_7, xf_0_8, xf_0_9, xf_1_0, xf_1_1, xf_1_2, xf_1_3, xf_1_4, xf_2_0, xf_2_1, xf_2_2, xf_2_3, xf_2_4, xf_2_5, xf_2_6, xf_2_7, xf_3_0, xf_3_1, xf_3_2, xf_3_3, xf_3_4, xf_3_5, xf_3_6, xf_3_7, xf_4_0, xf_4_1, xf_4_2, xf_4_3, xf_4_4, xf_4_5, xf_4_6, xf_5_0, xf_5_1, xf_5_2, xf_5_3, xf_5_4, xf_5_5, xf_5_6, xf_5_7, xf_6_3, xf_7_3, xf_8_3, xf_9_3, xf_10_3, xf_11_3, xf_12_3, xf_13_3, xf_14_3, xf_15_3, xf_16_3, nI_1]
        refine x_F (sX6_add (n := nSt Nj) tab15 hJ3.nS (by omega)) ?_
        try simp only [xi_iload, xi_aload, xi_lload, xi_istore, xi_astore, xi_lstore, xi_ic, xi_lc, xi_iinc, xi_iadd, xi_isub, xi_imul, xi_iand, xi_iushr, xi_ineg, xi_idiv, xi_irem, xi_ladd, xi_lmul, xi_lrem, xi_lcmp, xi_i2l, xi_l2i, xi_i2c, xi_dup, xi_dup2, xi_pop, xi_ifeq, xi_ifne, xi_iflt, xi_ifge, xi_ifgt, xi_ifle, xi_iceq, xi_icne, xi_iclt, xi_icge, xi_icgt, xi_icle, xi_iret, xi_zret, xi_lret, xi_vret, xi_getf, xi_putf, xi_ald, xi_ast, xi_alen, xi_callV, xi_callS, xpop, xroom, xl, xst, xok1, xok2, xnarrow, xwide, xone, xent, List.replicate, Option.isSome_some, Bool.and_self, Bool.true_and, Bool.and_true, List.length_cons, List.length_nil, Nat.reduceAdd, Nat.reduceLT, decide_true, Bool.not_false, Nat.beq, Nat.ble, Option.toList, List.nil_append, List.cons_append, xf_0_0, xf_0_1, xf_0_2, xf_0_3, xf_0_4, xf_0_5, xf_0_6, xf_0_7, xf_0_8, xf_0_9, xf_1_0, xf_1_1, xf_1_2, xf_1_3, xf_1_4, xf_2_0, xf_2_1, xf_2_2, xf_2_3, xf_2_4, xf_2_5, xf_2_6, xf_2_7, xf_3_0, xf_3_1, xf_3_2, xf_3_3, xf_3_4, xf_3_5, xf_3_6, xf_3_7, xf_4_0, xf_4_1, xf_4_2, xf_4_3, xf_4_4, xf_4_5, xf_4_6, xf_5_0, xf_5_1, xf_5_2, xf_5_3, xf_5_4, xf_5_5, xf_5_6, xf_5_7, xf_6_3, xf_7_3, xf_8_3, xf_9_3, xf_10_3, xf_11_3, xf_12_3, xf_13_3, xf_14_3, xf_15_3, xf_16_3, nI_1]
        refine x_F (sX6_set (i := nSt Nj) (c := 0) tab15 (by omega) (by decide)) ?_
        have hJ4 : LI (xup (xup (xup τ 52 l (nI 0)) 15 3 (nI (nSt Nj + 1))) 40 (nSt Nj * 1 + 0) (nI l)) (yU (yU (yU Nj 52 l 0) 15 3 (nSt Nj + 1)) 40 (nSt Nj) l) := by
          rw [show nSt Nj * 1 + 0 = nSt Nj by omega]
          exact hJ3.up.up
        try simp only [xi_iload, xi_aload, xi_lload, xi_istore, xi_astore, xi_lstore, xi_ic, xi_lc, xi_iinc, xi_iadd, xi_isub, xi_imul, xi_iand, xi_iushr, xi_ineg, xi_idiv, xi_irem, xi_ladd, xi_lmul, xi_lrem, xi_lcmp, xi_i2l, xi_l2i, xi_i2c, xi_dup, xi_dup2, xi_pop, xi_ifeq, xi_ifne, xi_iflt, xi_ifge, xi_ifgt, xi_ifle, xi_iceq, xi_icne, xi_iclt, xi_icge, xi_icgt, xi_icle, xi_iret, xi_zret, xi_lret, xi_vret, xi_getf, xi_putf, xi_ald, xi_ast, xi_alen, xi_callV, xi_callS, xpop, xroom, xl, xst, xok1, xok2, xnarrow, xwide, xone, xent, List.replicate, Option.isSome_some, Bool.and_self, Bool.true_and, Bool.and_true, List.length_cons, List.length_nil, Nat.reduceAdd, Nat.reduceLT, decide_true, Bool.not_false, Nat.beq, Nat.ble, Option.toList, List.nil_append, List.cons_append, xf_0_0, xf_0_1, xf_0_2, xf_0_3, xf_0_4, xf_0_5, xf_0_6, xf_0_7, xf_0_8, xf_0_9, xf_1_0, xf_1_1, xf_1_2, xf_1_3, xf_1_4, xf_2_0, xf_2_1, xf_2_2, xf_2_3, xf_2_4, xf_2_5, xf_2_6, xf_2_7, xf_3_0, xf_3_1, xf_3_2, xf_3_3, xf_3_4, xf_3_5, xf_3_6, xf_3_7, xf_4_0, xf_4_1, xf_4_2, xf_4_3, xf_4_4, xf_4_5, xf_4_6, xf_5_0, xf_5_1, xf_5_2, xf_5_3, xf_5_4, xf_5_5, xf_5_6, xf_5_7, xf_6_3, xf_7_3, xf_8_3, xf_9_3, xf_10_3, xf_11_3, xf_12_3, xf_13_3, xf_14_3, xf_15_3, xf_16_3, nI_1]
        refine x_R (sX2_raiseNeeded (d := d + f + 1) hJ4 (show nL Nj ≤ 8 by omega) (by omega) (fun z => hps.2.1 z)) (fun v ρ hρ => ?_)
        obtain ⟨rfl, hs5, hJ5⟩ := hρ
        try simp only [xi_iload, xi_aload, xi_lload, xi_istore, xi_astore, xi_lstore, xi_ic, xi_lc, xi_iinc, xi_iadd, xi_isub, xi_imul, xi_iand, xi_iushr, xi_ineg, xi_idiv, xi_irem, xi_ladd, xi_lmul, xi_lrem, xi_lcmp, xi_i2l, xi_l2i, xi_i2c, xi_dup, xi_dup2, xi_pop, xi_ifeq, xi_ifne, xi_iflt, xi_ifge, xi_ifgt, xi_ifle, xi_iceq, xi_icne, xi_iclt, xi_icge, xi_icgt, xi_icle, xi_iret, xi_zret, xi_lret, xi_vret, xi_getf, xi_putf, xi_ald, xi_ast, xi_alen, xi_callV, xi_callS, xpop, xroom, xl, xst, xok1, xok2, xnarrow, xwide, xone, xent, List.replicate, Option.isSome_some, Bool.and_self, Bool.true_and, Bool.and_true, List.length_cons, List.length_nil, Nat.reduceAdd, Nat.reduceLT, decide_true, Bool.not_false, Nat.beq, Nat.ble, Option.toList, List.nil_append, List.cons_append]
        rw [← hR]
        refine ⟨rfl, (hs3.tr ((xsame.up rfl).tr (xsame.up rfl))).tr (hs5.wk (by decide)), ?_⟩
        rw [yPut, hNj]
        exact hJ5
    have hI1 : LI (xup σ 52 l 1) (yU N 52 l 1) := hI.up (v := 1)
    exact x_forget (key 0 (by omega) _ (xsame.up rfl) hI1) (by simp [xle, nI_0])
def yLoad (N : YM) (l : Nat) : YM := yU (if yLd N l = true then N else yPut 9 l N) 51 l ((if yLd N l = true then N else yPut 9 l N) 51 l + 1)
theorem sX2_raise {d l : Nat} {σ : Sg} (hI : LI σ N) (p : PS N) (hl : l < nL N) (hu : N 52 l = 0) : XM G mX2_raise (d + 13) [.ref 5, .int (nI l)] σ (fun v τ => v = some (.int (nI (nSt (yLoad N l) - nSt N))) ∧ xsame [15, 40, 51, 52] σ τ ∧ LI τ (yLoad N l)) := by
  refine xm_of (by decide +kernel) rfl (Nat.le_of_ble_eq_true rfl) ?_
  refine bX2_raise_0 (d := d + 12) _ _ _ ?_
  have hb := p.1
  have hc := hI.nS
  have hle := p.le
  try simp only [xi_iload, xi_aload, xi_lload, xi_istore, xi_astore, xi_lstore, xi_ic, xi_lc, xi_iinc, xi_iadd, xi_isub, xi_imul, xi_iand, xi_iushr, xi_ineg, xi_idiv, xi_irem, xi_ladd, xi_lmul, xi_lrem, xi_lcmp, xi_i2l, xi_l2i, xi_i2c, xi_dup, xi_dup2, xi_pop, xi_ifeq, xi_ifne, xi_iflt, xi_ifge, xi_ifgt, xi_ifle, xi_iceq, xi_icne, xi_iclt, xi_icge, xi_icgt, xi_icle, xi_iret, xi_zret, xi_lret, xi_vret, xi_getf, xi_putf, xi_ald, xi_ast, xi_alen, xi_callV, xi_callS, xpop, xroom, xl, xst, xok1, xok2, xnarrow, xwide, xone, xent, List.replicate, Option.isSome_some, Bool.and_self, Bool.true_and, Bool.and_true, List.length_cons, List.length_nil, Nat.reduceAdd, Nat.reduceLT, decide_true, Bool.not_false, Nat.beq, Nat.ble, Option.toList, List.nil_append, List.cons_append, xf_0_0, xf_0_1, xf_0_2, xf_0_3, xf_0_4, xf_0_5, xf_0_6, xf_0_7, xf_0_8, xf_0_9, xf_1_0, xf_1_1, xf_1_2, xf_1_3, xf_1_4, xf_2_0, xf_2_1, xf_2_2, xf_2_3, xf_2_4, xf_2_5, xf_2_6, xf_2_7, xf_3_0, xf_3_1, xf_3_2, xf_3_3, xf_3_4, xf_3_5, xf_3_6, xf_3_7, xf_4_0, xf_4_1, xf_4_2, xf_4_3, xf_4_4, xf_4_5, xf_4_6, xf_5_0, xf_5_1, xf_5_2, xf_5_3, xf_5_4, xf_5_5, xf_5_6, xf_5_7, xf_6_3, xf_7_3, xf_8_3, xf_9_3, xf_10_3, xf_11_3, xf_12_3, xf_13_3, xf_14_3, xf_15_3, xf_16_3, hc]
  have h22 : ∀ τ, xsame [15, 40, 51, 52] σ τ → LI τ (if yLd N l = true then N else yPut 9 l N) → nSt N ≤ nSt (if yLd N l = true then N else yPut 9 l N) → nL (if yLd N l = true then N else yPut 9 l N) = nL N → AX2_raise G (d + 12 + 1) (fun v τ => v = some (.int (nI (nSt (yLoad N l) - nSt N))) ∧ xsame [15, 40, 51, 52] σ τ ∧ LI τ (yLoad N l)) 22 [some (.ref 5), some (.int (nI l)), some (.int (nI (nSt N)))] [] τ := by
    intro τ hs hJ h1 h2
    refine bX2_raise_22 (d := d + 12) _ _ _ ?_
    generalize hN1 : (if yLd N l = true then N else yPut 9 l N) = N1 at hJ h1 h2
    have hyl : yLoad N l = yU N1 51 l (N1 51 l + 1) := by unfold yLoad; rw [hN1]
    try simp only [xi_iload, xi_aload, xi_lload, xi_istore, xi_astore, xi_lstore, xi_ic, xi_lc, xi_iinc, xi_iadd, xi_isub, xi_imul, xi_iand, xi_iushr, xi_ineg, xi_idiv, xi_irem, xi_ladd, xi_lmul, xi_lrem, xi_lcmp, xi_i2l, xi_l2i, xi_i2c, xi_dup, xi_dup2, xi_pop, xi_ifeq, xi_ifne, xi_iflt, xi_ifge, xi_ifgt, xi_ifle, xi_iceq, xi_icne, xi_iclt, xi_icge, xi_icgt, xi_icle, xi_iret, xi_zret, xi_lret, xi_vret, xi_getf, xi_putf, xi_ald, xi_ast, xi_alen, xi_callV, xi_callS, xpop, xroom, xl, xst, xok1, xok2, xnarrow, xwide, xone, xent, List.replicate, Option.isSome_some, Bool.and_self, Bool.true_and, Bool.and_true, List.length_cons, List.length_nil, Nat.reduceAdd, Nat.reduceLT, decide_true, Bool.not_false, Nat.beq, Nat.ble, Option.toList, List.nil_append, List.cons_append, xf_0_0, xf_0_1, xf_0_2, xf_0_3, xf_0_4, xf_0_5, xf_0_6, xf_0_7, xf_0_8, xf_0_9, xf_1_0, xf_1_1, xf_1_2, xf_1_3, xf_1_4, xf_2_0, xf_2_1, xf_2_2, xf_2_3, xf_2_4, xf_2_5, xf_2_6, xf_2_7, xf_3_0, xf_3_1, xf_3_2, xf_3_3, xf_3_4, xf_3_5, xf_3_6, xf_3_7, xf_4_0, xf_4_1, xf_4_2, xf_4_3, xf_4_4, xf_4_5, xf_4_6, xf_5_0, xf_5_1, xf_5_2, xf_5_3, xf_5_4, xf_5_5, xf_5_6, xf_5_7, xf_6_3, xf_7_3, xf_8_3, xf_9_3, xf_10_3, xf_11_3, xf_12_3, xf_13_3, xf_14_3, xf_15_3, xf_16_3]
    refine x_F (sX3_get row26 (by omega)) ?_
    rw [hJ.cnt (by omega)]
    try simp only [xi_iload, xi_aload, xi_lload, xi_istore, xi_astore, xi_lstore, xi_ic, xi_lc, xi_iinc, xi_iadd, xi_isub, xi_imul, xi_iand, xi_iushr, xi_ineg, xi_idiv, xi_irem, xi_ladd, xi_lmul, xi_lrem, xi_lcmp, xi_i2l, xi_l2i, xi_i2c, xi_dup, xi_dup2, xi_pop, xi_ifeq, xi_ifne, xi_iflt, xi_ifge, xi_ifgt, xi_ifle, xi_iceq, xi_icne, xi_iclt, xi_icge, xi_icgt, xi_icle, xi_iret, xi_zret, xi_lret, xi_vret, xi_getf, xi_putf, xi_ald, xi_ast, xi_alen, xi_callV, xi_callS, xpop, xroom, xl, xst, xok1, xok2, xnarrow, xwide, xone, xent, List.replicate, Option.isSome_some, Bool.and_self, Bool.true_and, Bool.and_true, List.length_cons, List.length_nil, Nat.reduceAdd, Nat.reduceLT, decide_true, Bool.not_false, Nat.beq, Nat.ble, Option.toList, List.nil_append, List.cons_append, xf_0_0, xf_0_1, xf_0_2, xf_0_3, xf_0_4, xf_0_5, xf_0_6, xf_0_7, xf_0_8, xf_0_9, xf_1_0, xf_1_1, xf_1_2, xf_1_3, xf_1_4, xf_2_0, xf_2_1, xf_2_2, xf_2_3, xf_2_4, xf_2_5, xf_2_6, xf_2_7, xf_3_0, xf_3_1, xf_3_2, xf_3_3, xf_3_4, xf_3_5, xf_3_6, xf_3_7, xf_4_0, xf_4_1, xf_4_2, xf_4_3, xf_4_4, xf_4_5, xf_4_6, xf_5_0, xf_5_1, xf_5_2, xf_5_3, xf_5_4, xf_5_5, xf_5_6, xf_5_7, xf_6_3, xf_7_3, xf_8_3, xf_9_3, xf_10_3, xf_11_3, xf_12_3, xf_13_3, xf_14_3, xf_15_3, xf_16_3, nI_1]
    refine x_F (sX3_set row26 (by omega)) ?_
    try simp only [xi_iload, xi_aload, xi_lload, xi_istore, xi_astore, xi_lstore, xi_ic, xi_lc, xi_iinc, xi_iadd, xi_isub, xi_imul, xi_iand, xi_iushr, xi_ineg, xi_idiv, xi_irem, xi_ladd, xi_lmul, xi_lrem, xi_lcmp, xi_i2l, xi_l2i, xi_i2c, xi_dup, xi_dup2, xi_pop, xi_ifeq, xi_ifne, xi_iflt, xi_ifge, xi_ifgt, xi_ifle, xi_iceq, xi_icne, xi_iclt, xi_icge, xi_icgt, xi_icle, xi_iret, xi_zret, xi_lret, xi_vret, xi_getf, xi_putf, xi_ald, xi_ast, xi_alen, xi_callV, xi_callS, xpop, xroom, xl, xst, xok1, xok2, xnarrow, xwide, xone, xent, List.replicate, Option.isSome_some, Bool.and_self, Bool.true_and, Bool.and_true, List.length_cons, List.length_nil, Nat.reduceAdd, Nat.reduceLT, decide_true, Bool.not_false, Nat.beq, Nat.ble, Option.toList, List.nil_append, List.cons_append, xf_0_0, xf_0_1, xf_0_2, xf_0_3, xf_0_4, xf_0_5, xf_0_6, xf_0_7, xf_0_8, xf_0_9, xf_1_0, xf_1_1, xf_1_2, xf_1_3, xf_1_4, xf_2_0, xf_2_1, xf_2_2, xf_2_3, xf_2_4, xf_2_5, xf_2_6, xf_2_7, xf_3_0, xf_3_1, xf_3_2, xf_3_3, xf_3_4, xf_3_5, xf_3_6, xf_3_7, xf_4_0, xf_4_1, xf_4_2, xf_4_3, xf_4_4, xf_4_5, xf_4_6, xf_5_0, xf_5_1, xf_5_2, xf_5_3, xf_5_4, xf_5_5, xf_5_6, xf_5_7, xf_6_3, xf_7_3, xf_8_3, xf_9_3, xf_10_3, xf_11_3, xf_12_3, xf_13_3, xf_14_3, xf_15_3, xf_16_3]
    have e : xup τ 51 l (nI (N1 51 l + 1)) 15 3 = nI (nSt N1) := by rw [xup_n (by decide)]; exact hJ.nS
    rw [e, nI_sub h1, hyl]
    exact ⟨rfl, hs.tr (xsame.up rfl), hJ.up⟩
  refine x_F (sX2_isLoaded (d := d + 11) hI (by omega) (fun k hk => by have := p.2.2.1 k hk; omega) (by omega)) ?_
  try simp only [xi_iload, xi_aload, xi_lload, xi_istore, xi_astore, xi_lstore, xi_ic, xi_lc, xi_iinc, xi_iadd, xi_isub, xi_imul, xi_iand, xi_iushr, xi_ineg, xi_idiv, xi_irem, xi_ladd, xi_lmul, xi_lrem, xi_lcmp, xi_i2l, xi_l2i, xi_i2c, xi_dup, xi_dup2, xi_pop, xi_ifeq, xi_ifne, xi_iflt, xi_ifge, xi_ifgt, xi_ifle, xi_iceq, xi_icne, xi_iclt, xi_icge, xi_icgt, xi_icle, xi_iret, xi_zret, xi_lret, xi_vret, xi_getf, xi_putf, xi_ald, xi_ast, xi_alen, xi_callV, xi_callS, xpop, xroom, xl, xst, xok1, xok2, xnarrow, xwide, xone, xent, List.replicate, Option.isSome_some, Bool.and_self, Bool.true_and, Bool.and_true, List.length_cons, List.length_nil, Nat.reduceAdd, Nat.reduceLT, decide_true, Bool.not_false, Nat.beq, Nat.ble, Option.toList, List.nil_append, List.cons_append, xf_0_0, xf_0_1, xf_0_2, xf_0_3, xf_0_4, xf_0_5, xf_0_6, xf_0_7, xf_0_8, xf_0_9, xf_1_0, xf_1_1, xf_1_2, xf_1_3, xf_1_4, xf_2_0, xf_2_1, xf_2_2, xf_2_3, xf_2_4, xf_2_5, xf_2_6, xf_2_7, xf_3_0, xf_3_1, xf_3_2, xf_3_3, xf_3_4, xf_3_5, xf_3_6, xf_3_7, xf_4_0, xf_4_1, xf_4_2, xf_4_3, xf_4_4, xf_4_5, xf_4_6, xf_5_0, xf_5_1, xf_5_2, xf_5_3, xf_5_4, xf_5_5, xf_5_6, xf_5_7, xf_6_3, xf_7_3, xf_8_3, xf_9_3, xf_10_3, xf_11_3, xf_12_3, xf_13_3, xf_14_3, xf_15_3, xf_16_3]
  rw [b2i_ne]
  refine ⟨fun q => ?_, fun q => ?_⟩
  · have hq : yLd N l = true := by simpa using q
    exact h22 σ xsame.rf (by rw [if_pos hq]; exact hI) (by rw [if_pos hq]; exact Nat.le_refl _) (by rw [if_pos hq])
  · have hg := PGo_put 9 p hl hu q
    rw [show (0 : Int32) = nI (9 - 9) from rfl]
    refine x_R (sX2_putOn 9 (d := d) (Nat.le_refl _) hI p hl hu q) (fun v ρ hρ => ?_)
    obtain ⟨rfl, hs2, hJ2⟩ := hρ
    try simp only [xi_iload, xi_aload, xi_lload, xi_istore, xi_astore, xi_lstore, xi_ic, xi_lc, xi_iinc, xi_iadd, xi_isub, xi_imul, xi_iand, xi_iushr, xi_ineg, xi_idiv, xi_irem, xi_ladd, xi_lmul, xi_lrem, xi_lcmp, xi_i2l, xi_l2i, xi_i2c, xi_dup, xi_dup2, xi_pop, xi_ifeq, xi_ifne, xi_iflt, xi_ifge, xi_ifgt, xi_ifle, xi_iceq, xi_icne, xi_iclt, xi_icge, xi_icgt, xi_icle, xi_iret, xi_zret, xi_lret, xi_vret, xi_getf, xi_putf, xi_ald, xi_ast, xi_alen, xi_callV, xi_callS, xpop, xroom, xl, xst, xok1, xok2, xnarrow, xwide, xone, xent, List.replicate, Option.isSome_some, Bool.and_self, Bool.true_and, Bool.and_true, List.length_cons, List.length_nil, Nat.reduceAdd, Nat.reduceLT, decide_true, Bool.not_false, Nat.beq, Nat.ble, Option.toList, List.nil_append, List.cons_append, xf_0_0, xf_0_1, xf_0_2, xf_0_3, xf_0_4, xf_0_5, xf_0_6, xf_0_7, xf_0_8, xf_0_9, xf_1_0, xf_1_1, xf_1_2, xf_1_3, xf_1_4, xf_2_0, xf_2_1, xf_2_2, xf_2_3, xf_2_4, xf_2_5, xf_2_6, xf_2_7, xf_3_0, xf_3_1, xf_3_2, xf_3_3, xf_3_4, xf_3_5, xf_3_6, xf_3_7, xf_4_0, xf_4_1, xf_4_2, xf_4_3, xf_4_4, xf_4_5, xf_4_6, xf_5_0, xf_5_1, xf_5_2, xf_5_3, xf_5_4, xf_5_5, xf_5_6, xf_5_7, xf_6_3, xf_7_3, xf_8_3, xf_9_3, xf_10_3, xf_11_3, xf_12_3, xf_13_3, xf_14_3, xf_15_3, xf_16_3]
    exact h22 ρ hs2 (by rw [if_neg (by rw [q]; decide)]; exact hJ2) (by rw [if_neg (by rw [q]; decide)]; exact hg.2.2.2.1) (by rw [if_neg (by rw [q]; decide)]; exact hg.nL)
end S41
