/-! the first call that does not reach; settling -/
section S32
variable {G : XG} {d : Nat} {σ : Sg} {M : YM} {T A P : Nat → Bool} {il : Nat → Nat} {L : Nat}
theorem bestD_eq {p : Nat → Bool} {key : Nat → Nat} {n b : Nat} (hb : b < n) (hp : p b = true) (hm : ∀ c, c < n → p c = true → c = b ∨ key b < key c) : bestD p key n = some b := by
  obtain ⟨h1, h2⟩ := bestD_spec (p := p) (key := key) (n := n)
  rcases hr : bestD p key n with _ | a
  · have := h2 hr b hb
    rw [hp] at this; cases this
  · obtain ⟨h3, h4, h5⟩ := h1 a hr
    have h6 := h5 b hb hp
    rcases hm a h3 h4 with e | e
    · rw [e]
    · omega
theorem bestD_no {p : Nat → Bool} {key : Nat → Nat} {n : Nat} (h : ∀ c, c < n → p c = false) : bestD p key n = none := by
  rcases hr : bestD p key n with _ | a
  · rfl
  · obtain ⟨h1, h2⟩ := bestD_lt hr
    rw [h a h1] at h2; cases h2
def yFarP (M : YM) (T A P : Nat → Bool) (il : Nat → Nat) (L reach r : Nat) : Bool := P (yRS M r) && yFarB M T A P il L reach r
/-- the first call, by its section and its offset, that does not reach -/
def yFirst (M : YM) (T A P : Nat → Bool) (il : Nat → Nat) (L reach : Nat) : Option Nat := bestD (yFarP M T A P il L reach) (fun r => 64 * yRS M r + yRF M r) (nR M)
theorem yNext_min {s f r : Nat} (h : yNext M s f = some r) : ∀ c, c < nR M → yRS M c = s → f ≤ yRF M c → yRF M r ≤ yRF M c := by
  intro c hc h1 h2
  have h3 := (bestD_spec.1 r h).2.2 c hc (by simp [yNextP, h1, h2])
  omega
theorem yNext_no {s f : Nat} (h : yNext M s f = none) : ∀ c, c < nR M → yRS M c = s → yRF M c < f := by
  intro c hc h1
  have h3 := bestD_spec.2 h c hc
  simp [yNextP, h1] at h3
  omega
theorem sX1_firstUnreached {reach : Nat} (h : CI σ M) (w : WF M) (hG : CG σ M T) (hd : CD σ M T A) (ha : CLay σ M T A P il L) (hP : P = yLaid M T A) (hil : ILok M il L) (hi : CIs σ il L) (hgo : ∀ r, r < nR M → A (yRS M r) = true → gLv M A (yGoal M T r) = true) (hre : reach ≤ 999) : XM G mX1_firstUnreached (d + 4) [.ref 3, .int (nI reach)] σ (xF (some (.int (oI (yFirst M T A P il L reach)))) σ) := by
  refine xm_of (by decide +kernel) rfl (Nat.le_of_ble_eq_true rfl) ?_
  refine bX1_firstUnreached_0 _ _ _ ?_
  have hb := w.1.2.2.2.2
  have hb2 := w.1.2.1
  have hc : σ 7 3 = nI (nS M) := h.1 1 (by decide)
  try simp only [xi_iload, xi_aload, xi_lload, xi_istore, xi_astore, xi_lstore, xi_ic, xi_lc, xi_iinc, xi_iadd, xi_isub, xi_imul, xi_iand, xi_iushr, xi_ineg, xi_idiv, xi_irem, xi_ladd, xi_lmul, xi_lrem, xi_lcmp, xi_i2l, xi_l2i, xi_i2c, xi_dup, xi_dup2, xi_pop, xi_ifeq, xi_ifne, xi_iflt, xi_ifge, xi_ifgt, xi_ifle, xi_iceq, xi_icne, xi_iclt, xi_icge, xi_icgt, xi_icle, xi_iret, xi_zret, xi_lret, xi_vret, xi_getf, xi_putf, xi_ald, xi_ast, xi_alen, xi_callV, xi_callS, xpop, xroom, xl, xst, xok1, xok2, xnarrow, xwide, xone, xent, List.replicate, Option.isSome_some, Bool.and_self, Bool.true_and, Bool.and_true, List.length_cons, List.length_nil, Nat.reduceAdd, Nat.reduceLT, decide_true, Bool.not_false, Nat.beq, Nat.ble, Option.toList, List.nil_append, List.cons_append]
  unfold yFirst
  generalize hQ : yFarP M T A P il L reach = Q
  have key : ∀ s, s ≤ nS M → (∀ r, r < nR M → yRS M r < s → Q r = false) → AX1_firstUnreached G (d + 3 + 1) (xF (some (.int (oI (bestD Q (fun r => 64 * yRS M r + yRF M r) (nR M))))) σ) 2 [some (.ref 3), some (.int (nI reach)), some (.int (nI s)), none, none] [] σ := by
    refine loop_up (fun s hs ih h1 => ?_) (fun h1 => ?_)
    · refine bX1_firstUnreached_2 _ _ _ ?_
      try simp only [xi_iload, xi_aload, xi_lload, xi_istore, xi_astore, xi_lstore, xi_ic, xi_lc, xi_iinc, xi_iadd, xi_isub, xi_imul, xi_iand, xi_iushr, xi_ineg, xi_idiv, xi_irem, xi_ladd, xi_lmul, xi_lrem, xi_lcmp, xi_i2l, xi_l2i, xi_i2c, xi_dup, xi_dup2, xi_pop, xi_ifeq, xi_ifne, xi_iflt, xi_ifge, xi_ifgt, xi_ifle, xi_iceq, xi_icne, xi_iclt, xi_icge, xi_icgt, xi_icle, xi_iret, xi_zret, xi_lret, xi_vret, xi_getf, xi_putf, xi_ald, xi_ast, xi_alen, xi_callV, xi_callS, xpop, xroom, xl, xst, xok1, xok2, xnarrow, xwide, xone, xent, List.replicate, Option.isSome_some, Bool.and_self, Bool.true_and, Bool.and_true, List.length_cons, List.length_nil, Nat.reduceAdd, Nat.reduceLT, decide_true, Bool.not_false, Nat.beq, Nat.ble, Option.toList, List.nil_append, List.cons_append, xf_0_0, xf_0_1, xf_0_2, xf_0_3, xf_0_4, xf_0_5, xf_0_6, xf_0_7, xf_0_8, xf_0_9, xf_1_0, xf_1_1, xf_1_2, xf_1_3, xf_1_4, xf_2_0, xf_2_1, xf_2_2, xf_2_3, xf_2_4, xf_2_5, xf_2_6, xf_2_7, xf_3_0, xf_3_1, xf_3_2, xf_3_3, xf_3_4, xf_3_5, xf_3_6, xf_3_7, xf_4_0, xf_4_1, xf_4_2, xf_4_3, xf_4_4, xf_4_5, xf_4_6, xf_5_0, xf_5_1, xf_5_2, xf_5_3, xf_5_4, xf_5_5, xf_5_6, xf_5_7, xf_6_3, xf_7_3, xf_8_3, xf_9_3, xf_10_3, xf_11_3, xf_12_3, xf_13_3, xf_14_3, xf_15_3, xf_16_3, hc, nI_1]
      refine ⟨fun q => absurd q (nI_ge hs (by omega)), fun _ => x_F (sX1_isLaid w hd hs) ?_⟩
      rw [← hP]
      try simp only [xi_iload, xi_aload, xi_lload, xi_istore, xi_astore, xi_lstore, xi_ic, xi_lc, xi_iinc, xi_iadd, xi_isub, xi_imul, xi_iand, xi_iushr, xi_ineg, xi_idiv, xi_irem, xi_ladd, xi_lmul, xi_lrem, xi_lcmp, xi_i2l, xi_l2i, xi_i2c, xi_dup, xi_dup2, xi_pop, xi_ifeq, xi_ifne, xi_iflt, xi_ifge, xi_ifgt, xi_ifle, xi_iceq, xi_icne, xi_iclt, xi_icge, xi_icgt, xi_icle, xi_iret, xi_zret, xi_lret, xi_vret, xi_getf, xi_putf, xi_ald, xi_ast, xi_alen, xi_callV, xi_callS, xpop, xroom, xl, xst, xok1, xok2, xnarrow, xwide, xone, xent, List.replicate, Option.isSome_some, Bool.and_self, Bool.true_and, Bool.and_true, List.length_cons, List.length_nil, Nat.reduceAdd, Nat.reduceLT, decide_true, Bool.not_false, Nat.beq, Nat.ble, Option.toList, List.nil_append, List.cons_append, xf_0_0, xf_0_1, xf_0_2, xf_0_3, xf_0_4, xf_0_5, xf_0_6, xf_0_7, xf_0_8, xf_0_9, xf_1_0, xf_1_1, xf_1_2, xf_1_3, xf_1_4, xf_2_0, xf_2_1, xf_2_2, xf_2_3, xf_2_4, xf_2_5, xf_2_6, xf_2_7, xf_3_0, xf_3_1, xf_3_2, xf_3_3, xf_3_4, xf_3_5, xf_3_6, xf_3_7, xf_4_0, xf_4_1, xf_4_2, xf_4_3, xf_4_4, xf_4_5, xf_4_6, xf_5_0, xf_5_1, xf_5_2, xf_5_3, xf_5_4, xf_5_5, xf_5_6, xf_5_7, xf_6_3, xf_7_3, xf_8_3, xf_9_3, xf_10_3, xf_11_3, xf_12_3, xf_13_3, xf_14_3, xf_15_3, xf_16_3, nI_1]
      rw [b2i_ne]
      refine ⟨fun q => x_forget (ih (fun r hr hrs => ?_)) (by simp [xle]), fun q => ?_⟩
      · by_cases hrs2 : yRS M r = s
        · rw [← hQ]; unfold yFarP; rw [hrs2, q, Bool.false_and]
        · exact h1 r hr (by omega)
      have hPs : P s = true := by simpa using q
      have hAs : A s = true := by
        rw [hP] at hPs; unfold yLaid at hPs; rw [Bool.and_eq_true] at hPs; exact hPs.1
      have inner : ∀ p, p ≤ 4 → ∀ f, f ≤ 64 → (∀ r, r < nR M → yRS M r = s → yRF M r < f → Q r = false) → p ≤ yCount (fun r => yRS M r == s && decide (yRF M r < f)) (nR M) → AX1_firstUnreached G (d + 3 + 1) (xF (some (.int (oI (bestD Q (fun r => 64 * yRS M r + yRF M r) (nR M))))) σ) 37 [some (.ref 3), some (.int (nI reach)), some (.int (nI s)), some (.int (oI (yNext M s f))), some (.int (nI p))] [] σ := by
        refine loop_up (fun p hp ih2 f hf h2 h3 => ?_) (fun f hf h2 h3 => ?_)
        · refine bX1_firstUnreached_37 _ _ _ ?_
          try simp only [xi_iload, xi_aload, xi_lload, xi_istore, xi_astore, xi_lstore, xi_ic, xi_lc, xi_iinc, xi_iadd, xi_isub, xi_imul, xi_iand, xi_iushr, xi_ineg, xi_idiv, xi_irem, xi_ladd, xi_lmul, xi_lrem, xi_lcmp, xi_i2l, xi_l2i, xi_i2c, xi_dup, xi_dup2, xi_pop, xi_ifeq, xi_ifne, xi_iflt, xi_ifge, xi_ifgt, xi_ifle, xi_iceq, xi_icne, xi_iclt, xi_icge, xi_icgt, xi_icle, xi_iret, xi_zret, xi_lret, xi_vret, xi_getf, xi_putf, xi_ald, xi_ast, xi_alen, xi_callV, xi_callS, xpop, xroom, xl, xst, xok1, xok2, xnarrow, xwide, xone, xent, List.replicate, Option.isSome_some, Bool.and_self, Bool.true_and, Bool.and_true, List.length_cons, List.length_nil, Nat.reduceAdd, Nat.reduceLT, decide_true, Bool.not_false, Nat.beq, Nat.ble, Option.toList, List.nil_append, List.cons_append, xf_0_0, xf_0_1, xf_0_2, xf_0_3, xf_0_4, xf_0_5, xf_0_6, xf_0_7, xf_0_8, xf_0_9, xf_1_0, xf_1_1, xf_1_2, xf_1_3, xf_1_4, xf_2_0, xf_2_1, xf_2_2, xf_2_3, xf_2_4, xf_2_5, xf_2_6, xf_2_7, xf_3_0, xf_3_1, xf_3_2, xf_3_3, xf_3_4, xf_3_5, xf_3_6, xf_3_7, xf_4_0, xf_4_1, xf_4_2, xf_4_3, xf_4_4, xf_4_5, xf_4_6, xf_5_0, xf_5_1, xf_5_2, xf_5_3, xf_5_4, xf_5_5, xf_5_6, xf_5_7, xf_6_3, xf_7_3, xf_8_3, xf_9_3, xf_10_3, xf_11_3, xf_12_3, xf_13_3, xf_14_3, xf_15_3, xf_16_3, nI_1]
          refine ⟨fun q => absurd q (nI_ge (b := 4) hp (by decide)), fun _ => ?_⟩
          rcases hn : yNext M s f with _ | r
          · refine ⟨fun _ => x_forget (ih (fun r hr hrs => ?_)) (by simp [xle]), fun q => absurd rfl q⟩
            by_cases hrs2 : yRS M r = s
            · exact h2 r hr hrs2 (yNext_no hn r hr hrs2)
            · exact h1 r hr (by omega)
          · obtain ⟨hr, hrs, hrf⟩ := yNext_lt hn
            have hmin := yNext_min hn
            have hw := w.2.2.2.2.2.2.1 r hr
            have hz := (w.2.2.1 _ hw.1).2.2.1
            have hfr := hw.2.1
            have hAr : A (yRS M r) = true := by rw [hrs]; exact hAs
            refine ⟨fun q => absurd q (nIm r (by omega)), fun _ => x_F (sX1_isUnreached h w hG hd ha hP hil hi hr hAr (hgo r hr hAr) hre) ?_⟩
            try simp only [xi_iload, xi_aload, xi_lload, xi_istore, xi_astore, xi_lstore, xi_ic, xi_lc, xi_iinc, xi_iadd, xi_isub, xi_imul, xi_iand, xi_iushr, xi_ineg, xi_idiv, xi_irem, xi_ladd, xi_lmul, xi_lrem, xi_lcmp, xi_i2l, xi_l2i, xi_i2c, xi_dup, xi_dup2, xi_pop, xi_ifeq, xi_ifne, xi_iflt, xi_ifge, xi_ifgt, xi_ifle, xi_iceq, xi_icne, xi_iclt, xi_icge, xi_icgt, xi_icle, xi_iret, xi_zret, xi_lret, xi_vret, xi_getf, xi_putf, xi_ald, xi_ast, xi_alen, xi_callV, xi_callS, xpop, xroom, xl, xst, xok1, xok2, xnarrow, xwide, xone, xent, List.replicate, Option.isSome_some, Bool.and_self, Bool.true_and, Bool.and_true, List.length_cons, List.length_nil, Nat.reduceAdd, Nat.reduceLT, decide_true, Bool.not_false, Nat.beq, Nat.ble, Option.toList, List.nil_append, List.cons_append, xf_0_0, xf_0_1, xf_0_2, xf_0_3, xf_0_4, xf_0_5, xf_0_6, xf_0_7, xf_0_8, xf_0_9, xf_1_0, xf_1_1, xf_1_2, xf_1_3, xf_1_4, xf_2_0, xf_2_1, xf_2_2, xf_2_3, xf_2_4, xf_2_5, xf_2_6, xf_2_7, xf_3_0, xf_3_1, xf_3_2, xf_3_3, xf_3_4, xf_3_5, xf_3_6, xf_3_7, xf_4_0, xf_4_1, xf_4_2, xf_4_3, xf_4_4, xf_4_5, xf_4_6, xf_5_0, xf_5_1, xf_5_2, xf_5_3, xf_5_4, xf_5_5, xf_5_6, xf_5_7, xf_6_3, xf_7_3, xf_8_3, xf_9_3, xf_10_3, xf_11_3, xf_12_3, xf_13_3, xf_14_3, xf_15_3, xf_16_3, nI_1]
            rw [b2i_ne]
            have hQr : Q r = yFarB M T A P il L reach r := by rw [← hQ]; unfold yFarP; rw [hrs, hPs, Bool.true_and]
            refine ⟨fun q => x_F (sX0_offsetOf h w hr) ?_, fun q => ?_⟩
            · try simp only [xi_iload, xi_aload, xi_lload, xi_istore, xi_astore, xi_lstore, xi_ic, xi_lc, xi_iinc, xi_iadd, xi_isub, xi_imul, xi_iand, xi_iushr, xi_ineg, xi_idiv, xi_irem, xi_ladd, xi_lmul, xi_lrem, xi_lcmp, xi_i2l, xi_l2i, xi_i2c, xi_dup, xi_dup2, xi_pop, xi_ifeq, xi_ifne, xi_iflt, xi_ifge, xi_ifgt, xi_ifle, xi_iceq, xi_icne, xi_iclt, xi_icge, xi_icgt, xi_icle, xi_iret, xi_zret, xi_lret, xi_vret, xi_getf, xi_putf, xi_ald, xi_ast, xi_alen, xi_callV, xi_callS, xpop, xroom, xl, xst, xok1, xok2, xnarrow, xwide, xone, xent, List.replicate, Option.isSome_some, Bool.and_self, Bool.true_and, Bool.and_true, List.length_cons, List.length_nil, Nat.reduceAdd, Nat.reduceLT, decide_true, Bool.not_false, Nat.beq, Nat.ble, Option.toList, List.nil_append, List.cons_append, xf_0_0, xf_0_1, xf_0_2, xf_0_3, xf_0_4, xf_0_5, xf_0_6, xf_0_7, xf_0_8, xf_0_9, xf_1_0, xf_1_1, xf_1_2, xf_1_3, xf_1_4, xf_2_0, xf_2_1, xf_2_2, xf_2_3, xf_2_4, xf_2_5, xf_2_6, xf_2_7, xf_3_0, xf_3_1, xf_3_2, xf_3_3, xf_3_4, xf_3_5, xf_3_6, xf_3_7, xf_4_0, xf_4_1, xf_4_2, xf_4_3, xf_4_4, xf_4_5, xf_4_6, xf_5_0, xf_5_1, xf_5_2, xf_5_3, xf_5_4, xf_5_5, xf_5_6, xf_5_7, xf_6_3, xf_7_3, xf_8_3, xf_9_3, xf_10_3, xf_11_3, xf_12_3, xf_13_3, xf_14_3, xf_15_3, xf_16_3, nI_1]
              have e : nI (yRF M r) = pI (yRF M r + 1) := rfl
              rw [e]
              refine x_F (sX0_nextReference h w (by omega) (by omega)) ?_
              try simp only [xi_iload, xi_aload, xi_lload, xi_istore, xi_astore, xi_lstore, xi_ic, xi_lc, xi_iinc, xi_iadd, xi_isub, xi_imul, xi_iand, xi_iushr, xi_ineg, xi_idiv, xi_irem, xi_ladd, xi_lmul, xi_lrem, xi_lcmp, xi_i2l, xi_l2i, xi_i2c, xi_dup, xi_dup2, xi_pop, xi_ifeq, xi_ifne, xi_iflt, xi_ifge, xi_ifgt, xi_ifle, xi_iceq, xi_icne, xi_iclt, xi_icge, xi_icgt, xi_icle, xi_iret, xi_zret, xi_lret, xi_vret, xi_getf, xi_putf, xi_ald, xi_ast, xi_alen, xi_callV, xi_callS, xpop, xroom, xl, xst, xok1, xok2, xnarrow, xwide, xone, xent, List.replicate, Option.isSome_some, Bool.and_self, Bool.true_and, Bool.and_true, List.length_cons, List.length_nil, Nat.reduceAdd, Nat.reduceLT, decide_true, Bool.not_false, Nat.beq, Nat.ble, Option.toList, List.nil_append, List.cons_append, xf_0_0, xf_0_1, xf_0_2, xf_0_3, xf_0_4, xf_0_5, xf_0_6, xf_0_7, xf_0_8, xf_0_9, xf_1_0, xf_1_1, xf_1_2, xf_1_3, xf_1_4, xf_2_0, xf_2_1, xf_2_2, xf_2_3, xf_2_4, xf_2_5, xf_2_6, xf_2_7, xf_3_0, xf_3_1, xf_3_2, xf_3_3, xf_3_4, xf_3_5, xf_3_6, xf_3_7, xf_4_0, xf_4_1, xf_4_2, xf_4_3, xf_4_4, xf_4_5, xf_4_6, xf_5_0, xf_5_1, xf_5_2, xf_5_3, xf_5_4, xf_5_5, xf_5_6, xf_5_7, xf_6_3, xf_7_3, xf_8_3, xf_9_3, xf_10_3, xf_11_3, xf_12_3, xf_13_3, xf_14_3, xf_15_3, xf_16_3, nI_1]
              refine ih2 (yRF M r + 1) (by omega) (fun c hc2 hcs hcf => ?_) ?_
              · by_cases hcf2 : yRF M c < f
                · exact h2 c hc2 hcs hcf2
                · have := hmin c hc2 hcs (by omega)
                  have hcr : c = r := w.2.2.2.2.2.2.2.2.1 c r hc2 hr (by rw [hcs, hrs]) (by omega)
                  rw [hcr, hQr]; exact q
              · have := yCount_lt (p := fun r => yRS M r == s && decide (yRF M r < f)) (q := fun c => yRS M c == s && decide (yRF M c < yRF M r + 1)) (n := nR M) (fun x hx hxp => by
                  simp only [Bool.and_eq_true, beq_iff_eq, decide_eq_true_eq] at hxp ⊢
                  exact ⟨hxp.1, by omega⟩) ⟨r, hr, by simp [hrs], by simp; intro _; omega⟩
                omega
            · have hq : yFarB M T A P il L reach r = true := by simpa using q
              rw [bestD_eq (b := r) hr (by rw [hQr]; exact hq) (fun c hc2 hcq => ?_)]
              · exact xF_self
              by_cases hcr : c = r
              · exact Or.inl hcr
              · refine Or.inr ?_
                have hwc := w.2.2.2.2.2.2.1 c hc2
                have hzc := (w.2.2.1 _ hwc.1).2.2.1
                have hfc := hwc.2.1
                by_cases hlt : yRS M c < s
                · rw [h1 c hc2 hlt] at hcq; cases hcq
                · by_cases hceq : yRS M c = s
                  · by_cases hcf2 : yRF M c < f
                    · rw [h2 c hc2 hceq hcf2] at hcq; cases hcq
                    · have h8 := hmin c hc2 hceq (by omega)
                      have h9 : yRF M c ≠ yRF M r := fun z => hcr (w.2.2.2.2.2.2.2.2.1 c r hc2 hr (by rw [hceq, hrs]) z)
                      omega
                  · omega
        · refine bX1_firstUnreached_37 _ _ _ ?_
          try simp only [xi_iload, xi_aload, xi_lload, xi_istore, xi_astore, xi_lstore, xi_ic, xi_lc, xi_iinc, xi_iadd, xi_isub, xi_imul, xi_iand, xi_iushr, xi_ineg, xi_idiv, xi_irem, xi_ladd, xi_lmul, xi_lrem, xi_lcmp, xi_i2l, xi_l2i, xi_i2c, xi_dup, xi_dup2, xi_pop, xi_ifeq, xi_ifne, xi_iflt, xi_ifge, xi_ifgt, xi_ifle, xi_iceq, xi_icne, xi_iclt, xi_icge, xi_icgt, xi_icle, xi_iret, xi_zret, xi_lret, xi_vret, xi_getf, xi_putf, xi_ald, xi_ast, xi_alen, xi_callV, xi_callS, xpop, xroom, xl, xst, xok1, xok2, xnarrow, xwide, xone, xent, List.replicate, Option.isSome_some, Bool.and_self, Bool.true_and, Bool.and_true, List.length_cons, List.length_nil, Nat.reduceAdd, Nat.reduceLT, decide_true, Bool.not_false, Nat.beq, Nat.ble, Option.toList, List.nil_append, List.cons_append, xf_0_0, xf_0_1, xf_0_2, xf_0_3, xf_0_4, xf_0_5, xf_0_6, xf_0_7, xf_0_8, xf_0_9, xf_1_0, xf_1_1, xf_1_2, xf_1_3, xf_1_4, xf_2_0, xf_2_1, xf_2_2, xf_2_3, xf_2_4, xf_2_5, xf_2_6, xf_2_7, xf_3_0, xf_3_1, xf_3_2, xf_3_3, xf_3_4, xf_3_5, xf_3_6, xf_3_7, xf_4_0, xf_4_1, xf_4_2, xf_4_3, xf_4_4, xf_4_5, xf_4_6, xf_5_0, xf_5_1, xf_5_2, xf_5_3, xf_5_4, xf_5_5, xf_5_6, xf_5_7, xf_6_3, xf_7_3, xf_8_3, xf_9_3, xf_10_3, xf_11_3, xf_12_3, xf_13_3, xf_14_3, xf_15_3, xf_16_3, nI_1]
          refine ⟨fun _ => x_forget (ih (fun r hr hrs => ?_)) (by simp [xle]), fun q => absurd (show (4 : Int32) ≤ nI 4 by decide) q⟩
          by_cases hrs2 : yRS M r = s
          · by_cases hrf : yRF M r < f
            · exact h2 r hr hrs2 hrf
            · exfalso
              have h5 := yCount_lt (p := fun r => yRS M r == s && decide (yRF M r < f)) (q := fun r => yRS M r == s) (n := nR M) (fun x hx hxp => by
                simp only [Bool.and_eq_true] at hxp
                exact hxp.1) ⟨r, hr, by simp [hrs2], by simp; intro _; omega⟩
              have h6 := w.2.2.2.2.2.2.2.2.2 s
              omega
          · exact h1 r hr (by omega)
      have e : (-1 : Int32) = pI 0 := rfl
      rw [e]
      refine x_F (sX0_nextReference h w (by omega) (by omega)) ?_
      try simp only [xi_iload, xi_aload, xi_lload, xi_istore, xi_astore, xi_lstore, xi_ic, xi_lc, xi_iinc, xi_iadd, xi_isub, xi_imul, xi_iand, xi_iushr, xi_ineg, xi_idiv, xi_irem, xi_ladd, xi_lmul, xi_lrem, xi_lcmp, xi_i2l, xi_l2i, xi_i2c, xi_dup, xi_dup2, xi_pop, xi_ifeq, xi_ifne, xi_iflt, xi_ifge, xi_ifgt, xi_ifle, xi_iceq, xi_icne, xi_iclt, xi_icge, xi_icgt, xi_icle, xi_iret, xi_zret, xi_lret, xi_vret, xi_getf, xi_putf, xi_ald, xi_ast, xi_alen, xi_callV, xi_callS, xpop, xroom, xl, xst, xok1, xok2, xnarrow, xwide, xone, xent, List.replicate, Option.isSome_some, Bool.and_self, Bool.true_and, Bool.and_true, List.length_cons, List.length_nil, Nat.reduceAdd, Nat.reduceLT, decide_true, Bool.not_false, Nat.beq, Nat.ble, Option.toList, List.nil_append, List.cons_append, xf_0_0, xf_0_1, xf_0_2, xf_0_3, xf_0_4, xf_0_5, xf_0_6, xf_0_7, xf_0_8, xf_0_9, xf_1_0, xf_1_1, xf_1_2, xf_1_3, xf_1_4, xf_2_0, xf_2_1, xf_2_2, xf_2_3, xf_2_4, xf_2_5, xf_2_6, xf_2_7, xf_3_0, xf_3_1, xf_3_2, xf_3_3, xf_3_4, xf_3_5, xf_3_6, xf_3_7, xf_4_0, xf_4_1, xf_4_2, xf_4_3, xf_4_4, xf_4_5, xf_4_6, xf_5_0, xf_5_1, xf_5_2, xf_5_3, xf_5_4, xf_5_5, xf_5_6, xf_5_7, xf_6_3, xf_7_3, xf_8_3, xf_9_3, xf_10_3, xf_11_3, xf_12_3, xf_13_3, xf_14_3, xf_15_3, xf_16_3, nI_1]
      exact inner 0 (by omega) 0 (by omega) (fun r _ _ hrf => by omega) (Nat.zero_le _)
    · refine bX1_firstUnreached_2 _ _ _ ?_
      try simp only [xi_iload, xi_aload, xi_lload, xi_istore, xi_astore, xi_lstore, xi_ic, xi_lc, xi_iinc, xi_iadd, xi_isub, xi_imul, xi_iand, xi_iushr, xi_ineg, xi_idiv, xi_irem, xi_ladd, xi_lmul, xi_lrem, xi_lcmp, xi_i2l, xi_l2i, xi_i2c, xi_dup, xi_dup2, xi_pop, xi_ifeq, xi_ifne, xi_iflt, xi_ifge, xi_ifgt, xi_ifle, xi_iceq, xi_icne, xi_iclt, xi_icge, xi_icgt, xi_icle, xi_iret, xi_zret, xi_lret, xi_vret, xi_getf, xi_putf, xi_ald, xi_ast, xi_alen, xi_callV, xi_callS, xpop, xroom, xl, xst, xok1, xok2, xnarrow, xwide, xone, xent, List.replicate, Option.isSome_some, Bool.and_self, Bool.true_and, Bool.and_true, List.length_cons, List.length_nil, Nat.reduceAdd, Nat.reduceLT, decide_true, Bool.not_false, Nat.beq, Nat.ble, Option.toList, List.nil_append, List.cons_append, xf_0_0, xf_0_1, xf_0_2, xf_0_3, xf_0_4, xf_0_5, xf_0_6, xf_0_7, xf_0_8, xf_0_9, xf_1_0, xf_1_1, xf_1_2, xf_1_3, xf_1_4, xf_2_0, xf_2_1, xf_2_2, xf_2_3, xf_2_4, xf_2_5, xf_2_6, xf_2_7, xf_3_0, xf_3_1, xf_3_2, xf_3_3, xf_3_4, xf_3_5, xf_3_6, xf_3_7, xf_4_0, xf_4_1, xf_4_2, xf_4_3, xf_4_4, xf_4_5, xf_4_6, xf_5_0, xf_5_1, xf_5_2, xf_5_3, xf_5_4, xf_5_5, xf_5_6, xf_5_7, xf_6_3, xf_7_3, xf_8_3, xf_9_3, xf_10_3, xf_11_3, xf_12_3, xf_13_3, xf_14_3, xf_15_3, xf_16_3, hc, nI_1]
      refine ⟨fun _ => ?_, fun q => absurd (nI_le (Nat.le_refl _) (by omega)) q⟩
      rw [bestD_no (fun c hc2 => h1 c hc2 (w.2.2.2.2.2.2.1 c hc2).1)]
      exact xF_self
  exact x_forget (key 0 (by omega) (fun r _ hrs => by omega)) (by simp [xle, nI_0])
/-- one more island -/
def ilAdd (il : Nat → Nat) (L r : Nat) : Nat → Nat := fun k => if k = L then r else il k
/-- the islands after k turns -/
def ySet (M : YM) (T A P : Nat → Bool) (reach : Nat) : Nat → (Nat → Nat) × Nat
  | 0 => (fun _ => 0, 0)
  | k + 1 => match yFirst M T A P (ySet M T A P reach k).1 (ySet M T A P reach k).2 reach with
    | none => ySet M T A P reach k
    | some r => (ilAdd (ySet M T A P reach k).1 (ySet M T A P reach k).2 r, (ySet M T A P reach k).2 + 1)
theorem ySet_stay {reach k : Nat} (h : yFirst M T A P (ySet M T A P reach k).1 (ySet M T A P reach k).2 reach = none) : ∀ j, k ≤ j → ySet M T A P reach j = ySet M T A P reach k := by
  intro j
  induction j with
  | zero => intro hj; rw [show k = 0 by omega]
  | succ j ih =>
    intro hj
    by_cases hk : k = j + 1
    · rw [hk]
    · have e := ih (by omega)
      rw [ySet, e, h]
theorem yFirst_spec {reach r : Nat} (h : yFirst M T A P il L reach = some r) : r < nR M ∧ P (yRS M r) = true ∧ yRK M r = 99 ∧ (∀ k, k < L → il k ≠ r) := by
  obtain ⟨h1, h2⟩ := bestD_lt h
  simp only [yFarP, yFarB, Bool.and_eq_true, beq_iff_eq] at h2
  refine ⟨h1, h2.1, h2.2.1, fun k hk hkr => ?_⟩
  have h3 := h2.2.2.1
  unfold yIsl at h3
  rcases hf : firstB (fun k => il k == r) L with _ | b
  · have := firstB_none hf k hk
    rw [hkr] at this
    simp at this
  · rw [hf] at h3; cases h3
/-- the islands are of calls in laid sections, each once, and no more than the turns -/
theorem ySet_ok {reach : Nat} : ∀ k, (ySet M T A P reach k).2 ≤ k ∧ (∀ i, i < (ySet M T A P reach k).2 → (ySet M T A P reach k).1 i < nR M ∧ P (yRS M ((ySet M T A P reach k).1 i)) = true ∧ yRK M ((ySet M T A P reach k).1 i) = 99) ∧ (∀ i j, i < j → j < (ySet M T A P reach k).2 → (ySet M T A P reach k).1 i ≠ (ySet M T A P reach k).1 j) := by
  intro k
  induction k with
  | zero => exact ⟨Nat.le_refl _, fun i hi => absurd hi (Nat.not_lt_zero _), fun i j _ hj => absurd hj (Nat.not_lt_zero _)⟩
  | succ k ih =>
    obtain ⟨h1, h2, h3⟩ := ih
    unfold ySet
    rcases hf : yFirst M T A P (ySet M T A P reach k).1 (ySet M T A P reach k).2 reach with _ | r
    · exact ⟨by dsimp only; omega, h2, h3⟩
    · obtain ⟨g1, g2, g3, g4⟩ := yFirst_spec hf
      refine ⟨by dsimp only; omega, fun i hi => ?_, fun i j hij hj => ?_⟩
      · dsimp only at hi ⊢
        unfold ilAdd
        split
        · exact ⟨g1, g2, g3⟩
        · exact h2 i (by omega)
      · dsimp only at hj ⊢
        unfold ilAdd
        rw [if_neg (by omega)]
        split
        · exact g4 i (by omega)
        · exact h3 i j hij (by omega)
theorem ySet_il (w : WF M) {reach k : Nat} (hk : k ≤ nR M) : ILok M (ySet M T A P reach k).1 (ySet M T A P reach k).2 := by
  obtain ⟨h1, h2, h3⟩ := ySet_ok (M := M) (T := T) (A := A) (P := P) (reach := reach) k
  have hb := w.1.2.2.2.2
  exact ⟨by omega, fun i hi => (h2 i hi).1⟩
theorem nIs_add {s r : Nat} : ∀ {k : Nat}, k ≤ L → nIs M (ilAdd il L r) s k = nIs M il s k := by
  intro k
  induction k with
  | zero => intro _; rfl
  | succ k ih =>
    intro hk
    have h1 := ih (by omega)
    unfold nIs at h1 ⊢
    unfold yCount
    have e : ilAdd il L r k = il k := by unfold ilAdd; rw [if_neg (by omega)]
    rw [h1, e]
/-- the islands when all is settled -/
def yIL (M : YM) (T A P : Nat → Bool) (reach : Nat) : Nat → Nat := (ySet M T A P reach (nR M)).1
def yIN (M : YM) (T A P : Nat → Bool) (reach : Nat) : Nat := (ySet M T A P reach (nR M)).2
theorem sX1_settle {reach : Nat} (h : CI σ M) (w : WF M) (hS : CS σ M T) (hG : CG σ M T) (hl : CL σ M A) (hd : CD σ M T A) (hP : P = yLaid M T A) (hgo : ∀ r, r < nR M → A (yRS M r) = true → gLv M A (yGoal M T r) = true) (hre : reach ≤ 999) (h11 : ∃ n, n ≤ 40 ∧ σ 11 3 = nI n) : XM G mX1_settle (d + 5) [.ref 3, .int (nI reach)] σ (fun v τ => v = none ∧ xsame [3, 11, 36, 49, 50] σ τ ∧ CIs τ (yIL M T A P reach) (yIN M T A P reach) ∧ CLay τ M T A P (yIL M T A P reach) (yIN M T A P reach) ∧ ∀ s, nS M ≤ s → τ 49 s = σ 49 s) := by
  refine xm_of (by decide +kernel) rfl (Nat.le_of_ble_eq_true rfl) ?_
  refine bX1_settle_0 _ _ _ ?_
  have hb := w.1.2.2.2.2
  obtain ⟨n0, hn0, hn1⟩ := h11
  try simp only [xi_iload, xi_aload, xi_lload, xi_istore, xi_astore, xi_lstore, xi_ic, xi_lc, xi_iinc, xi_iadd, xi_isub, xi_imul, xi_iand, xi_iushr, xi_ineg, xi_idiv, xi_irem, xi_ladd, xi_lmul, xi_lrem, xi_lcmp, xi_i2l, xi_l2i, xi_i2c, xi_dup, xi_dup2, xi_pop, xi_ifeq, xi_ifne, xi_iflt, xi_ifge, xi_ifgt, xi_ifle, xi_iceq, xi_icne, xi_iclt, xi_icge, xi_icgt, xi_icle, xi_iret, xi_zret, xi_lret, xi_vret, xi_getf, xi_putf, xi_ald, xi_ast, xi_alen, xi_callV, xi_callS, xpop, xroom, xl, xst, xok1, xok2, xnarrow, xwide, xone, xent, List.replicate, Option.isSome_some, Bool.and_self, Bool.true_and, Bool.and_true, List.length_cons, List.length_nil, Nat.reduceAdd, Nat.reduceLT, decide_true, Bool.not_false, Nat.beq, Nat.ble, Option.toList, List.nil_append, List.cons_append, xf_0_0, xf_0_1, xf_0_2, xf_0_3, xf_0_4, xf_0_5, xf_0_6, xf_0_7, xf_0_8, xf_0_9, xf_1_0, xf_1_1, xf_1_2, xf_1_3, xf_1_4, xf_2_0, xf_2_1, xf_2_2, xf_2_3, xf_2_4, xf_2_5, xf_2_6, xf_2_7, xf_3_0, xf_3_1, xf_3_2, xf_3_3, xf_3_4, xf_3_5, xf_3_6, xf_3_7, xf_4_0, xf_4_1, xf_4_2, xf_4_3, xf_4_4, xf_4_5, xf_4_6, xf_5_0, xf_5_1, xf_5_2, xf_5_3, xf_5_4, xf_5_5, xf_5_6, xf_5_7, xf_6_3, xf_7_3, xf_8_3, xf_9_3, xf_10_3, xf_11_3, xf_12_3, xf_13_3, xf_14_3, xf_15_3, xf_16_3]
  rw [← nI_0]
  refine x_F (sX6_keep (k := 0) tab11 hn1 (by omega) (Nat.zero_le _)) ?_
  generalize hτ1 : xup σ 11 3 (nI 0) = τ1
  have hs1 : xsame [11] σ τ1 := by rw [← hτ1]; exact xsame.up rfl
  have hC1 : CIs τ1 (ySet M T A P reach 0).1 (ySet M T A P reach 0).2 := by
    refine ⟨?_, fun k hk => absurd hk (Nat.not_lt_zero _)⟩
    rw [← hτ1, xup_ap, if_pos ⟨rfl, rfl⟩]
    rfl
  try simp only [xi_iload, xi_aload, xi_lload, xi_istore, xi_astore, xi_lstore, xi_ic, xi_lc, xi_iinc, xi_iadd, xi_isub, xi_imul, xi_iand, xi_iushr, xi_ineg, xi_idiv, xi_irem, xi_ladd, xi_lmul, xi_lrem, xi_lcmp, xi_i2l, xi_l2i, xi_i2c, xi_dup, xi_dup2, xi_pop, xi_ifeq, xi_ifne, xi_iflt, xi_ifge, xi_ifgt, xi_ifle, xi_iceq, xi_icne, xi_iclt, xi_icge, xi_icgt, xi_icle, xi_iret, xi_zret, xi_lret, xi_vret, xi_getf, xi_putf, xi_ald, xi_ast, xi_alen, xi_callV, xi_callS, xpop, xroom, xl, xst, xok1, xok2, xnarrow, xwide, xone, xent, List.replicate, Option.isSome_some, Bool.and_self, Bool.true_and, Bool.and_true, List.length_cons, List.length_nil, Nat.reduceAdd, Nat.reduceLT, decide_true, Bool.not_false, Nat.beq, Nat.ble, Option.toList, List.nil_append, List.cons_append, xf_0_0, xf_0_1, xf_0_2, xf_0_3, xf_0_4, xf_0_5, xf_0_6, xf_0_7, xf_0_8, xf_0_9, xf_1_0, xf_1_1, xf_1_2, xf_1_3, xf_1_4, xf_2_0, xf_2_1, xf_2_2, xf_2_3, xf_2_4, xf_2_5, xf_2_6, xf_2_7, xf_3_0, xf_3_1, xf_3_2, xf_3_3, xf_3_4, xf_3_5, xf_3_6, xf_3_7, xf_4_0, xf_4_1, xf_4_2, xf_4_3, xf_4_4, xf_4_5, xf_4_6, xf_5_0, xf_5_1, xf_5_2, xf_5_3, xf_5_4, xf_5_5, xf_5_6, xf_5_7, xf_6_3, xf_7_3, xf_8_3, xf_9_3, xf_10_3, xf_11_3, xf_12_3, xf_13_3, xf_14_3, xf_15_3, xf_16_3]
  refine x_R (sX1_layAll (h.same hs1 (by decide)) w (hS.same hs1 (by decide)) (hl.same hs1 (by decide) (by decide)) (hd.same hs1 (by decide)) (ySet_il w (Nat.zero_le _)) hC1 hP) (fun v τ2 hτ2 => ?_)
  obtain ⟨rfl, hs2, hC2, hL2, hz2⟩ := hτ2
  try simp only [xi_iload, xi_aload, xi_lload, xi_istore, xi_astore, xi_lstore, xi_ic, xi_lc, xi_iinc, xi_iadd, xi_isub, xi_imul, xi_iand, xi_iushr, xi_ineg, xi_idiv, xi_irem, xi_ladd, xi_lmul, xi_lrem, xi_lcmp, xi_i2l, xi_l2i, xi_i2c, xi_dup, xi_dup2, xi_pop, xi_ifeq, xi_ifne, xi_iflt, xi_ifge, xi_ifgt, xi_ifle, xi_iceq, xi_icne, xi_iclt, xi_icge, xi_icgt, xi_icle, xi_iret, xi_zret, xi_lret, xi_vret, xi_getf, xi_putf, xi_ald, xi_ast, xi_alen, xi_callV, xi_callS, xpop, xroom, xl, xst, xok1, xok2, xnarrow, xwide, xone, xent, List.replicate, Option.isSome_some, Bool.and_self, Bool.true_and, Bool.and_true, List.length_cons, List.length_nil, Nat.reduceAdd, Nat.reduceLT, decide_true, Bool.not_false, Nat.beq, Nat.ble, Option.toList, List.nil_append, List.cons_append, xf_0_0, xf_0_1, xf_0_2, xf_0_3, xf_0_4, xf_0_5, xf_0_6, xf_0_7, xf_0_8, xf_0_9, xf_1_0, xf_1_1, xf_1_2, xf_1_3, xf_1_4, xf_2_0, xf_2_1, xf_2_2, xf_2_3, xf_2_4, xf_2_5, xf_2_6, xf_2_7, xf_3_0, xf_3_1, xf_3_2, xf_3_3, xf_3_4, xf_3_5, xf_3_6, xf_3_7, xf_4_0, xf_4_1, xf_4_2, xf_4_3, xf_4_4, xf_4_5, xf_4_6, xf_5_0, xf_5_1, xf_5_2, xf_5_3, xf_5_4, xf_5_5, xf_5_6, xf_5_7, xf_6_3, xf_7_3, xf_8_3, xf_9_3, xf_10_3, xf_11_3, xf_12_3, xf_13_3, xf_14_3, xf_15_3, xf_16_3]
  generalize hR : (fun (v : Option Value) (τ : Sg) => v = none ∧ xsame [3, 11, 36, 49, 50] σ τ ∧ CIs τ (yIL M T A P reach) (yIN M T A P reach) ∧ CLay τ M T A P (yIL M T A P reach) (yIN M T A P reach) ∧ ∀ s, nS M ≤ s → τ 49 s = σ 49 s) = R
  have key : ∀ j, j ≤ nR M → ∀ τ, xsame [3, 11, 36, 49, 50] σ τ → CIs τ (ySet M T A P reach j).1 (ySet M T A P reach j).2 → CLay τ M T A P (ySet M T A P reach j).1 (ySet M T A P reach j).2 → (∀ s, nS M ≤ s → τ 49 s = σ 49 s) → AX1_settle G (d + 4 + 1) R 14 [some (.ref 3), some (.int (nI reach)), some (.int (nI j)), none] [] τ := by
    refine loop_up (fun j hj ih τ hs hC hA hz => ?_) (fun τ hs hC hA hz => ?_)
    · refine bX1_settle_14 _ _ _ ?_
      have hI := h.same hs (by decide)
      have hc : τ 10 3 = nI (nR M) := hI.1 4 (by decide)
      have hil := ySet_il (T := T) (A := A) (P := P) (reach := reach) w (show j ≤ nR M by omega)
      try simp only [xi_iload, xi_aload, xi_lload, xi_istore, xi_astore, xi_lstore, xi_ic, xi_lc, xi_iinc, xi_iadd, xi_isub, xi_imul, xi_iand, xi_iushr, xi_ineg, xi_idiv, xi_irem, xi_ladd, xi_lmul, xi_lrem, xi_lcmp, xi_i2l, xi_l2i, xi_i2c, xi_dup, xi_dup2, xi_pop, xi_ifeq, xi_ifne, xi_iflt, xi_ifge, xi_ifgt, xi_ifle, xi_iceq, xi_icne, xi_iclt, xi_icge, xi_icgt, xi_icle, xi_iret, xi_zret, xi_lret, xi_vret, xi_getf, xi_putf, xi_ald, xi_ast, xi_alen, xi_callV, xi_callS, xpop, xroom, xl, xst, xok1, xok2, xnarrow, xwide, xone, xent, List.replicate, Option.isSome_some, Bool.and_self, Bool.true_and, Bool.and_true, List.length_cons, List.length_nil, Nat.reduceAdd, Nat.reduceLT, decide_true, Bool.not_false, Nat.beq, Nat.ble, Option.toList, List.nil_append, List.cons_append, xf_0_0, xf_0_1, xf_0_2, xf_0_3, xf_0_4, xf_0_5, xf_0_6, xf_0_7, xf_0_8, xf_0_9, xf_1_0, xf_1_1, xf_1_2, xf_1_3, xf_1_4, xf_2_0, xf_2_1, xf_2_2, xf_2_3, xf_2_4, xf_2_5, xf_2_6, xf_2_7, xf_3_0, xf_3_1, xf_3_2, xf_3_3, xf_3_4, xf_3_5, xf_3_6, xf_3_7, xf_4_0, xf_4_1, xf_4_2, xf_4_3, xf_4_4, xf_4_5, xf_4_6, xf_5_0, xf_5_1, xf_5_2, xf_5_3, xf_5_4, xf_5_5, xf_5_6, xf_5_7, xf_6_3, xf_7_3, xf_8_3, xf_9_3, xf_10_3, xf_11_3, xf_12_3, xf_13_3, xf_14_3, xf_15_3, xf_16_3, hc, nI_1]
      refine ⟨fun q => absurd q (nI_ge hj (by omega)), fun _ => x_F (sX1_firstUnreached hI w (hG.same hs (by decide)) (hd.same hs (by decide)) hA hP hil hC hgo hre) ?_⟩
      try simp only [xi_iload, xi_aload, xi_lload, xi_istore, xi_astore, xi_lstore, xi_ic, xi_lc, xi_iinc, xi_iadd, xi_isub, xi_imul, xi_iand, xi_iushr, xi_ineg, xi_idiv, xi_irem, xi_ladd, xi_lmul, xi_lrem, xi_lcmp, xi_i2l, xi_l2i, xi_i2c, xi_dup, xi_dup2, xi_pop, xi_ifeq, xi_ifne, xi_iflt, xi_ifge, xi_ifgt, xi_ifle, xi_iceq, xi_icne, xi_iclt, xi_icge, xi_icgt, xi_icle, xi_iret, xi_zret, xi_lret, xi_vret, xi_getf, xi_putf, xi_ald, xi_ast, xi_alen, xi_callV, xi_callS, xpop, xroom, xl, xst, xok1, xok2, xnarrow, xwide, xone, xent, List.replicate, Option.isSome_some, Bool.and_self, Bool.true_and, Bool.and_true, List.length_cons, List.length_nil, Nat.reduceAdd, Nat.reduceLT, decide_true, Bool.not_false, Nat.beq, Nat.ble, Option.toList, List.nil_append, List.cons_append, xf_0_0, xf_0_1, xf_0_2, xf_0_3, xf_0_4, xf_0_5, xf_0_6, xf_0_7, xf_0_8, xf_0_9, xf_1_0, xf_1_1, xf_1_2, xf_1_3, xf_1_4, xf_2_0, xf_2_1, xf_2_2, xf_2_3, xf_2_4, xf_2_5, xf_2_6, xf_2_7, xf_3_0, xf_3_1, xf_3_2, xf_3_3, xf_3_4, xf_3_5, xf_3_6, xf_3_7, xf_4_0, xf_4_1, xf_4_2, xf_4_3, xf_4_4, xf_4_5, xf_4_6, xf_5_0, xf_5_1, xf_5_2, xf_5_3, xf_5_4, xf_5_5, xf_5_6, xf_5_7, xf_6_3, xf_7_3, xf_8_3, xf_9_3, xf_10_3, xf_11_3, xf_12_3, xf_13_3, xf_14_3, xf_15_3, xf_16_3, nI_1]
      rcases hf : yFirst M T A P (ySet M T A P reach j).1 (ySet M T A P reach j).2 reach with _ | r
      · refine ⟨fun q => absurd rfl q, fun _ => ?_⟩
        rw [← hR]
        have e := ySet_stay hf (nR M) (by omega)
        refine ⟨rfl, hs, ?_, ?_, hz⟩
        · unfold yIL yIN; rw [e]; exact hC
        · unfold yIL yIN; rw [e]; exact hA
      · have hr := yFirst_spec hf
        have hr1 := hr.1
        have hLj := (ySet_ok (M := M) (T := T) (A := A) (P := P) (reach := reach) j).1
        simp only [oI]
        refine ⟨fun _ => x_F (sX6_add (n := (ySet M T A P reach j).2) tab11 hC.1 (by omega)) ?_, fun q => absurd q (nIm r (by omega))⟩
        try simp only [xi_iload, xi_aload, xi_lload, xi_istore, xi_astore, xi_lstore, xi_ic, xi_lc, xi_iinc, xi_iadd, xi_isub, xi_imul, xi_iand, xi_iushr, xi_ineg, xi_idiv, xi_irem, xi_ladd, xi_lmul, xi_lrem, xi_lcmp, xi_i2l, xi_l2i, xi_i2c, xi_dup, xi_dup2, xi_pop, xi_ifeq, xi_ifne, xi_iflt, xi_ifge, xi_ifgt, xi_ifle, xi_iceq, xi_icne, xi_iclt, xi_icge, xi_icgt, xi_icle, xi_iret, xi_zret, xi_lret, xi_vret, xi_getf, xi_putf, xi_ald, xi_ast, xi_alen, xi_callV, xi_callS, xpop, xroom, xl, xst, xok1, xok2, xnarrow, xwide, xone, xent, List.replicate, Option.isSome_some, Bool.and_self, Bool.true_and, Bool.and_true, List.length_cons, List.length_nil, Nat.reduceAdd, Nat.reduceLT, decide_true, Bool.not_false, Nat.beq, Nat.ble, Option.toList, List.nil_append, List.cons_append, xf_0_0, xf_0_1, xf_0_2, xf_0_3, xf_0_4, xf_0_5, xf_0_6, xf_0_7, xf_0_8, xf_0_9, xf_1_0, xf_1_1, xf_1_2, xf_1_3, xf_1_4, xf_2_0, xf_2_1, xf_2_2, xf_2_3, xf_2_4, xf_2_5, xf_2_6, xf_2_7, xf_3_0, xf_3_1, xf_3_2, xf_3_3, xf_3_4, xf_3_5, xf_3_6, xf_3_7, xf_4_0, xf_4_1, xf_4_2, xf_4_3, xf_4_4, xf_4_5, xf_4_6, xf_5_0, xf_5_1, xf_5_2, xf_5_3, xf_5_4, xf_5_5, xf_5_6, xf_5_7, xf_6_3, xf_7_3, xf_8_3, xf_9_3, xf_10_3, xf_11_3, xf_12_3, xf_13_3, xf_14_3, xf_15_3, xf_16_3, nI_1]
        rw [← nI_0]
        refine x_F (sX6_set (i := (ySet M T A P reach j).2) (c := 0) tab11 (by omega) (by decide)) ?_
        generalize hτ3 : xup (xup τ 11 3 (nI ((ySet M T A P reach j).2 + 1))) 36 ((ySet M T A P reach j).2 * 2 + 0) (nI r) = τ3
        have hs3 : xsame [11, 36] τ τ3 := by rw [← hτ3]; exact (xsame.up rfl).tr (xsame.up rfl)
        have hs4 : xsame [3, 11, 36, 49, 50] σ τ3 := hs.tr (hs3.wk (by decide))
        have eS : ySet M T A P reach (j + 1) = (ilAdd (ySet M T A P reach j).1 (ySet M T A P reach j).2 r, (ySet M T A P reach j).2 + 1) := by rw [ySet, hf]
        have hil2 := ySet_il (T := T) (A := A) (P := P) (reach := reach) w (show j + 1 ≤ nR M by omega)
        have hC3 : CIs τ3 (ySet M T A P reach (j + 1)).1 (ySet M T A P reach (j + 1)).2 := by
          rw [eS]
          refine ⟨?_, fun k hk => ?_⟩
          · rw [← hτ3, xup_ap, if_neg (by omega), xup_ap, if_pos ⟨rfl, rfl⟩]
          · rw [← hτ3, xup_ap]
            dsimp only
            unfold ilAdd
            by_cases hkL : k = (ySet M T A P reach j).2
            · rw [if_pos ⟨rfl, by omega⟩, if_pos hkL]
            · rw [if_neg (by omega), if_neg hkL, xup_ap, if_neg (by omega)]
              exact hC.2 k (by dsimp only at hk; omega)
        try simp only [xi_iload, xi_aload, xi_lload, xi_istore, xi_astore, xi_lstore, xi_ic, xi_lc, xi_iinc, xi_iadd, xi_isub, xi_imul, xi_iand, xi_iushr, xi_ineg, xi_idiv, xi_irem, xi_ladd, xi_lmul, xi_lrem, xi_lcmp, xi_i2l, xi_l2i, xi_i2c, xi_dup, xi_dup2, xi_pop, xi_ifeq, xi_ifne, xi_iflt, xi_ifge, xi_ifgt, xi_ifle, xi_iceq, xi_icne, xi_iclt, xi_icge, xi_icgt, xi_icle, xi_iret, xi_zret, xi_lret, xi_vret, xi_getf, xi_putf, xi_ald, xi_ast, xi_alen, xi_callV, xi_callS, xpop, xroom, xl, xst, xok1, xok2, xnarrow, xwide, xone, xent, List.replicate, Option.isSome_some, Bool.and_self, Bool.true_and, Bool.and_true, List.length_cons, List.length_nil, Nat.reduceAdd, Nat.reduceLT, decide_true, Bool.not_false, Nat.beq, Nat.ble, Option.toList, List.nil_append, List.cons_append, xf_0_0, xf_0_1, xf_0_2, xf_0_3, xf_0_4, xf_0_5, xf_0_6, xf_0_7, xf_0_8, xf_0_9, xf_1_0, xf_1_1, xf_1_2, xf_1_3, xf_1_4, xf_2_0, xf_2_1, xf_2_2, xf_2_3, xf_2_4, xf_2_5, xf_2_6, xf_2_7, xf_3_0, xf_3_1, xf_3_2, xf_3_3, xf_3_4, xf_3_5, xf_3_6, xf_3_7, xf_4_0, xf_4_1, xf_4_2, xf_4_3, xf_4_4, xf_4_5, xf_4_6, xf_5_0, xf_5_1, xf_5_2, xf_5_3, xf_5_4, xf_5_5, xf_5_6, xf_5_7, xf_6_3, xf_7_3, xf_8_3, xf_9_3, xf_10_3, xf_11_3, xf_12_3, xf_13_3, xf_14_3, xf_15_3, xf_16_3, nI_1]
        refine x_R (sX1_layAll (h.same hs4 (by decide)) w (hS.same hs4 (by decide)) (hl.same hs4 (by decide) (by decide)) (hd.same hs4 (by decide)) hil2 hC3 hP) (fun v τ5 hτ5 => ?_)
        obtain ⟨rfl, hs5, hC5, hL5, hz5⟩ := hτ5
        try simp only [xi_iload, xi_aload, xi_lload, xi_istore, xi_astore, xi_lstore, xi_ic, xi_lc, xi_iinc, xi_iadd, xi_isub, xi_imul, xi_iand, xi_iushr, xi_ineg, xi_idiv, xi_irem, xi_ladd, xi_lmul, xi_lrem, xi_lcmp, xi_i2l, xi_l2i, xi_i2c, xi_dup, xi_dup2, xi_pop, xi_ifeq, xi_ifne, xi_iflt, xi_ifge, xi_ifgt, xi_ifle, xi_iceq, xi_icne, xi_iclt, xi_icge, xi_icgt, xi_icle, xi_iret, xi_zret, xi_lret, xi_vret, xi_getf, xi_putf, xi_ald, xi_ast, xi_alen, xi_callV, xi_callS, xpop, xroom, xl, xst, xok1, xok2, xnarrow, xwide, xone, xent, List.replicate, Option.isSome_some, Bool.and_self, Bool.true_and, Bool.and_true, List.length_cons, List.length_nil, Nat.reduceAdd, Nat.reduceLT, decide_true, Bool.not_false, Nat.beq, Nat.ble, Option.toList, List.nil_append, List.cons_append, xf_0_0, xf_0_1, xf_0_2, xf_0_3, xf_0_4, xf_0_5, xf_0_6, xf_0_7, xf_0_8, xf_0_9, xf_1_0, xf_1_1, xf_1_2, xf_1_3, xf_1_4, xf_2_0, xf_2_1, xf_2_2, xf_2_3, xf_2_4, xf_2_5, xf_2_6, xf_2_7, xf_3_0, xf_3_1, xf_3_2, xf_3_3, xf_3_4, xf_3_5, xf_3_6, xf_3_7, xf_4_0, xf_4_1, xf_4_2, xf_4_3, xf_4_4, xf_4_5, xf_4_6, xf_5_0, xf_5_1, xf_5_2, xf_5_3, xf_5_4, xf_5_5, xf_5_6, xf_5_7, xf_6_3, xf_7_3, xf_8_3, xf_9_3, xf_10_3, xf_11_3, xf_12_3, xf_13_3, xf_14_3, xf_15_3, xf_16_3, nI_1]
        refine x_forget (ih τ5 (hs4.tr (hs5.wk (by decide))) hC5 hL5 (fun s hs => ?_)) (by simp [xle])
        rw [hz5 s hs, hs3.at (by decide)]
        exact hz s hs
    · refine bX1_settle_14 _ _ _ ?_
      have hI := h.same hs (by decide)
      have hc : τ 10 3 = nI (nR M) := hI.1 4 (by decide)
      try simp only [xi_iload, xi_aload, xi_lload, xi_istore, xi_astore, xi_lstore, xi_ic, xi_lc, xi_iinc, xi_iadd, xi_isub, xi_imul, xi_iand, xi_iushr, xi_ineg, xi_idiv, xi_irem, xi_ladd, xi_lmul, xi_lrem, xi_lcmp, xi_i2l, xi_l2i, xi_i2c, xi_dup, xi_dup2, xi_pop, xi_ifeq, xi_ifne, xi_iflt, xi_ifge, xi_ifgt, xi_ifle, xi_iceq, xi_icne, xi_iclt, xi_icge, xi_icgt, xi_icle, xi_iret, xi_zret, xi_lret, xi_vret, xi_getf, xi_putf, xi_ald, xi_ast, xi_alen, xi_callV, xi_callS, xpop, xroom, xl, xst, xok1, xok2, xnarrow, xwide, xone, xent, List.replicate, Option.isSome_some, Bool.and_self, Bool.true_and, Bool.and_true, List.length_cons, List.length_nil, Nat.reduceAdd, Nat.reduceLT, decide_true, Bool.not_false, Nat.beq, Nat.ble, Option.toList, List.nil_append, List.cons_append, xf_0_0, xf_0_1, xf_0_2, xf_0_3, xf_0_4, xf_0_5, xf_0_6, xf_0_7, xf_0_8, xf_0_9, xf_1_0, xf_1_1, xf_1_2, xf_1_3, xf_1_4, xf_2_0, xf_2_1, xf_2_2, xf_2_3, xf_2_4, xf_2_5, xf_2_6, xf_2_7, xf_3_0, xf_3_1, xf_3_2, xf_3_3, xf_3_4, xf_3_5, xf_3_6, xf_3_7, xf_4_0, xf_4_1, xf_4_2, xf_4_3, xf_4_4, xf_4_5, xf_4_6, xf_5_0, xf_5_1, xf_5_2, xf_5_3, xf_5_4, xf_5_5, xf_5_6, xf_5_7, xf_6_3, xf_7_3, xf_8_3, xf_9_3, xf_10_3, xf_11_3, xf_12_3, xf_13_3, xf_14_3, xf_15_3, xf_16_3, hc, nI_1]
      rw [← hR]
      exact ⟨fun _ => ⟨rfl, hs, hC, hA, hz⟩, fun q => absurd (nI_le (Nat.le_refl _) (by omega)) q⟩
  exact x_forget (key 0 (by omega) τ2 ((hs1.wk (by decide)).tr (hs2.wk (by decide))) hC2 hL2 (fun s hs => by rw [hz2 s hs, hs1.at (by decide)])) (by simp [xle, nI_0])
end S32
