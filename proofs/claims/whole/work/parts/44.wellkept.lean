/-! what is true of libraries stays true -/
section S44
variable {N : YM} {B : Nat}
def WL (N : YM) (B : Nat) : Prop := PS N ∧ (∀ j, N 52 j = 0) ∧ (∀ j, N 51 j ≤ B) ∧ (∀ j, 0 < N 51 j → j < nL N ∧ yLd N j = true) ∧ (∀ z, N 41 z ≤ nL N) ∧ (∀ r, N 41 (r * 10) = 0) ∧ (∀ z, 0 < N 41 z → z / 160 < nL N) ∧ (∀ z, N 38 z ≤ 9) ∧ (∀ j, nL N ≤ j → N 54 j = 0) ∧ (∀ j, N 54 j ≤ 1) ∧ (∀ j, N 53 j < 2 ^ 20) ∧ ∀ j, nL N ≤ j → N 53 j = 0
theorem yLd_lt (p : PS N) {j : Nat} (h : yLd N j = true) : j < nL N := by
  obtain ⟨k, hk, h2⟩ := anyB_iff.mp h
  have := p.2.2.1 k hk
  have h3 : N 40 k = j := by simpa using h2
  omega
theorem WL_lib (w : WL N B) (h : nL N < 8) : WL (yU N 13 3 (nL N + 1)) B := by
  obtain ⟨⟨p1, p2, p3, p4, p5, p6⟩, a, b, c, e, f, g, i, j, k, l, l2⟩ := w
  have hp : PS N := ⟨p1, p2, p3, p4, p5, p6⟩
  have e13 : nL (yU N 13 3 (nL N + 1)) = nL N + 1 := rfl
  have e15 : nSt (yU N 13 3 (nL N + 1)) = nSt N := rfl
  have eld : ∀ x, yLd (yU N 13 3 (nL N + 1)) x = yLd N x := fun x => rfl
  refine ⟨⟨by omega, p2, fun x hx => ?_, ?_, p5, fun x hx h1 => ?_⟩, a, b, fun x hx => ?_, fun z => ?_, f, fun z hz => ?_, i, fun x hx => ?_, k, l, fun x hx => ?_⟩
  · have : N 40 x < nL N := p3 x hx
    show N 40 x < nL N + 1
    omega
  · rw [e15, e13, yCount.eq_2, p4]
    have h1 : yLd (yU N 13 3 (nL N + 1)) (nL N) = false := by
      rw [eld]
      cases hq : yLd N (nL N) with
      | false => rfl
      | true => have := yLd_lt hp hq; omega
    rw [h1, if_neg (by decide), Nat.add_zero]
    exact yCount_cg (fun x _ => (eld x).symm)
  · have := a x
    have h1' : N 52 x = 1 := h1
    omega
  · have := c x hx
    exact ⟨by rw [e13]; omega, this.2⟩
  · have := e z
    show N 41 z ≤ nL N + 1
    omega
  · have := g z hz
    rw [e13]; omega
  · rw [e13] at hx
    exact j x (by omega)
  · rw [e13] at hx
    exact l2 x (by omega)
theorem WL_ver {z v : Nat} (w : WL N B) (hv : v ≤ 9) : WL (yU N 38 z v) B := by
  obtain ⟨p, a, b, c, e, f, g, i, j, k, l⟩ := w
  refine ⟨p, a, b, c, e, f, g, fun x => ?_, j, k, l⟩
  unfold yU
  split
  · exact hv
  · exact i x
theorem WL_need {z : Nat} (w : WL N B) : WL (yU N 39 z 1) B := by
  obtain ⟨⟨p1, p2, p3⟩, a, b, c, e, f, g, i, j, k, l⟩ := w
  refine ⟨⟨p1, fun x => ?_, p3⟩, a, b, c, e, f, g, i, j, k, l⟩
  unfold yU
  split
  · exact Nat.le_refl _
  · exact p2 x
theorem WL_bind {l n v p : Nat} (w : WL N B) (hl : l < nL N) (hn : n < 16) (hv : 1 ≤ v ∧ v ≤ 9) (hp : p < nL N) : WL (yU N 41 ((l * 16 + n) * 10 + v) (p + 1)) B := by
  obtain ⟨q, a, b, c, e, f, g, i, j, k, m⟩ := w
  have hb := q.1
  refine ⟨q, a, b, c, fun x => ?_, fun r => ?_, fun x hx => ?_, i, j, k, m⟩
  · show yU N 41 _ (p + 1) 41 x ≤ nL N
    unfold yU
    split
    · omega
    · exact e x
  · unfold yU
    rw [if_neg (by omega)]
    exact f r
  · show x / 160 < nL N
    unfold yU at hx
    split at hx
    · next hz =>
      rw [hz.2, div160 (by omega)]
      omega
    · exact g x hx
/-- how many are not underway -/
def yFree (N : YM) : Nat := yCount (fun k => decide (N 52 k = 0)) (nL N)
theorem put_ld : ∀ (f : Nat) {l : Nat} {N : YM}, PS N → l < nL N → N 52 l = 0 → yLd N l = false → yFree N ≤ f → (∀ j, yLd N j = true → yLd (yPut f l N) j = true) ∧ yLd (yPut f l N) l = true ∧ ∀ j, j < nL N → N 51 j < (yPut f l N) 51 j → yLd (yPut f l N) j = true ∨ N 52 j = 1 := by
  intro f
  induction f with
  | zero =>
    intro l N p hl hu h0 hf
    exfalso
    have h1 := yCount_lt (p := fun _ => false) (q := fun k => decide (N 52 k = 0)) (n := nL N) (fun _ _ h => by cases h) ⟨l, hl, by simp [hu], rfl⟩
    unfold yFree at hf
    omega
  | succ f ih =>
    intro l N p hl hu h0 hf
    have hloop := PGo_putL (f := f) p hl hu h0
    have hfr : yFree (yU N 52 l 1) ≤ f := by
      have h1 := yCount_lt (p := fun k => decide ((yU N 52 l 1) 52 k = 0)) (q := fun k => decide (N 52 k = 0)) (n := nL N) (fun x _ hx => by
        rw [decide_eq_true_eq] at hx ⊢
        unfold yU at hx
        split at hx
        · cases hx
        · exact hx) ⟨l, hl, by simp [hu], by unfold yU; simp⟩
      unfold yFree at hf ⊢
      have : nL (yU N 52 l 1) = nL N := rfl
      rw [this]
      omega
    have loop : ∀ k, k ≤ nL N → (∀ j, yLd N j = true → yLd (yPutL (yPut f) l k (yU N 52 l 1)) j = true) ∧ (∀ j, j < nL N → N 51 j < (yPutL (yPut f) l k (yU N 52 l 1)) 51 j → yLd (yPutL (yPut f) l k (yU N 52 l 1)) j = true ∨ (yU N 52 l 1) 52 j = 1) ∧ ∀ j, j < k → yNd N l j = true → yLd (yPutL (yPut f) l k (yU N 52 l 1)) j = true ∨ (yU N 52 l 1) 52 j = 1 := by
      intro k
      induction k with
      | zero => intro _; exact ⟨fun j h => by rw [yPutL, yLd_52]; exact h, fun j _ h => absurd h (Nat.lt_irrefl _), fun j hj => absurd hj (Nat.not_lt_zero _)⟩
      | succ k ihk =>
        intro hk
        obtain ⟨i1, i2, i3⟩ := ihk (by omega)
        have hg := hloop k (by omega)
        have hg1 := hloop (k + 1) hk
        have hnd : yNd (yPutL (yPut f) l k (yU N 52 l 1)) l k = yNd N l k := hg.nd
        unfold yPutL
        by_cases hc : yNd (yPutL (yPut f) l k (yU N 52 l 1)) l k = true ∧ yLd (yPutL (yPut f) l k (yU N 52 l 1)) k = false ∧ (yPutL (yPut f) l k (yU N 52 l 1)) 52 k ≠ 1
        · rw [if_pos hc]
          have h5 := hg.1.2.2.2.2.1 k
          have hkl : k < nL (yPutL (yPut f) l k (yU N 52 l 1)) := by rw [hg.nL]; show k < nL N; omega
          have hfr2 : yFree (yPutL (yPut f) l k (yU N 52 l 1)) ≤ f := by
            unfold yFree at hfr ⊢
            rw [hg.nL, hg.2.1]
            exact hfr
          obtain ⟨j1, j2, j3⟩ := ih hg.1 hkl (by omega) hc.2.1 hfr2
          refine ⟨fun j h => j1 j (i1 j h), fun j hj h => ?_, fun j hj h => ?_⟩
          · by_cases hlt : (yPutL (yPut f) l k (yU N 52 l 1)) 51 j < (yPut f k (yPutL (yPut f) l k (yU N 52 l 1))) 51 j
            · rcases j3 j (by rw [hg.nL]; exact hj) hlt with h6 | h6
              · exact Or.inl h6
              · rw [hg.2.1] at h6; exact Or.inr h6
            · rcases i2 j hj (by omega) with h6 | h6
              · exact Or.inl (j1 j h6)
              · exact Or.inr h6
          · by_cases hjk : j = k
            · rw [hjk]; exact Or.inl j2
            · rcases i3 j (by omega) h with h6 | h6
              · exact Or.inl (j1 j h6)
              · exact Or.inr h6
        · rw [if_neg hc]
          refine ⟨i1, i2, fun j hj h => ?_⟩
          by_cases hjk : j = k
          · subst hjk
            cases hq : yLd (yPutL (yPut f) l j (yU N 52 l 1)) j with
            | true => exact Or.inl rfl
            | false =>
              right
              by_cases h1 : (yPutL (yPut f) l j (yU N 52 l 1)) 52 j = 1
              · rw [hg.2.1] at h1; exact h1
              · exact absurd ⟨by rw [hnd]; exact h, hq, h1⟩ hc
          · exact i3 j (by omega) h
    obtain ⟨i1, i2, i3⟩ := loop (nL N) (Nat.le_refl _)
    have hg := hloop (nL N) (Nat.le_refl _)
    have e0 : yPut (f + 1) l N = yApp (yU (yPutL (yPut f) l (nL N) (yU N 52 l 1)) 52 l 0) l := rfl
    rw [e0]
    generalize yPutL (yPut f) l (nL N) (yU N 52 l 1) = N2 at i1 i2 i3 hg ⊢
    have hld : ∀ j, yLd (yApp (yU N2 52 l 0) l) j = (yLd N2 j || l == j) := fun j => by rw [yLd_app, yLd_52]
    have hor : ∀ j, (yLd N2 j = true ∨ (yU N 52 l 1) 52 j = 1) → yLd (yApp (yU N2 52 l 0) l) j = true ∨ N 52 j = 1 := by
      intro j h
      rw [hld]
      rcases h with h | h
      · rw [h]; exact Or.inl rfl
      · unfold yU at h
        split at h
        · next hz => rw [hz.2]; left; simp
        · exact Or.inr h
    refine ⟨fun j h => by rw [hld, i1 j h]; rfl, by rw [hld]; simp, fun j hj h => ?_⟩
    have h51 : (yApp (yU N2 52 l 0) l) 51 j = if j < nL N2 ∧ yNd N2 l j = true then N2 51 j + 1 else N2 51 j := by
      show yRaise _ _ _ 51 j = _
      rw [yRaise_at]
      rfl
    rw [h51] at h
    by_cases hn : yNd N2 l j = true
    · exact hor j (i3 j hj (by
        have h8 : yNd N2 l j = yNd (yU N 52 l 1) l j := hg.nd
        rw [h8] at hn
        exact hn))
    · rw [if_neg (fun z => hn z.2)] at h
      exact hor j (i2 j hj h)
theorem yFree_le : yFree N ≤ nL N := yCount_le
theorem WL_load {l : Nat} (w : WL N B) (hl : l < nL N) : WL (yLoad N l) (B + 9) ∧ nSt N ≤ nSt (yLoad N l) ∧ nL (yLoad N l) = nL N := by
  obtain ⟨p, a, b, c, e, f, g, i, j, k, m, m2⟩ := w
  have hb := p.1
  have h1 : ∃ N1, (if yLd N l = true then N else yPut 9 l N) = N1 ∧ PGo N N1 ∧ yLd N1 l = true ∧ (∀ j, yLd N j = true → yLd N1 j = true) ∧ ∀ j, j < nL N → N 51 j < N1 51 j → yLd N1 j = true := by
    cases hq : yLd N l with
    | true => exact ⟨N, by rw [if_pos rfl], PGo.rf p, hq, fun _ h => h, fun j _ h => absurd h (Nat.lt_irrefl _)⟩
    | false =>
      obtain ⟨q1, q2, q3⟩ := put_ld 9 p hl (a l) hq (by have := yFree_le (N := N); omega)
      refine ⟨yPut 9 l N, by rw [if_neg (by decide)], PGo_put 9 p hl (a l) hq, q2, q1, fun j hj h => ?_⟩
      rcases q3 j hj h with h6 | h6
      · exact h6
      · have := a j; omega
  obtain ⟨N1, hN1, hg, hll, hmono, hnew⟩ := h1
  have e0 : yLoad N l = yU N1 51 l (N1 51 l + 1) := by unfold yLoad; rw [hN1]
  rw [e0]
  have e13 : nL (yU N1 51 l (N1 51 l + 1)) = nL N := hg.nL
  have e15 : nSt (yU N1 51 l (N1 51 l + 1)) = nSt N1 := rfl
  have hk : ∀ x, x ≠ 15 → x ≠ 40 → x ≠ 51 → (yU N1 51 l (N1 51 l + 1)) x = N x := by
    intro x h1 h2 h3
    rw [← hg.2.2.1 x h1 h2 h3]
    funext y
    unfold yU
    rw [if_neg (fun z => h3 z.1)]
  have h51 : ∀ y, N1 51 y ≤ N 51 y + 8 := by
    intro y
    have h2 := hg.2.2.2.2 y
    have h3 := hg.1.le
    have h4 : nL N1 = nL N := hg.nL
    omega
  refine ⟨⟨?_, fun y => ?_, fun y => ?_, fun y hy => ?_, fun z => ?_, fun r => ?_, fun z hz => ?_, fun z => ?_, fun y hy => ?_, fun y => ?_, fun y => ?_, fun y hy => ?_⟩, by rw [e15]; exact hg.2.2.2.1, e13⟩
  · exact hg.1
  · rw [hk 52 (by decide) (by decide) (by decide)]; exact a y
  · unfold yU
    split
    · have := h51 l; have := b l; omega
    · have := h51 y; have := b y; omega
  · show y < nL N1 ∧ yLd N1 y = true
    rw [hg.nL]
    by_cases hyl : y = l
    · rw [hyl]; exact ⟨hl, hll⟩
    · unfold yU at hy
      rw [if_neg (fun z => hyl z.2)] at hy
      have hyL : yLd N1 y = true → y < nL N ∧ yLd N1 y = true := fun h => ⟨by rw [← hg.nL]; exact yLd_lt hg.1 h, h⟩
      by_cases h0 : 0 < N 51 y
      · exact hyL (hmono y (c y h0).2)
      · by_cases hyn : y < nL N
        · exact hyL (hnew y hyn (by omega))
        · exfalso
          -- counts of libraries that there aren't are not raised
          have h9 : ∀ (f : Nat) {l : Nat} {N : YM}, PS N → l < nL N → N 52 l = 0 → yLd N l = false → ∀ y, nL N ≤ y → (yPut f l N) 51 y = N 51 y := by
            intro f
            induction f with
            | zero => intro l N _ _ _ _ y _; rfl
            | succ f ihf =>
              intro l N p hl hu h0 y hy
              have hloop := PGo_putL (f := f) p hl hu h0
              have lp : ∀ k, k ≤ nL N → (yPutL (yPut f) l k (yU N 52 l 1)) 51 y = N 51 y := by
                intro k
                induction k with
                | zero => intro _; rfl
                | succ k ihk =>
                  intro hk
                  have hg := hloop k (by omega)
                  have i1 := ihk (by omega)
                  have h5 := hg.1.2.2.2.2.1 k
                  unfold yPutL
                  split
                  · next hc =>
                    have hnl : nL (yPutL (yPut f) l k (yU N 52 l 1)) = nL N := hg.nL
                    rw [ihf hg.1 (by rw [hnl]; omega) (by omega) hc.2.1 y (by rw [hnl]; exact hy)]
                    exact i1
                  · exact i1
              have hg := hloop (nL N) (Nat.le_refl _)
              have hnl : nL (yPutL (yPut f) l (nL N) (yU N 52 l 1)) = nL N := hg.nL
              show yRaise _ _ _ 51 y = _
              rw [yRaise_at, if_neg (fun z => by
                have h7 : y < nL (yPutL (yPut f) l (nL N) (yU N 52 l 1)) := z.1
                omega)]
              exact lp (nL N) (Nat.le_refl _)
          have h10 : N1 51 y = N 51 y := by
            rw [← hN1]
            split
            · rfl
            · next hq => exact h9 9 p hl (a l) (by simpa using hq) y (by omega)
          omega
  · rw [hk 41 (by decide) (by decide) (by decide), e13]; exact e z
  · rw [hk 41 (by decide) (by decide) (by decide)]; exact f r
  · rw [hk 41 (by decide) (by decide) (by decide)] at hz; rw [e13]; exact g z hz
  · rw [hk 38 (by decide) (by decide) (by decide)]; exact i z
  · rw [hk 54 (by decide) (by decide) (by decide)]; rw [e13] at hy; exact j y hy
  · rw [hk 54 (by decide) (by decide) (by decide)]; exact k y
  · rw [hk 53 (by decide) (by decide) (by decide)]; exact m y
  · rw [hk 53 (by decide) (by decide) (by decide)]; rw [e13] at hy; exact m2 y hy
/-- counted by the places as by what stands there -/
theorem yCount_inj {o : Nat → Nat} {q : Nat → Bool} {m : Nat} : ∀ {n : Nat}, (∀ i j, i < j → j < n → o i ≠ o j) → (∀ i, i < n → o i < m) → yCount (fun k => q (o k)) n = yCount (fun l => anyB (fun k => o k == l) n && q l) m := by
  intro n
  induction n with
  | zero => intro _ _; exact (yCount_none (p := fun l => anyB (fun k => o k == l) 0 && q l) (fun _ _ => rfl)).symm
  | succ n ih =>
    intro h1 h2
    rw [yCount.eq_2, ih (fun i j hij hj => h1 i j hij (by omega)) (fun i hi => h2 i (by omega))]
    have h0 : anyB (fun k => o k == o n) n = false := by
      refine anyB_not.mpr (fun k hk => ?_)
      have := h1 k n hk (by omega)
      simpa using this
    cases hq : q (o n) with
    | false =>
      rw [if_neg (by decide), Nat.add_zero]
      refine yCount_cg (fun l _ => ?_)
      rw [anyB]
      by_cases hl : o n = l
      · rw [← hl, hq, Bool.and_false, Bool.and_false]
      · rw [show (o n == l) = false from by simpa using hl, Bool.or_false]
    | true =>
      rw [if_pos rfl]
      refine (yCount_put (k := o n) ?_ ?_ (fun l hl => ?_) (h2 n (by omega))).symm
      · rw [h0, Bool.false_and]
      · rw [anyB, hq]; simp
      · rw [anyB, show (o n == l) = false from by simpa using Ne.symm hl, Bool.or_false]
theorem rng_le {o : Nat → Nat} {m : Nat} : ∀ {n : Nat}, yCount (fun l => anyB (fun k => o k == l) n) m ≤ n ∧ ∀ j, j ≤ n → yCount (fun l => anyB (fun k => o k == l) n) m ≤ yCount (fun l => anyB (fun k => o k == l) j) m + (n - j) := by
  intro n
  induction n with
  | zero => exact ⟨Nat.le_of_eq (yCount_none (fun _ _ => rfl)), fun j hj => by rw [show j = 0 by omega]; omega⟩
  | succ n ih =>
    have hs : yCount (fun l => anyB (fun k => o k == l) (n + 1)) m ≤ yCount (fun l => anyB (fun k => o k == l) n) m + 1 := by
      cases h0 : anyB (fun k => o k == o n) n with
      | true =>
        rw [yCount_cg (q := fun l => anyB (fun k => o k == l) n)]
        · omega
        · intro l _
          rw [anyB]
          by_cases hl : o n = l
          · rw [← hl, h0]; rfl
          · rw [show (o n == l) = false from by simpa using hl, Bool.or_false]
      | false =>
        by_cases hm : o n < m
        · rw [yCount_put (p := fun l => anyB (fun k => o k == l) n) (k := o n) h0 (by rw [anyB]; simp) (fun l hl => by rw [anyB, show (o n == l) = false from by simpa using Ne.symm hl, Bool.or_false]) hm]
          exact Nat.le_refl _
        · rw [yCount_cg (q := fun l => anyB (fun k => o k == l) n)]
          · omega
          · intro l hl
            rw [anyB, show (o n == l) = false from by simp; omega, Bool.or_false]
    refine ⟨by omega, fun j hj => ?_⟩
    by_cases hjn : j = n + 1
    · rw [hjn]; omega
    · have := ih.2 j (by omega)
      omega
theorem PS.inj (p : PS N) : ∀ i j, i < j → j < nSt N → N 40 i ≠ N 40 j := by
  intro i j hij hj he
  have h1 := (rng_le (o := N 40) (m := nL N) (n := nSt N)).2 (j + 1) hj
  have h2 := (rng_le (o := N 40) (m := nL N) (n := j)).1
  have h3 : yCount (fun l => anyB (fun k => N 40 k == l) (j + 1)) (nL N) = yCount (fun l => anyB (fun k => N 40 k == l) j) (nL N) := by
    refine yCount_cg (fun l _ => ?_)
    rw [anyB]
    by_cases hl : N 40 j = l
    · have : anyB (fun k => N 40 k == l) j = true := anyB_iff.mpr ⟨i, hij, by simp; omega⟩
      rw [this]; rfl
    · rw [show (N 40 j == l) = false from by simpa using hl, Bool.or_false]
  have h4 : nSt N = yCount (fun l => anyB (fun k => N 40 k == l) (nSt N)) (nL N) := p.2.2.2.1
  omega
theorem yCm_inj : ∀ {k : Nat}, (∀ i j, i < j → j < k → N 40 i ≠ N 40 j) → (∀ i, i < (yCm N k).2 → ∃ p, p < k ∧ (yCm N k).1 40 i = N 40 p ∧ N 54 (N 40 p) ≠ 1) ∧ (∀ i j, i < j → j < (yCm N k).2 → (yCm N k).1 40 i ≠ (yCm N k).1 40 j) ∧ ∀ p, p < k → N 54 (N 40 p) ≠ 1 → ∃ i, i < (yCm N k).2 ∧ (yCm N k).1 40 i = N 40 p := by
  intro k
  induction k with
  | zero => intro _; exact ⟨fun i hi => absurd hi (Nat.not_lt_zero _), fun i j _ hj => absurd hj (Nat.not_lt_zero _), fun p hp => absurd hp (Nat.not_lt_zero _)⟩
  | succ k ih =>
    intro hinj
    obtain ⟨i1, i2, i3⟩ := ih (fun i j hij hj => hinj i j hij (by omega))
    obtain ⟨c1, c2, c3⟩ := yCm_spec (N := N) (k := k)
    have e40 : (yCm N k).1 40 k = N 40 k := c2 k (Nat.le_refl _)
    have e54 : (yCm N k).1 54 = N 54 := c3 54 (by decide)
    unfold yCm
    rw [e40, e54]
    by_cases hq : N 54 (N 40 k) = 1
    · rw [if_pos hq]
      refine ⟨fun i hi => ?_, i2, fun p hp hn => ?_⟩
      · obtain ⟨p, h1, h2⟩ := i1 i hi
        exact ⟨p, by omega, h2⟩
      · by_cases hpk : p = k
        · rw [hpk] at hn; exact absurd hq hn
        · exact i3 p (by omega) hn
    · rw [if_neg hq]
      have eo : ∀ i, i < (yCm N k).2 → (yU (yCm N k).1 40 (yCm N k).2 (N 40 k)) 40 i = (yCm N k).1 40 i := by
        intro i hi
        unfold yU
        rw [if_neg (by omega)]
      have en : (yU (yCm N k).1 40 (yCm N k).2 (N 40 k)) 40 (yCm N k).2 = N 40 k := by
        unfold yU
        rw [if_pos ⟨rfl, rfl⟩]
      refine ⟨fun i hi => ?_, fun i j hij hj => ?_, fun p hp hn => ?_⟩
      · dsimp only at hi ⊢
        by_cases hin : i = (yCm N k).2
        · rw [hin, en]; exact ⟨k, by omega, rfl, hq⟩
        · rw [eo i (by omega)]
          obtain ⟨p, h1, h2⟩ := i1 i (by omega)
          exact ⟨p, by omega, h2⟩
      · dsimp only at hj ⊢
        rw [eo i (by omega)]
        by_cases hjn : j = (yCm N k).2
        · rw [hjn, en]
          obtain ⟨p, h1, h2, -⟩ := i1 i (by omega)
          rw [h2]
          exact hinj p k h1 (by omega)
        · rw [eo j (by omega)]
          exact i2 i j hij (by omega)
      · dsimp only
        by_cases hpk : p = k
        · rw [hpk]; exact ⟨_, Nat.lt_succ_self _, en⟩
        · obtain ⟨i, h1, h2⟩ := i3 p (by omega) hn
          exact ⟨i, by omega, by rw [eo i h1]; exact h2⟩
/-- what a plan says -/
theorem yPlan_spec {l : Nat} (w : WL N B) (hl : l < nL N) : (∀ a, a ≠ 53 → a ≠ 54 → (yPlan N l).1 a = N a) ∧ (∀ j, j < nL N → (yPlan N l).1 53 j ≤ N 51 j) ∧ (∀ j, j < nL N → (yPlan N l).1 54 j = if 0 < N 51 j ∧ (yPlan N l).1 53 j = 0 then 1 else 0) ∧ (∀ j, nL N ≤ j → (yPlan N l).1 53 j = 0 ∧ (yPlan N l).1 54 j = 0) ∧ (yPlan N l).2 = yCount (fun j => (yPlan N l).1 54 j == 1) (nL N) := by
  have hg := LGo_low 9 (l := l) (N := yPl N (nL N)) hl
  change LGo (yPl N (nL N)) (yPlan N l).1 (yPlan N l).2 at hg
  obtain ⟨p, a, b, c, e, f, g, i, j, k, m, m2⟩ := w
  obtain ⟨h1, h2, h3, h4⟩ := hg
  have e53 : ∀ x, x < nL N → yPl N (nL N) 53 x = N 51 x := fun x hx => by unfold yPl; rw [if_pos ⟨rfl, hx⟩]
  have e53' : ∀ x, nL N ≤ x → yPl N (nL N) 53 x = 0 := fun x hx => by unfold yPl; rw [if_neg (by omega), if_neg (by omega)]; exact m2 x hx
  have e54 : ∀ x, x < nL N → yPl N (nL N) 54 x = 0 := fun x hx => by unfold yPl; rw [if_neg (by omega), if_pos ⟨rfl, hx⟩]
  have e54' : ∀ x, nL N ≤ x → yPl N (nL N) 54 x = 0 := fun x hx => by unfold yPl; rw [if_neg (by omega), if_neg (by omega)]; exact j x hx
  have q3 : ∀ x, x < nL N → (yPlan N l).1 54 x = if 0 < N 51 x ∧ (yPlan N l).1 53 x = 0 then 1 else 0 := by
    intro x hx
    rw [h3, e53 x hx, e54 x hx]
  refine ⟨fun x y z => ?_, fun x hx => ?_, q3, fun x hx => ?_, ?_⟩
  · rw [h1 x y z]
    funext t
    unfold yPl
    rw [if_neg (fun q => y q.1), if_neg (fun q => z q.1)]
  · rw [← e53 x hx]; exact h2 x
  · have h5 := h2 x
    rw [e53' x hx] at h5
    refine ⟨by omega, ?_⟩
    rw [h3, e53' x hx, if_neg (by omega), e54' x hx]
  · rw [h4]
    have : nL (yPl N (nL N)) = nL N := rfl
    rw [this]
    refine yCount_cg (fun x hx => ?_)
    rw [q3 x hx, e53 x hx]
    split
    · next hz => rw [decide_eq_true hz]; rfl
    · next hz => rw [decide_eq_false hz]; rfl
theorem WL_plan {l : Nat} (w : WL N B) (hB : B < 2 ^ 20) (hl : l < nL N) : WL (yPlan N l).1 B := by
  obtain ⟨h1, h2, h3, h4, h5⟩ := yPlan_spec w hl
  obtain ⟨p, a, b, c, e, f, g, i, j, k, m, m2⟩ := w
  have e13 : nL (yPlan N l).1 = nL N := congrFun (h1 13 (by decide) (by decide)) 3
  have e15 : nSt (yPlan N l).1 = nSt N := congrFun (h1 15 (by decide) (by decide)) 3
  have e40 := h1 40 (by decide) (by decide)
  have eld : ∀ x, yLd (yPlan N l).1 x = yLd N x := fun x => by unfold yLd; rw [e15, e40]
  refine ⟨⟨by rw [e13]; exact p.1, ?_, ?_, ?_, ?_, ?_⟩, ?_, ?_, ?_, ?_, ?_, ?_, ?_, ?_, fun x => ?_, fun x => ?_, ?_⟩
  · rw [h1 39 (by decide) (by decide)]; exact p.2.1
  · rw [e15, e13, e40]; exact p.2.2.1
  · rw [e15, e13, p.2.2.2.1]; exact yCount_cg (fun x _ => (eld x).symm)
  · rw [h1 52 (by decide) (by decide)]; exact p.2.2.2.2.1
  · intro x hx h
    rw [h1 52 (by decide) (by decide)] at h
    have := a x; omega
  · rw [h1 52 (by decide) (by decide)]; exact a
  · rw [h1 51 (by decide) (by decide)]; exact b
  · rw [h1 51 (by decide) (by decide), e13]; intro x hx; rw [eld]; exact c x hx
  · rw [h1 41 (by decide) (by decide), e13]; exact e
  · rw [h1 41 (by decide) (by decide)]; exact f
  · rw [h1 41 (by decide) (by decide), e13]; exact g
  · rw [h1 38 (by decide) (by decide)]; exact i
  · intro x hx; rw [e13] at hx; exact (h4 x hx).2
  · by_cases hx : x < nL N
    · rw [h3 x hx]; split <;> omega
    · rw [(h4 x (by omega)).2]; omega
  · by_cases hx : x < nL N
    · have := h2 x hx; have := b x; omega
    · rw [(h4 x (by omega)).1]; omega
  · intro x hx; rw [e13] at hx; exact (h4 x hx).1
/-- the class's and the reference's number of those that leave -/
theorem yPlan_left {l : Nat} (w : WL N B) (hl : l < nL N) : (yPlan N l).2 = yCount (fun k => (yPlan N l).1 54 (N 40 k) == 1) (nSt N) := by
  obtain ⟨h1, h2, h3, h4, h5⟩ := yPlan_spec w hl
  obtain ⟨p, a, b, c, e, f, g, i, j, k, m, m2⟩ := w
  rw [h5, yCount_inj (o := N 40) (q := fun j => (yPlan N l).1 54 j == 1) (m := nL N) p.inj p.2.2.1]
  refine yCount_cg (fun x hx => ?_)
  cases hq : ((yPlan N l).1 54 x == 1) with
  | false => rw [Bool.and_false]
  | true =>
    have h6 : (yPlan N l).1 54 x = 1 := by simpa using hq
    rw [h3 x hx] at h6
    split at h6
    · next hz =>
      have := (c x hz.1).2
      unfold yLd at this
      rw [this]; rfl
    · cases h6
theorem WL_carry {l : Nat} (w : WL N B) (hl : l < nL N) (hB : B < 2 ^ 20) : WL (yCarry (yPlan N l).1) B := by
  obtain ⟨h1, h2, h3, h4, h5⟩ := yPlan_spec w hl
  obtain ⟨p, a, b, c, e, f, g, i, j, k, m, m2⟩ := WL_plan w hB hl
  have hc0 : ∀ x, 0 < N 51 x → x < nL N ∧ yLd N x = true := w.2.2.2.1
  have e51p : (yPlan N l).1 51 = N 51 := h1 51 (by decide) (by decide)
  generalize hN1 : (yPlan N l).1 = N1 at *
  have hpn : PS N1 := p
  obtain ⟨p1, p2, p3, p4, p5, p6⟩ := p
  generalize hQ : yCp N1 (nL N1) = Q
  have eQ : ∀ y, y ≠ 51 → Q y = N1 y := by
    intro y hy
    rw [← hQ]; funext t; unfold yCp; rw [if_neg (fun z => hy z.1)]
  have eQ51 : ∀ y, Q 51 y = if y < nL N1 then N1 53 y else N1 51 y := by
    intro y
    rw [← hQ]; unfold yCp
    by_cases hy : y < nL N1
    · rw [if_pos ⟨rfl, hy⟩, if_pos hy]
    · rw [if_neg (fun z => hy z.2), if_neg hy]
  obtain ⟨c1, c2, c3⟩ := yCm_spec (N := Q) (k := nSt N1)
  have hinjQ : ∀ i j, i < j → j < nSt N1 → Q 40 i ≠ Q 40 j := by rw [eQ 40 (by decide)]; exact hpn.inj
  obtain ⟨d1, d2, d3⟩ := yCm_inj (N := Q) (k := nSt N1) hinjQ
  rw [eQ 40 (by decide), eQ 54 (by decide)] at d1 d3
  generalize hN2 : yCarry N1 = N2
  have hdef : N2 = yDr (yU (yCm Q (nSt N1)).1 15 3 (yCm Q (nSt N1)).2) 1280 := by rw [← hN2, ← hQ]; rfl
  have g0 : ∀ y t, y ≠ 41 → N2 y t = (yU (yCm Q (nSt N1)).1 15 3 (yCm Q (nSt N1)).2) y t := by
    intro y t hy
    rw [hdef]; unfold yDr; rw [if_neg (fun z => hy z.1)]
  have g1 : ∀ y, y ≠ 15 → y ≠ 40 → y ≠ 41 → y ≠ 51 → N2 y = N1 y := by
    intro y h6 h7 h8 h9
    funext t
    rw [g0 y t h8]
    unfold yU
    rw [if_neg (fun z => h6 z.1), c3 y h7, eQ y h9]
  have e13 : nL N2 = nL N1 := congrFun (g1 13 (by decide) (by decide) (by decide) (by decide)) 3
  have e15 : nSt N2 = (yCm Q (nSt N1)).2 := by
    show N2 15 3 = _
    rw [g0 15 3 (by decide)]; unfold yU; rw [if_pos ⟨rfl, rfl⟩]
  have e40 : ∀ t, N2 40 t = (yCm Q (nSt N1)).1 40 t := by
    intro t
    rw [g0 40 t (by decide)]; unfold yU; rw [if_neg (by omega)]
  have e51 : ∀ y, N2 51 y = if y < nL N1 then N1 53 y else N1 51 y := by
    intro y
    rw [g0 51 y (by decide)]; unfold yU; rw [if_neg (by omega), c3 51 (by decide), eQ51]
  have e41 : ∀ z, N2 41 z ≤ N1 41 z := by
    intro z
    rw [hdef]; unfold yDr
    split
    · omega
    · show (yCm Q (nSt N1)).1 41 z ≤ _
      rw [c3 41 (by decide), eQ 41 (by decide)]
      exact Nat.le_refl _
  have eld : ∀ x, yLd N2 x = (yLd N1 x && !(N1 54 x == 1)) := by
    intro x
    unfold yLd
    rw [Bool.eq_iff_iff, Bool.and_eq_true, anyB_iff, anyB_iff, e15]
    constructor
    · rintro ⟨t, h6, h7⟩
      rw [e40] at h7
      obtain ⟨q, q1, q2, q3⟩ := d1 t h6
      have h8 : (yCm Q (nSt N1)).1 40 t = x := by simpa using h7
      rw [q2] at h8
      exact ⟨⟨q, q1, by simpa using h8⟩, by rw [← h8]; simpa using q3⟩
    · rintro ⟨⟨q, q1, q2⟩, q3⟩
      have h8 : N1 40 q = x := by simpa using q2
      obtain ⟨t, t1, t2⟩ := d3 q q1 (by rw [h8]; simpa using q3)
      exact ⟨t, t1, by rw [e40, t2, h8]; simp⟩
  have eN13 : nL N1 = nL N := by rw [← hN1]; exact congrFun ((yPlan_spec w hl).1 13 (by decide) (by decide)) 3
  refine ⟨⟨by rw [e13]; exact p1, ?_, fun t ht => ?_, ?_, ?_, ?_⟩, ?_, fun y => ?_, fun y hy => ?_, fun z => ?_, fun r => ?_, fun z hz => ?_, ?_, ?_, ?_, ?_, ?_⟩
  · rw [g1 39 (by decide) (by decide) (by decide) (by decide)]; exact p2
  · rw [e15] at ht
    rw [e13, e40]
    obtain ⟨q, q1, q2, q3⟩ := d1 t ht
    rw [q2]; exact p3 q q1
  · rw [e15, e13]
    have h6 := yCount_inj (o := (yCm Q (nSt N1)).1 40) (q := fun _ => true) (m := nL N1) (n := (yCm Q (nSt N1)).2) d2 (fun t ht => by
      obtain ⟨q, q1, q2, q3⟩ := d1 t ht
      rw [q2]; exact p3 q q1)
    rw [yCount_all] at h6
    refine h6.trans (yCount_cg (fun x _ => ?_))
    unfold yLd
    rw [Bool.and_true, e15]
    congr 1
    funext t
    rw [e40]
  · rw [g1 52 (by decide) (by decide) (by decide) (by decide)]; exact p5
  · intro x hx h
    rw [g1 52 (by decide) (by decide) (by decide) (by decide)] at h
    have := a x; omega
  · rw [g1 52 (by decide) (by decide) (by decide) (by decide)]; exact a
  · rw [e51]
    split
    · next hy =>
      rw [eN13] at hy
      have := h2 y hy
      have := b y
      rw [e51p] at this
      omega
    · exact b y
  · rw [e51] at hy
    rw [e13]
    split at hy
    · next hyl =>
      refine ⟨hyl, ?_⟩
      rw [eN13] at hyl
      have h6 := h2 y hyl
      have h7 := hc0 y (by omega)
      rw [eld, Bool.and_eq_true]
      refine ⟨(c y (by rw [e51p]; omega)).2, ?_⟩
      rw [h3 y hyl, if_neg (by omega)]
      rfl
    · next hyl =>
      exact absurd (c y hy).1 hyl
  · have := e41 z; have := e z; rw [e13]; omega
  · have := e41 (r * 10); have := f r; omega
  · have := e41 z; rw [e13]; exact g z (by omega)
  · rw [g1 38 (by decide) (by decide) (by decide) (by decide)]; exact i
  · rw [g1 54 (by decide) (by decide) (by decide) (by decide), e13]; exact j
  · rw [g1 54 (by decide) (by decide) (by decide) (by decide)]; exact k
  · rw [g1 53 (by decide) (by decide) (by decide) (by decide)]; exact m
  · rw [g1 53 (by decide) (by decide) (by decide) (by decide), e13]; exact m2
end S44
