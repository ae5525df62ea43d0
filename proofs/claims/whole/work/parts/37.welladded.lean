/-! what is added keeps the bounds -/
section S37
variable {M : YM}
/-- commons by object and name: none of objects that there aren't, and as many as the class holds -/
def WX (M : YM) : Prop := (∀ z, 16 * nO M ≤ z → M 92 z = 0) ∧ nC M = yCount (fun z => decide (0 < M 92 z)) 160 ∧ ∀ n, n < 16 → yCount (fun c => yCN M c == n) (nC M) = yCount (fun o => decide (0 < yCM M o n)) (nO M)
theorem yCount_cg {p q : Nat → Bool} : ∀ {n : Nat}, (∀ x, x < n → p x = q x) → yCount p n = yCount q n := by
  intro n
  induction n with
  | zero => intro _; rfl
  | succ n ih =>
    intro h
    unfold yCount
    rw [ih (fun x hx => h x (by omega)), h n (by omega)]
theorem yCount_put {p q : Nat → Bool} {k : Nat} (hk : p k = false) (hq : q k = true) (ho : ∀ x, x ≠ k → q x = p x) : ∀ {n : Nat}, k < n → yCount q n = yCount p n + 1 := by
  intro n
  induction n with
  | zero => intro h; omega
  | succ n ih =>
    intro h
    unfold yCount
    by_cases hkn : k = n
    · subst hkn
      rw [hk, hq, yCount_cg (p := q) (q := p) (fun x hx => ho x (by omega))]
      simp
    · rw [ih (by omega), ho n (by omega)]
      omega
theorem yCount_all {n : Nat} : yCount (fun _ => true) n = n := by
  induction n with
  | zero => rfl
  | succ n ih => unfold yCount; rw [ih]; simp
theorem WX.room (h : WX M) {z : Nat} (hz : z < 160) (h0 : M 92 z = 0) : nC M < 160 := by
  have h1 := yCount_lt (p := fun z => decide (0 < M 92 z)) (q := fun _ => true) (n := 160) (fun _ _ _ => rfl) ⟨z, hz, rfl, by simp [h0]⟩
  rw [yCount_all] at h1
  rw [h.2.1]
  exact h1
theorem W_addObj {m : Nat} (w : WF M) (x : WX M) (hn : nO M < 10) (hm : m ≤ 1) : WF (yAdd M 0 (fun _ => m)) ∧ WX (yAdd M 0 (fun _ => m)) := by
  obtain ⟨⟨a1, a2, a3, a4, a5⟩, b, c, e, f, g, i, j, k, l⟩ := w
  obtain ⟨x1, x2, x3⟩ := x
  have hO : nO (yAdd M 0 (fun _ => m)) = nO M + 1 := by simp [yAdd]
  refine ⟨⟨⟨by omega, ?_, ?_, ?_, ?_⟩, fun o ho => ?_, fun s hs => ?_, fun q hq => ?_, fun q hq => ?_, fun o n ho hn2 hp => ?_, fun q hq => ?_, fun q r hq hr h1 h2 => ?_, fun q r hq hr h1 h2 => ?_, fun s => ?_⟩, fun z hz => ?_, ?_, fun n hn2 => ?_⟩
  · simpa [yAdd] using a2
  · simpa [yAdd] using a3
  · simpa [yAdd] using a4
  · simpa [yAdd] using a5
  · by_cases ho2 : o = nO M
    · simp [yAdd, xwid, ho2]; exact hm
    · have := b o (by rw [hO] at ho; omega)
      simp [yAdd, xwid, ho2]; exact this
  · have := c s (by simpa [yAdd] using hs)
    simp [yAdd, xwid]
    first | exact ⟨Nat.lt_succ_of_lt this.1, this.2⟩ | exact ⟨Nat.le_of_lt this.1, this.2⟩
  · have := e q (by simpa [yAdd] using hq)
    simpa [yAdd, xwid] using this
  · have := f q (by simpa [yAdd] using hq)
    have h2 : yCO M q < nO M + 1 := by omega
    simp [yAdd, xwid]
    simp [h2, this]
  · have hp2 : 0 < yCM M o n := by simpa [yAdd, xwid] using hp
    rw [hO] at ho
    by_cases ho2 : o = nO M
    · have : yCM M o n = 0 := x1 (16 * o + n) (by omega)
      omega
    · simpa [yAdd, xwid] using g o n (by omega) hn2 hp2
  · simpa [yAdd, xwid] using i q (by simpa [yAdd] using hq)
  · simp [yAdd, xwid] at hq hr h1 h2
    exact j q r hq hr h1 h2
  · simp [yAdd, xwid] at hq hr h1 h2
    exact k q r hq hr h1 h2
  · simpa [yAdd, xwid] using l s
  · rw [hO] at hz
    simpa [yAdd, xwid] using x1 z (by omega)
  · simpa [yAdd, xwid] using x2
  · have h1 := x3 n hn2
    have h2 := x1 (16 * nO M + n) (by omega)
    rw [hO]
    simp [yAdd, xwid] at h1 ⊢
    rw [yCount.eq_2, ← h1]
    simp [h2]
theorem W_addSec {o z a t : Nat} {cb kb : Bool} (w : WF M) (x : WX M) (hn : nS M < 24) (ho : o < nO M) (hz : 1 ≤ z ∧ z ≤ 64) (ha : a = 1 ∨ a = 2 ∨ a = 4 ∨ a = 8 ∨ a = 16) (ht : t ≤ 999) : WF (yAdd M 1 (vSec o cb z a t kb)) ∧ WX (yAdd M 1 (vSec o cb z a t kb)) := by
  obtain ⟨⟨a1, a2, a3, a4, a5⟩, b, c, e, f, g, i, j, k, l⟩ := w
  obtain ⟨x1, x2, x3⟩ := x
  have hS : nS (yAdd M 1 (vSec o cb z a t kb)) = nS M + 1 := by simp [yAdd]
  refine ⟨⟨⟨?_, by omega, ?_, ?_, ?_⟩, fun o ho => ?_, fun s hs => ?_, fun q hq => ?_, fun q hq => ?_, fun o n ho hn2 hp => ?_, fun q hq => ?_, fun q r hq hr h1 h2 => ?_, fun q r hq hr h1 h2 => ?_, fun s => ?_⟩, fun z hz => ?_, ?_, fun n hn2 => ?_⟩
  · simpa [yAdd] using a1
  · simpa [yAdd] using a3
  · simpa [yAdd] using a4
  · simpa [yAdd] using a5
  · simpa [yAdd, xwid] using b o (by simpa [yAdd] using ho)
  · by_cases hs2 : s = nS M
    · simp [yAdd, xwid, hs2, vSec]
      refine ⟨ho, by split <;> omega, hz, ha, ht, by split <;> omega⟩
    · have := c s (by rw [hS] at hs; omega)
      simp [yAdd, xwid, hs2]
      exact this
  · have := e q (by simpa [yAdd] using hq)
    have h2 : yDS M q ≠ nS M := by omega
    rw [hS]
    simp [yAdd, xwid, h2]
    first | exact ⟨Nat.lt_succ_of_lt this.1, this.2⟩ | exact ⟨Nat.le_of_lt this.1, this.2⟩
  · simpa [yAdd, xwid] using f q (by simpa [yAdd] using hq)
  · have hp2 : 0 < yCM M o n := by simpa [yAdd, xwid] using hp
    simpa [yAdd, xwid] using g o n (by simpa [yAdd] using ho) hn2 hp2
  · have := i q (by simpa [yAdd] using hq)
    have h2 : yRS M q ≠ nS M := by omega
    rw [hS]
    simp [yAdd, xwid, h2]
    first | exact ⟨Nat.lt_succ_of_lt this.1, this.2⟩ | exact ⟨Nat.le_of_lt this.1, this.2⟩
  · simp [yAdd, xwid] at hq hr h1 h2
    exact j q r hq hr h1 h2
  · simp [yAdd, xwid] at hq hr h1 h2
    exact k q r hq hr h1 h2
  · simpa [yAdd, xwid] using l s
  · simpa [yAdd, xwid] using x1 z (by simpa [yAdd] using hz)
  · simpa [yAdd, xwid] using x2
  · simpa [yAdd, xwid] using x3 n hn2
theorem W_addDef {s n f y : Nat} (w : WF M) (x : WX M) (hn : nD M < 40) (hs : s < nS M) (hnm : n < 16) (hf : f < ySZ M s) (hx : y = 115 ∨ y = 119 ∨ y = 108) (hno : ∀ q, q < nD M → ¬ (yDS M q = s ∧ yDN M q = n)) : WF (yAdd M 2 (vDef s n f y (ySO M s))) ∧ WX (yAdd M 2 (vDef s n f y (ySO M s))) := by
  obtain ⟨⟨a1, a2, a3, a4, a5⟩, b, c, e, f', g, i, j, k, l⟩ := w
  obtain ⟨x1, x2, x3⟩ := x
  have hD : nD (yAdd M 2 (vDef s n f y (ySO M s))) = nD M + 1 := by simp [yAdd]
  refine ⟨⟨⟨?_, ?_, by omega, ?_, ?_⟩, fun o ho => ?_, fun s hs => ?_, fun q hq => ?_, fun q hq => ?_, fun o n ho hn2 hp => ?_, fun q hq => ?_, fun q r hq hr h1 h2 => ?_, fun q r hq hr h1 h2 => ?_, fun s => ?_⟩, fun z hz => ?_, ?_, fun n hn2 => ?_⟩
  · simpa [yAdd] using a1
  · simpa [yAdd] using a2
  · simpa [yAdd] using a4
  · simpa [yAdd] using a5
  · simpa [yAdd, xwid] using b o (by simpa [yAdd] using ho)
  · simpa [yAdd, xwid] using c s (by simpa [yAdd] using hs)
  · by_cases hq2 : q = nD M
    · simp [yAdd, xwid, hq2, vDef]
      exact ⟨hs, hnm, hf, hx⟩
    · have := e q (by rw [hD] at hq; omega)
      simp [yAdd, xwid, hq2]
      exact this
  · simpa [yAdd, xwid] using f' q (by simpa [yAdd] using hq)
  · have hp2 : 0 < yCM M o n := by simpa [yAdd, xwid] using hp
    simpa [yAdd, xwid] using g o n (by simpa [yAdd] using ho) hn2 hp2
  · simpa [yAdd, xwid] using i q (by simpa [yAdd] using hq)
  · rw [hD] at hq hr
    by_cases hq2 : q = nD M
    · by_cases hr2 : r = nD M
      · rw [hq2, hr2]
      · exfalso
        simp [yAdd, xwid, hq2, hr2, vDef] at h1 h2
        exact hno r (by omega) ⟨h1.symm, h2.symm⟩
    · by_cases hr2 : r = nD M
      · exfalso
        simp [yAdd, xwid, hq2, hr2, vDef] at h1 h2
        exact hno q (by omega) ⟨h1, h2⟩
      · simp [yAdd, xwid, hq2, hr2] at h1 h2
        exact j q r (by omega) (by omega) h1 h2
  · simp [yAdd, xwid] at hq hr h1 h2
    exact k q r hq hr h1 h2
  · simpa [yAdd, xwid] using l s
  · simpa [yAdd, xwid] using x1 z (by simpa [yAdd] using hz)
  · simpa [yAdd, xwid] using x2
  · simpa [yAdd, xwid] using x3 n hn2
theorem W_addRef {s n f y : Nat} (w : WF M) (x : WX M) (hn : nR M < 40) (hs : s < nS M) (hnm : n < 16) (hf : f < ySZ M s) (hx : y = 99 ∨ y = 97) (hno : ∀ q, q < nR M → ¬ (yRS M q = s ∧ yRF M q = f)) (h4 : yCount (fun r => yRS M r == s) (nR M) < 4) : WF (yAdd M 4 (vRef s f n y)) ∧ WX (yAdd M 4 (vRef s f n y)) := by
  obtain ⟨⟨a1, a2, a3, a4, a5⟩, b, c, e, f', g, i, j, k, l⟩ := w
  obtain ⟨x1, x2, x3⟩ := x
  have hD : nR (yAdd M 4 (vRef s f n y)) = nR M + 1 := by simp [yAdd]
  refine ⟨⟨⟨?_, ?_, ?_, ?_, by omega⟩, fun o ho => ?_, fun s hs => ?_, fun q hq => ?_, fun q hq => ?_, fun o n ho hn2 hp => ?_, fun q hq => ?_, fun q r hq hr h1 h2 => ?_, fun q r hq hr h1 h2 => ?_, fun s2 => ?_⟩, fun z hz => ?_, ?_, fun n hn2 => ?_⟩
  · simpa [yAdd] using a1
  · simpa [yAdd] using a2
  · simpa [yAdd] using a3
  · simpa [yAdd] using a4
  · simpa [yAdd, xwid] using b o (by simpa [yAdd] using ho)
  · simpa [yAdd, xwid] using c s (by simpa [yAdd] using hs)
  · simpa [yAdd, xwid] using e q (by simpa [yAdd] using hq)
  · simpa [yAdd, xwid] using f' q (by simpa [yAdd] using hq)
  · have hp2 : 0 < yCM M o n := by simpa [yAdd, xwid] using hp
    simpa [yAdd, xwid] using g o n (by simpa [yAdd] using ho) hn2 hp2
  · by_cases hq2 : q = nR M
    · simp [yAdd, xwid, hq2, vRef]
      exact ⟨hs, hf, hnm, hx⟩
    · have := i q (by rw [hD] at hq; omega)
      simp [yAdd, xwid, hq2]
      exact this
  · simp [yAdd, xwid] at hq hr h1 h2
    exact j q r hq hr h1 h2
  · rw [hD] at hq hr
    by_cases hq2 : q = nR M
    · by_cases hr2 : r = nR M
      · rw [hq2, hr2]
      · exfalso
        simp [yAdd, xwid, hq2, hr2, vRef] at h1 h2
        exact hno r (by omega) ⟨h1.symm, h2.symm⟩
    · by_cases hr2 : r = nR M
      · exfalso
        simp [yAdd, xwid, hq2, hr2, vRef] at h1 h2
        exact hno q (by omega) ⟨h1, h2⟩
      · simp [yAdd, xwid, hq2, hr2] at h1 h2
        exact k q r (by omega) (by omega) h1 h2
  · have h5 := l s2
    have h6 : yCount (fun r => yRS (yAdd M 4 (vRef s f n y)) r == s2) (nR M) = yCount (fun r => yRS M r == s2) (nR M) := by
      refine yCount_cg (fun r hr => ?_)
      have hr2 : r ≠ nR M := by omega
      simp [yAdd, xwid, hr2]
    rw [hD, yCount.eq_2, h6]
    by_cases hs2 : s2 = s
    · rw [hs2]; split <;> omega
    · have h7 : yRS (yAdd M 4 (vRef s f n y)) (nR M) = s := by simp [yAdd, xwid, vRef]
      rw [h7, if_neg (by simp; omega)]
      omega
  · simpa [yAdd, xwid] using x1 z (by simpa [yAdd] using hz)
  · simpa [yAdd, xwid] using x2
  · simpa [yAdd, xwid] using x3 n hn2
/-- a common is added: by the class's places, and by object and name -/
def yAddC (M : YM) (o n z : Nat) : YM := fun f i => if f = 91 ∧ i = 16 * o + n then nC M else if f = 92 ∧ i = 16 * o + n then z else yAdd M 3 (vCom o n z) f i
theorem CI_addC {τ : Sg} {o n z : Nat} (h : CI τ (yAdd M 3 (vCom o n z))) : CI τ (yAddC M o n z) := by
  have e : ∀ f i, f ≠ 91 → f ≠ 92 → yAddC M o n z f i = yAdd M 3 (vCom o n z) f i := by
    intro f i h1 h2
    unfold yAddC
    rw [if_neg (fun q => h1 q.1), if_neg (fun q => h2 q.1)]
  have hw : ∀ j, j < 5 → xwid j ≤ 6 := by
    intro j hj
    rcases (show j = 0 ∨ j = 1 ∨ j = 2 ∨ j = 3 ∨ j = 4 by omega) with rfl | rfl | rfl | rfl | rfl <;> decide
  refine ⟨fun k hk => by rw [e 90 k (by omega) (by omega)]; exact h.1 k hk, fun k hk j hj c hc => ?_⟩
  have := hw k hk
  rw [e (10 * k + c) j (by omega) (by omega)]
  rw [e 90 k (by omega) (by omega)] at hj
  exact h.2 k hk j hj c hc
theorem W_addCom {o n z : Nat} (w : WF M) (x : WX M) (ho : o < nO M) (hnm : n < 16) (hz : 1 ≤ z ∧ z ≤ 64) (h0 : yCM M o n = 0) : WF (yAddC M o n z) ∧ WX (yAddC M o n z) := by
  have hroom := x.room (z := 16 * o + n) (by have := w.1.1; omega) h0
  obtain ⟨⟨a1, a2, a3, a4, a5⟩, b, c, e, f', g, i, j, k, l⟩ := w
  obtain ⟨x1, x2, x3⟩ := x
  have hD : nC (yAddC M o n z) = nC M + 1 := by simp [yAddC, yAdd]
  have hO : nO (yAddC M o n z) = nO M := by simp [yAddC, yAdd]
  have hold : ∀ q, q < nC M → ¬ (16 * yCO M q + yCN M q = 16 * o + n) := by
    intro q hq he
    obtain ⟨v1, v2, v3, v4, v5⟩ := f' q hq
    have v6 : M 92 (16 * yCO M q + yCN M q) = yCZ M q := v4
    have v7 : M 92 (16 * o + n) = 0 := h0
    rw [he] at v6
    omega
  refine ⟨⟨⟨?_, ?_, ?_, by omega, ?_⟩, fun o ho => ?_, fun s hs => ?_, fun q hq => ?_, fun q hq => ?_, fun o2 n2 ho2 hn2 hp => ?_, fun q hq => ?_, fun q r hq hr h1 h2 => ?_, fun q r hq hr h1 h2 => ?_, fun s => ?_⟩, fun z2 hz2 => ?_, ?_, fun n2 hn2 => ?_⟩
  · simpa [yAddC, yAdd] using a1
  · simpa [yAddC, yAdd] using a2
  · simpa [yAddC, yAdd] using a3
  · simpa [yAddC, yAdd] using a5
  · simpa [yAddC, yAdd, xwid] using b o (by simpa [yAddC, yAdd] using ho)
  · simpa [yAddC, yAdd, xwid] using c s (by simpa [yAddC, yAdd] using hs)
  · simpa [yAddC, yAdd, xwid] using e q (by simpa [yAddC, yAdd] using hq)
  · by_cases hq2 : q = nC M
    · simp [yAddC, yAdd, xwid, hq2, vCom]
      exact ⟨ho, hnm, hz⟩
    · have hq3 : q < nC M := by rw [hD] at hq; omega
      have := f' q hq3
      have h9 := hold q hq3
      simp [yAddC, yAdd, xwid, hq2, h9]
      exact this
  · rw [hO] at ho2
    by_cases he : 16 * o2 + n2 = 16 * o + n
    · have h1 : o2 = o := by omega
      have h2 : n2 = n := by omega
      rw [h1, h2]
      simp [yAddC, yAdd, xwid, vCom]
    · have hp2 : 0 < yCM M o2 n2 := by simpa [yAddC, yAdd, xwid, he] using hp
      obtain ⟨v1, v2, v3⟩ := g o2 n2 ho2 hn2 hp2
      have h9 : M 91 (16 * o2 + n2) ≠ M 90 3 := by
        have v1' : M 91 (16 * o2 + n2) < M 90 3 := v1
        omega
      simp [yAddC, yAdd, xwid, he, h9]
      exact ⟨by have v1' : M 91 (16 * o2 + n2) < M 90 3 := v1
                omega, v2, v3⟩
  · simpa [yAddC, yAdd, xwid] using i q (by simpa [yAddC, yAdd] using hq)
  · simp [yAddC, yAdd, xwid] at hq hr h1 h2
    exact j q r hq hr h1 h2
  · simp [yAddC, yAdd, xwid] at hq hr h1 h2
    exact k q r hq hr h1 h2
  · simpa [yAddC, yAdd, xwid] using l s
  · rw [hO] at hz2
    have h9 : z2 ≠ 16 * o + n := by omega
    simpa [yAddC, yAdd, xwid, h9] using x1 z2 hz2
  · rw [hD, x2]
    refine (yCount_put (k := 16 * o + n) ?_ ?_ (fun y hy => ?_) (by omega)).symm
    · simp [h0]
    · simp [yAddC]; omega
    · simp [yAddC, hy, yAdd, xwid]
  · rw [hD, hO, yCount.eq_2]
    have h3 : yCount (fun c => yCN (yAddC M o n z) c == n2) (nC M) = yCount (fun c => yCN M c == n2) (nC M) := by
      refine yCount_cg (fun r hr => ?_)
      have hr2 : r ≠ nC M := by omega
      simp [yAddC, yAdd, xwid, hr2]
    have h4 : yCN (yAddC M o n z) (nC M) = n := by simp [yAddC, yAdd, xwid, vCom]
    rw [h3, h4, x3 n2 hn2]
    by_cases hnn : n = n2
    · subst hnn
      rw [if_pos (by simp)]
      refine (yCount_put (k := o) ?_ ?_ (fun y hy => ?_) ho).symm
      · simp [h0]
      · simp [yAddC]; omega
      · have h9 : ¬ (16 * y + n = 16 * o + n) := by omega
        simp only [yAddC]
        rw [if_neg (by omega), if_neg (by omega)]
        simp [yAdd, xwid]
    · rw [if_neg (by simpa using hnn), Nat.add_zero]
      refine yCount_cg (fun y hy => ?_)
      simp only [yAddC]
      rw [if_neg (by omega), if_neg (by omega)]
      simp [yAdd, xwid]
end S37
