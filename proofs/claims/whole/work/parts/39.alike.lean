/-! a run by the map is as one by the plain inputs -/
section S39
variable {M : YM} {T A P : Nat → Bool} {root : Nat}
def yLeft (M : YM) (s f : Nat) : Nat := yCount (fun r => yRS M r == s && decide (f ≤ yRF M r)) (nR M)
def FRl (M : YM) (T : Nat → Bool) (z y : Nat × Nat) : Prop := z.2 = y.2 ∧ ∃ k, yRun M T z.1 y.1 k z.2 = true ∧ yLeft M z.1 z.2 < k
def FRs (M : YM) (T : Nat → Bool) : List (Nat × Nat) → List (Nat × Nat) → Prop
  | [], [] => True
  | z :: fr, y :: gr => FRl M T z y ∧ FRs M T fr gr
  | _, _ => False
theorem yRun_refl {s : Nat} : ∀ {k f : Nat}, yRun M T s s k f = true := by
  intro k
  induction k with
  | zero => intro f; rfl
  | succ k ih =>
    intro f
    unfold yRun
    rcases yNext M s f with _ | a
    · rfl
    · dsimp only
      rw [ih, Bool.and_true]
      simp [yRef]
theorem yLeft_le (w : WF M) {s f : Nat} : yLeft M s f ≤ 4 := by
  have h1 := w.2.2.2.2.2.2.2.2.2 s
  have h2 := yCount_mono (p := fun r => yRS M r == s && decide (f ≤ yRF M r)) (q := fun r => yRS M r == s) (n := nR M) (fun x _ hx => by
    simp only [Bool.and_eq_true] at hx
    exact hx.1)
  unfold yLeft
  omega
theorem yLeft_lt {s f r : Nat} (h : yNext M s f = some r) : yLeft M s (yRF M r + 1) < yLeft M s f := by
  obtain ⟨hr, hrs, hrf⟩ := yNext_lt h
  refine yCount_lt (fun x _ hx => ?_) ⟨r, hr, by simp [hrs, hrf], by simp⟩
  simp only [Bool.and_eq_true, decide_eq_true_eq] at hx ⊢
  exact ⟨hx.1, by omega⟩
theorem FRl_self (w : WF M) {s f : Nat} : FRl M T (s, f) (s, f) := ⟨rfl, 5, yRun_refl, by have := yLeft_le w (s := s) (f := f); dsimp only; omega⟩
theorem FRl_home (w : WF M) {s : Nat} : FRl M T (s, 0) (yHome M T A s, 0) := by
  unfold yHome
  cases hf : yFd M T A s with
  | none => exact FRl_self w
  | some t =>
    have h5 := (yFd_lt hf).2.2.2.1
    simp only [yAlike, Bool.and_eq_true, beq_iff_eq] at h5
    exact ⟨rfl, 5, h5.2.2.2, by have := yLeft_le w (s := s) (f := 0); dsimp only; omega⟩
theorem yHome_st {s : Nat} : yST M (yHome M T A s) = yST M s := by
  unfold yHome
  cases hf : yFd M T A s with
  | none => rfl
  | some t =>
    have h5 := (yFd_lt hf).2.2.2.1
    simp only [yAlike, Bool.and_eq_true, beq_iff_eq] at h5
    exact h5.2.2.1.symm
theorem FRs_len : ∀ {fr gr : List (Nat × Nat)}, FRs M T fr gr → fr.length = gr.length := by
  intro fr
  induction fr with
  | nil => intro gr h; cases gr with
    | nil => rfl
    | cons y gr => exact h.elim
  | cons z fr ih => intro gr h; cases gr with
    | nil => exact h.elim
    | cons y gr => simp [ih h.2]
theorem yTurn_al (w : WF M) {q u : YR} (h1 : FRs M T q.1 u.1) (h2 : q.2 = u.2) : FRs M T (yTurn M (yNx M T A false) q).1 (yTurn M (yNx M T A true) u).1 ∧ (yTurn M (yNx M T A false) q).2 = (yTurn M (yNx M T A true) u).2 := by
  obtain ⟨fr, o, n⟩ := q
  obtain ⟨gr, o', n'⟩ := u
  dsimp only at h1 h2
  cases h2
  unfold yTurn
  rcases fr with _ | ⟨⟨s, f⟩, fr⟩ <;> rcases gr with _ | ⟨⟨t, e⟩, gr⟩
  · exact ⟨trivial, rfl⟩
  · exact h1.elim
  · exact h1.elim
  · obtain ⟨⟨hfe, k, hk, hl⟩, h3⟩ := h1
    dsimp only at hfe hk hl ⊢
    subst hfe
    rcases k with _ | k
    · exact absurd hl (Nat.not_lt_zero _)
    unfold yRun at hk
    rcases ha : yNext M s f with _ | a <;> rcases hb : yNext M t f with _ | b <;> rw [ha, hb] at hk
    · exact ⟨h3, rfl⟩
    · cases hk
    · cases hk
    · dsimp only at hk ⊢
      rw [Bool.and_eq_true] at hk
      have hab := hk.1
      simp only [yRef, Bool.and_eq_true, beq_iff_eq, decide_eq_true_eq] at hab
      obtain ⟨c1, c2, c3⟩ := hab
      have htop : FRl M T (s, yRF M a + 1) (t, yRF M b + 1) := ⟨by dsimp only; rw [c1], k, hk.2, by have := yLeft_lt ha; dsimp only; omega⟩
      rw [← c2]
      by_cases hka : yRK M a = 99
      · rw [if_pos hka, if_pos hka]
        unfold yNx
        rw [← c3]
        rcases hc : yCodeOf M (yGoal M T a) with _ | z
        · exact ⟨⟨htop, h3⟩, rfl⟩
        · simp only [Option.map_some]
          have e1 : yHm M T A false z = z := rfl
          have e2 : yHm M T A true z = yHome M T A z := rfl
          rw [e1, e2, yHome_st]
          exact ⟨⟨FRl_home w, htop, h3⟩, rfl⟩
      · rw [if_neg hka, if_neg hka]
        exact ⟨⟨htop, h3⟩, rfl⟩
theorem yRunN_al (w : WF M) : ∀ {k : Nat} {q u : YR}, FRs M T q.1 u.1 → q.2 = u.2 → (yRunN M (yNx M T A false) k q).2 = (yRunN M (yNx M T A true) k u).2 := by
  intro k
  induction k with
  | zero => intro q u _ h2; exact h2
  | succ k ih =>
    intro q u h1 h2
    unfold yRunN
    rw [FRs_len h1, h2]
    split
    · obtain ⟨h3, h4⟩ := yTurn_al (A := A) w h1 h2
      exact ih h3 h4
    · exact h2
theorem yPerf_al (w : WF M) : yPerf M T A root true = yPerf M T A root false := by
  unfold yPerf
  rcases yCodeOf M (yStand M T root) with _ | s
  · rfl
  · simp only [Option.map_some]
    have e1 : yHm M T A false s = s := rfl
    have e2 : yHm M T A true s = yHome M T A s := rfl
    rw [e1, e2, yHome_st]
    exact (yRunN_al w (q := ([(s, 0)], yMix 0 (yST M s), 1)) (u := ([(yHome M T A s, 0)], yMix 0 (yST M s), 1)) ⟨FRl_home w, trivial⟩ rfl).symm
end S39
