/-! what is laid lies apart -/
section S33
variable {M : YM} {T A P : Nat → Bool} {il : Nat → Nat} {L : Nat}
theorem ySecAt_up {cb : Bool} (w : WF M) {i : Nat} : ∀ {j : Nat}, i ≤ j → j ≤ nS M → ySecAt M P il L cb i ≤ ySecAt M P il L cb j := by
  intro j
  induction j with
  | zero => intro h _; rw [show i = 0 by omega]; exact Nat.le_refl _
  | succ j ih =>
    intro h hj
    by_cases hij : i = j + 1
    · rw [hij]; exact Nat.le_refl _
    · have h1 := ih (by omega) (by omega)
      refine Nat.le_trans h1 ?_
      rw [ySecAt.eq_2]
      split
      · have := yAl_ge (a := ySecAt M P il L cb j) (yAlg w (s := j) (by omega)).1
        omega
      · exact Nat.le_refl _
/-- where a section ends, its islands with it -/
def yEnd (M : YM) (P : Nat → Bool) (il : Nat → Nat) (L s : Nat) : Nat := yAdr M P il L s + ySZ M s + 2 * nIs M il s L
theorem yEnd_at {s : Nat} (hP : P s = true) : ySecAt M P il L (ySC M s == 1) (s + 1) = yEnd M P il L s := by
  rw [ySecAt, if_pos ⟨hP, rfl⟩]
  rfl
theorem yAdr_ge (w : WF M) {s : Nat} (hs : s < nS M) : ySecAt M P il L (ySC M s == 1) s ≤ yAdr M P il L s := yAl_ge (yAlg w hs).1
/-- one behind the other -/
theorem yEnd_le (w : WF M) {s t : Nat} (hst : s < t) (ht : t < nS M) (hP : P s = true) (hc : (ySC M s == 1) = (ySC M t == 1)) : yEnd M P il L s ≤ yAdr M P il L t := by
  have h1 := yEnd_at (M := M) (il := il) (L := L) hP
  have h2 := ySecAt_up (P := P) (il := il) (L := L) (cb := ySC M s == 1) w (i := s + 1) (j := t) hst (by omega)
  have h3 := yAdr_ge (P := P) (il := il) (L := L) w ht
  rw [← hc] at h3
  omega
theorem yEnd_all (w : WF M) {s : Nat} (hs : s < nS M) (hP : P s = true) : yEnd M P il L s ≤ ySecAt M P il L (ySC M s == 1) (nS M) := by
  have h1 := yEnd_at (M := M) (il := il) (L := L) hP
  have h2 := ySecAt_up (P := P) (il := il) (L := L) (cb := ySC M s == 1) w (i := s + 1) (j := nS M) hs (Nat.le_refl _)
  omega
theorem yAdr_data (w : WF M) {s : Nat} (hs : s < nS M) (hc : (ySC M s == 1) = false) : 1000 ≤ yAdr M P il L s := by
  have h3 := yAdr_ge (P := P) (il := il) (L := L) w hs
  have h2 := ySecAt_up (P := P) (il := il) (L := L) (cb := ySC M s == 1) w (i := 0) (j := s) (Nat.zero_le _) (by omega)
  rw [hc] at h2 h3
  have h4 : ySecAt M P il L false 0 = 1000 := rfl
  omega
theorem yCB_ge (w : WF M) : 1000 ≤ yCB M P il L := by
  have h2 := ySecAt_up (P := P) (il := il) (L := L) (cb := false) w (i := 0) (j := nS M) (Nat.zero_le _) (Nat.le_refl _)
  have h4 : ySecAt M P il L false 0 = 1000 := rfl
  unfold yCB
  omega
theorem yComAt_up {f i : Nat} : ∀ {j : Nat}, i ≤ j → yComAt M T A f i ≤ yComAt M T A f j := by
  intro j
  induction j with
  | zero => intro h; rw [show i = 0 by omega]; exact Nat.le_refl _
  | succ j ih =>
    intro h
    by_cases hij : i = j + 1
    · rw [hij]; exact Nat.le_refl _
    · refine Nat.le_trans (ih (by omega)) ?_
      rw [yComAt.eq_2]
      split
      · exact Nat.le_refl _
      · have := yAl_ge (a := yComAt M T A f j) (k := 4) (by omega)
        omega
theorem yCA_ge {n : Nat} : yCB M P il L ≤ yCA M T A P il L n := by
  have h1 := yComAt_up (M := M) (T := T) (A := A) (f := yCB M P il L) (Nat.zero_le n)
  have h2 := yAl_ge (a := yComAt M T A (yCB M P il L) n) (k := 4) (by omega)
  have h3 : yComAt M T A (yCB M P il L) 0 = yCB M P il L := rfl
  unfold yCA
  omega
theorem yCA_lt {n m z : Nat} (hnm : n < m) (hz : yComP M T A n = some z) : yCA M T A P il L n + M 92 z ≤ yCA M T A P il L m := by
  have h1 := yComAt_up (M := M) (T := T) (A := A) (f := yCB M P il L) (i := n + 1) (j := m) hnm
  have h2 := yAl_ge (a := yComAt M T A (yCB M P il L) m) (k := 4) (by omega)
  have h3 : yComAt M T A (yCB M P il L) (n + 1) = yAl (yComAt M T A (yCB M P il L) n) 4 + M 92 z := by rw [yComAt, hz]
  unfold yCA
  omega
theorem nIs_up {s i : Nat} : ∀ {j : Nat}, i ≤ j → nIs M il s i ≤ nIs M il s j := by
  intro j
  induction j with
  | zero => intro h; rw [show i = 0 by omega]; exact Nat.le_refl _
  | succ j ih =>
    intro h
    by_cases hij : i = j + 1
    · rw [hij]; exact Nat.le_refl _
    · refine Nat.le_trans (ih (by omega)) ?_
      unfold nIs
      rw [yCount.eq_2]
      omega
theorem nIs_s {k : Nat} : nIs M il (yRS M (il k)) (k + 1) = nIs M il (yRS M (il k)) k + 1 := by
  unfold nIs
  rw [yCount.eq_2]
  simp
theorem yIsA_in {k : Nat} (hk : k < L) : yAdr M P il L (yRS M (il k)) + ySZ M (yRS M (il k)) ≤ yIsA M P il L k ∧ yIsA M P il L k + 2 ≤ yEnd M P il L (yRS M (il k)) := by
  have h1 := nIs_s (M := M) (il := il) (k := k)
  have h2 := nIs_up (M := M) (il := il) (s := yRS M (il k)) (i := k + 1) (j := L) hk
  unfold yIsA yEnd
  omega
theorem yIsA_lt {k l : Nat} (hkl : k < l) (hs : yRS M (il k) = yRS M (il l)) : yIsA M P il L k + 2 ≤ yIsA M P il L l := by
  have h1 := nIs_s (M := M) (il := il) (k := k)
  have h2 := nIs_up (M := M) (il := il) (s := yRS M (il k)) (i := k + 1) (j := l) hkl
  unfold yIsA
  rw [← hs]
  omega
/-- sections apart, each with its islands -/
theorem yEnd_ap (w : WF M) (hce : ySecAt M P il L true (nS M) ≤ 999) {s t : Nat} (hs : s < nS M) (ht : t < nS M) (hPs : P s = true) (hPt : P t = true) (hst : s ≠ t) : yEnd M P il L s ≤ yAdr M P il L t ∨ yEnd M P il L t ≤ yAdr M P il L s := by
  by_cases hc : (ySC M s == 1) = (ySC M t == 1)
  · by_cases hlt : s < t
    · exact Or.inl (yEnd_le w hlt ht hPs hc)
    · exact Or.inr (yEnd_le w (by omega) hs hPt hc.symm)
  · cases h1 : (ySC M s == 1) with
    | true =>
      have h2 : (ySC M t == 1) = false := by rw [h1] at hc; simpa using hc
      have h3 := yEnd_all (il := il) (L := L) w hs hPs
      have h4 := yAdr_data (P := P) (il := il) (L := L) w ht h2
      rw [h1] at h3
      omega
    | false =>
      have h2 : (ySC M t == 1) = true := by rw [h1] at hc; simpa using hc
      have h3 := yEnd_all (il := il) (L := L) w ht hPt
      have h4 := yAdr_data (P := P) (il := il) (L := L) w hs h1
      rw [h2] at h3
      omega
theorem yIsA_ap (w : WF M) (hce : ySecAt M P il L true (nS M) ≤ 999) (hil : ILok M il L) (hlp : ∀ k, k < L → P (yRS M (il k)) = true) {k l : Nat} (hk : k < L) (hl : l < L) (hkl : k ≠ l) : yIsA M P il L k + 2 ≤ yIsA M P il L l ∨ yIsA M P il L l + 2 ≤ yIsA M P il L k := by
  have h1 := yIsA_in (M := M) (P := P) (il := il) hk
  have h2 := yIsA_in (M := M) (P := P) (il := il) hl
  by_cases hs : yRS M (il k) = yRS M (il l)
  · by_cases hlt : k < l
    · exact Or.inl (yIsA_lt hlt hs)
    · exact Or.inr (yIsA_lt (by omega) hs.symm)
  · have h3 := yEnd_ap w hce (w.2.2.2.2.2.2.1 _ (hil.2 k hk)).1 (w.2.2.2.2.2.2.1 _ (hil.2 l hl)).1 (hlp k hk) (hlp l hl) hs
    omega
/-- a section and an island -/
theorem ySI_ap (w : WF M) (hce : ySecAt M P il L true (nS M) ≤ 999) (hil : ILok M il L) (hlp : ∀ k, k < L → P (yRS M (il k)) = true) {s k : Nat} (hs : s < nS M) (hPs : P s = true) (hk : k < L) : yAdr M P il L s + ySZ M s ≤ yIsA M P il L k ∨ yIsA M P il L k + 2 ≤ yAdr M P il L s := by
  have h1 := yIsA_in (M := M) (P := P) (il := il) hk
  by_cases hsk : s = yRS M (il k)
  · rw [hsk]; exact Or.inl h1.1
  · have h3 := yEnd_ap w hce hs (w.2.2.2.2.2.2.1 _ (hil.2 k hk)).1 hPs (hlp k hk) hsk
    have h4 : yAdr M P il L s + ySZ M s ≤ yEnd M P il L s := by unfold yEnd; omega
    omega
/-- all of a section lies before the commons -/
theorem yEnd_com (w : WF M) (hce : ySecAt M P il L true (nS M) ≤ 999) {s n : Nat} (hs : s < nS M) (hPs : P s = true) : yEnd M P il L s ≤ yCA M T A P il L n := by
  have h1 := yEnd_all (il := il) (L := L) w hs hPs
  have h2 := yCA_ge (M := M) (T := T) (A := A) (P := P) (il := il) (L := L) (n := n)
  have h3 := yCB_ge (P := P) (il := il) (L := L) w
  cases hc : (ySC M s == 1) with
  | true => rw [hc] at h1; omega
  | false =>
    rw [hc] at h1
    unfold yCB at h2 h3
    omega
/-- a living goal's start is in what is laid, never an island's start -/
theorem yGoS_isl (w : WF M) (hce : ySecAt M P il L true (nS M) ≤ 999) (hP : P = yLaid M T A) (hil : ILok M il L) (hlp : ∀ k, k < L → P (yRS M (il k)) = true) {g : Option Nat} (hg : gFit M T g) (hA : gLv M A g = true) {k : Nat} (hk : k < L) : yIsA M P il L k ≠ yGoS M T A P il L g := by
  have h1 := yIsA_in (M := M) (P := P) (il := il) hk
  have hw1 := (w.2.2.2.2.2.2.1 _ (hil.2 k hk)).1
  rcases gC_cases w hg.1 with ⟨rfl, e⟩ | ⟨j, hj, rfl, e⟩ | ⟨c, hc, rfl, e⟩
  · cases hA
  · have hw := w.2.2.2.1 j hj
    have hb := w.1.2.2.1
    have hA2 : A (yDS M j) = true := by
      unfold gLv at hA
      rw [← nd_def w hj]; exact hA
    have hle := yHome_le (M := M) (T := T) (A := A) (s := yDS M j)
    have hPh : P (yHome M T A (yDS M j)) = true := by rw [hP]; exact yHome_laid hA2
    have h3 := ySI_ap w hce hil hlp (s := yHome M T A (yDS M j)) (Nat.lt_of_le_of_lt hle hw.1) hPh hk
    have h4 : ySZ M (yHome M T A (yDS M j)) = ySZ M (yDS M j) := by
      unfold yHome
      cases hf : yFd M T A (yDS M j) with
      | none => rfl
      | some t =>
        have h5 := (yFd_lt hf).2.2.2.1
        simp only [yAlike, Bool.and_eq_true, beq_iff_eq] at h5
        exact h5.1.symm
    unfold yGoS
    dsimp only
    rw [if_pos (by omega)]
    have h6 := hw.2.2.1
    omega
  · unfold yGoS
    dsimp only
    rw [if_neg (by unfold cz; omega)]
    have h2 := yEnd_com (T := T) (A := A) (n := (cz M c - 100) % 16) w hce hw1 (hlp k hk)
    omega
end S33
