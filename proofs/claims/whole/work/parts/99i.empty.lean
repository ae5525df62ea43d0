/-! the empty state -/
section S99i
def s0 : Sg := fun r j => if r = 86 ∧ j < 1280 then -1 else if (r = 0 ∧ (j = 5 ∨ j = 6 ∨ j = 7)) ∨ (r = 30 ∧ (j = 20 ∨ j = 21 ∨ j = 22)) then 999 else 0
def S0 : YS := (fun _ _ => 0, fun _ _ => 0, (999, 999, 999), none, 0)
theorem s0_z {r j : Nat} (h : r ≠ 86) (h0 : r ≠ 0) (h30 : r ≠ 30) : s0 r j = nI 0 := by
  unfold s0
  rw [if_neg (by omega), if_neg (by omega)]
  rfl
theorem s0_f {j : Nat} (h : j ≠ 20 ∧ j ≠ 21 ∧ j ≠ 22) : s0 30 j = nI 0 := by
  unfold s0
  rw [if_neg (by omega), if_neg (by omega)]
  rfl
theorem ZC0 : ZC s0 S0 := by
  refine ⟨⟨⟨fun k hk => s0_z (by omega) (by omega) (by omega), fun k hk j hj => absurd hj (Nat.not_lt_zero _)⟩, fun c i hc => ?_⟩, ⟨rfl, rfl, rfl, rfl, rfl⟩, ⟨0, by omega, s0_z (by omega) (by omega) (by omega)⟩, fun s h1 h2 => ⟨s0_z (by omega) (by omega) (by omega), s0_z (by omega) (by omega) (by omega), s0_z (by omega) (by omega) (by omega)⟩, fun root h => by cases h⟩
  have hcl : c ≠ 30 ∧ c ≠ 0 ∧ c ≠ 86 := by
    unfold libc at hc
    split at hc <;> first | omega | cases hc
  exact s0_z hcl.2.2 hcl.2.1 hcl.1
theorem ZW0 : ZW S0 0 := by
  refine ⟨⟨?_, ?_⟩, ?_, ⟨by decide, by decide, by decide⟩, fun root h => by cases h⟩
  · refine ⟨by decide, fun o h => absurd h (Nat.not_lt_zero _), fun o h => absurd h (Nat.not_lt_zero _), fun o h => absurd h (Nat.not_lt_zero _), fun o h => absurd h (Nat.not_lt_zero _), fun o n h => absurd h (Nat.not_lt_zero _), fun o h => absurd h (Nat.not_lt_zero _), fun j e h => absurd h (Nat.not_lt_zero _), fun j e h => absurd h (Nat.not_lt_zero _), fun s => Nat.zero_le _⟩
  · exact ⟨fun z _ => rfl, (yCount_none (p := fun z => decide (0 < S0.1 92 z)) (fun x _ => rfl)).symm, fun n _ => rfl⟩
  · exact ⟨⟨by decide, fun z => Nat.zero_le _, fun k h => absurd h (Nat.not_lt_zero _), rfl, fun j => Nat.zero_le _, fun j h => absurd h (Nat.not_lt_zero _)⟩, fun j => rfl, fun j => Nat.zero_le _, fun j h => absurd h (Nat.lt_irrefl _), fun z => Nat.zero_le _, fun r => rfl, fun z h => absurd h (Nat.lt_irrefl _), fun z => Nat.zero_le _, fun j _ => rfl, fun j => Nat.zero_le _, fun j => by show 0 < 2 ^ 20; decide, fun j _ => rfl⟩
theorem ZM0 : ZM s0 S0 := by
  have z : ∀ {r j : Nat}, r ≠ 86 → r ≠ 0 → r ≠ 30 → s0 r j = nI 0 := s0_z
  refine ⟨⟨⟨⟨s0_f (by omega), s0_f (by omega), s0_f (by omega), s0_f (by omega)⟩, fun j h => absurd h (Nat.not_lt_zero _), ⟨fun j h => absurd h (Nat.not_lt_zero _), fun j h => absurd h (Nat.not_lt_zero _), fun j h => absurd h (Nat.not_lt_zero _), fun j h => absurd h (Nat.not_lt_zero _), fun j h => absurd h (Nat.not_lt_zero _), fun j h => absurd h (Nat.not_lt_zero _)⟩, ⟨fun j h => absurd h (Nat.not_lt_zero _), fun j h => absurd h (Nat.not_lt_zero _), fun j h => absurd h (Nat.not_lt_zero _), fun j h => absurd h (Nat.not_lt_zero _)⟩, ?_⟩, ?_⟩, ⟨rfl, rfl, rfl, s0_f (by omega), s0_f (by omega)⟩, fun root h => by cases h⟩
  · exact ⟨fun i _ => z (by omega) (by omega) (by omega), fun j h => absurd h (Nat.not_lt_zero _), fun j h => absurd h (Nat.not_lt_zero _), fun j h => absurd h (Nat.not_lt_zero _), fun j h => absurd h (Nat.not_lt_zero _)⟩
  · exact ⟨⟨s0_f (by omega), s0_f (by omega)⟩, fun i _ => z (by omega) (by omega) (by omega), fun i _ => z (by omega) (by omega) (by omega), fun i _ => z (by omega) (by omega) (by omega), fun k h => absurd h (Nat.not_lt_zero _), fun i _ => z (by omega) (by omega) (by omega), fun i hi => by show s0 86 i = -1; unfold s0; rw [if_pos ⟨rfl, hi⟩]⟩
end S99i
