/-! the quotients are numbers -/
section S99c
theorem fdiv_num : ∀ n m : Fin 25, 1 ≤ m.val → vf_n32 (FP.fdiv (FP.i2f (nI n.val)) (FP.i2f (nI m.val))) := by
  unfold vf_n32
  decide +kernel
theorem ddiv_num0 : ∀ i : Fin 64, ∀ m : Fin 25, 1 ≤ m.val → vf_n64 (FP.ddiv (FP.i2d (nI (64 * 0 + i.val))) (FP.i2d (nI m.val))) := by
  unfold vf_n64
  decide +kernel
theorem ddiv_num1 : ∀ i : Fin 64, ∀ m : Fin 25, 1 ≤ m.val → vf_n64 (FP.ddiv (FP.i2d (nI (64 * 1 + i.val))) (FP.i2d (nI m.val))) := by
  unfold vf_n64
  decide +kernel
theorem ddiv_num2 : ∀ i : Fin 64, ∀ m : Fin 25, 1 ≤ m.val → vf_n64 (FP.ddiv (FP.i2d (nI (64 * 2 + i.val))) (FP.i2d (nI m.val))) := by
  unfold vf_n64
  decide +kernel
theorem ddiv_num3 : ∀ i : Fin 64, ∀ m : Fin 25, 1 ≤ m.val → vf_n64 (FP.ddiv (FP.i2d (nI (64 * 3 + i.val))) (FP.i2d (nI m.val))) := by
  unfold vf_n64
  decide +kernel
theorem ddiv_num4 : ∀ i : Fin 64, ∀ m : Fin 25, 1 ≤ m.val → vf_n64 (FP.ddiv (FP.i2d (nI (64 * 4 + i.val))) (FP.i2d (nI m.val))) := by
  unfold vf_n64
  decide +kernel
theorem ddiv_num5 : ∀ i : Fin 64, ∀ m : Fin 25, 1 ≤ m.val → vf_n64 (FP.ddiv (FP.i2d (nI (64 * 5 + i.val))) (FP.i2d (nI m.val))) := by
  unfold vf_n64
  decide +kernel
theorem ddiv_num6 : ∀ i : Fin 64, ∀ m : Fin 25, 1 ≤ m.val → vf_n64 (FP.ddiv (FP.i2d (nI (64 * 6 + i.val))) (FP.i2d (nI m.val))) := by
  unfold vf_n64
  decide +kernel
theorem ddiv_num7 : ∀ i : Fin 64, ∀ m : Fin 25, 1 ≤ m.val → vf_n64 (FP.ddiv (FP.i2d (nI (64 * 7 + i.val))) (FP.i2d (nI m.val))) := by
  unfold vf_n64
  decide +kernel
theorem ddiv_num8 : ∀ i : Fin 64, ∀ m : Fin 25, 1 ≤ m.val → vf_n64 (FP.ddiv (FP.i2d (nI (64 * 8 + i.val))) (FP.i2d (nI m.val))) := by
  unfold vf_n64
  decide +kernel
theorem ddiv_num9 : ∀ i : Fin 64, ∀ m : Fin 25, 1 ≤ m.val → vf_n64 (FP.ddiv (FP.i2d (nI (64 * 9 + i.val))) (FP.i2d (nI m.val))) := by
  unfold vf_n64
  decide +kernel
theorem ddiv_num10 : ∀ i : Fin 64, ∀ m : Fin 25, 1 ≤ m.val → vf_n64 (FP.ddiv (FP.i2d (nI (64 * 10 + i.val))) (FP.i2d (nI m.val))) := by
  unfold vf_n64
  decide +kernel
theorem ddiv_num11 : ∀ i : Fin 64, ∀ m : Fin 25, 1 ≤ m.val → vf_n64 (FP.ddiv (FP.i2d (nI (64 * 11 + i.val))) (FP.i2d (nI m.val))) := by
  unfold vf_n64
  decide +kernel
theorem ddiv_num12 : ∀ i : Fin 64, ∀ m : Fin 25, 1 ≤ m.val → vf_n64 (FP.ddiv (FP.i2d (nI (64 * 12 + i.val))) (FP.i2d (nI m.val))) := by
  unfold vf_n64
  decide +kernel
theorem ddiv_num13 : ∀ i : Fin 64, ∀ m : Fin 25, 1 ≤ m.val → vf_n64 (FP.ddiv (FP.i2d (nI (64 * 13 + i.val))) (FP.i2d (nI m.val))) := by
  unfold vf_n64
  decide +kernel
theorem ddiv_num14 : ∀ i : Fin 64, ∀ m : Fin 25, 1 ≤ m.val → vf_n64 (FP.ddiv (FP.i2d (nI (64 * 14 + i.val))) (FP.i2d (nI m.val))) := by
  unfold vf_n64
  decide +kernel
theorem ddiv_num15 : ∀ i : Fin 64, ∀ m : Fin 25, 1 ≤ m.val → vf_n64 (FP.ddiv (FP.i2d (nI (64 * 15 + i.val))) (FP.i2d (nI m.val))) := by
  unfold vf_n64
  decide +kernel
theorem ddiv_num16 : ∀ i : Fin 64, ∀ m : Fin 25, 1 ≤ m.val → vf_n64 (FP.ddiv (FP.i2d (nI (64 * 16 + i.val))) (FP.i2d (nI m.val))) := by
  unfold vf_n64
  decide +kernel
theorem ddiv_num17 : ∀ i : Fin 64, ∀ m : Fin 25, 1 ≤ m.val → vf_n64 (FP.ddiv (FP.i2d (nI (64 * 17 + i.val))) (FP.i2d (nI m.val))) := by
  unfold vf_n64
  decide +kernel
theorem ddiv_num18 : ∀ i : Fin 64, ∀ m : Fin 25, 1 ≤ m.val → vf_n64 (FP.ddiv (FP.i2d (nI (64 * 18 + i.val))) (FP.i2d (nI m.val))) := by
  unfold vf_n64
  decide +kernel
theorem ddiv_num19 : ∀ i : Fin 64, ∀ m : Fin 25, 1 ≤ m.val → vf_n64 (FP.ddiv (FP.i2d (nI (64 * 19 + i.val))) (FP.i2d (nI m.val))) := by
  unfold vf_n64
  decide +kernel
theorem ddiv_num20 : ∀ i : Fin 64, ∀ m : Fin 25, 1 ≤ m.val → vf_n64 (FP.ddiv (FP.i2d (nI (64 * 20 + i.val))) (FP.i2d (nI m.val))) := by
  unfold vf_n64
  decide +kernel
theorem ddiv_num21 : ∀ i : Fin 64, ∀ m : Fin 25, 1 ≤ m.val → vf_n64 (FP.ddiv (FP.i2d (nI (64 * 21 + i.val))) (FP.i2d (nI m.val))) := by
  unfold vf_n64
  decide +kernel
theorem ddiv_num22 : ∀ i : Fin 64, ∀ m : Fin 25, 1 ≤ m.val → vf_n64 (FP.ddiv (FP.i2d (nI (64 * 22 + i.val))) (FP.i2d (nI m.val))) := by
  unfold vf_n64
  decide +kernel
theorem ddiv_num23 : ∀ i : Fin 64, ∀ m : Fin 25, 1 ≤ m.val → vf_n64 (FP.ddiv (FP.i2d (nI (64 * 23 + i.val))) (FP.i2d (nI m.val))) := by
  unfold vf_n64
  decide +kernel
theorem ddiv_num24 : ∀ i : Fin 64, ∀ m : Fin 25, 1 ≤ m.val → vf_n64 (FP.ddiv (FP.i2d (nI (64 * 24 + i.val))) (FP.i2d (nI m.val))) := by
  unfold vf_n64
  decide +kernel
theorem ddiv_num (k : Nat) (hk : k < 25) : ∀ i : Fin 64, ∀ m : Fin 25, 1 ≤ m.val → vf_n64 (FP.ddiv (FP.i2d (nI (64 * k + i.val))) (FP.i2d (nI m.val))) := by
  match k, hk with
  | 0, _ => exact ddiv_num0
  | 1, _ => exact ddiv_num1
  | 2, _ => exact ddiv_num2
  | 3, _ => exact ddiv_num3
  | 4, _ => exact ddiv_num4
  | 5, _ => exact ddiv_num5
  | 6, _ => exact ddiv_num6
  | 7, _ => exact ddiv_num7
  | 8, _ => exact ddiv_num8
  | 9, _ => exact ddiv_num9
  | 10, _ => exact ddiv_num10
  | 11, _ => exact ddiv_num11
  | 12, _ => exact ddiv_num12
  | 13, _ => exact ddiv_num13
  | 14, _ => exact ddiv_num14
  | 15, _ => exact ddiv_num15
  | 16, _ => exact ddiv_num16
  | 17, _ => exact ddiv_num17
  | 18, _ => exact ddiv_num18
  | 19, _ => exact ddiv_num19
  | 20, _ => exact ddiv_num20
  | 21, _ => exact ddiv_num21
  | 22, _ => exact ddiv_num22
  | 23, _ => exact ddiv_num23
  | 24, _ => exact ddiv_num24
  | k + 25, h => exact absurd h (by omega)
theorem fdiv_ok {n m : Nat} (hn : n ≤ 24) (hm : m ≤ 24) (h : 0 < m) : vf_n32 (FP.fdiv (FP.i2f (nI n)) (FP.i2f (nI m))) := fdiv_num ⟨n, by omega⟩ ⟨m, by omega⟩ h
theorem ddiv_ok {n m : Nat} (hn : n < 1600) (hm : m ≤ 24) (h : 0 < m) : vf_n64 (FP.ddiv (FP.i2d (nI n)) (FP.i2d (nI m))) := by
  have e := ddiv_num (n / 64) (by omega) ⟨n % 64, by omega⟩ ⟨m, by omega⟩ h
  dsimp only at e
  rw [Nat.div_add_mod] at e
  exact e
end S99c
