/-! a float quotient widened is a number, and one equal to itself -/
section S99o
theorem f2d_num : ∀ n m : Fin 25, 1 ≤ m.val → vf_n64 (FP.f2d (FP.fdiv (FP.i2f (nI n.val)) (FP.i2f (nI m.val)))) ∧ FP.dcmp (FP.f2d (FP.fdiv (FP.i2f (nI n.val)) (FP.i2f (nI m.val)))) (FP.f2d (FP.fdiv (FP.i2f (nI n.val)) (FP.i2f (nI m.val)))) = some .eq := by
  unfold vf_n64
  decide +kernel
theorem f2d_ok {n m : Nat} (hn : n ≤ 24) (hm : m ≤ 24) (h : 0 < m) : vf_n64 (FP.f2d (FP.fdiv (FP.i2f (nI n)) (FP.i2f (nI m)))) ∧ FP.dcmp (FP.f2d (FP.fdiv (FP.i2f (nI n)) (FP.i2f (nI m)))) (FP.f2d (FP.fdiv (FP.i2f (nI n)) (FP.i2f (nI m)))) = some .eq := f2d_num ⟨n, by omega⟩ ⟨m, by omega⟩ h
end S99o
