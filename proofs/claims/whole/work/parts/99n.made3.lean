/-! .. so the made world is the world of x_sh in the empty state -/
section S99n
variable {l : Launch} {D : va_G} {cA : Nat → ClassId} {sz b : Nat}
theorem pwAll (k : Nat) (hk : k < 89) : xE (G0 l D cA sz b).2.1 cA (s0 k) (x_sh.getD k (.inl (0, 0))) = mkE sz cA (shZ.getD (perm k) (.inl (0, 0))) := by
  match k, hk with
  | 0, _ => exact pw0
  | 1, _ => exact pw1
  | 2, _ => exact pw2
  | 3, _ => exact pw3
  | 4, _ => exact pw4
  | 5, _ => exact pw5
  | 6, _ => exact pw6
  | 7, _ => exact pw7
  | 8, _ => exact pw8
  | 9, _ => exact pw9
  | 10, _ => exact pw10
  | 11, _ => exact pw11
  | 12, _ => exact pw12
  | 13, _ => exact pw13
  | 14, _ => exact pw14
  | 15, _ => exact pw15
  | 16, _ => exact pw16
  | 17, _ => exact pw17
  | 18, _ => exact pw18
  | 19, _ => exact pw19
  | 20, _ => exact pw20
  | 21, _ => exact pw21
  | 22, _ => exact pw22
  | 23, _ => exact pw23
  | 24, _ => exact pw24
  | 25, _ => exact pw25
  | 26, _ => exact pw26
  | 27, _ => exact pw27
  | 28, _ => exact pw28
  | 29, _ => exact pw29
  | 30, _ => exact pw30
  | 31, _ => exact pw31
  | 32, _ => exact pw32
  | 33, _ => exact pw33
  | 34, _ => exact pw34
  | 35, _ => exact pw35
  | 36, _ => exact pw36
  | 37, _ => exact pw37
  | 38, _ => exact pw38
  | 39, _ => exact pw39
  | 40, _ => exact pw40
  | 41, _ => exact pw41
  | 42, _ => exact pw42
  | 43, _ => exact pw43
  | 44, _ => exact pw44
  | 45, _ => exact pw45
  | 46, _ => exact pw46
  | 47, _ => exact pw47
  | 48, _ => exact pw48
  | 49, _ => exact pw49
  | 50, _ => exact pw50
  | 51, _ => exact pw51
  | 52, _ => exact pw52
  | 53, _ => exact pw53
  | 54, _ => exact pw54
  | 55, _ => exact pw55
  | 56, _ => exact pw56
  | 57, _ => exact pw57
  | 58, _ => exact pw58
  | 59, _ => exact pw59
  | 60, _ => exact pw60
  | 61, _ => exact pw61
  | 62, _ => exact pw62
  | 63, _ => exact pw63
  | 64, _ => exact pw64
  | 65, _ => exact pw65
  | 66, _ => exact pw66
  | 67, _ => exact pw67
  | 68, _ => exact pw68
  | 69, _ => exact pw69
  | 70, _ => exact pw70
  | 71, _ => exact pw71
  | 72, _ => exact pw72
  | 73, _ => exact pw73
  | 74, _ => exact pw74
  | 75, _ => exact pw75
  | 76, _ => exact pw76
  | 77, _ => exact pw77
  | 78, _ => exact pw78
  | 79, _ => exact pw79
  | 80, _ => exact pw80
  | 81, _ => exact pw81
  | 82, _ => exact pw82
  | 83, _ => exact pw83
  | 84, _ => exact pw84
  | 85, _ => exact pw85
  | 86, _ => exact pw86
  | 87, _ => exact pw87
  | 88, _ => exact pw88
  | k + 89, h => exact absurd h (by omega)
theorem perm_lt : ∀ k : Fin 89, perm k.val < 89 := by decide +kernel
theorem perm_inj : ∀ i j : Fin 89, perm i.val = perm j.val → i = j := by decide +kernel
theorem x_sh_len : x_sh.length = 89 := rfl
theorem shZ_len : shZ.length = 89 := rfl
theorem G0_at {k : Nat} (h : k ≠ 91) : (G0 l D cA sz b).2.1 k = sz + perm k := by
  show (bif Nat.beq k 91 then b else sz + perm k) = sz + perm k
  cases hq : Nat.beq k 91 with
  | true => exact absurd (Nat.eq_of_beq_eq_true hq) h
  | false => rfl
theorem made_at {k : Nat} {q : Nat × va_E} (h : (xW (G0 l D cA sz b) s0)[k]? = some q) : k < 89 ∧ (mkW sz cA shZ)[perm k]? = some q := by
  unfold xW at h
  rw [xWl_get] at h
  cases hc : x_sh[k]? with
  | none => rw [hc] at h; cases h
  | some c =>
    rw [hc] at h
    cases h
    have hk : k < 89 := by rw [← x_sh_len]; exact (List.getElem?_eq_some_iff.mp hc).1
    have hp := perm_lt ⟨k, hk⟩
    have e := pwAll (l := l) (D := D) (cA := cA) (sz := sz) (b := b) k hk
    have e1 : x_sh.getD k (.inl (0, 0)) = c := by rw [List.getD_eq_getElem?_getD, hc]; rfl
    have e2 : shZ[perm k]? = some (shZ.getD (perm k) (.inl (0, 0))) := by
      have hl : perm k < shZ.length := by rw [shZ_len]; exact hp
      rw [List.getD_eq_getElem?_getD, List.getElem?_eq_getElem hl]; rfl
    refine ⟨hk, ?_⟩
    rw [mkW_get, e2, ← e1, Nat.zero_add]
    show some (sz + perm k, mkE sz cA (shZ.getD (perm k) (.inl (0, 0)))) = some ((G0 l D cA sz b).2.1 k, xE (G0 l D cA sz b).2.1 cA (s0 k) (x_sh.getD k (.inl (0, 0))))
    rw [e, G0_at (by omega)]
theorem made_P {H : Heap} (h : va_P D x_cl (mkW sz cA shZ) H) : va_P D x_cl (xW (G0 l D cA sz b) s0) H := fun k q hk => h (perm k) q (made_at hk).2
theorem made_D : va_D (xA (G0 l D cA sz b)) (xW (G0 l D cA sz b) s0) := by
  refine ⟨fun i j p q hi hj hpq => ?_, fun k q hk => ?_⟩
  · obtain ⟨hi9, gi⟩ := made_at hi
    obtain ⟨hj9, gj⟩ := made_at hj
    have e := perm_inj ⟨i, hi9⟩ ⟨j, hj9⟩ ((mkW_D (sz := sz) (cA := cA) (sh := shZ)).1 _ _ p q gi gj hpq)
    exact congrArg Fin.val e
  · obtain ⟨hk9, -⟩ := made_at hk
    unfold xW at hk
    rw [xWl_get] at hk
    cases hc : x_sh[k]? with
    | none => rw [hc] at hk; cases hk
    | some c =>
      rw [hc] at hk
      cases hk
      exact ⟨k, by rw [x_sh_len]; exact hk9, by rw [Nat.zero_add]⟩
end S99n
