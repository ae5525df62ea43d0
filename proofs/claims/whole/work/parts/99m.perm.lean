/-! the made world is the world of x_sh, its places renamed (written by wip/gen/perm.py) -/
section S99m
variable {l : Launch} {D : va_G} {cA : Nat → ClassId} {sz b : Nat}
def permL : List Nat := [0, 1, 12, 25, 34, 37, 2, 4, 6, 8, 10, 32, 35, 38, 40, 44, 48, 13, 15, 17, 19, 21, 23, 26, 28, 30, 42, 46, 50, 52, 54, 3, 5, 7, 9, 11, 33, 36, 39, 41, 45, 49, 14, 16, 18, 20, 22, 24, 27, 29, 31, 43, 47, 51, 53, 55, 56, 57, 58, 59, 60, 61, 62, 63, 64, 65, 66, 67, 68, 69, 70, 71, 72, 73, 74, 75, 76, 77, 78, 79, 80, 81, 82, 83, 84, 85, 86, 87, 88]
def perm (k : Nat) : Nat := permL.getD k k
/-- cells 89 and 90: the two arrays of the law; cell 91: its script, at b -/
def G0 (l : Launch) (D : va_G) (cA : Nat → ClassId) (sz b : Nat) : XG := (l, fun k => bif Nat.beq k 91 then b else sz + perm k, D, cA)
theorem s0_zero {r : Nat} (h : r ≠ 86) (h0 : r ≠ 0) (h30 : r ≠ 30) : s0 r = fun _ => 0 := funext fun j => s0_z h h0 h30
theorem s0_86 : s0 86 = fun i => if i < 1280 then -1 else 0 := by
  funext j
  unfold s0
  by_cases h : j < 1280
  · rw [if_pos ⟨rfl, h⟩, if_pos h]
  · rw [if_neg (fun q => h q.2), if_neg h, if_neg (by omega)]
theorem pw0 : xE (G0 l D cA sz b).2.1 cA (s0 0) (x_sh.getD 0 (.inl (0, 0))) = mkE sz cA (shZ.getD 0 (.inl (0, 0))) := rfl
theorem pw1 : xE (G0 l D cA sz b).2.1 cA (s0 1) (x_sh.getD 1 (.inl (0, 0))) = mkE sz cA (shZ.getD 1 (.inl (0, 0))) := rfl
theorem pw2 : xE (G0 l D cA sz b).2.1 cA (s0 2) (x_sh.getD 2 (.inl (0, 0))) = mkE sz cA (shZ.getD 12 (.inl (0, 0))) := rfl
theorem pw3 : xE (G0 l D cA sz b).2.1 cA (s0 3) (x_sh.getD 3 (.inl (0, 0))) = mkE sz cA (shZ.getD 25 (.inl (0, 0))) := rfl
theorem pw4 : xE (G0 l D cA sz b).2.1 cA (s0 4) (x_sh.getD 4 (.inl (0, 0))) = mkE sz cA (shZ.getD 34 (.inl (0, 0))) := rfl
theorem pw5 : xE (G0 l D cA sz b).2.1 cA (s0 5) (x_sh.getD 5 (.inl (0, 0))) = mkE sz cA (shZ.getD 37 (.inl (0, 0))) := rfl
theorem pw6 : xE (G0 l D cA sz b).2.1 cA (s0 6) (x_sh.getD 6 (.inl (0, 0))) = mkE sz cA (shZ.getD 2 (.inl (0, 0))) := rfl
theorem pw7 : xE (G0 l D cA sz b).2.1 cA (s0 7) (x_sh.getD 7 (.inl (0, 0))) = mkE sz cA (shZ.getD 4 (.inl (0, 0))) := rfl
theorem pw8 : xE (G0 l D cA sz b).2.1 cA (s0 8) (x_sh.getD 8 (.inl (0, 0))) = mkE sz cA (shZ.getD 6 (.inl (0, 0))) := rfl
theorem pw9 : xE (G0 l D cA sz b).2.1 cA (s0 9) (x_sh.getD 9 (.inl (0, 0))) = mkE sz cA (shZ.getD 8 (.inl (0, 0))) := rfl
theorem pw10 : xE (G0 l D cA sz b).2.1 cA (s0 10) (x_sh.getD 10 (.inl (0, 0))) = mkE sz cA (shZ.getD 10 (.inl (0, 0))) := rfl
theorem pw11 : xE (G0 l D cA sz b).2.1 cA (s0 11) (x_sh.getD 11 (.inl (0, 0))) = mkE sz cA (shZ.getD 32 (.inl (0, 0))) := rfl
theorem pw12 : xE (G0 l D cA sz b).2.1 cA (s0 12) (x_sh.getD 12 (.inl (0, 0))) = mkE sz cA (shZ.getD 35 (.inl (0, 0))) := rfl
theorem pw13 : xE (G0 l D cA sz b).2.1 cA (s0 13) (x_sh.getD 13 (.inl (0, 0))) = mkE sz cA (shZ.getD 38 (.inl (0, 0))) := rfl
theorem pw14 : xE (G0 l D cA sz b).2.1 cA (s0 14) (x_sh.getD 14 (.inl (0, 0))) = mkE sz cA (shZ.getD 40 (.inl (0, 0))) := rfl
theorem pw15 : xE (G0 l D cA sz b).2.1 cA (s0 15) (x_sh.getD 15 (.inl (0, 0))) = mkE sz cA (shZ.getD 44 (.inl (0, 0))) := rfl
theorem pw16 : xE (G0 l D cA sz b).2.1 cA (s0 16) (x_sh.getD 16 (.inl (0, 0))) = mkE sz cA (shZ.getD 48 (.inl (0, 0))) := rfl
theorem pw17 : xE (G0 l D cA sz b).2.1 cA (s0 17) (x_sh.getD 17 (.inl (0, 0))) = mkE sz cA (shZ.getD 13 (.inl (0, 0))) := rfl
theorem pw18 : xE (G0 l D cA sz b).2.1 cA (s0 18) (x_sh.getD 18 (.inl (0, 0))) = mkE sz cA (shZ.getD 15 (.inl (0, 0))) := rfl
theorem pw19 : xE (G0 l D cA sz b).2.1 cA (s0 19) (x_sh.getD 19 (.inl (0, 0))) = mkE sz cA (shZ.getD 17 (.inl (0, 0))) := rfl
theorem pw20 : xE (G0 l D cA sz b).2.1 cA (s0 20) (x_sh.getD 20 (.inl (0, 0))) = mkE sz cA (shZ.getD 19 (.inl (0, 0))) := rfl
theorem pw21 : xE (G0 l D cA sz b).2.1 cA (s0 21) (x_sh.getD 21 (.inl (0, 0))) = mkE sz cA (shZ.getD 21 (.inl (0, 0))) := rfl
theorem pw22 : xE (G0 l D cA sz b).2.1 cA (s0 22) (x_sh.getD 22 (.inl (0, 0))) = mkE sz cA (shZ.getD 23 (.inl (0, 0))) := rfl
theorem pw23 : xE (G0 l D cA sz b).2.1 cA (s0 23) (x_sh.getD 23 (.inl (0, 0))) = mkE sz cA (shZ.getD 26 (.inl (0, 0))) := rfl
theorem pw24 : xE (G0 l D cA sz b).2.1 cA (s0 24) (x_sh.getD 24 (.inl (0, 0))) = mkE sz cA (shZ.getD 28 (.inl (0, 0))) := rfl
theorem pw25 : xE (G0 l D cA sz b).2.1 cA (s0 25) (x_sh.getD 25 (.inl (0, 0))) = mkE sz cA (shZ.getD 30 (.inl (0, 0))) := rfl
theorem pw26 : xE (G0 l D cA sz b).2.1 cA (s0 26) (x_sh.getD 26 (.inl (0, 0))) = mkE sz cA (shZ.getD 42 (.inl (0, 0))) := rfl
theorem pw27 : xE (G0 l D cA sz b).2.1 cA (s0 27) (x_sh.getD 27 (.inl (0, 0))) = mkE sz cA (shZ.getD 46 (.inl (0, 0))) := rfl
theorem pw28 : xE (G0 l D cA sz b).2.1 cA (s0 28) (x_sh.getD 28 (.inl (0, 0))) = mkE sz cA (shZ.getD 50 (.inl (0, 0))) := rfl
theorem pw29 : xE (G0 l D cA sz b).2.1 cA (s0 29) (x_sh.getD 29 (.inl (0, 0))) = mkE sz cA (shZ.getD 52 (.inl (0, 0))) := rfl
theorem pw30 : xE (G0 l D cA sz b).2.1 cA (s0 30) (x_sh.getD 30 (.inl (0, 0))) = mkE sz cA (shZ.getD 54 (.inl (0, 0))) := rfl
theorem pw31 : xE (G0 l D cA sz b).2.1 cA (s0 31) (x_sh.getD 31 (.inl (0, 0))) = mkE sz cA (shZ.getD 3 (.inl (0, 0))) := by
  show (Sum.inl (cA 0, 10, .inl (s0 31)) : va_E) = Sum.inl (cA 0, 10, .inl (fun _ => 0))
  rw [s0_zero (by omega) (by omega) (by omega)]
theorem pw32 : xE (G0 l D cA sz b).2.1 cA (s0 32) (x_sh.getD 32 (.inl (0, 0))) = mkE sz cA (shZ.getD 5 (.inl (0, 0))) := by
  show (Sum.inl (cA 0, 144, .inl (s0 32)) : va_E) = Sum.inl (cA 0, 144, .inl (fun _ => 0))
  rw [s0_zero (by omega) (by omega) (by omega)]
theorem pw33 : xE (G0 l D cA sz b).2.1 cA (s0 33) (x_sh.getD 33 (.inl (0, 0))) = mkE sz cA (shZ.getD 7 (.inl (0, 0))) := by
  show (Sum.inl (cA 0, 200, .inl (s0 33)) : va_E) = Sum.inl (cA 0, 200, .inl (fun _ => 0))
  rw [s0_zero (by omega) (by omega) (by omega)]
theorem pw34 : xE (G0 l D cA sz b).2.1 cA (s0 34) (x_sh.getD 34 (.inl (0, 0))) = mkE sz cA (shZ.getD 9 (.inl (0, 0))) := by
  show (Sum.inl (cA 0, 480, .inl (s0 34)) : va_E) = Sum.inl (cA 0, 480, .inl (fun _ => 0))
  rw [s0_zero (by omega) (by omega) (by omega)]
theorem pw35 : xE (G0 l D cA sz b).2.1 cA (s0 35) (x_sh.getD 35 (.inl (0, 0))) = mkE sz cA (shZ.getD 11 (.inl (0, 0))) := by
  show (Sum.inl (cA 0, 160, .inl (s0 35)) : va_E) = Sum.inl (cA 0, 160, .inl (fun _ => 0))
  rw [s0_zero (by omega) (by omega) (by omega)]
theorem pw36 : xE (G0 l D cA sz b).2.1 cA (s0 36) (x_sh.getD 36 (.inl (0, 0))) = mkE sz cA (shZ.getD 33 (.inl (0, 0))) := by
  show (Sum.inl (cA 0, 80, .inl (s0 36)) : va_E) = Sum.inl (cA 0, 80, .inl (fun _ => 0))
  rw [s0_zero (by omega) (by omega) (by omega)]
theorem pw37 : xE (G0 l D cA sz b).2.1 cA (s0 37) (x_sh.getD 37 (.inl (0, 0))) = mkE sz cA (shZ.getD 36 (.inl (0, 0))) := by
  show (Sum.inl (cA 0, 200, .inl (s0 37)) : va_E) = Sum.inl (cA 0, 200, .inl (fun _ => 0))
  rw [s0_zero (by omega) (by omega) (by omega)]
theorem pw38 : xE (G0 l D cA sz b).2.1 cA (s0 38) (x_sh.getD 38 (.inl (0, 0))) = mkE sz cA (shZ.getD 39 (.inl (0, 0))) := by
  show (Sum.inl (cA 0, 128, .inl (s0 38)) : va_E) = Sum.inl (cA 0, 128, .inl (fun _ => 0))
  rw [s0_zero (by omega) (by omega) (by omega)]
theorem pw39 : xE (G0 l D cA sz b).2.1 cA (s0 39) (x_sh.getD 39 (.inl (0, 0))) = mkE sz cA (shZ.getD 41 (.inl (0, 0))) := by
  show (Sum.inl (cA 0, 64, .inl (s0 39)) : va_E) = Sum.inl (cA 0, 64, .inl (fun _ => 0))
  rw [s0_zero (by omega) (by omega) (by omega)]
theorem pw40 : xE (G0 l D cA sz b).2.1 cA (s0 40) (x_sh.getD 40 (.inl (0, 0))) = mkE sz cA (shZ.getD 45 (.inl (0, 0))) := by
  show (Sum.inl (cA 0, 8, .inl (s0 40)) : va_E) = Sum.inl (cA 0, 8, .inl (fun _ => 0))
  rw [s0_zero (by omega) (by omega) (by omega)]
theorem pw41 : xE (G0 l D cA sz b).2.1 cA (s0 41) (x_sh.getD 41 (.inl (0, 0))) = mkE sz cA (shZ.getD 49 (.inl (0, 0))) := by
  show (Sum.inl (cA 0, 1280, .inl (s0 41)) : va_E) = Sum.inl (cA 0, 1280, .inl (fun _ => 0))
  rw [s0_zero (by omega) (by omega) (by omega)]
theorem pw42 : xE (G0 l D cA sz b).2.1 cA (s0 42) (x_sh.getD 42 (.inl (0, 0))) = mkE sz cA (shZ.getD 14 (.inl (0, 0))) := by
  show (Sum.inl (cA 0, 10, .inl (s0 42)) : va_E) = Sum.inl (cA 0, 10, .inl (fun _ => 0))
  rw [s0_zero (by omega) (by omega) (by omega)]
theorem pw43 : xE (G0 l D cA sz b).2.1 cA (s0 43) (x_sh.getD 43 (.inl (0, 0))) = mkE sz cA (shZ.getD 16 (.inl (0, 0))) := by
  show (Sum.inl (cA 0, 16, .inl (s0 43)) : va_E) = Sum.inl (cA 0, 16, .inl (fun _ => 0))
  rw [s0_zero (by omega) (by omega) (by omega)]
theorem pw44 : xE (G0 l D cA sz b).2.1 cA (s0 44) (x_sh.getD 44 (.inl (0, 0))) = mkE sz cA (shZ.getD 18 (.inl (0, 0))) := by
  show (Sum.inl (cA 0, 16, .inl (s0 44)) : va_E) = Sum.inl (cA 0, 16, .inl (fun _ => 0))
  rw [s0_zero (by omega) (by omega) (by omega)]
theorem pw45 : xE (G0 l D cA sz b).2.1 cA (s0 45) (x_sh.getD 45 (.inl (0, 0))) = mkE sz cA (shZ.getD 20 (.inl (0, 0))) := by
  show (Sum.inl (cA 0, 40, .inl (s0 45)) : va_E) = Sum.inl (cA 0, 40, .inl (fun _ => 0))
  rw [s0_zero (by omega) (by omega) (by omega)]
theorem pw46 : xE (G0 l D cA sz b).2.1 cA (s0 46) (x_sh.getD 46 (.inl (0, 0))) = mkE sz cA (shZ.getD 22 (.inl (0, 0))) := by
  show (Sum.inl (cA 0, 24, .inl (s0 46)) : va_E) = Sum.inl (cA 0, 24, .inl (fun _ => 0))
  rw [s0_zero (by omega) (by omega) (by omega)]
theorem pw47 : xE (G0 l D cA sz b).2.1 cA (s0 47) (x_sh.getD 47 (.inl (0, 0))) = mkE sz cA (shZ.getD 24 (.inl (0, 0))) := by
  show (Sum.inl (cA 0, 160, .inl (s0 47)) : va_E) = Sum.inl (cA 0, 160, .inl (fun _ => 0))
  rw [s0_zero (by omega) (by omega) (by omega)]
theorem pw48 : xE (G0 l D cA sz b).2.1 cA (s0 48) (x_sh.getD 48 (.inl (0, 0))) = mkE sz cA (shZ.getD 27 (.inl (0, 0))) := by
  show (Sum.inl (cA 0, 24, .inl (s0 48)) : va_E) = Sum.inl (cA 0, 24, .inl (fun _ => 0))
  rw [s0_zero (by omega) (by omega) (by omega)]
theorem pw49 : xE (G0 l D cA sz b).2.1 cA (s0 49) (x_sh.getD 49 (.inl (0, 0))) = mkE sz cA (shZ.getD 29 (.inl (0, 0))) := by
  show (Sum.inl (cA 0, 24, .inl (s0 49)) : va_E) = Sum.inl (cA 0, 24, .inl (fun _ => 0))
  rw [s0_zero (by omega) (by omega) (by omega)]
theorem pw50 : xE (G0 l D cA sz b).2.1 cA (s0 50) (x_sh.getD 50 (.inl (0, 0))) = mkE sz cA (shZ.getD 31 (.inl (0, 0))) := by
  show (Sum.inl (cA 0, 160, .inl (s0 50)) : va_E) = Sum.inl (cA 0, 160, .inl (fun _ => 0))
  rw [s0_zero (by omega) (by omega) (by omega)]
theorem pw51 : xE (G0 l D cA sz b).2.1 cA (s0 51) (x_sh.getD 51 (.inl (0, 0))) = mkE sz cA (shZ.getD 43 (.inl (0, 0))) := by
  show (Sum.inl (cA 0, 8, .inl (s0 51)) : va_E) = Sum.inl (cA 0, 8, .inl (fun _ => 0))
  rw [s0_zero (by omega) (by omega) (by omega)]
theorem pw52 : xE (G0 l D cA sz b).2.1 cA (s0 52) (x_sh.getD 52 (.inl (0, 0))) = mkE sz cA (shZ.getD 47 (.inl (0, 0))) := by
  show (Sum.inl (cA 0, 8, .inl (s0 52)) : va_E) = Sum.inl (cA 0, 8, .inl (fun _ => 0))
  rw [s0_zero (by omega) (by omega) (by omega)]
theorem pw53 : xE (G0 l D cA sz b).2.1 cA (s0 53) (x_sh.getD 53 (.inl (0, 0))) = mkE sz cA (shZ.getD 51 (.inl (0, 0))) := by
  show (Sum.inl (cA 0, 8, .inl (s0 53)) : va_E) = Sum.inl (cA 0, 8, .inl (fun _ => 0))
  rw [s0_zero (by omega) (by omega) (by omega)]
theorem pw54 : xE (G0 l D cA sz b).2.1 cA (s0 54) (x_sh.getD 54 (.inl (0, 0))) = mkE sz cA (shZ.getD 53 (.inl (0, 0))) := by
  show (Sum.inl (cA 0, 8, .inl (s0 54)) : va_E) = Sum.inl (cA 0, 8, .inl (fun _ => 0))
  rw [s0_zero (by omega) (by omega) (by omega)]
theorem pw55 : xE (G0 l D cA sz b).2.1 cA (s0 55) (x_sh.getD 55 (.inl (0, 0))) = mkE sz cA (shZ.getD 55 (.inl (0, 0))) := by
  show (Sum.inl (cA 1, 10, .inl (s0 55)) : va_E) = Sum.inl (cA 1, 10, .inl (fun _ => 0))
  rw [s0_zero (by omega) (by omega) (by omega)]
theorem pw56 : xE (G0 l D cA sz b).2.1 cA (s0 56) (x_sh.getD 56 (.inl (0, 0))) = mkE sz cA (shZ.getD 56 (.inl (0, 0))) := by
  show (Sum.inl (cA 0, 24, .inl (s0 56)) : va_E) = Sum.inl (cA 0, 24, .inl (fun _ => 0))
  rw [s0_zero (by omega) (by omega) (by omega)]
theorem pw57 : xE (G0 l D cA sz b).2.1 cA (s0 57) (x_sh.getD 57 (.inl (0, 0))) = mkE sz cA (shZ.getD 57 (.inl (0, 0))) := by
  show (Sum.inl (cA 1, 24, .inl (s0 57)) : va_E) = Sum.inl (cA 1, 24, .inl (fun _ => 0))
  rw [s0_zero (by omega) (by omega) (by omega)]
theorem pw58 : xE (G0 l D cA sz b).2.1 cA (s0 58) (x_sh.getD 58 (.inl (0, 0))) = mkE sz cA (shZ.getD 58 (.inl (0, 0))) := by
  show (Sum.inl (cA 0, 24, .inl (s0 58)) : va_E) = Sum.inl (cA 0, 24, .inl (fun _ => 0))
  rw [s0_zero (by omega) (by omega) (by omega)]
theorem pw59 : xE (G0 l D cA sz b).2.1 cA (s0 59) (x_sh.getD 59 (.inl (0, 0))) = mkE sz cA (shZ.getD 59 (.inl (0, 0))) := by
  show (Sum.inl (cA 0, 24, .inl (s0 59)) : va_E) = Sum.inl (cA 0, 24, .inl (fun _ => 0))
  rw [s0_zero (by omega) (by omega) (by omega)]
theorem pw60 : xE (G0 l D cA sz b).2.1 cA (s0 60) (x_sh.getD 60 (.inl (0, 0))) = mkE sz cA (shZ.getD 60 (.inl (0, 0))) := by
  show (Sum.inl (cA 0, 24, .inl (s0 60)) : va_E) = Sum.inl (cA 0, 24, .inl (fun _ => 0))
  rw [s0_zero (by omega) (by omega) (by omega)]
theorem pw61 : xE (G0 l D cA sz b).2.1 cA (s0 61) (x_sh.getD 61 (.inl (0, 0))) = mkE sz cA (shZ.getD 61 (.inl (0, 0))) := by
  show (Sum.inl (cA 1, 24, .inl (s0 61)) : va_E) = Sum.inl (cA 1, 24, .inl (fun _ => 0))
  rw [s0_zero (by omega) (by omega) (by omega)]
theorem pw62 : xE (G0 l D cA sz b).2.1 cA (s0 62) (x_sh.getD 62 (.inl (0, 0))) = mkE sz cA (shZ.getD 62 (.inl (0, 0))) := by
  show (Sum.inl (cA 0, 40, .inl (s0 62)) : va_E) = Sum.inl (cA 0, 40, .inl (fun _ => 0))
  rw [s0_zero (by omega) (by omega) (by omega)]
theorem pw63 : xE (G0 l D cA sz b).2.1 cA (s0 63) (x_sh.getD 63 (.inl (0, 0))) = mkE sz cA (shZ.getD 63 (.inl (0, 0))) := by
  show (Sum.inl (cA 0, 40, .inl (s0 63)) : va_E) = Sum.inl (cA 0, 40, .inl (fun _ => 0))
  rw [s0_zero (by omega) (by omega) (by omega)]
theorem pw64 : xE (G0 l D cA sz b).2.1 cA (s0 64) (x_sh.getD 64 (.inl (0, 0))) = mkE sz cA (shZ.getD 64 (.inl (0, 0))) := by
  show (Sum.inl (cA 0, 40, .inl (s0 64)) : va_E) = Sum.inl (cA 0, 40, .inl (fun _ => 0))
  rw [s0_zero (by omega) (by omega) (by omega)]
theorem pw65 : xE (G0 l D cA sz b).2.1 cA (s0 65) (x_sh.getD 65 (.inl (0, 0))) = mkE sz cA (shZ.getD 65 (.inl (0, 0))) := by
  show (Sum.inl (cA 2, 40, .inl (s0 65)) : va_E) = Sum.inl (cA 2, 40, .inl (fun _ => 0))
  rw [s0_zero (by omega) (by omega) (by omega)]
theorem pw66 : xE (G0 l D cA sz b).2.1 cA (s0 66) (x_sh.getD 66 (.inl (0, 0))) = mkE sz cA (shZ.getD 66 (.inl (0, 0))) := by
  show (Sum.inl (cA 0, 160, .inl (s0 66)) : va_E) = Sum.inl (cA 0, 160, .inl (fun _ => 0))
  rw [s0_zero (by omega) (by omega) (by omega)]
theorem pw67 : xE (G0 l D cA sz b).2.1 cA (s0 67) (x_sh.getD 67 (.inl (0, 0))) = mkE sz cA (shZ.getD 67 (.inl (0, 0))) := by
  show (Sum.inl (cA 0, 40, .inl (s0 67)) : va_E) = Sum.inl (cA 0, 40, .inl (fun _ => 0))
  rw [s0_zero (by omega) (by omega) (by omega)]
theorem pw68 : xE (G0 l D cA sz b).2.1 cA (s0 68) (x_sh.getD 68 (.inl (0, 0))) = mkE sz cA (shZ.getD 68 (.inl (0, 0))) := by
  show (Sum.inl (cA 0, 40, .inl (s0 68)) : va_E) = Sum.inl (cA 0, 40, .inl (fun _ => 0))
  rw [s0_zero (by omega) (by omega) (by omega)]
theorem pw69 : xE (G0 l D cA sz b).2.1 cA (s0 69) (x_sh.getD 69 (.inl (0, 0))) = mkE sz cA (shZ.getD 69 (.inl (0, 0))) := by
  show (Sum.inl (cA 0, 40, .inl (s0 69)) : va_E) = Sum.inl (cA 0, 40, .inl (fun _ => 0))
  rw [s0_zero (by omega) (by omega) (by omega)]
theorem pw70 : xE (G0 l D cA sz b).2.1 cA (s0 70) (x_sh.getD 70 (.inl (0, 0))) = mkE sz cA (shZ.getD 70 (.inl (0, 0))) := by
  show (Sum.inl (cA 2, 40, .inl (s0 70)) : va_E) = Sum.inl (cA 2, 40, .inl (fun _ => 0))
  rw [s0_zero (by omega) (by omega) (by omega)]
theorem pw71 : xE (G0 l D cA sz b).2.1 cA (s0 71) (x_sh.getD 71 (.inl (0, 0))) = mkE sz cA (shZ.getD 71 (.inl (0, 0))) := by
  show (Sum.inl (cA 1, 10, .inl (s0 71)) : va_E) = Sum.inl (cA 1, 10, .inl (fun _ => 0))
  rw [s0_zero (by omega) (by omega) (by omega)]
theorem pw72 : xE (G0 l D cA sz b).2.1 cA (s0 72) (x_sh.getD 72 (.inl (0, 0))) = mkE sz cA (shZ.getD 72 (.inl (0, 0))) := by
  show (Sum.inl (cA 0, 16, .inl (s0 72)) : va_E) = Sum.inl (cA 0, 16, .inl (fun _ => 0))
  rw [s0_zero (by omega) (by omega) (by omega)]
theorem pw73 : xE (G0 l D cA sz b).2.1 cA (s0 73) (x_sh.getD 73 (.inl (0, 0))) = mkE sz cA (shZ.getD 73 (.inl (0, 0))) := by
  show (Sum.inl (cA 0, 40, .inl (s0 73)) : va_E) = Sum.inl (cA 0, 40, .inl (fun _ => 0))
  rw [s0_zero (by omega) (by omega) (by omega)]
theorem pw74 : xE (G0 l D cA sz b).2.1 cA (s0 74) (x_sh.getD 74 (.inl (0, 0))) = mkE sz cA (shZ.getD 74 (.inl (0, 0))) := by
  show (Sum.inl (cA 1, 24, .inl (s0 74)) : va_E) = Sum.inl (cA 1, 24, .inl (fun _ => 0))
  rw [s0_zero (by omega) (by omega) (by omega)]
theorem pw75 : xE (G0 l D cA sz b).2.1 cA (s0 75) (x_sh.getD 75 (.inl (0, 0))) = mkE sz cA (shZ.getD 75 (.inl (0, 0))) := by
  show (Sum.inl (cA 1, 160, .inl (s0 75)) : va_E) = Sum.inl (cA 1, 160, .inl (fun _ => 0))
  rw [s0_zero (by omega) (by omega) (by omega)]
theorem pw76 : xE (G0 l D cA sz b).2.1 cA (s0 76) (x_sh.getD 76 (.inl (0, 0))) = mkE sz cA (shZ.getD 76 (.inl (0, 0))) := by
  show (Sum.inl (cA 0, 24, .inl (s0 76)) : va_E) = Sum.inl (cA 0, 24, .inl (fun _ => 0))
  rw [s0_zero (by omega) (by omega) (by omega)]
theorem pw77 : xE (G0 l D cA sz b).2.1 cA (s0 77) (x_sh.getD 77 (.inl (0, 0))) = mkE sz cA (shZ.getD 77 (.inl (0, 0))) := by
  show (Sum.inl (cA 0, 24, .inl (s0 77)) : va_E) = Sum.inl (cA 0, 24, .inl (fun _ => 0))
  rw [s0_zero (by omega) (by omega) (by omega)]
theorem pw78 : xE (G0 l D cA sz b).2.1 cA (s0 78) (x_sh.getD 78 (.inl (0, 0))) = mkE sz cA (shZ.getD 78 (.inl (0, 0))) := by
  show (Sum.inl (cA 0, 160, .inl (s0 78)) : va_E) = Sum.inl (cA 0, 160, .inl (fun _ => 0))
  rw [s0_zero (by omega) (by omega) (by omega)]
theorem pw79 : xE (G0 l D cA sz b).2.1 cA (s0 79) (x_sh.getD 79 (.inl (0, 0))) = mkE sz cA (shZ.getD 79 (.inl (0, 0))) := by
  show (Sum.inl (cA 0, 40, .inl (s0 79)) : va_E) = Sum.inl (cA 0, 40, .inl (fun _ => 0))
  rw [s0_zero (by omega) (by omega) (by omega)]
theorem pw80 : xE (G0 l D cA sz b).2.1 cA (s0 80) (x_sh.getD 80 (.inl (0, 0))) = mkE sz cA (shZ.getD 80 (.inl (0, 0))) := by
  show (Sum.inl (cA 0, 24, .inl (s0 80)) : va_E) = Sum.inl (cA 0, 24, .inl (fun _ => 0))
  rw [s0_zero (by omega) (by omega) (by omega)]
theorem pw81 : xE (G0 l D cA sz b).2.1 cA (s0 81) (x_sh.getD 81 (.inl (0, 0))) = mkE sz cA (shZ.getD 81 (.inl (0, 0))) := by
  show (Sum.inl (cA 0, 128, .inl (s0 81)) : va_E) = Sum.inl (cA 0, 128, .inl (fun _ => 0))
  rw [s0_zero (by omega) (by omega) (by omega)]
theorem pw82 : xE (G0 l D cA sz b).2.1 cA (s0 82) (x_sh.getD 82 (.inl (0, 0))) = mkE sz cA (shZ.getD 82 (.inl (0, 0))) := by
  show (Sum.inl (cA 1, 64, .inl (s0 82)) : va_E) = Sum.inl (cA 1, 64, .inl (fun _ => 0))
  rw [s0_zero (by omega) (by omega) (by omega)]
theorem pw83 : xE (G0 l D cA sz b).2.1 cA (s0 83) (x_sh.getD 83 (.inl (0, 0))) = mkE sz cA (shZ.getD 83 (.inl (0, 0))) := by
  show (Sum.inl (cA 0, 8, .inl (s0 83)) : va_E) = Sum.inl (cA 0, 8, .inl (fun _ => 0))
  rw [s0_zero (by omega) (by omega) (by omega)]
theorem pw84 : xE (G0 l D cA sz b).2.1 cA (s0 84) (x_sh.getD 84 (.inl (0, 0))) = mkE sz cA (shZ.getD 84 (.inl (0, 0))) := by
  show (Sum.inl (cA 0, 8, .inl (s0 84)) : va_E) = Sum.inl (cA 0, 8, .inl (fun _ => 0))
  rw [s0_zero (by omega) (by omega) (by omega)]
theorem pw85 : xE (G0 l D cA sz b).2.1 cA (s0 85) (x_sh.getD 85 (.inl (0, 0))) = mkE sz cA (shZ.getD 85 (.inl (0, 0))) := by
  show (Sum.inl (cA 1, 8, .inl (s0 85)) : va_E) = Sum.inl (cA 1, 8, .inl (fun _ => 0))
  rw [s0_zero (by omega) (by omega) (by omega)]
theorem pw86 : xE (G0 l D cA sz b).2.1 cA (s0 86) (x_sh.getD 86 (.inl (0, 0))) = mkE sz cA (shZ.getD 86 (.inl (0, 0))) := by
  show (Sum.inl (cA 0, 1280, .inl (s0 86)) : va_E) = mkE sz cA (.inl (3 + 1280, 1280))
  rw [mkE_3, s0_86]
theorem pw87 : xE (G0 l D cA sz b).2.1 cA (s0 87) (x_sh.getD 87 (.inl (0, 0))) = mkE sz cA (shZ.getD 87 (.inl (0, 0))) := by
  show (Sum.inl (cA 0, 8, .inl (s0 87)) : va_E) = Sum.inl (cA 0, 8, .inl (fun _ => 0))
  rw [s0_zero (by omega) (by omega) (by omega)]
theorem pw88 : xE (G0 l D cA sz b).2.1 cA (s0 88) (x_sh.getD 88 (.inl (0, 0))) = mkE sz cA (shZ.getD 88 (.inl (0, 0))) := by
  show (Sum.inl (cA 1, 8, .inl (s0 88)) : va_E) = Sum.inl (cA 1, 8, .inl (fun _ => 0))
  rw [s0_zero (by omega) (by omega) (by omega)]
end S99m
