/-! the state of the yard as numbers; what the class's and the reference's cells hold of it; what each call does -/
section S59
variable {G : XG} {d : Nat} {σ τ ρ : Sg} {M N : YM} {T A P : Nat → Bool} {il : Nat → Nat} {L : Nat}
/-- inputs, libraries, the rooms and the reach, the root of the link, refusals -/
abbrev YS : Type := YM × YM × (Nat × Nat × Nat) × Option Nat × Int32
abbrev kT (M : YM) (root : Nat) : Nat → Bool := yT M root
abbrev kA (M : YM) (root : Nat) : Nat → Bool := yLv M (kT M root) root
abbrev kP (M : YM) (root : Nat) : Nat → Bool := yLaid M (kT M root) (kA M root)
abbrev kI (M : YM) (root re : Nat) : Nat → Nat := yIL M (kT M root) (kA M root) (kP M root) re
abbrev kL (M : YM) (root re : Nat) : Nat := yIN M (kT M root) (kA M root) (kP M root) re
/-- the class holds this link -/
def CK (σ : Sg) (M : YM) (root re : Nat) : Prop := CX σ M (kT M root) (kA M root) (kP M root) (kI M root re) (kL M root re) ∧ σ 2 7 = gC M (yStand M (kT M root) root)
/-- the reference holds this link -/
def MK (σ : Sg) (M : YM) (root re : Nat) : Prop := (MT σ M (kT M root) ∧ MS σ M (kT M root) ∧ MG σ M (kT M root) ∧ ML σ M (kA M root) ∧ MF σ M (kT M root) (kA M root) ∧ MIs σ M (kI M root re) (kL M root re) ∧ MLay σ M (kT M root) (kA M root) (kP M root) (kI M root re) (kL M root re)) ∧ σ 30 24 = nI root ∧ σ 30 37 = nI (yPerf M (kT M root) (kA M root) root false).1 ∧ σ 30 38 = nI (yPerf M (kT M root) (kA M root) root false).2
/-- the link is one -/
def WK (M : YM) (root re : Nat) : Prop := root < 16 ∧ LKP M (kT M root) (kA M root) (kP M root) (kI M root re) (kL M root re) ∧ gLv M (kA M root) (yStand M (kT M root) root) = true
def ZC (σ : Sg) (S : YS) : Prop := (CI σ S.1 ∧ LI σ S.2.1) ∧ (σ 0 5 = nI S.2.2.1.1 ∧ σ 0 6 = nI S.2.2.1.2.1 ∧ σ 0 7 = nI S.2.2.1.2.2 ∧ σ 0 8 = b2i S.2.2.2.1.isSome ∧ σ 0 9 = S.2.2.2.2) ∧ (∃ n, n ≤ 40 ∧ σ 11 3 = nI n) ∧ CZr σ S.1 ∧ ∀ root, S.2.2.2.1 = some root → CK σ S.1 root S.2.2.1.2.2
/-- the reference's libraries -/
def MN (σ : Sg) (N : YM) : Prop := (σ 30 45 = nI (nL N) ∧ σ 30 43 = nI (nSt N)) ∧ (∀ z, z < 128 → σ 81 z = nI (N 38 z)) ∧ (∀ z, z < 64 → σ 82 z = b2i (N 39 z == 1)) ∧ (∀ j, j < 8 → σ 83 j = nI (N 51 j)) ∧ (∀ k, k < nSt N → σ 84 k = nI (N 40 k)) ∧ (∀ j, j < 8 → σ 85 j = b2i (N 52 j == 1)) ∧ ∀ z, z < 1280 → σ 86 z = pI (N 41 z)
def ZM (σ : Sg) (S : YS) : Prop := (MI σ S.1 ∧ MN σ S.2.1) ∧ (σ 30 20 = nI S.2.2.1.1 ∧ σ 30 21 = nI S.2.2.1.2.1 ∧ σ 30 22 = nI S.2.2.1.2.2 ∧ σ 30 23 = b2i S.2.2.2.1.isSome ∧ σ 30 49 = S.2.2.2.2) ∧ ∀ root, S.2.2.2.1 = some root → MK σ S.1 root S.2.2.1.2.2
def ZW (S : YS) (B : Nat) : Prop := (WF S.1 ∧ WX S.1) ∧ WL S.2.1 B ∧ ((1 ≤ S.2.2.1.1 ∧ S.2.2.1.1 ≤ 999) ∧ (1 ≤ S.2.2.1.2.1 ∧ S.2.2.1.2.1 ≤ 999) ∧ (80 ≤ S.2.2.1.2.2 ∧ S.2.2.1.2.2 ≤ 999)) ∧ ∀ root, S.2.2.2.1 = some root → WK S.1 root S.2.2.1.2.2
/-- only the class's cells, only the reference's have changed -/
def xcls (σ τ : Sg) : Prop := ∀ r, r = 30 ∨ 54 < r → τ r = σ r
def xmod (σ τ : Sg) : Prop := ∀ r, r ≠ 30 → r < 55 → τ r = σ r
theorem xcls.of {l : List Nat} (h : xsame l σ τ) (hl : l.all (fun r => !(r == 30) && decide (r < 55)) = true) : xcls σ τ := fun r hr => h r (fun z => by
  have := List.all_eq_true.mp hl r z
  simp at this
  omega)
theorem xmod.of {l js : List Nat} (h : xs30 js l σ τ) (hl : l.all (fun r => decide (54 < r)) = true) : xmod σ τ := fun r h30 h55 => h.1 r h30 (fun z => by
  have := List.all_eq_true.mp hl r z
  simp at this
  omega)
theorem xcls.rf : xcls σ σ := fun _ _ => rfl
theorem xmod.rf : xmod σ σ := fun _ _ _ => rfl
theorem ZC.mod {S : YS} (h : ZC σ S) (hs : xmod σ τ) : ZC τ S := by
  have e : ∀ r, r ≠ 30 → r < 55 → τ r = σ r := hs
  unfold ZC CI LI CZr CK CX CI CT CS CG CL CD CIs CLay at *
  obtain ⟨⟨h1, h2⟩, h3, h4, h5, h6⟩ := h
  rw [e 0 (by omega) (by omega), e 11 (by omega) (by omega), e 2 (by omega) (by omega), e 3 (by omega) (by omega), e 32 (by omega) (by omega), e 36 (by omega) (by omega), e 42 (by omega) (by omega), e 44 (by omega) (by omega), e 45 (by omega) (by omega), e 46 (by omega) (by omega), e 47 (by omega) (by omega), e 48 (by omega) (by omega), e 49 (by omega) (by omega), e 50 (by omega) (by omega)]
  have hI : (∀ k, k < 5 → τ (6 + k) 3 = nI (S.1 90 k)) ∧ ∀ k, k < 5 → ∀ j, j < S.1 90 k → ∀ c, c < xwid k → τ (31 + k) (j * xwid k + c) = nI (S.1 (10 * k + c) j) := ⟨fun k hk => by rw [e _ (by omega) (by omega)]; exact h1.1 k hk, fun k hk j hj c hc => by rw [e _ (by omega) (by omega)]; exact h1.2 k hk j hj c hc⟩
  refine ⟨⟨hI, fun c i hc => ?_⟩, h3, h4, h5, fun root hroot => ?_⟩
  · have hcl : c ≠ 30 ∧ c < 55 := by
      unfold libc at hc
      split at hc <;> first | (constructor <;> omega) | cases hc
    rw [e c hcl.1 hcl.2]
    exact h2 c i hc
  · obtain ⟨⟨g1, g2⟩, g3⟩ := h6 root hroot
    exact ⟨⟨hI, g2⟩, g3⟩
theorem ZM.cls {S : YS} (h : ZM σ S) (hs : xcls σ τ) : ZM τ S := by
  have e : ∀ r, r = 30 ∨ 54 < r → τ r = σ r := hs
  unfold ZM MI MN MK MT MS MG ML MF MIs MLay at *
  rw [e 30 (by omega), e 55 (by omega), e 56 (by omega), e 57 (by omega), e 58 (by omega), e 59 (by omega), e 60 (by omega), e 61 (by omega), e 62 (by omega), e 63 (by omega), e 64 (by omega), e 65 (by omega), e 66 (by omega), e 67 (by omega), e 68 (by omega), e 69 (by omega), e 70 (by omega), e 71 (by omega), e 72 (by omega), e 73 (by omega), e 74 (by omega), e 75 (by omega), e 76 (by omega), e 77 (by omega), e 78 (by omega), e 79 (by omega), e 80 (by omega), e 81 (by omega), e 82 (by omega), e 83 (by omega), e 84 (by omega), e 85 (by omega), e 86 (by omega)]
  exact h
/-- a number that is one of n -/
def rng (x : Int32) (n : Nat) : Option Nat := if 0 ≤ x ∧ x < nI n then some x.toNatClampNeg else none
def ivl (x : Int32) (a b : Nat) : Option Nat := if nI a ≤ x ∧ x ≤ nI b then some x.toNatClampNeg else none
theorem rng_cases {x : Int32} {n : Nat} (hn : n < 2 ^ 31) : (rng x n = none ∧ ¬ (0 ≤ x ∧ x < nI n)) ∨ ∃ j, j < n ∧ x = nI j ∧ rng x n = some j := by
  unfold rng
  by_cases h : 0 ≤ x ∧ x < nI n
  · right
    obtain ⟨j, hj, rfl⟩ := nI_of (x := x) (Int32.not_lt.mpr h.1)
    refine ⟨j, (nI_ltI hj hn).mp h.2, rfl, ?_⟩
    rw [if_pos h, nI_clamp hj]
  · exact Or.inl ⟨if_neg h, h⟩
theorem ivl_cases {x : Int32} {a b : Nat} (ha : a < 2 ^ 31) (hb : b < 2 ^ 31) : (ivl x a b = none ∧ ¬ (nI a ≤ x ∧ x ≤ nI b)) ∨ ∃ j, (a ≤ j ∧ j ≤ b) ∧ x = nI j ∧ ivl x a b = some j := by
  unfold ivl
  by_cases h : nI a ≤ x ∧ x ≤ nI b
  · right
    have h0 : ¬ x < 0 := by
      have h1 := h.1
      rw [Int32.le_iff_toInt_le, nI_toInt ha] at h1
      rw [Int32.lt_iff_toInt_lt]
      have : (0 : Int32).toInt = 0 := by decide
      omega
    obtain ⟨j, hj, rfl⟩ := nI_of h0
    refine ⟨j, ⟨(nI_leI ha hj).mp h.1, (nI_leI hj hb).mp h.2⟩, rfl, ?_⟩
    rw [if_pos h, nI_clamp hj]
  · exact Or.inl ⟨if_neg h, h⟩
theorem rng_some {x : Int32} {n : Nat} : (rng x n).isSome = decide (0 ≤ x ∧ x < nI n) := by
  unfold rng
  split
  · next h => rw [decide_eq_true h]; rfl
  · next h => rw [decide_eq_false h]; rfl
theorem ivl_some {x : Int32} {a b : Nat} : (ivl x a b).isSome = decide (nI a ≤ x ∧ x ≤ nI b) := by
  unfold ivl
  split
  · next h => rw [decide_eq_true h]; rfl
  · next h => rw [decide_eq_false h]; rfl
def algn (a : Int32) : Option Nat := if a = 1 ∨ a = 2 ∨ a = 4 ∨ a = 8 ∨ a = 16 then some a.toNatClampNeg else none
theorem algn_cases {a : Int32} : (algn a = none ∧ ¬ (a = 1 ∨ a = 2 ∨ a = 4 ∨ a = 8 ∨ a = 16)) ∨ ∃ j, (j = 1 ∨ j = 2 ∨ j = 4 ∨ j = 8 ∨ j = 16) ∧ a = nI j ∧ algn a = some j := by
  unfold algn
  by_cases h : a = 1 ∨ a = 2 ∨ a = 4 ∨ a = 8 ∨ a = 16
  · right
    rw [if_pos h]
    rcases h with rfl | rfl | rfl | rfl | rfl
    · exact ⟨1, by omega, rfl, by decide⟩
    · exact ⟨2, by omega, rfl, by decide⟩
    · exact ⟨4, by omega, rfl, by decide⟩
    · exact ⟨8, by omega, rfl, by decide⟩
    · exact ⟨16, by omega, rfl, by decide⟩
  · exact Or.inl ⟨if_neg h, h⟩
/-- what a call does: which of its exceptions (0: none), its answer, the state then -/
abbrev YO : Type := Nat × Int32 × YS
def unl (S : YS) (M : YM) : YS := (M, S.2.1, S.2.2.1, none, S.2.2.2.2)
def lib (S : YS) (N : YM) : YS := (S.1, N, S.2.2)
def oObj (S : YS) (b : Bool) : YO := if 10 ≤ nO S.1 then (1, 0, S) else (0, nI (nO S.1), unl S (yAdd S.1 0 (fun _ => if b = true then 1 else 0)))
def oSec (S : YS) (o : Int32) (cb : Bool) (z a t : Int32) (kb : Bool) : YO := match rng o (nO S.1) with
  | none => (1, 0, S)
  | some o => match ivl z 1 64, algn a, ivl t 0 999 with
    | some z, some a, some t => if 24 ≤ nS S.1 then (3, 0, S) else (0, nI (nS S.1), unl S (yAdd S.1 1 (vSec o cb z a t kb)))
    | _, _, _ => (2, 0, S)
def oDef (S : YS) (s n f : Int32) (c : Nat) : YO := match rng s (nS S.1) with
  | none => (1, 0, S)
  | some s => match rng n 16, rng f (ySZ S.1 s), decide (c = 115 ∨ c = 119 ∨ c = 108) with
    | some n, some f, true => if 40 ≤ nD S.1 ∨ anyB (fun j => yDS S.1 j == s && yDN S.1 j == n) (nD S.1) = true then (3, 0, S) else (0, nI (1 + yCount (fun j => yDN S.1 j == n) (nD S.1)), unl S (yAdd S.1 2 (vDef s n f c (ySO S.1 s))))
    | _, _, _ => (2, 0, S)
def oCom (S : YS) (o n z : Int32) : YO := match rng o (nO S.1) with
  | none => (1, 0, S)
  | some o => match rng n 16, ivl z 1 64 with
    | some n, some z => if 0 < yCM S.1 o n then (3, 0, S) else (0, nI (yCount (fun k => decide (0 < yCM (yAddC S.1 o n z) k n)) (nO S.1)), unl S (yAddC S.1 o n z))
    | _, _ => (2, 0, S)
def oRef (S : YS) (s f n : Int32) (c : Nat) : YO := match rng s (nS S.1) with
  | none => (1, 0, S)
  | some s => match rng f (ySZ S.1 s), rng n 16, decide (c = 99 ∨ c = 97) with
    | some f, some n, true => if 40 ≤ nR S.1 ∨ anyB (fun r => yRS S.1 r == s && yRF S.1 r == f) (nR S.1) = true ∨ 4 ≤ yCount (fun r => yRS S.1 r == s) (nR S.1) then (3, 0, S) else (0, nI (nR S.1), unl S (yAdd S.1 4 (vRef s f n c)))
    | _, _, _ => (2, 0, S)
def oRms (S : YS) (c e : Int32) : YO := match ivl c 1 999, ivl e 1 999 with
  | some c, some e => (0, nI S.2.2.1.1, (S.1, S.2.1, (c, e, S.2.2.1.2.2), none, S.2.2.2.2))
  | _, _ => (1, 0, S)
def oRch (S : YS) (r : Int32) : YO := match ivl r 80 999 with
  | some r => (0, nI S.2.2.1.2.2, (S.1, S.2.1, (S.2.2.1.1, S.2.2.1.2.1, r), none, S.2.2.2.2))
  | none => (1, 0, S)
def yLnk (M : YM) (cr dr re root : Nat) : Int32 :=
  if yDbl M (kT M root) = true then 100 else if yLack M (kT M root) root (kA M root) = true then 117 else
  if cr < ySecAt M (kP M root) (kI M root re) (kL M root re) true (nS M) ∨ 1000 + dr < yComAt M (kT M root) (kA M root) (ySecAt M (kP M root) (kI M root re) (kL M root re) false (nS M)) 16 then 114 else 45
def oLnk (S : YS) (r : Int32) : YO := match rng r 16 with
  | none => (1, 0, S)
  | some root => (0, yLnk S.1 S.2.2.1.1 S.2.2.1.2.1 S.2.2.1.2.2 root, (S.1, S.2.1, S.2.2.1, if yLnk S.1 S.2.2.1.1 S.2.2.1.2.1 S.2.2.1.2.2 root = 45 then some root else none, S.2.2.2.2))
/-- a question about a link: the number tested, then the link, then a case of its own -/
def oAsk (S : YS) (x : Option Nat) (k : Nat → Nat → Option Int32) : YO := match x with
  | none => (1, 0, S)
  | some j => match S.2.2.2.1 with
    | none => (2, 0, S)
    | some root => match k root j with
      | none => (3, 0, S)
      | some v => (0, v, S)
def oAsk0 (S : YS) (k : Nat → Int32) : YO := match S.2.2.2.1 with
  | none => (1, 0, S)
  | some root => (0, k root, S)
def oTak (S : YS) (o : Int32) : YO := oAsk S (rng o (nO S.1)) (fun root o => some (b2i (kT S.1 root o)))
def oFat (S : YS) (s : Int32) : YO := oAsk S (rng s (nS S.1)) (fun root s => some (if kA S.1 root s = true then (if kP S.1 root s = true then 108 else 102) else 120))
def oAdr (S : YS) (s : Int32) : YO := oAsk S (rng s (nS S.1)) (fun root s => if kA S.1 root s = true then some (nI (yAdr S.1 (kP S.1 root) (kI S.1 root S.2.2.1.2.2) (kL S.1 root S.2.2.1.2.2) (yHome S.1 (kT S.1 root) (kA S.1 root) s))) else none)
def oAof (S : YS) (n : Int32) : YO := oAsk S (rng n 16) (fun root n => if gLv S.1 (kA S.1 root) (yStand S.1 (kT S.1 root) n) = true then some (nI (yGoS S.1 (kT S.1 root) (kA S.1 root) (kP S.1 root) (kI S.1 root S.2.2.1.2.2) (kL S.1 root S.2.2.1.2.2) (yStand S.1 (kT S.1 root) n))) else none)
def oTgt (S : YS) (r : Int32) : YO := oAsk S (rng r (nR S.1)) (fun root r => if kA S.1 root (yRS S.1 r) = true then some (oI (yKept S.1 (kT S.1 root) (kA S.1 root) (yGoal S.1 (kT S.1 root) r))) else none)
def oVal (S : YS) (r : Int32) : YO := oAsk S (rng r (nR S.1)) (fun root r => if kP S.1 root (yRS S.1 r) = true then some (yVal S.1 (kT S.1 root) (kA S.1 root) (kP S.1 root) (kI S.1 root S.2.2.1.2.2) (kL S.1 root S.2.2.1.2.2) r) else none)
def oHis (S : YS) (r : Int32) : YO := oAsk S (rng r (nR S.1)) (fun root r => some (b2i (yIsl (kI S.1 root S.2.2.1.2.2) (kL S.1 root S.2.2.1.2.2) r).isSome))
def oIsl (S : YS) : YO := oAsk0 S (fun root => nI (kL S.1 root S.2.2.1.2.2))
def oCEn (S : YS) : YO := oAsk0 S (fun root => nI (ySecAt S.1 (kP S.1 root) (kI S.1 root S.2.2.1.2.2) (kL S.1 root S.2.2.1.2.2) true (nS S.1)))
def oDEn (S : YS) : YO := oAsk0 S (fun root => nI (yComAt S.1 (kT S.1 root) (kA S.1 root) (ySecAt S.1 (kP S.1 root) (kI S.1 root S.2.2.1.2.2) (kL S.1 root S.2.2.1.2.2) false (nS S.1)) 16))
def ySm (S : YS) (root : Nat) : Int64 := ySum S.1 (kT S.1 root) (kA S.1 root) (kP S.1 root) (kI S.1 root S.2.2.1.2.2) (kL S.1 root S.2.2.1.2.2) (nR S.1)
def oRun (S : YS) : YO := oAsk0 S (fun root => nI (yPerf S.1 (kT S.1 root) (kA S.1 root) root false).1)
def oStp (S : YS) : YO := oAsk0 S (fun root => nI (yPerf S.1 (kT S.1 root) (kA S.1 root) root false).2)
def oSnd (S : YS) : YO := oAsk0 S (fun _ => 1)
def oLib (S : YS) : YO := if 8 ≤ nL S.2.1 then (1, 0, S) else (0, nI (nL S.2.1), lib S (yU S.2.1 13 3 (nL S.2.1 + 1)))
def oPrv (S : YS) (l n v : Int32) : YO := match rng l (nL S.2.1) with
  | none => (1, 0, S)
  | some l => match rng n 16, ivl v 1 9 with
    | some n, some v => if yLd S.2.1 l = true then (3, 0, S) else (0, nI (S.2.1 38 (l * 16 + n)), lib S (yU S.2.1 38 (l * 16 + n) v))
    | _, _ => (2, 0, S)
def oNed (S : YS) (l o : Int32) : YO := match rng l (nL S.2.1), rng o (nL S.2.1) with
  | some l, some o => if l = o then (2, 0, S) else if yLd S.2.1 l = true then (3, 0, S) else if yNd S.2.1 l o = true then (4, 0, S) else (0, nI (yCount (yNd (yU S.2.1 39 (l * 8 + o) 1) l) (nL S.2.1)), lib S (yU S.2.1 39 (l * 8 + o) 1))
  | _, _ => (1, 0, S)
def oLod (S : YS) (l : Int32) : YO := match rng l (nL S.2.1) with
  | none => (1, 0, S)
  | some l => (0, nI (nSt (yLoad S.2.1 l) - nSt S.2.1), lib S (yLoad S.2.1 l))
def oUnl (S : YS) (l : Int32) : YO := match rng l (nL S.2.1) with
  | none => (1, 0, S)
  | some l => if S.2.1 51 l = 0 then (2, 0, S) else if anyB (yLvP (yPlan S.2.1 l).1) 1280 = true then (3, 0, lib S (yPlan S.2.1 l).1) else (0, nI (yPlan S.2.1 l).2, lib S (yCarry (yPlan S.2.1 l).1))
def oCnt (S : YS) (l : Int32) : YO := match rng l (nL S.2.1) with
  | none => (1, 0, S)
  | some l => (0, nI (S.2.1 51 l), S)
def oLat (S : YS) (p : Int32) : YO := match rng p (nSt S.2.1) with
  | none => (1, 0, S)
  | some p => (0, nI (S.2.1 40 p), S)
def oBnd (S : YS) (l n v : Int32) : YO := match rng l (nL S.2.1) with
  | none => (1, 0, S)
  | some l => match rng n 16, ivl v 1 9 with
    | some n, some v => if yLd S.2.1 l = true then (if 0 < S.2.1 41 ((l * 16 + n) * 10 + v) then (0, nI (S.2.1 41 ((l * 16 + n) * 10 + v) - 1), S) else match yFp S.2.1 n v with
        | none => (4, 0, S)
        | some p => (0, nI p, lib S (yU S.2.1 41 ((l * 16 + n) * 10 + v) (p + 1)))) else (3, 0, S)
    | _, _ => (2, 0, S)
def oBds (S : YS) : YO := (0, nI (yCount (fun z => decide (0 < S.2.1 41 z)) 1280), S)
def oTel (S : YS) (b : Bool) : YO := (0, (if b = true then S.2.2.2.2 else S.2.2.2.2 + 1), (S.1, S.2.1, S.2.2.1, S.2.2.2.1, (if b = true then S.2.2.2.2 else S.2.2.2.2 + 1)))
end S59
