/-! what every call keeps -/
section S98
variable {G : XG} {d : Nat} {σ τ ρ : Sg} {M N : YM} {B : Nat} {S : YS}
theorem WL.mono {B' : Nat} (w : WL N B) (h : B ≤ B') : WL N B' := by
  obtain ⟨w1, w2, w3, w4⟩ := w
  exact ⟨w1, w2, fun j => Nat.le_trans (w3 j) h, w4⟩
theorem ZW.mono {B' : Nat} (w : ZW S B) (h : B ≤ B') : ZW S B' := ⟨w.1, w.2.1.mono h, w.2.2.1, w.2.2.2⟩
theorem W_unl {M' : YM} (w : ZW S B) (h : WF M' ∧ WX M') : ZW (unl S M') B := ⟨h, w.2.1, w.2.2.1, fun r h => by cases h⟩
theorem W_lib {N' : YM} {B' : Nat} (w : ZW S B) (h : WL N' B') : ZW (lib S N') B' := ⟨w.1, h, w.2.2.1, w.2.2.2⟩
theorem W_oObj {b : Bool} (w : ZW S B) : ZW (oObj S b).2.2 (B + 9) := by
  refine ZW.mono (B := B) ?_ (by omega)
  unfold oObj
  split
  · exact w
  · next h => exact W_unl w (W_addObj w.1.1 w.1.2 (by omega) (by split <;> omega))
theorem W_oSec {x zz a t : Int32} {cb kb : Bool} (w : ZW S B) : ZW (oSec S x cb zz a t kb).2.2 (B + 9) := by
  refine ZW.mono (B := B) ?_ (by omega)
  have b := w.1.1.1
  rcases rng_cases (x := x) (n := nO S.1) (by omega) with ⟨hr, -⟩ | ⟨j, hj, rfl, hr⟩
  · simp only [oSec, hr]; exact w
  · rcases ivl_cases (x := zz) (a := 1) (b := 64) (by omega) (by omega) with ⟨hz, -⟩ | ⟨zj, hzj, rfl, hz⟩
    · simp only [oSec, hr, hz]; exact w
    · rcases algn_cases (a := a) with ⟨ha, -⟩ | ⟨aj, haj, rfl, ha⟩
      · simp only [oSec, hr, hz, ha]; exact w
      · rcases ivl_cases (x := t) (a := 0) (b := 999) (by omega) (by omega) with ⟨ht, -⟩ | ⟨tj, htj, rfl, ht⟩
        · simp only [oSec, hr, hz, ha, ht]; exact w
        · simp only [oSec, hr, hz, ha, ht]
          split
          · exact w
          · exact W_unl w (W_addSec w.1.1 w.1.2 (by omega) hj hzj haj htj.2)
theorem W_oDef {x n f : Int32} {c : Nat} (w : ZW S B) : ZW (oDef S x n f c).2.2 (B + 9) := by
  refine ZW.mono (B := B) ?_ (by omega)
  have b := w.1.1.1
  rcases rng_cases (x := x) (n := nS S.1) (by omega) with ⟨hr, -⟩ | ⟨j, hj, rfl, hr⟩
  · simp only [oDef, hr]; exact w
  · have hsz := (w.1.1.2.2.1 j hj).2.2.1
    rcases rng_cases (x := n) (n := 16) (by omega) with ⟨hn, -⟩ | ⟨nj, hnj, rfl, hn⟩
    · simp only [oDef, hr, hn]; exact w
    · rcases rng_cases (x := f) (n := ySZ S.1 j) (by omega) with ⟨hf, -⟩ | ⟨fj, hfj, rfl, hf⟩
      · simp only [oDef, hr, hn, hf]; exact w
      · cases hx : decide (c = 115 ∨ c = 119 ∨ c = 108) with
        | false => simp only [oDef, hr, hn, hf, hx]; exact w
        | true =>
          simp only [oDef, hr, hn, hf, hx]
          split
          · exact w
          · next hno =>
            refine W_unl w (W_addDef w.1.1 w.1.2 (by omega) hj hnj hfj (of_decide_eq_true hx) (fun q hq hh => hno (Or.inr (anyB_iff.mpr ⟨q, hq, by rw [hh.1, hh.2]; simp⟩))))
theorem W_oCom {x n zz : Int32} (w : ZW S B) : ZW (oCom S x n zz).2.2 (B + 9) := by
  refine ZW.mono (B := B) ?_ (by omega)
  have b := w.1.1.1
  rcases rng_cases (x := x) (n := nO S.1) (by omega) with ⟨hr, -⟩ | ⟨j, hj, rfl, hr⟩
  · simp only [oCom, hr]; exact w
  · rcases rng_cases (x := n) (n := 16) (by omega) with ⟨hn, -⟩ | ⟨nj, hnj, rfl, hn⟩
    · simp only [oCom, hr, hn]; exact w
    · rcases ivl_cases (x := zz) (a := 1) (b := 64) (by omega) (by omega) with ⟨hz, -⟩ | ⟨zj, hzj, rfl, hz⟩
      · simp only [oCom, hr, hn, hz]; exact w
      · simp only [oCom, hr, hn, hz]
        split
        · exact w
        · exact W_unl w (W_addCom w.1.1 w.1.2 hj hnj hzj (by omega))
theorem W_oRef {x f n : Int32} {c : Nat} (w : ZW S B) : ZW (oRef S x f n c).2.2 (B + 9) := by
  refine ZW.mono (B := B) ?_ (by omega)
  have b := w.1.1.1
  rcases rng_cases (x := x) (n := nS S.1) (by omega) with ⟨hr, -⟩ | ⟨j, hj, rfl, hr⟩
  · simp only [oRef, hr]; exact w
  · have hsz := (w.1.1.2.2.1 j hj).2.2.1
    rcases rng_cases (x := f) (n := ySZ S.1 j) (by omega) with ⟨hf, -⟩ | ⟨fj, hfj, rfl, hf⟩
    · simp only [oRef, hr, hf]; exact w
    · rcases rng_cases (x := n) (n := 16) (by omega) with ⟨hn, -⟩ | ⟨nj, hnj, rfl, hn⟩
      · simp only [oRef, hr, hn, hf]; exact w
      · cases hx : decide (c = 99 ∨ c = 97) with
        | false => simp only [oRef, hr, hn, hf, hx]; exact w
        | true =>
          simp only [oRef, hr, hn, hf, hx]
          split
          · exact w
          · next hno =>
            refine W_unl w (W_addRef w.1.1 w.1.2 (by omega) hj hnj hfj (of_decide_eq_true hx) (fun q hq hh => hno (Or.inr (Or.inl (anyB_iff.mpr ⟨q, hq, by rw [hh.1, hh.2]; simp⟩)))) (by omega))
theorem W_oRms {x y : Int32} (w : ZW S B) : ZW (oRms S x y).2.2 (B + 9) := by
  refine ZW.mono (B := B) ?_ (by omega)
  rcases ivl_cases (x := x) (a := 1) (b := 999) (by omega) (by omega) with ⟨hx, -⟩ | ⟨a, ha, rfl, hx⟩
  · simp only [oRms, hx]; exact w
  · rcases ivl_cases (x := y) (a := 1) (b := 999) (by omega) (by omega) with ⟨hy, -⟩ | ⟨b, hb, rfl, hy⟩
    · simp only [oRms, hx, hy]; exact w
    · simp only [oRms, hx, hy]
      exact ⟨w.1, w.2.1, ⟨ha, hb, w.2.2.1.2.2⟩, fun r h => by cases h⟩
theorem W_oRch {x : Int32} (w : ZW S B) : ZW (oRch S x).2.2 (B + 9) := by
  refine ZW.mono (B := B) ?_ (by omega)
  rcases ivl_cases (x := x) (a := 80) (b := 999) (by omega) (by omega) with ⟨hx, -⟩ | ⟨a, ha, rfl, hx⟩
  · simp only [oRch, hx]; exact w
  · simp only [oRch, hx]
    exact ⟨w.1, w.2.1, ⟨w.2.2.1.1, w.2.2.1.2.1, ha⟩, fun r h => by cases h⟩
theorem W_oLnk {x : Int32} (w : ZW S B) : ZW (oLnk S x).2.2 (B + 9) := by
  refine ZW.mono (B := B) ?_ (by omega)
  rcases rng_cases (x := x) (n := 16) (by omega) with ⟨hr, -⟩ | ⟨root, hroot, rfl, hr⟩
  · simp only [oLnk, hr]; exact w
  · simp only [oLnk, hr]
    refine ⟨w.1, w.2.1, w.2.2.1, fun r h => ?_⟩
    dsimp only at h
    split at h
    · next h45 =>
      cases h
      exact (yLnk_45 w.1.1 hroot w.2.2.1.1.2 h45).2.2.1
    · cases h
theorem W_oAsk {x : Option Nat} {k : Nat → Nat → Option Int32} (w : ZW S B) : ZW (oAsk S x k).2.2 (B + 9) := by
  have e : (oAsk S x k).2.2 = S := by
    unfold oAsk
    split
    · rfl
    · split
      · rfl
      · split <;> rfl
  rw [e]; exact w.mono (by omega)
theorem W_oAsk0 {k : Nat → Int32} (w : ZW S B) : ZW (oAsk0 S k).2.2 (B + 9) := by
  have e : (oAsk0 S k).2.2 = S := by
    unfold oAsk0
    split <;> rfl
  rw [e]; exact w.mono (by omega)
theorem W_oLib (w : ZW S B) : ZW (oLib S).2.2 (B + 9) := by
  refine ZW.mono (B := B) ?_ (by omega)
  unfold oLib
  split
  · exact w
  · exact W_lib w (WL_lib w.2.1 (by omega))
theorem W_oPrv {x n v : Int32} (w : ZW S B) : ZW (oPrv S x n v).2.2 (B + 9) := by
  refine ZW.mono (B := B) ?_ (by omega)
  have hb := w.2.1.1.1
  rcases rng_cases (x := x) (n := nL S.2.1) (by omega) with ⟨hr, -⟩ | ⟨j, hj, rfl, hr⟩
  · simp only [oPrv, hr]; exact w
  · rcases rng_cases (x := n) (n := 16) (by omega) with ⟨hn, -⟩ | ⟨nj, hnj, rfl, hn⟩
    · simp only [oPrv, hr, hn]; exact w
    · rcases ivl_cases (x := v) (a := 1) (b := 9) (by omega) (by omega) with ⟨hv, -⟩ | ⟨vj, hvj, rfl, hv⟩
      · simp only [oPrv, hr, hn, hv]; exact w
      · simp only [oPrv, hr, hn, hv]
        split
        · exact w
        · exact W_lib w (WL_ver w.2.1 hvj.2)
theorem W_oNed {x y : Int32} (w : ZW S B) : ZW (oNed S x y).2.2 (B + 9) := by
  refine ZW.mono (B := B) ?_ (by omega)
  have hb := w.2.1.1.1
  rcases rng_cases (x := x) (n := nL S.2.1) (by omega) with ⟨hr, -⟩ | ⟨j, hj, rfl, hr⟩
  · simp only [oNed, hr]; exact w
  · rcases rng_cases (x := y) (n := nL S.2.1) (by omega) with ⟨hn, -⟩ | ⟨nj, hnj, rfl, hn⟩
    · simp only [oNed, hr, hn]; exact w
    · simp only [oNed, hr, hn]
      split
      · exact w
      · split
        · exact w
        · split
          · exact w
          · exact W_lib w (WL_need w.2.1)
theorem W_oLod {x : Int32} (w : ZW S B) : ZW (oLod S x).2.2 (B + 9) := by
  have hb := w.2.1.1.1
  rcases rng_cases (x := x) (n := nL S.2.1) (by omega) with ⟨hr, -⟩ | ⟨j, hj, rfl, hr⟩
  · simp only [oLod, hr]; exact w.mono (by omega)
  · simp only [oLod, hr]
    exact W_lib w (WL_load w.2.1 hj).1
theorem W_oUnl {x : Int32} (w : ZW S B) (hB : B < 2 ^ 20) : ZW (oUnl S x).2.2 (B + 9) := by
  refine ZW.mono (B := B) ?_ (by omega)
  have hb := w.2.1.1.1
  rcases rng_cases (x := x) (n := nL S.2.1) (by omega) with ⟨hr, -⟩ | ⟨j, hj, rfl, hr⟩
  · simp only [oUnl, hr]; exact w
  · simp only [oUnl, hr]
    split
    · exact w
    · split
      · exact W_lib w (WL_plan w.2.1 hB hj)
      · exact W_lib w (WL_carry w.2.1 hj hB)
theorem W_oCnt {x : Int32} (w : ZW S B) : ZW (oCnt S x).2.2 (B + 9) := by
  have e : (oCnt S x).2.2 = S := by unfold oCnt; split <;> rfl
  rw [e]; exact w.mono (by omega)
theorem W_oLat {x : Int32} (w : ZW S B) : ZW (oLat S x).2.2 (B + 9) := by
  have e : (oLat S x).2.2 = S := by unfold oLat; split <;> rfl
  rw [e]; exact w.mono (by omega)
theorem W_oBnd {x n v : Int32} (w : ZW S B) : ZW (oBnd S x n v).2.2 (B + 9) := by
  refine ZW.mono (B := B) ?_ (by omega)
  have p := w.2.1.1
  have hb := p.1
  rcases rng_cases (x := x) (n := nL S.2.1) (by omega) with ⟨hr, -⟩ | ⟨j, hj, rfl, hr⟩
  · simp only [oBnd, hr]; exact w
  · rcases rng_cases (x := n) (n := 16) (by omega) with ⟨hn, -⟩ | ⟨nj, hnj, rfl, hn⟩
    · simp only [oBnd, hr, hn]; exact w
    · rcases ivl_cases (x := v) (a := 1) (b := 9) (by omega) (by omega) with ⟨hv, -⟩ | ⟨vj, hvj, rfl, hv⟩
      · simp only [oBnd, hr, hn, hv]; exact w
      · simp only [oBnd, hr, hn, hv]
        split
        · split
          · exact w
          · cases hF : yFp S.2.1 nj vj with
            | none => exact w
            | some t =>
              have ht : t < nL S.2.1 := by
                unfold yFp at hF
                obtain ⟨k, hk, rfl⟩ := Option.map_eq_some_iff.mp hF
                exact p.2.2.1 k (firstB_some hk).1
              exact W_lib w (WL_bind w.2.1 hj hnj hvj ht)
        · exact w
theorem W_oBds (w : ZW S B) : ZW (oBds S).2.2 (B + 9) := w.mono (by omega)
theorem W_oTel {b : Bool} (w : ZW S B) : ZW (oTel S b).2.2 (B + 9) := ZW.mono (B := B) ⟨w.1, w.2.1, w.2.2.1, w.2.2.2⟩ (by omega)
end S98
