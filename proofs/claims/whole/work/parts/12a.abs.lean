/-! Math.abs, which the machine may do itself -/
section X12a
variable {G : XG} {ow : String} {cc : ByteArray} {nL : Nat} {rt : Option FieldType} {d : Nat} {R : Option Value → Sg → Prop} {pc : Nat} {k : XK}
def xi_mabs (k : XK) : XK := fun L S σ => match S with
  | .int x :: S' => xroom S' 8 = true ∧ k L (.int (if 0 ≤ x then x else 0 - x) :: S') σ
  | _ => False
theorem xs_mabs {idx : Nat} (hw : Cond.methodLink ow idx yJ_abs ∈ x_tbl) (hd : decode cc pc = .ok (.invokestatic idx, 3)) (hk : XTo G ow cc nL rt (d + 1) R (pc + 3) k) : XTo G ow cc nL rt (d + 1) R pc (xi_mabs k) := by
  intro L S σ h p e s m args below meth c hx hb hml hr ho hts hlk hK hN H locs ls hP hD hS hL
  unfold xi_mabs at h
  split at h
  · next x S' =>
    have h9 := hk _ _ _ h.2 p e s m args below meth c hx hb hml hr ho hts hlk hK hN H locs ls hP hD hS hL
    refine va_mabs (own := ow) (index := idx) (x := x) (rest := S'.map (xcv G.2.1)) hx hb (by rw [hml]; exact hL.2.1.symm) ho (hts _ hw) (hts _ okJ_abs.2) (hts _ okJ_abs.1.2.1) (hts _ okJ_abs.1.1) ?_ ?_ (Nat.le_refl _) (Nat.le_refl _) hd h9
    · show 1 ≤ d + 1
      omega
    · have h5 := xroom_spec (ad := G.2.1) _ _ h.1
      show _ + 13 ≤ 40 * (d + 1)
      omega
  · exact h.elim
end X12a
theorem bX1_isUnreached_a {G : XG} {d : Nat} {R : Option Value → Sg → Prop} : XTo G RX1 prog_3_method_20_code 3 (some .boolean) (d + 1) R 0 (xi_aload 0 (xi_getf 1 0 (xi_iload 1 (xi_callV G d mX0_isCall 0 1 (xi_ifeq (xi_ic 0 (xi_zret .boolean R)) (xi_aload 0 (xi_iload 1 (xi_callV G d mX1_islandFor 1 1 (xi_ic (-1) (xi_iceq (xi_aload 0 (xi_aload 0 (xi_getf 1 1 (xi_getf 5 4 (xi_iload 1 (xi_callV G d mX3_get 3 1 (xi_callV G d mX1_goalStart 1 1 (xi_aload 0 (xi_iload 1 (xi_callV G d mX1_placeOf 1 1 (xi_isub (xi_mabs (xi_iload 2 (xi_icle (xi_ic 0 (xi_zret .boolean R)) (xi_ic 1 (xi_zret .boolean R)))))))))))))))) (xi_ic 0 (xi_zret .boolean R)))))))))))) :=
  xs_aload_n (pc := 0) (i := 0) (by decide +kernel) (xs_getf (pc := 1) (j := 0) xcl1 (by decide) (x_w1 148 rfl rfl) (by decide +kernel) (xs_iload_n (pc := 4) (i := 1) (by decide +kernel) (xs_callVN (pc := 5) okX0_isCall (x_n4 27 rfl rfl) (by decide +kernel) (xs_ifeq (pc := 8) (tgt := 20) (off := 12) (by decide +kernel) rfl (xs_iconst (pc := 20) (n := 0) (v := 0) (by decide +kernel) (by decide +kernel) (xs_zret (pc := 21) (by decide +kernel) rfl)) (xs_aload_n (pc := 11) (i := 0) (by decide +kernel) (xs_iload_n (pc := 12) (i := 1) (by decide +kernel) (xs_callV (pc := 13) okX1_islandFor (x_w4 107 rfl rfl) (by decide +kernel) (xs_iconst (pc := 16) (n := (-1)) (v := (-1)) (by decide +kernel) (by decide +kernel) (xs_iceq (pc := 17) (tgt := 22) (off := 5) (by decide +kernel) rfl (xs_aload_n (pc := 22) (i := 0) (by decide +kernel) (xs_aload_n (pc := 23) (i := 0) (by decide +kernel) (xs_getf (pc := 24) (j := 1) xcl1 (by decide) (x_w1 149 rfl rfl) (by decide +kernel) (xs_getfN (pc := 27) (j := 4) xcl5 (by decide) (x_n1 113 rfl rfl) (by decide +kernel) (xs_iload_n (pc := 30) (i := 1) (by decide +kernel) (xs_callVN (pc := 31) okX3_get (x_n4 32 rfl rfl) (by decide +kernel) (xs_callV (pc := 34) okX1_goalStart (x_w4 111 rfl rfl) (by decide +kernel) (xs_aload_n (pc := 37) (i := 0) (by decide +kernel) (xs_iload_n (pc := 38) (i := 1) (by decide +kernel) (xs_callV (pc := 39) okX1_placeOf (x_w4 124 rfl rfl) (by decide +kernel) (xs_isub (pc := 42) (by decide +kernel) (xs_mabs (pc := 43) (x_w4 128 rfl rfl) (by decide +kernel) (xs_iload_n (pc := 46) (i := 2) (by decide +kernel) (xs_icle (pc := 47) (tgt := 54) (off := 7) (by decide +kernel) rfl (xs_iconst (pc := 54) (n := 0) (v := 0) (by decide +kernel) (by decide +kernel) (xs_zret (pc := 55) (by decide +kernel) rfl)) (xs_iconst (pc := 50) (n := 1) (v := 1) (by decide +kernel) (by decide +kernel) (xs_goto (pc := 51) (tgt := 55) (off := 4) (by decide +kernel) rfl (xs_zret (pc := 55) (by decide +kernel) rfl))))))))))))))))) (xs_iconst (pc := 20) (n := 0) (v := 0) (by decide +kernel) (by decide +kernel) (xs_zret (pc := 21) (by decide +kernel) rfl)))))))))))
