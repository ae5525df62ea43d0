/-! the law's entry: the two objects, the two arrays (written by wip/gen/lawstart.py) -/
section S99w1
variable {p : Program} {l : Launch} {e : Env} {R : Room} {s : State} {m : MethodId} {args : Array Value} {below : List Frame} {meth : Method} {c : Code} {H : Heap} {locs : List Loc} {uc us : Nat} {Q : State → Prop} {D : va_G} {cA : Nat → ClassId} {sz : Nat} {cc : ByteArray} {pc nL : Nat} {ls : Array Slot} {rest : List Value} {sh : List MkSh}
theorem law_new {idx ci N : Nat} {C : String} {T : u_T} {fs : List Value} (hx : p.tables.exec = Jvm.exec) (hb : c.code = cc) (hts : ∀ w ∈ x_tbl, w.before args s = true) (ho : s.vm.findClass RL = some m.cls) (hK : va_K D x_cl (x_tys cA) s) (hc : XCl ci C T N) (hw : Cond.classLink RL idx C ∈ x_tbl) (hi : Cond.instantiable C N ∈ x_tbl) (hini : Cond.initialized C ∈ x_tbl) (ty : Nat → FieldType) (hty : ∀ k, k < N → parseFieldDescriptor (T k).2.2.1 = some (ty k)) (hfs : ∀ j, j < N → defaultValue (ty j) = vp_V fs j) (hcl : ∀ ad, fs.map (xcv ad) = fs)
    (huc : uc + 1 ≤ R.cells) (hus : us + N ≤ R.slots) (hd : decode cc pc = .ok (.new idx, 3)) (hH : H.size = sz + sh.length) (hP : va_P D x_cl (mkW sz cA sh) H) (hS : va_S (fun q => sz ≤ q) s.heap H locs)
    (kk : ∀ H1 : Heap, H1.size = sz + (sh ++ [(Sum.inr (ci, fs) : MkSh)]).length → va_P D x_cl (mkW sz cA (sh ++ [(Sum.inr (ci, fs) : MkSh)])) H1 → va_S (fun q => sz ≤ q) s.heap H1 locs → W p l e R s m args below meth c H1 locs (uc + 1) (us + N) Q (F0 m (pc + 3) ls (.ref (sz + sh.length) :: rest))) :
    W p l e R s m args below meth c H locs uc us Q (F0 m pc ls rest) := by
  have hKn := hK.1 ci _ hc.1
  refine W.newcK hx hb ho (hts _ hw) (hts _ hi) (hts _ hini) rfl hd huc hus hKn.2.1 hH fun H1 kC hkC e1 z1 o1 => ?_
  have hkp : ∀ (k : Nat) (x : Nat × va_E), (mkW sz cA sh)[k]? = some x → H1[x.1]? = H[x.1]? := fun k x hx => o1 x.1 (by rw [← hH]; exact (hP k x hx).lt)
  have hP1 : va_P D x_cl (mkW sz cA (sh ++ [(Sum.inr (ci, fs) : MkSh)])) H1 := by
    rw [mkW_push]
    refine (hP.kept hkp).app (fun k x hx => ?_)
    have hz : k < 1 := (List.getElem?_eq_some_iff.mp hx).1
    rw [show k = 0 by omega] at hx
    cases hx
    refine ⟨_, hc.1, (u_born ty hts hc.2.1 hKn hkC e1 hty).to ?_⟩
    show ∀ j, j < N → defaultValue (ty j) = vp_V (fs.map (xcv (mkad sz))) j
    rw [hcl]
    exact hfs
  exact kk H1 (by rw [z1, List.length_append]; rfl) hP1 ⟨Nat.le_trans hS.1 (by omega), fun x h1 h2 => (o1 x (by rw [← hH]; exact Nat.lt_of_lt_of_le h1 hS.1)).trans (hS.2.1 x h1 h2), hS.2.2⟩
theorem law_ctor {y : XMth} {idx mc ms d k : Nat} {R' : List MkSh → Prop} (hx : p.tables.exec = Jvm.exec) (hb : c.code = cc) (hml : c.maxLocals = nL) (hsz : ls.size = nL) (hts : ∀ w ∈ x_tbl, w.before args s = true) (ho : s.vm.findClass RL = some m.cls) (hK : va_K D x_cl (x_tys cA) s) (hN : ∀ w ∈ x_nst, va_Nw w s) (hAr : mkArr cA s) (hR : lRm R d) (hok : XOkI y 0) (hw : Cond.methodLink RL idx y.1 ∈ x_tbl) (hM : MkM l D cA sz y d mc ms [.ref k] sh R') (hmc : uc + mc ≤ R.cells) (hms : us + ms ≤ R.slots) (hd : decode cc pc = .ok (.invokespecial idx, 3)) (hrest : (rest.map fun v => v.category).sum ≤ 8)
    (hH : H.size = sz + sh.length) (hP : va_P D x_cl (mkW sz cA sh) H) (hS : va_S (fun q => sz ≤ q) s.heap H locs)
    (kk : ∀ (sh' : List MkSh) (H1 : Heap) (locs1 : List Loc), R' sh' → H1.size = sz + sh'.length → va_P D x_cl (mkW sz cA sh') H1 → va_S (fun q => sz ≤ q) s.heap H1 locs1 → W p l e R s m args below meth c H1 locs1 (uc + mc) (us + ms) Q (F0 m (pc + 3) ls rest)) :
    W p l e R s m args below meth c H locs uc us Q (F0 m pc ls (.ref (sz + k) :: rest)) := by
  obtain ⟨⟨a1, a2, a3, a4⟩, a5, a6, a7⟩ := hok
  have hr9 := va_runI (n := 0) (nL := nL) (own := RL) (Ts := x_tbl) (As := []) (rest := rest) (b := sz + k) (bytes := y.2.1) (maxL := y.2.2.1) (index := idx) (R := R) (cells := uc) (slots := us) (locs := locs) (meth := meth) (below := below) (g := F0 m pc ls (.ref (sz + k) :: rest)) (e := e) (H := H) ⟨hx, hb, hml, ho, hts⟩ hM (cwI 0 hts (XOk.good ⟨a1, a2, a3, a4⟩) (by rw [← a7]; rfl) rfl rfl (hts _ a2) (hts _ hw) (hts _ a5) a6 a3 ⟨hR.1, (by have := hR.2; show 8 + (y.2.2.1 + 11) + 40 * d ≤ R.locals; omega)⟩) ⟨mkPre_blind, fun U hU9 hW => ⟨rfl, by rw [hU9]; exact hH, by rw [hU9]; exact hP, va_K.moved hW.alike hK, xN_warm hW hN, mkArr_warm hW hAr⟩⟩ rfl rfl (by exact hsz) rfl (lv_room hrest) hd ⟨hmc, hms⟩
  intro T hT X
  obtain ⟨v, st₀, t, T', L9, h0, X', hL9, e4, e5, ⟨hv, sh', hR9, hz9, hb9, hF⟩, st⟩ := hr9 T hT X
  cases hv
  obtain ⟨k1, k2, k3⟩ := vx_keep (A0 := fun q => sz ≤ q) h0 e4 hS (fun _ _ z => z) (fun _ z => z) hL9 hF
  obtain ⟨t2, b1, b2⟩ := kk sh' T'.heap (locs ++ L9) hR9 (by rw [e4]; exact hz9) (by rw [e4]; exact hb9) k3 T' rfl X'
  exact ⟨t2, st t2 b1, b2⟩
theorem arr_known {ty : FieldType} (hty : va_RA s = va_RA s) (hn : ∀ C, ty ≠ .object C) (h : (Cond.arrayClass ty).before args s = true) : ∃ c0 : ClassId, ArrOfT s c0 ty ∧ s.vm.findClass ("[" ++ ty.toString) = some c0 := by
  obtain ⟨c0, k0, comp, h1, h2, h3⟩ := Cond.arrayClass_spec h
  exact ⟨c0, fun n z => ⟨fun k h => (by cases h), k0, h2, comp, h3⟩, h1⟩
end S99w1
theorem perm_inj91 : ∀ i j : Fin 91, perm i.val = perm j.val → i = j := by decide +kernel
theorem G0_inj {l : Launch} {D : va_G} {cA : Nat → ClassId} {sz b : Nat} : lInj (G0 l D cA sz b) := by
  intro i j hi hj h
  rw [G0_at (by omega), G0_at (by omega)] at h
  exact congrArg Fin.val (perm_inj91 ⟨i, hi⟩ ⟨j, hj⟩ (Nat.add_left_cancel h))
theorem G0_lA {l : Launch} {D : va_G} {cA : Nat → ClassId} {sz b : Nat} : ∀ q, lA (G0 l D cA sz b) q → sz ≤ q := by
  rintro q ⟨k, hk, rfl⟩
  rw [G0_at (by omega)]
  exact Nat.le_add_right _ _
theorem x_dcl_in : ∀ w ∈ x_dcl, w ∈ tables_1 := List.forall_mem_cons.mpr ⟨x_in2 (List.mem_of_getElem? (i := 70) rfl), List.forall_mem_cons.mpr ⟨x_in2 (List.mem_of_getElem? (i := 72) rfl), List.forall_mem_cons.mpr ⟨x_in2 (List.mem_of_getElem? (i := 74) rfl), List.forall_mem_cons.mpr ⟨x_in2 (List.mem_of_getElem? (i := 68) rfl), List.forall_mem_cons.mpr ⟨x_in2 (List.mem_of_getElem? (i := 217) rfl), List.forall_mem_cons.mpr ⟨x_in5 (List.mem_of_getElem? (i := 137) rfl), List.forall_mem_cons.mpr ⟨x_in2 (List.mem_of_getElem? (i := 192) rfl), List.forall_mem_cons.mpr ⟨x_in6 (List.mem_of_getElem? (i := 33) rfl), List.forall_mem_cons.mpr ⟨x_in4 (List.mem_of_getElem? (i := 164) rfl), fun w h => absurd h List.not_mem_nil⟩⟩⟩⟩⟩⟩⟩⟩⟩
theorem x_strs_in : ∀ q ∈ x_strs, Cond.stringRef RX7 q.1 q.2 ∈ tables_1 := List.forall_mem_cons.mpr ⟨x_in2 (List.mem_of_getElem? (i := 111) rfl), List.forall_mem_cons.mpr ⟨x_in2 (List.mem_of_getElem? (i := 199) rfl), List.forall_mem_cons.mpr ⟨x_in2 (List.mem_of_getElem? (i := 224) rfl), List.forall_mem_cons.mpr ⟨x_in2 (List.mem_of_getElem? (i := 231) rfl), List.forall_mem_cons.mpr ⟨x_in3 (List.mem_of_getElem? (i := 7) rfl), List.forall_mem_cons.mpr ⟨x_in3 (List.mem_of_getElem? (i := 23) rfl), List.forall_mem_cons.mpr ⟨x_in3 (List.mem_of_getElem? (i := 36) rfl), List.forall_mem_cons.mpr ⟨x_in3 (List.mem_of_getElem? (i := 56) rfl), List.forall_mem_cons.mpr ⟨x_in3 (List.mem_of_getElem? (i := 69) rfl), List.forall_mem_cons.mpr ⟨x_in3 (List.mem_of_getElem? (i := 85) rfl), List.forall_mem_cons.mpr ⟨x_in3 (List.mem_of_getElem? (i := 98) rfl), List.forall_mem_cons.mpr ⟨x_in3 (List.mem_of_getElem? (i := 110) rfl), List.forall_mem_cons.mpr ⟨x_in3 (List.mem_of_getElem? (i := 118) rfl), List.forall_mem_cons.mpr ⟨x_in3 (List.mem_of_getElem? (i := 130) rfl), List.forall_mem_cons.mpr ⟨x_in4 (List.mem_of_getElem? (i := 143) rfl), List.forall_mem_cons.mpr ⟨x_in4 (List.mem_of_getElem? (i := 171) rfl), List.forall_mem_cons.mpr ⟨x_in4 (List.mem_of_getElem? (i := 188) rfl), List.forall_mem_cons.mpr ⟨x_in4 (List.mem_of_getElem? (i := 205) rfl), List.forall_mem_cons.mpr ⟨x_in4 (List.mem_of_getElem? (i := 230) rfl), List.forall_mem_cons.mpr ⟨x_in5 (List.mem_of_getElem? (i := 107) rfl), List.forall_mem_cons.mpr ⟨x_in5 (List.mem_of_getElem? (i := 125) rfl), List.forall_mem_cons.mpr ⟨x_in5 (List.mem_of_getElem? (i := 130) rfl), List.forall_mem_cons.mpr ⟨x_in5 (List.mem_of_getElem? (i := 144) rfl), List.forall_mem_cons.mpr ⟨x_in5 (List.mem_of_getElem? (i := 160) rfl), List.forall_mem_cons.mpr ⟨x_in5 (List.mem_of_getElem? (i := 165) rfl), List.forall_mem_cons.mpr ⟨x_in5 (List.mem_of_getElem? (i := 200) rfl), List.forall_mem_cons.mpr ⟨x_in5 (List.mem_of_getElem? (i := 212) rfl), List.forall_mem_cons.mpr ⟨x_in5 (List.mem_of_getElem? (i := 236) rfl), List.forall_mem_cons.mpr ⟨x_in6 (List.mem_of_getElem? (i := 4) rfl), List.forall_mem_cons.mpr ⟨x_in6 (List.mem_of_getElem? (i := 13) rfl), List.forall_mem_cons.mpr ⟨x_in6 (List.mem_of_getElem? (i := 40) rfl), List.forall_mem_cons.mpr ⟨x_in6 (List.mem_of_getElem? (i := 53) rfl), fun w h => absurd h List.not_mem_nil⟩⟩⟩⟩⟩⟩⟩⟩⟩⟩⟩⟩⟩⟩⟩⟩⟩⟩⟩⟩⟩⟩⟩⟩⟩⟩⟩⟩⟩⟩⟩⟩
theorem l_ncs_in : ∀ q ∈ l_ncs, Cond.not (.castable q.1 q.2) ∈ flatC (Jvm.Cond.and given_1 narrow_1) := by decide +kernel
theorem l_zu_in : Cond.isRef (.static Bundle.tN "UNASSIGNED_STACK" Bundle.steD) ∈ flatC (Jvm.Cond.and given_1 narrow_1) := by decide +kernel
theorem l_zv_in : Cond.isRef (.static Bundle.tN "SUPPRESSED_SENTINEL" Bundle.listD) ∈ flatC (Jvm.Cond.and given_1 narrow_1) := by decide +kernel
theorem tbl_in {w : Cond} (h : w ∈ tables_1) : w ∈ lw_tbl := List.mem_append_right _ h
section S99w2
variable {s : State} {b : Nat}
theorem l_words (hts : ∀ w ∈ lw_tbl, w.before #[Value.ref b] s = true) : ∀ w ∈ x_tbl, w.before #[Value.ref b] s = true := fun w hw => hts w (List.mem_filter.mp hw).1
theorem l_nst (hts : ∀ w ∈ lw_tbl, w.before #[Value.ref b] s = true) : ∀ w ∈ x_nst, va_Nw w s := fun w hw => by
  have h1 := hts w (tbl_in (List.mem_filter.mp hw).1)
  have h2 := x_nst_form hw
  exact va_Nw.of (by cases w <;> first | rfl | cases h2) h1
theorem l_nc (hgv : (Jvm.Cond.and given_1 narrow_1).before #[Value.ref b] s = true) : lNc s := fun q hq => va_Nc.of (flat_of_before _ hgv _ (l_ncs_in q hq))
theorem l_dc (hts : ∀ w ∈ lw_tbl, w.before #[Value.ref b] s = true) : xDc s := fun w hw => va_any (x_dcl_on hw) (hts w (tbl_in (x_dcl_in w hw)))
theorem l_st (hts : ∀ w ∈ lw_tbl, w.before #[Value.ref b] s = true) : xSt s := fun q hq => vk_R_some (hts _ (tbl_in (x_strs_in q hq)))
theorem l_zu (hts : ∀ w ∈ lw_tbl, w.before #[Value.ref b] s = true) (hgv : (Jvm.Cond.and given_1 narrow_1).before #[Value.ref b] s = true) : xZU (fun q => s.heap.size ≤ q) s s.heap :=
  ⟨vx_Zqof (hts _ (tbl_in (x_in2 (List.mem_of_getElem? (i := 93) rfl)))) (hts _ (tbl_in (x_in1 (List.mem_of_getElem? (i := 10) rfl)))) (flat_of_before _ hgv _ l_zu_in) (fun a h => Nat.not_le.mpr h), l_dc hts, l_st hts⟩
theorem l_zv (hts : ∀ w ∈ lw_tbl, w.before #[Value.ref b] s = true) (hgv : (Jvm.Cond.and given_1 narrow_1).before #[Value.ref b] s = true) : xZV (fun q => s.heap.size ≤ q) s s.heap :=
  vx_Zqof (hts _ (tbl_in (x_in2 (List.mem_of_getElem? (i := 95) rfl)))) (hts _ (tbl_in (x_in1 (List.mem_of_getElem? (i := 10) rfl)))) (flat_of_before _ hgv _ l_zv_in) (fun a h => Nat.not_le.mpr h)

theorem l_classes (htx : ∀ w ∈ x_tbl, w.before #[Value.ref b] s = true) : ∃ D : va_G, ∀ (k : Nat) (q : vw_C), x_cl[k]? = some q → u_Kn s q.1 q.2.1 q.2.2 (D.1 k) (D.2 k) := by
  obtain ⟨c0, i0, h0⟩ := u_known (C := RX0) (T := TX0) (N := 5) (n := 5) htx x_uX0 (htx _ (x_w1 33 rfl rfl))
  obtain ⟨c1, i1, h1⟩ := u_known (C := RX1) (T := TX1) (N := 8) (n := 8) htx x_uX1 (htx _ (x_w1 139 rfl rfl))
  obtain ⟨c2, i2, h2⟩ := u_known (C := RX2) (T := TX2) (N := 8) (n := 8) htx x_uX2 (htx _ (x_w1 209 rfl rfl))
  obtain ⟨c3, i3, h3⟩ := u_known (C := RX3) (T := TX3) (N := 1) (n := 1) htx x_uX3 (htx _ (x_w1 97 rfl rfl))
  obtain ⟨c4, i4, h4⟩ := u_known (C := RX4) (T := TX4) (N := 7) (n := 7) htx x_uX4 (htx _ (x_w1 177 rfl rfl))
  obtain ⟨c5, i5, h5⟩ := u_known (C := RX5) (T := TX5) (N := 8) (n := 8) htx x_uX5 (htx _ (x_w1 91 rfl rfl))
  obtain ⟨c6, i6, h6⟩ := u_known (C := RX6) (T := TX6) (N := 4) (n := 4) htx x_uX6 (htx _ (x_w1 39 rfl rfl))
  obtain ⟨c7, i7, h7⟩ := u_known (C := RX7) (T := TX7) (N := 10) (n := 10) htx x_uX7 (htx _ (x_w1 25 rfl rfl))
  obtain ⟨c8, i8, h8⟩ := u_known (C := RX8) (T := TX8) (N := 51) (n := 51) htx x_uX8 (htx _ (x_w6 86 rfl rfl))
  refine ⟨(fun k => match k with
    | 0 => c0
    | 1 => c1
    | 2 => c2
    | 3 => c3
    | 4 => c4
    | 5 => c5
    | 6 => c6
    | 7 => c7
    | _ => c8, fun k => match k with
    | 0 => i0
    | 1 => i1
    | 2 => i2
    | 3 => i3
    | 4 => i4
    | 5 => i5
    | 6 => i6
    | 7 => i7
    | _ => i8), fun k q hq => ?_⟩
  match k, hq with
  | 0, hq => cases hq; exact h0
  | 1, hq => cases hq; exact h1
  | 2, hq => cases hq; exact h2
  | 3, hq => cases hq; exact h3
  | 4, hq => cases hq; exact h4
  | 5, hq => cases hq; exact h5
  | 6, hq => cases hq; exact h6
  | 7, hq => cases hq; exact h7
  | 8, hq => cases hq; exact h8
  | k + 9, hq => simp [x_cl] at hq
theorem l_arrays (htx : ∀ w ∈ x_tbl, w.before #[Value.ref b] s = true) : ∃ cA : Nat → ClassId, (∀ t, t < 3 → ArrOfT s (cA t) (x_ty t) ∧ s.vm.findClass ("[" ++ (x_ty t).toString) = some (cA t)) := by
  obtain ⟨c0, h0⟩ := arr_known (ty := .int) rfl (fun C h => by cases h) (htx _ (x_w1 62 rfl rfl))
  obtain ⟨c1, h1⟩ := arr_known (ty := .boolean) rfl (fun C h => by cases h) (htx _ (x_w7 5 rfl rfl))
  obtain ⟨c2, h2⟩ := arr_known (ty := .char) rfl (fun C h => by cases h) (htx _ (x_w7 6 rfl rfl))
  refine ⟨fun k => match k with
    | 0 => c0
    | 1 => c1
    | _ => c2, fun t ht => ?_⟩
  match t, ht with
  | 0, _ => exact h0
  | 1, _ => exact h1
  | 2, _ => exact h2
  | t + 3, h => exact absurd h (by omega)
end S99w2
theorem l_trace (l : Launch) (h : l.flags = flags0) : l.stackTraces = false := by
  unfold Launch.stackTraces
  rw [h]
  decide +kernel
