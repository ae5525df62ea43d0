/-! calls, and a method from its entry -/
section XC
variable {G : XG} {ow : String} {cc : ByteArray} {nL : Nat} {rt : Option FieldType} {d : Nat} {R : Option Value → Sg → Prop} {pc : Nat} {k : XK}
def xpop : Nat → List Value → List Value → Option (List Value × List Value)
  | 0, S, acc => some (acc, S)
  | n + 1, v :: S, acc => xpop n S (v :: acc)
  | _ + 1, [], _ => none
theorem xpop_spec : ∀ (n : Nat) (S acc : List Value) {av S' : List Value}, xpop n S acc = some (av, S') → ∃ P : List Value, av = P ++ acc ∧ P.length = n ∧ S = P.reverse ++ S' := by
  intro n
  induction n with
  | zero => intro S acc av S' h; cases h; exact ⟨[], rfl, rfl, rfl⟩
  | succ n ih =>
    intro S acc av S' h
    cases S with
    | nil => cases h
    | cons v S =>
      obtain ⟨P, e1, e2, e3⟩ := ih S (v :: acc) h
      exact ⟨P ++ [v], by rw [e1]; simp, by simp [e2], by rw [e3]; simp⟩
def xroom : List Value → Nat → Bool
  | [], _ => true
  | .int _ :: S, n + 1 => xroom S n
  | .ref _ :: S, n + 1 => xroom S n
  | .long _ :: S, n + 2 => xroom S n
  | _, _ => false
theorem xroom_spec {ad : Nat → Nat} : ∀ (S : List Value) (n : Nat), xroom S n = true → ((S.map (xcv ad)).map fun v => v.category).sum ≤ n := by
  intro S
  induction S with
  | nil => intro n _; simp
  | cons v S ih =>
    intro n h
    cases v with
    | int x =>
      cases n with
      | zero => cases h
      | succ n => have h5 := ih n h; simp only [List.map_cons, List.sum_cons]; change @HAdd.hAdd Nat Nat Nat _ 1 _ ≤ _; omega
    | ref x =>
      cases n with
      | zero => cases h
      | succ n => have h5 := ih n h; simp only [List.map_cons, List.sum_cons]; change @HAdd.hAdd Nat Nat Nat _ 1 _ ≤ _; omega
    | long x =>
      match n, h with
      | n + 2, h => have h5 := ih n h; simp only [List.map_cons, List.sum_cons]; change @HAdd.hAdd Nat Nat Nat _ 2 _ ≤ _; omega
    | _ => simp [xroom] at h
def XOk (y : XMth) (n : Nat) : Prop := Cond.code y.1 y.2.1 y.2.2.1 y.2.2.2 ∈ x_tbl ∧ Cond.initialized y.1.cls ∈ x_tbl ∧ (y.1.cls ≠ "java/lang/invoke/MethodHandle" ∧ y.1.cls ≠ "java/lang/invoke/VarHandle" ∧ (parseMethodDescriptor y.1.desc).map (fun d => d.parameters.length) = some n) ∧ y.2.2.1 ≤ 21
def XOkV (y : XMth) (n ci : Nat) : Prop := XOk y n ∧ Cond.instanceMethod y.1 ∈ x_tbl ∧ Cond.selects y.1.cls y.1 y.1 ∈ x_tbl ∧ ∃ T N, XCl ci y.1.cls T N
def XOkS (y : XMth) (n : Nat) : Prop := XOk y n ∧ Cond.static y.1 ∈ x_tbl
theorem XOk.good {y : XMth} {n : Nat} (h : XOk y n) : GoodIn x_tbl (xWs y) := by
  intro w hw
  rcases List.mem_cons.mp hw with rfl | hw
  · exact ⟨h.1, (x_tbl_good _ h.1).2⟩
  · exact ⟨hw, (x_tbl_good _ hw).2⟩
theorem x_nst_form {w : Cond} (h : w ∈ x_nst) : x_isN w = true := (List.mem_filter.mp h).2
theorem xN_warm {s U : State} (hW : s.WarmedH U.vm) (hN : ∀ w ∈ x_nst, va_Nw w s) : ∀ w ∈ x_nst, va_Nw w U := by
  intro w hw
  have h1 := x_nst_form hw
  have h2 := hN w hw
  cases w <;> first | exact va_Nw.warmF hW h2 | exact va_Nw.warmM hW h2 | cases h1
theorem xN_same {s U : State} (h : s.vm = U.vm) (hN : ∀ w ∈ x_nst, va_Nw w s) : ∀ w ∈ x_nst, va_Nw w U := by
  intro w hw
  have h1 := x_nst_form hw
  have h2 := hN w hw
  exact va_Nw.same (by cases w <;> first | rfl | cases h1) h h2
theorem xPre_blind {av : List Value} {σ : Sg} : FrameBlind (va_Pc av (xPre G σ)) := fun a U g mk h =>
  ⟨h.1, h.2.1, va_K.moved (u := U) (U := U.calling g mk a) (Vm.Alike.refl U.vm) h.2.2.1, h.2.2.2.1, xN_same (s := U) (U := U.calling g mk a) rfl h.2.2.2.2⟩
section W9
variable {p : Program} {e : Env} {s : State} {m : MethodId} {args : Array Value} {below : List Frame} {meth : Method} {c : Code} {H : Heap} {locs : List Loc} {Q : State → Prop}
theorem xPre_of {σ : Sg} (hK : va_K G.2.2.1 x_cl (x_tys G.2.2.2) s) (hN : ∀ w ∈ x_nst, va_Nw w s) (hP : va_P G.2.2.1 x_cl (xW G σ) H) (hD : va_D (xA G) (xW G σ)) {U : State} (hU : U.heap = H) (hW : s.WarmedH U.vm) : xPre G σ U :=
  ⟨by rw [hU]; exact hP, va_K.moved hW.alike hK, hD, xN_warm hW hN⟩
theorem x_after {Rm : Room} {R' : Option Value → Sg → Prop} {pc : Nat} {ls : Array Slot} {st0 rest : List Value} {a : Array Value} (hr : va_Run p G.1 e Rm s m args below meth c H locs 0 0 0 0 (F0 m pc ls st0) rest (XQ G R' a) (xA G)) (hS : va_S (xA G) s.heap H locs)
    (kk : ∀ (v : Option Value) (τ : Sg) (H1 : Heap) (locs1 : List Loc), R' v τ → va_P G.2.2.1 x_cl (xW G τ) H1 → va_S (xA G) s.heap H1 locs1 → W p G.1 e Rm s m args below meth c H1 locs1 0 0 Q (F0 m (pc + 3) ls ((v.map (xcv G.2.1)).toList ++ rest))) : W p G.1 e Rm s m args below meth c H locs 0 0 Q (F0 m pc ls st0) := by
  intro T hT X
  obtain ⟨v, st₀, t, T', L, h0, X', hL, e1, e2, ⟨v', τ, hv, hp, hb, hz, hk⟩, st⟩ := hr T hT X
  cases hv
  rw [h0] at hz hk
  obtain ⟨t2, a1, b1⟩ := kk v' τ T'.heap (locs ++ L) hp (by rw [e1]; exact hb)
    ⟨Nat.le_trans hS.1 (by rw [e1]; exact hz), fun q h1 h2 => by rw [e1, hk q (Nat.lt_of_lt_of_le h1 hS.1) h2]; exact hS.2.1 q h1 h2, fun q hq => by
      rcases List.mem_append.mp hq with h | h
      · exact hS.2.2 q h
      · exact hL q h⟩ T' rfl X'
  exact ⟨t2, st t2 a1, b1⟩
end W9
def xi_callV (G : XG) (d : Nat) (y : XMth) (ci n : Nat) (k : XK) : XK := fun L S σ => match xpop n S [] with
  | some (As, .ref o :: S') => (match (xfld o ci 0).isSome && xroom S' 8 with
    | true => ∃ R', XM G y d (.ref o :: As) σ R' ∧ ∀ v τ, R' v τ → k L (v.toList ++ S') τ
    | false => False)
  | _ => False
theorem x_recv {s : State} {H : Heap} {o ci : Nat} {σ : Sg} {C : String} {T : u_T} {N : Nat} (hc : XCl ci C T N) (hK : va_K G.2.2.1 x_cl (x_tys G.2.2.2) s) (hP : va_P G.2.2.1 x_cl (xW G σ) H) (ho : (xfld o ci 0).isSome = true) : ∃ cellB : Cell, H[G.2.1 o]? = some cellB ∧ cellB.vm.isStatics = false ∧ s.vm.findClass C = some cellB.cls := by
  obtain ⟨f, hf⟩ := Option.isSome_iff_exists.mp ho
  obtain ⟨fs, h1, -⟩ := xfld_spec hf
  obtain ⟨r, h2, cell, q1, q2, q3, q4⟩ := hP o _ (xW_get h1)
  have hr : r = (C, T, N) := Option.some.inj (h2.symm.trans hc.1)
  subst hr
  obtain ⟨hS, hfc, -⟩ := hK.1 ci _ hc.1
  exact ⟨cell, q1, by rw [q3]; rfl, by rw [q2]; exact hfc⟩
theorem x_toList {ad : Nat → Nat} {v : Option Value} {S : List Value} : (v.map (xcv ad)).toList ++ S.map (xcv ad) = (v.toList ++ S).map (xcv ad) := by cases v <;> simp
theorem xs_callV {y : XMth} {n ci idx : Nat} (hok : XOkV y n ci) (hw : Cond.methodLink ow idx y.1 ∈ x_tbl) (hd : decode cc pc = .ok (.invokevirtual idx, 3)) (hk : XTo G ow cc nL rt (d + 1) R (pc + 3) k) : XTo G ow cc nL rt (d + 1) R pc (xi_callV G d y ci n k) := by
  intro L S σ h p e s m args below meth c hx hb hml hr ho hts hlk hK hN H locs ls hP hD hS hL
  obtain ⟨⟨a1, a2, a3, a4⟩, a5, a6, T, N, a7⟩ := hok
  unfold xi_callV at h
  split at h
  · next As o S' hp =>
    split at h
    · next hc =>
      rw [Bool.and_eq_true] at hc
      obtain ⟨R', hM, hR⟩ := h
      obtain ⟨P, e1, e2, e3⟩ := xpop_spec n S [] hp
      rw [List.append_nil] at e1
      subst e1
      subst e3
      refine x_after (va_runV (C := y.1.cls) (n := n) (nL := nL) (own := ow) (Ts := x_tbl) (As := As.map (xcv G.2.1)) (rest := S'.map (xcv G.2.1)) (b := G.2.1 o) (bytes := y.2.1) (maxL := y.2.2.1) (ret := y.2.2.2) (index := idx) ⟨hx, hb, hml, ho, hts⟩ hM ⟨callB_of n hts (XOk.good ⟨a1, a2, a3, a4⟩) rfl rfl rfl (hts _ a2) (hts _ hw) a3 ⟨Nat.le_refl _, ?_⟩, hts _ a5, hts _ a6⟩ ⟨xPre_blind, x_recv a7 hK hP hc.1, fun U hU hW => ⟨rfl, xPre_of hK hN hP hD hU hW⟩⟩ rfl (by rw [List.length_map]; exact e2) (by exact hL.2.1) (by simp [xcv]) ?_ hd ⟨Nat.le_refl _, Nat.le_refl _⟩) hS (fun v τ H1 locs1 hv hP1 hS1 => ?_)
      · show 8 + (y.2.2.1 + 11) + 40 * d ≤ 40 * (d + 1)
        omega
      · exact lv_room (xroom_spec _ _ hc.2)
      · have h9 := hk _ _ _ (hR v τ hv) p e s m args below meth c hx hb hml hr ho hts hlk hK hN H1 locs1 ls hP1 (xD_of hD) hS1 hL
        rw [← x_toList] at h9
        exact h9
    · exact h.elim
  · exact h.elim
theorem xs_callVN {y : XMth} {n ci idx : Nat} {host : String} (hok : XOkV y n ci) (hw : Cond.methodLinkNest ow idx y.1 host ∈ x_nst) (hd : decode cc pc = .ok (.invokevirtual idx, 3)) (hk : XTo G ow cc nL rt (d + 1) R (pc + 3) k) : XTo G ow cc nL rt (d + 1) R pc (xi_callV G d y ci n k) := by
  intro L S σ h p e s m args below meth c hx hb hml hr ho hts hlk hK hN H locs ls hP hD hS hL
  obtain ⟨⟨a1, a2, a3, a4⟩, a5, a6, T, N, a7⟩ := hok
  unfold xi_callV at h
  split at h
  · next As o S' hp =>
    split at h
    · next hc =>
      rw [Bool.and_eq_true] at hc
      obtain ⟨R', hM, hR⟩ := h
      obtain ⟨P, e1, e2, e3⟩ := xpop_spec n S [] hp
      rw [List.append_nil] at e1
      subst e1
      subst e3
      refine x_after (va_runVN (C := y.1.cls) (n := n) (nL := nL) (own := ow) (Ts := x_tbl) (As := As.map (xcv G.2.1)) (rest := S'.map (xcv G.2.1)) (b := G.2.1 o) (bytes := y.2.1) (maxL := y.2.2.1) (ret := y.2.2.2) (index := idx) (host := host) ⟨hx, hb, hml, ho, hts⟩ hM ⟨va_cnB n hts (XOk.good ⟨a1, a2, a3, a4⟩) rfl rfl rfl (hN _ hw) (hts _ a2) a3 ⟨Nat.le_refl _, ?_⟩, hts _ a5, hts _ a6⟩ ⟨xPre_blind, x_recv a7 hK hP hc.1, fun U hU hW => ⟨rfl, xPre_of hK hN hP hD hU hW⟩⟩ rfl (by rw [List.length_map]; exact e2) (by exact hL.2.1) (by simp [xcv]) ?_ hd ⟨Nat.le_refl _, Nat.le_refl _⟩) hS (fun v τ H1 locs1 hv hP1 hS1 => ?_)
      · show 8 + (y.2.2.1 + 11) + 40 * d ≤ 40 * (d + 1)
        omega
      · exact lv_room (xroom_spec _ _ hc.2)
      · have h9 := hk _ _ _ (hR v τ hv) p e s m args below meth c hx hb hml hr ho hts hlk hK hN H1 locs1 ls hP1 (xD_of hD) hS1 hL
        rw [← x_toList] at h9
        exact h9
    · exact h.elim
  · exact h.elim
def xi_callS (G : XG) (d : Nat) (y : XMth) (n : Nat) (k : XK) : XK := fun L S σ => match xpop n S [] with
  | some (As, S') => (match xroom S' 8 with
    | true => ∃ R', XM G y d As σ R' ∧ ∀ v τ, R' v τ → k L (v.toList ++ S') τ
    | false => False)
  | _ => False
theorem xs_callS {y : XMth} {n idx : Nat} (hok : XOkS y n) (hw : Cond.methodLink ow idx y.1 ∈ x_tbl) (hd : decode cc pc = .ok (.invokestatic idx, 3)) (hk : XTo G ow cc nL rt (d + 1) R (pc + 3) k) : XTo G ow cc nL rt (d + 1) R pc (xi_callS G d y n k) := by
  intro L S σ h p e s m args below meth c hx hb hml hr ho hts hlk hK hN H locs ls hP hD hS hL
  obtain ⟨⟨a1, a2, a3, a4⟩, a5⟩ := hok
  unfold xi_callS at h
  split at h
  · next As S' hp =>
    split at h
    · next hc =>
      obtain ⟨R', hM, hR⟩ := h
      obtain ⟨P, e1, e2, e3⟩ := xpop_spec n S [] hp
      rw [List.append_nil] at e1
      subst e1
      subst e3
      refine x_after (va_runS (n := n) (nL := nL) (own := ow) (Ts := x_tbl) (As := As.map (xcv G.2.1)) (rest := S'.map (xcv G.2.1)) (bytes := y.2.1) (maxL := y.2.2.1) (ret := y.2.2.2) (index := idx) ⟨hx, hb, hml, ho, hts⟩ hM ⟨callB_of n hts (XOk.good ⟨a1, a2, a3, a4⟩) rfl rfl rfl (hts _ a2) (hts _ hw) a3 ⟨Nat.le_refl _, ?_⟩, hts _ a5⟩ ⟨xPre_blind, fun U hU hW => ⟨rfl, xPre_of hK hN hP hD hU hW⟩⟩ rfl (by rw [List.length_map]; exact e2) (by exact hL.2.1) (by simp) ?_ hd ⟨Nat.le_refl _, Nat.le_refl _⟩) hS (fun v τ H1 locs1 hv hP1 hS1 => ?_)
      · show 8 + (y.2.2.1 + 11) + 40 * d ≤ 40 * (d + 1)
        omega
      · exact lv_room (xroom_spec _ _ hc)
      · have h9 := hk _ _ _ (hR v τ hv) p e s m args below meth c hx hb hml hr ho hts hlk hK hN H1 locs1 ls hP1 (xD_of hD) hS1 hL
        rw [← x_toList] at h9
        exact h9
    · exact h.elim
  · exact h.elim
/-! from the entry -/
def xent : List Value → Nat → List (Option Value)
  | [], n => List.replicate n none
  | .long x :: av, n + 2 => some (.long x) :: none :: xent av n
  | v :: av, n + 1 => some v :: xent av n
  | _ :: _, 0 => []
def xplain : List Value → Bool
  | [] => true
  | .int _ :: S => xplain S
  | .ref _ :: S => xplain S
  | .long _ :: S => xplain S
  | _ => false
theorem xent_len : ∀ (av : List Value) (n : Nat), (xent av n).length = n := by
  intro av
  induction av with
  | nil => intro n; simp [xent]
  | cons v av ih =>
    intro n
    match v, n with
    | .long x, n + 2 => simp [xent, ih]
    | .long x, 1 => simp [xent, ih]
    | .int x, n + 1 => simp [xent, ih]
    | .ref x, n + 1 => simp [xent, ih]
    | .null, n + 1 => simp [xent, ih]
    | .float x, n + 1 => simp [xent, ih]
    | .double x, n + 1 => simp [xent, ih]
    | v, 0 => cases v <;> rfl
    | v, n + 1 => cases v <;> first | simp [xent, ih] | (cases n <;> simp [xent, ih])
theorem xlv_nones (ad : Nat → Nat) : ∀ (n k : Nat), xlv ad k (List.replicate n none) = [] := by
  intro n
  induction n with
  | zero => intro k; rfl
  | succ n ih => intro k; exact ih (k + 1)
theorem xent_sub (ad : Nat → Nat) : ∀ (av : List Value) (n k : Nat), xplain av = true → ∀ q ∈ xlv ad k (xent av n), q ∈ lv_args k (av.map (xcv ad)) := by
  intro av
  induction av with
  | nil => intro n k _ q hq; rw [xent, xlv_nones] at hq; cases hq
  | cons v av ih =>
    intro n k hpl q hq
    cases v with
    | int x =>
      cases n with
      | zero => cases hq
      | succ n =>
        rcases List.mem_cons.mp hq with h | h
        · exact List.mem_cons.mpr (Or.inl h)
        · exact List.mem_cons.mpr (Or.inr (ih n (k + 1) hpl q h))
    | ref x =>
      cases n with
      | zero => cases hq
      | succ n =>
        rcases List.mem_cons.mp hq with h | h
        · exact List.mem_cons.mpr (Or.inl h)
        · exact List.mem_cons.mpr (Or.inr (ih n (k + 1) hpl q h))
    | long x =>
      match n, hq with
      | 1, hq =>
        rcases List.mem_cons.mp hq with h | h
        · exact List.mem_cons.mpr (Or.inl h)
        · have e : xent av 0 = [] := by have := xent_len av 0; exact List.length_eq_zero_iff.mp this
          change q ∈ xlv ad (k + 1) (xent av 0) at h
          rw [e] at h
          cases h
      | n + 2, hq =>
        rcases List.mem_cons.mp hq with h | h
        · exact List.mem_cons.mpr (Or.inl h)
        · exact List.mem_cons.mpr (Or.inr (ih n (k + 2) hpl q h))
    | _ => cases hpl
theorem xm_of {y : XMth} {av : List Value} {σ : Sg} (hpl : plainName y.1.cls = true) (hav : xplain av = true) (hlen : (lg_sl (av.map (xcv G.2.1))).length ≤ y.2.2.1) (h : XAt G y.1.cls y.2.1 y.2.2.1 y.2.2.2 d R 0 (xent av y.2.2.1) [] σ) : XM G y d av σ R := by
  refine Met.ofW (cc := y.2.1) (maxL := y.2.2.1) (ret := y.2.2.2) (ws' := x_tbl) hpl rfl ?_
  intro p e s m args below meth c s₁ B hml hv
  obtain ⟨rfl, hP, hK, hD, hN⟩ := hv
  have hts := atoms_spec (ws := xWs y) B.pre
  have hown : s.vm.findClass y.1.cls = some m.cls := findClass_of_methodNamed B.named
  have hl := lv_entry (av.map (xcv G.2.1)) (n := y.2.2.1) hlen
  rw [lg_entry_eq]
  exact h p e s m _ below meth c B.exec B.bytes hml B.returns hown (fun w hw => hts w (List.mem_cons_of_mem _ hw)) B.notSynchronized hK hN s.heap [] _ hP hD va_S.rf ⟨xent_len _ _, lv_has_of hl (xent_sub G.2.1 av y.2.2.1 0 hav)⟩
end XC
