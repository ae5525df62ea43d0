/-! methods of the class that may throw: their contract, and the rows of 04-06 once more for them (written by wip/gen/throwing.py) -/
def xRm2 (d K : Nat) : Room := { frames := d, cells := K, slots := 6 * K, locals := 40 * d }
/-- the words of a throw that no reader of good words carries -/
def x_dcl : List Cond := [.declares (Bundle.initS "java/lang/RuntimeException"), .declares (Bundle.initS "java/lang/Exception"), .declares (Bundle.initS Bundle.tN), .castable "java/lang/IllegalStateException" "java/lang/IllegalStateException", .castable "java/lang/IllegalArgumentException" "java/lang/IllegalArgumentException", .castable "java/lang/UnsupportedOperationException" "java/lang/UnsupportedOperationException", .castable "java/lang/IndexOutOfBoundsException" "java/lang/IndexOutOfBoundsException", .castable "java/lang/ArithmeticException" "java/lang/ArithmeticException", .castable "java/util/NoSuchElementException" "java/util/NoSuchElementException"]
def xDc (U : State) : Prop := ∀ w ∈ x_dcl, w.before #[] U = true
def x_isD : Cond → Bool
  | .declares _ => true
  | .castable _ _ => true
  | _ => false
theorem x_dcl_d {w : Cond} (h : w ∈ x_dcl) : x_isD w = true := List.all_eq_true.mp (show x_dcl.all x_isD = true from rfl) w h
theorem x_dcl_on {w : Cond} (h : w ∈ x_dcl) : w.onTables = true := List.all_eq_true.mp (show x_dcl.all Cond.onTables = true from rfl) w h
theorem xDc.moved {u U : State} (hvm : u.vm.Alike U.vm) (h : xDc u) : xDc U := by
  intro w hw
  have h1 := h w hw
  have hd := x_dcl_d hw
  have tr : ∀ {c : Cond}, c.onTables = true → c.before #[] (u.setVm U.vm) = true → c.before #[] U = true := by
    intro c hc h
    have e := Cond.onTables_vm (A := #[]) (A' := #[]) (U := u) (U' := U) U.vm c hc
    have hU : U.setVm U.vm = U := rfl
    rw [hU] at e
    rw [← e]
    exact h
  cases w with
  | declares x => exact tr rfl (by rw [Cond.declares_setVm hvm]; exact h1)
  | castable x y => exact tr rfl (by rw [Cond.castable_setVm hvm]; exact h1)
  | _ => cases hd
/-- the class's texts -/
def x_strs : List (Nat × String) := [(72, "there are 10 objects"), (407, "there is no such object"), (98, "the size, the alignment or the content is out of range"), (104, "there are 24 sections"), (409, "there is no such section"), (124, "the name, the offset or the strength is out of range"), (132, "there are 40 definitions, or the section defines the name"), (142, "the name or the size is out of range"), (147, "the object has a common for the name"), (156, "the offset, the name or the kind is out of range"), (164, "there are 40 references, or the section has 4, or one at this offset"), (170, "a room is out of range"), (172, "the reach is out of range"), (413, "there is no such name"), (417, "there is no link"), (218, "the section does not live"), (236, "the name stands for nothing that lives"), (411, "there is no such reference"), (262, "the section is not laid"), (291, "there are 8 libraries"), (419, "there is no such library"), (415, "the name or the version is out of range"), (309, "the library is loaded"), (321, "both libraries are the same"), (326, "it needs the other one"), (340, "the count is 0"), (348, "one that stays has a binding to one that would leave"), (361, "there is no such place"), (364, "the library is not loaded"), (373, "no loaded library provides the name so"), (387, "there are no sections"), (393, "no sections are laid")]
def xSt (U : State) : Prop := ∀ q ∈ x_strs, ∃ a, vk_R RX7 q.1 q.2 a U
theorem xSt.moved {s U : State} (hW : s.WarmedH U.vm) (h : xSt s) : xSt U := fun q hq => by
  obtain ⟨a, ha⟩ := h q hq
  exact ⟨a, vk_R.warm hW ha⟩
def xZU (A : Nat → Prop) (U : State) (H : Heap) : Prop := vx_Zq Bundle.tN "UNASSIGNED_STACK" Bundle.steD A U H ∧ xDc U ∧ xSt U
def xZV (A : Nat → Prop) (U : State) (H : Heap) : Prop := vx_Zq Bundle.tN "SUPPRESSED_SENTINEL" Bundle.listD A U H
def xPre2 (G : XG) (σ : Sg) : State → Prop := fun U => xPre G σ U ∧ xZU (xA G) U U.heap ∧ xZV (xA G) U U.heap
def XX (G : XG) (RX : String → Sg → Prop) : String → State → State → Prop := fun E st t => ∃ τ : Sg, RX E τ ∧ va_P G.2.2.1 x_cl (xW G τ) t.heap ∧ va_F (xA G) st t
/-- the contract of a method that may throw: it returns so that R holds, or throws an exception of the class E so that RX E holds; at most K of them are made -/
def XT (G : XG) (y : XMth) (d K : Nat) (av : List Value) (σ : Sg) (R : Option Value → Sg → Prop) (RX : String → Sg → Prop) : Prop :=
  vx_Met G.1 y.1 (xWs y) (xRm2 d K) (va_Pc (av.map (xcv G.2.1)) (xPre2 G σ)) (XQ G R) (XX G RX) K (6 * K) (xA G)
def TAt (G : XG) (ow : String) (cc : ByteArray) (nL : Nat) (rt : Option FieldType) (d : Nat) (R : Option Value → Sg → Prop) (RX : String → Sg → Prop) (K n : Nat) (pc : Nat) (L : List (Option Value)) (S : List Value) (σ : Sg) : Prop :=
  ∀ (p : Program) (e : Env) (s : State) (m : MethodId) (args : Array Value) (below : List Frame) (meth : Method) (c : Code),
    p.tables.exec = Jvm.exec → c.code = cc → c.maxLocals = nL → meth.sig.returnType = rt → s.vm.findClass ow = some m.cls → (∀ w ∈ x_tbl, w.before args s = true) → meth.locks = false →
    va_K G.2.2.1 x_cl (x_tys G.2.2.2) s → (∀ w ∈ x_nst, va_Nw w s) → G.1.stackTraces = false → (∀ x ∈ c.exceptionTable.toList, False) → xZU (xA G) s s.heap → xZV (xA G) s s.heap → n ≤ K →
    ∀ (H : Heap) (locs : List Loc) (ls : Array Slot), va_P G.2.2.1 x_cl (xW G σ) H → va_D (xA G) (xW G σ) → va_S (xA G) s.heap H locs → XL G.2.1 ls nL L →
      W p G.1 e (xRm2 d K) s m args below meth c H locs n (6 * n) (vx_MQ below (XQ G R) (XX G RX) args s K (6 * K) (xA G)) (F0 m pc ls (S.map (xcv G.2.1)))
def TTo (G : XG) (ow : String) (cc : ByteArray) (nL : Nat) (rt : Option FieldType) (d : Nat) (R : Option Value → Sg → Prop) (RX : String → Sg → Prop) (K n : Nat) (pc : Nat) (k : XK) : Prop := ∀ L S σ, k L S σ → TAt G ow cc nL rt d R RX K n pc L S σ
section XTI
variable {G : XG} {ow : String} {cc : ByteArray} {nL : Nat} {rt : Option FieldType} {d : Nat} {R : Option Value → Sg → Prop} {RX : String → Sg → Prop} {K n : Nat} {pc : Nat} {k kt kf : XK}
section W9
variable {p : Program} {e : Env} {s : State} {m : MethodId} {args : Array Value} {below : List Frame} {meth : Method} {c : Code} {H : Heap} {locs : List Loc} {Q : State → Prop}
theorem t_after {Rm : Room} {R' : Option Value → Sg → Prop} {pc x y : Nat} {ls : Array Slot} {st0 rest : List Value} {a : Array Value} (hr : va_Run p G.1 e Rm s m args below meth c H locs x y 0 0 (F0 m pc ls st0) rest (XQ G R' a) (xA G)) (hS : va_S (xA G) s.heap H locs)
    (kk : ∀ (v : Option Value) (τ : Sg) (H1 : Heap) (locs1 : List Loc), R' v τ → va_P G.2.2.1 x_cl (xW G τ) H1 → va_S (xA G) s.heap H1 locs1 → W p G.1 e Rm s m args below meth c H1 locs1 x y Q (F0 m (pc + 3) ls ((v.map (xcv G.2.1)).toList ++ rest))) : W p G.1 e Rm s m args below meth c H locs x y Q (F0 m pc ls st0) := by
  intro T hT X
  obtain ⟨v, st₀, t, T', L, h0, X', hL, e1, e2, ⟨v', τ, hv, hp, hb, hz, hk⟩, st⟩ := hr T hT X
  cases hv
  rw [h0] at hz hk
  obtain ⟨t2, a1, b1⟩ := kk v' τ T'.heap (locs ++ L) hp (by rw [e1]; exact hb)
    ⟨Nat.le_trans hS.1 (by rw [e1]; exact hz), fun q h1 h2 => by rw [e1, hk q (Nat.lt_of_lt_of_le h1 hS.1) h2]; exact hS.2.1 q h1 h2, fun q hq => by
      rcases List.mem_append.mp hq with h | h
      · exact hS.2.2 q h
      · exact hL q h⟩ T' rfl X'
  exact ⟨t2, st t2 a1, b1⟩
end W9
theorem tto_at : TTo G ow cc nL rt d R RX K n pc (TAt G ow cc nL rt d R RX K n pc) := fun _ _ _ h => h
theorem ts_iload_n {i : Fin 4} (hd : decode cc pc = .ok (.iload_n i, 1)) (hk : TTo G ow cc nL rt d R RX K n (pc + 1) k) : TTo G ow cc nL rt d R RX K n pc (xi_iload (i : Nat) k) := by
  intro L S σ h p e s m args below meth c hx hb hml hr ho hts hlk hK hN hZz hTe hUu hVv hNk H locs ls hP hD hS hL
  unfold xi_iload at h
  split at h
  · next x hl =>
    exact lv_iload_n (x := x) hx hb hd rfl (hL.at (xl_spec hl)) (hk _ _ _ h p e s m args below meth c hx hb hml hr ho hts hlk hK hN hZz hTe hUu hVv hNk H locs ls hP hD hS hL)
  · exact h.elim
theorem ts_iload {i : Nat} (hd : decode cc pc = .ok (.iload i, 2)) (hk : TTo G ow cc nL rt d R RX K n (pc + 2) k) : TTo G ow cc nL rt d R RX K n pc (xi_iload i k) := by
  intro L S σ h p e s m args below meth c hx hb hml hr ho hts hlk hK hN hZz hTe hUu hVv hNk H locs ls hP hD hS hL
  unfold xi_iload at h
  split at h
  · next x hl =>
    exact lv_iload (x := x) hx hb hd (hL.at (xl_spec hl)) (hk _ _ _ h p e s m args below meth c hx hb hml hr ho hts hlk hK hN hZz hTe hUu hVv hNk H locs ls hP hD hS hL)
  · exact h.elim
theorem ts_aload_n {i : Fin 4} (hd : decode cc pc = .ok (.aload_n i, 1)) (hk : TTo G ow cc nL rt d R RX K n (pc + 1) k) : TTo G ow cc nL rt d R RX K n pc (xi_aload (i : Nat) k) := by
  intro L S σ h p e s m args below meth c hx hb hml hr ho hts hlk hK hN hZz hTe hUu hVv hNk H locs ls hP hD hS hL
  unfold xi_aload at h
  split at h
  · next x hl =>
    exact lv_aload_n (x := G.2.1 x) hx hb hd rfl (hL.at (xl_spec hl)) (hk _ _ _ h p e s m args below meth c hx hb hml hr ho hts hlk hK hN hZz hTe hUu hVv hNk H locs ls hP hD hS hL)
  · exact h.elim
theorem ts_aload {i : Nat} (hd : decode cc pc = .ok (.aload i, 2)) (hk : TTo G ow cc nL rt d R RX K n (pc + 2) k) : TTo G ow cc nL rt d R RX K n pc (xi_aload i k) := by
  intro L S σ h p e s m args below meth c hx hb hml hr ho hts hlk hK hN hZz hTe hUu hVv hNk H locs ls hP hD hS hL
  unfold xi_aload at h
  split at h
  · next x hl =>
    exact lv_aload (x := G.2.1 x) hx hb hd (hL.at (xl_spec hl)) (hk _ _ _ h p e s m args below meth c hx hb hml hr ho hts hlk hK hN hZz hTe hUu hVv hNk H locs ls hP hD hS hL)
  · exact h.elim
theorem ts_lload_n {i : Fin 4} (hd : decode cc pc = .ok (.lload_n i, 1)) (hk : TTo G ow cc nL rt d R RX K n (pc + 1) k) : TTo G ow cc nL rt d R RX K n pc (xi_lload (i : Nat) k) := by
  intro L S σ h p e s m args below meth c hx hb hml hr ho hts hlk hK hN hZz hTe hUu hVv hNk H locs ls hP hD hS hL
  unfold xi_lload at h
  split at h
  · next x hl =>
    exact lv_lload_n (x := x) hx hb hd rfl (hL.at (xl_spec hl)) (hk _ _ _ h p e s m args below meth c hx hb hml hr ho hts hlk hK hN hZz hTe hUu hVv hNk H locs ls hP hD hS hL)
  · exact h.elim
theorem ts_lload {i : Nat} (hd : decode cc pc = .ok (.lload i, 2)) (hk : TTo G ow cc nL rt d R RX K n (pc + 2) k) : TTo G ow cc nL rt d R RX K n pc (xi_lload i k) := by
  intro L S σ h p e s m args below meth c hx hb hml hr ho hts hlk hK hN hZz hTe hUu hVv hNk H locs ls hP hD hS hL
  unfold xi_lload at h
  split at h
  · next x hl =>
    exact lv_lload (x := x) hx hb hd (hL.at (xl_spec hl)) (hk _ _ _ h p e s m args below meth c hx hb hml hr ho hts hlk hK hN hZz hTe hUu hVv hNk H locs ls hP hD hS hL)
  · exact h.elim
theorem ts_istore_n {i : Fin 4} (hd : decode cc pc = .ok (.istore_n i, 1)) (hk : TTo G ow cc nL rt d R RX K n (pc + 1) k) : TTo G ow cc nL rt d R RX K n pc (xi_istore (i : Nat) k) := by
  intro L S σ h p e s m args below meth c hx hb hml hr ho hts hlk hK hN hZz hTe hUu hVv hNk H locs ls hP hD hS hL
  unfold xi_istore at h
  split at h
  · next x S =>
    split at h
    · next hok =>
      unfold xok1 at hok
      rw [Bool.and_eq_true, decide_eq_true_eq] at hok
      have hs := hL.store1 (v := .int x) hok.1 hok.2
      exact lv_istore_n (x := x) hx hb hd rfl hL.2 (by rw [← hL.1]; exact hok.1) rfl (fun ls' hl' => hk _ _ _ h p e s m args below meth c hx hb hml hr ho hts hlk hK hN hZz hTe hUu hVv hNk H locs ls' hP hD hS ⟨by rw [xst_len]; exact hL.1, lv_has_of hl' hs⟩)
    · exact h.elim
  · exact h.elim
theorem ts_istore {i : Nat} (hd : decode cc pc = .ok (.istore i, 2)) (hk : TTo G ow cc nL rt d R RX K n (pc + 2) k) : TTo G ow cc nL rt d R RX K n pc (xi_istore i k) := by
  intro L S σ h p e s m args below meth c hx hb hml hr ho hts hlk hK hN hZz hTe hUu hVv hNk H locs ls hP hD hS hL
  unfold xi_istore at h
  split at h
  · next x S =>
    split at h
    · next hok =>
      unfold xok1 at hok
      rw [Bool.and_eq_true, decide_eq_true_eq] at hok
      have hs := hL.store1 (v := .int x) hok.1 hok.2
      exact lv_istore (x := x) hx hb hd hL.2 (by rw [← hL.1]; exact hok.1) rfl (fun ls' hl' => hk _ _ _ h p e s m args below meth c hx hb hml hr ho hts hlk hK hN hZz hTe hUu hVv hNk H locs ls' hP hD hS ⟨by rw [xst_len]; exact hL.1, lv_has_of hl' hs⟩)
    · exact h.elim
  · exact h.elim
theorem ts_astore_n {i : Fin 4} (hd : decode cc pc = .ok (.astore_n i, 1)) (hk : TTo G ow cc nL rt d R RX K n (pc + 1) k) : TTo G ow cc nL rt d R RX K n pc (xi_astore (i : Nat) k) := by
  intro L S σ h p e s m args below meth c hx hb hml hr ho hts hlk hK hN hZz hTe hUu hVv hNk H locs ls hP hD hS hL
  unfold xi_astore at h
  split at h
  · next x S =>
    split at h
    · next hok =>
      unfold xok1 at hok
      rw [Bool.and_eq_true, decide_eq_true_eq] at hok
      have hs := hL.store1 (v := .ref x) hok.1 hok.2
      exact lv_astore_n (x := G.2.1 x) hx hb hd rfl hL.2 (by rw [← hL.1]; exact hok.1) rfl (fun ls' hl' => hk _ _ _ h p e s m args below meth c hx hb hml hr ho hts hlk hK hN hZz hTe hUu hVv hNk H locs ls' hP hD hS ⟨by rw [xst_len]; exact hL.1, lv_has_of hl' hs⟩)
    · exact h.elim
  · exact h.elim
theorem ts_astore {i : Nat} (hd : decode cc pc = .ok (.astore i, 2)) (hk : TTo G ow cc nL rt d R RX K n (pc + 2) k) : TTo G ow cc nL rt d R RX K n pc (xi_astore i k) := by
  intro L S σ h p e s m args below meth c hx hb hml hr ho hts hlk hK hN hZz hTe hUu hVv hNk H locs ls hP hD hS hL
  unfold xi_astore at h
  split at h
  · next x S =>
    split at h
    · next hok =>
      unfold xok1 at hok
      rw [Bool.and_eq_true, decide_eq_true_eq] at hok
      have hs := hL.store1 (v := .ref x) hok.1 hok.2
      exact lv_astore (x := G.2.1 x) hx hb hd hL.2 (by rw [← hL.1]; exact hok.1) rfl (fun ls' hl' => hk _ _ _ h p e s m args below meth c hx hb hml hr ho hts hlk hK hN hZz hTe hUu hVv hNk H locs ls' hP hD hS ⟨by rw [xst_len]; exact hL.1, lv_has_of hl' hs⟩)
    · exact h.elim
  · exact h.elim
theorem ts_lstore_n {i : Fin 4} (hd : decode cc pc = .ok (.lstore_n i, 1)) (hk : TTo G ow cc nL rt d R RX K n (pc + 1) k) : TTo G ow cc nL rt d R RX K n pc (xi_lstore (i : Nat) k) := by
  intro L S σ h p e s m args below meth c hx hb hml hr ho hts hlk hK hN hZz hTe hUu hVv hNk H locs ls hP hD hS hL
  unfold xi_lstore at h
  split at h
  · next x S =>
    split at h
    · next hok =>
      unfold xok2 at hok
      rw [Bool.and_eq_true, decide_eq_true_eq] at hok
      have hs := hL.store2 (v := .long x) hok.1 hok.2
      exact lv_lstore_n (x := x) hx hb hd rfl hL.2 (by rw [← hL.1]; exact hok.1) rfl (fun ls' hl' => hk _ _ _ h p e s m args below meth c hx hb hml hr ho hts hlk hK hN hZz hTe hUu hVv hNk H locs ls' hP hD hS ⟨by rw [xst_len, xst_len]; exact hL.1, lv_has_of hl' hs⟩)
    · exact h.elim
  · exact h.elim
theorem ts_lstore {i : Nat} (hd : decode cc pc = .ok (.lstore i, 2)) (hk : TTo G ow cc nL rt d R RX K n (pc + 2) k) : TTo G ow cc nL rt d R RX K n pc (xi_lstore i k) := by
  intro L S σ h p e s m args below meth c hx hb hml hr ho hts hlk hK hN hZz hTe hUu hVv hNk H locs ls hP hD hS hL
  unfold xi_lstore at h
  split at h
  · next x S =>
    split at h
    · next hok =>
      unfold xok2 at hok
      rw [Bool.and_eq_true, decide_eq_true_eq] at hok
      have hs := hL.store2 (v := .long x) hok.1 hok.2
      exact lv_lstore (x := x) hx hb hd hL.2 (by rw [← hL.1]; exact hok.1) rfl (fun ls' hl' => hk _ _ _ h p e s m args below meth c hx hb hml hr ho hts hlk hK hN hZz hTe hUu hVv hNk H locs ls' hP hD hS ⟨by rw [xst_len, xst_len]; exact hL.1, lv_has_of hl' hs⟩)
    · exact h.elim
  · exact h.elim
theorem ts_iconst {nn : Int} {v : Int32} (hd : decode cc pc = .ok (.iconst nn, 1)) (hv : Int32.ofInt nn = v) (hk : TTo G ow cc nL rt d R RX K n (pc + 1) k) : TTo G ow cc nL rt d R RX K n pc (xi_ic v k) := by
  intro L S σ h p e s m args below meth c hx hb hml hr ho hts hlk hK hN hZz hTe hUu hVv hNk H locs ls hP hD hS hL
  exact lv_iconst hx hb hd hv (hk _ _ _ h p e s m args below meth c hx hb hml hr ho hts hlk hK hN hZz hTe hUu hVv hNk H locs ls hP hD hS hL)
theorem ts_bipush {nn : Int} {v : Int32} (hd : decode cc pc = .ok (.bipush nn, 2)) (hv : (Int8.ofInt nn).toInt32 = v) (hk : TTo G ow cc nL rt d R RX K n (pc + 2) k) : TTo G ow cc nL rt d R RX K n pc (xi_ic v k) := by
  intro L S σ h p e s m args below meth c hx hb hml hr ho hts hlk hK hN hZz hTe hUu hVv hNk H locs ls hP hD hS hL
  exact lv_bipush hx hb hd hv (hk _ _ _ h p e s m args below meth c hx hb hml hr ho hts hlk hK hN hZz hTe hUu hVv hNk H locs ls hP hD hS hL)
theorem ts_sipush {nn : Int} {v : Int32} (hd : decode cc pc = .ok (.sipush nn, 3)) (hv : (Int16.ofInt nn).toInt32 = v) (hk : TTo G ow cc nL rt d R RX K n (pc + 3) k) : TTo G ow cc nL rt d R RX K n pc (xi_ic v k) := by
  intro L S σ h p e s m args below meth c hx hb hml hr ho hts hlk hK hN hZz hTe hUu hVv hNk H locs ls hP hD hS hL
  exact lv_sipush hx hb hd hv (hk _ _ _ h p e s m args below meth c hx hb hml hr ho hts hlk hK hN hZz hTe hUu hVv hNk H locs ls hP hD hS hL)
theorem ts_lconst {nn : Fin 2} {v : Int64} (hd : decode cc pc = .ok (.lconst nn, 1)) (hv : Int64.ofNat (nn : Nat) = v) (hk : TTo G ow cc nL rt d R RX K n (pc + 1) k) : TTo G ow cc nL rt d R RX K n pc (xi_lc v k) := by
  intro L S σ h p e s m args below meth c hx hb hml hr ho hts hlk hK hN hZz hTe hUu hVv hNk H locs ls hP hD hS hL
  exact lv_lconst hx hb hd hv (hk _ _ _ h p e s m args below meth c hx hb hml hr ho hts hlk hK hN hZz hTe hUu hVv hNk H locs ls hP hD hS hL)
theorem ts_ldc {index : Nat} {v : Int32} (hw : Cond.constant ow index v ∈ x_tbl) (hd : decode cc pc = .ok (.ldc index, 2)) (hk : TTo G ow cc nL rt d R RX K n (pc + 2) k) : TTo G ow cc nL rt d R RX K n pc (xi_ic v k) := by
  intro L S σ h p e s m args below meth c hx hb hml hr ho hts hlk hK hN hZz hTe hUu hVv hNk H locs ls hP hD hS hL
  exact lv_ldc hx hb ho (hts _ hw) hd (hk _ _ _ h p e s m args below meth c hx hb hml hr ho hts hlk hK hN hZz hTe hUu hVv hNk H locs ls hP hD hS hL)
theorem ts_ldcw {index : Nat} {v : Int32} (hw : Cond.constant ow index v ∈ x_tbl) (hd : decode cc pc = .ok (.ldc_w index, 3)) (hk : TTo G ow cc nL rt d R RX K n (pc + 3) k) : TTo G ow cc nL rt d R RX K n pc (xi_ic v k) := by
  intro L S σ h p e s m args below meth c hx hb hml hr ho hts hlk hK hN hZz hTe hUu hVv hNk H locs ls hP hD hS hL
  exact lv_ldcw hx hb ho (hts _ hw) hd (hk _ _ _ h p e s m args below meth c hx hb hml hr ho hts hlk hK hN hZz hTe hUu hVv hNk H locs ls hP hD hS hL)
theorem ts_ldc2 {index : Nat} {v : Int64} (hw : Cond.constantLong ow index v ∈ x_tbl) (hd : decode cc pc = .ok (.ldc2_w index, 3)) (hk : TTo G ow cc nL rt d R RX K n (pc + 3) k) : TTo G ow cc nL rt d R RX K n pc (xi_lc v k) := by
  intro L S σ h p e s m args below meth c hx hb hml hr ho hts hlk hK hN hZz hTe hUu hVv hNk H locs ls hP hD hS hL
  exact lv_ldc2 hx hb ho (hts _ hw) hd (hk _ _ _ h p e s m args below meth c hx hb hml hr ho hts hlk hK hN hZz hTe hUu hVv hNk H locs ls hP hD hS hL)
theorem ts_iinc {i : Nat} {nn : Int} {v : Int32} (hd : decode cc pc = .ok (.iinc i nn, 3)) (hv : Int32.ofInt nn = v) (hk : TTo G ow cc nL rt d R RX K n (pc + 3) k) : TTo G ow cc nL rt d R RX K n pc (xi_iinc i v k) := by
  intro L S σ h p e s m args below meth c hx hb hml hr ho hts hlk hK hN hZz hTe hUu hVv hNk H locs ls hP hD hS hL
  unfold xi_iinc at h
  split at h
  · next x hl =>
    split at h
    · next hok =>
      unfold xok1 at hok
      rw [Bool.and_eq_true, decide_eq_true_eq] at hok
      have hs := hL.store1 (v := .int (x + v)) hok.1 hok.2
      have hm : (i, Value.int x) ∈ xlv G.2.1 0 L := (xlv_mem G.2.1 L 0 _).mpr ⟨i, .int x, xl_spec hl, by simp [xcv]⟩
      obtain ⟨k9, hk9⟩ := List.getElem?_of_mem hm
      exact lv_iinc (x := x) hx hb hd hL.2 hk9 (by rw [hv]) (by rw [← hL.1]; exact hok.1) rfl (fun ls' hl' => hk _ _ _ h p e s m args below meth c hx hb hml hr ho hts hlk hK hN hZz hTe hUu hVv hNk H locs ls' hP hD hS ⟨by rw [xst_len]; exact hL.1, lv_has_of hl' hs⟩)
    · exact h.elim
  · exact h.elim
theorem ts_iadd (hd : decode cc pc = .ok (.iadd, 1)) (hk : TTo G ow cc nL rt d R RX K n (pc + 1) k) : TTo G ow cc nL rt d R RX K n pc (xi_iadd k) := by
  intro L S σ h p e s m args below meth c hx hb hml hr ho hts hlk hK hN hZz hTe hUu hVv hNk H locs ls hP hD hS hL
  unfold xi_iadd at h
  split at h
  · exact lv_iadd hx hb hd (hk _ _ _ h p e s m args below meth c hx hb hml hr ho hts hlk hK hN hZz hTe hUu hVv hNk H locs ls hP hD hS hL)
  · exact h.elim
theorem ts_isub (hd : decode cc pc = .ok (.isub, 1)) (hk : TTo G ow cc nL rt d R RX K n (pc + 1) k) : TTo G ow cc nL rt d R RX K n pc (xi_isub k) := by
  intro L S σ h p e s m args below meth c hx hb hml hr ho hts hlk hK hN hZz hTe hUu hVv hNk H locs ls hP hD hS hL
  unfold xi_isub at h
  split at h
  · exact lv_isub hx hb hd (hk _ _ _ h p e s m args below meth c hx hb hml hr ho hts hlk hK hN hZz hTe hUu hVv hNk H locs ls hP hD hS hL)
  · exact h.elim
theorem ts_imul (hd : decode cc pc = .ok (.imul, 1)) (hk : TTo G ow cc nL rt d R RX K n (pc + 1) k) : TTo G ow cc nL rt d R RX K n pc (xi_imul k) := by
  intro L S σ h p e s m args below meth c hx hb hml hr ho hts hlk hK hN hZz hTe hUu hVv hNk H locs ls hP hD hS hL
  unfold xi_imul at h
  split at h
  · exact lv_imul hx hb hd (hk _ _ _ h p e s m args below meth c hx hb hml hr ho hts hlk hK hN hZz hTe hUu hVv hNk H locs ls hP hD hS hL)
  · exact h.elim
theorem ts_iand (hd : decode cc pc = .ok (.iand, 1)) (hk : TTo G ow cc nL rt d R RX K n (pc + 1) k) : TTo G ow cc nL rt d R RX K n pc (xi_iand k) := by
  intro L S σ h p e s m args below meth c hx hb hml hr ho hts hlk hK hN hZz hTe hUu hVv hNk H locs ls hP hD hS hL
  unfold xi_iand at h
  split at h
  · exact lv_iand hx hb hd (hk _ _ _ h p e s m args below meth c hx hb hml hr ho hts hlk hK hN hZz hTe hUu hVv hNk H locs ls hP hD hS hL)
  · exact h.elim
theorem ts_iushr (hd : decode cc pc = .ok (.iushr, 1)) (hk : TTo G ow cc nL rt d R RX K n (pc + 1) k) : TTo G ow cc nL rt d R RX K n pc (xi_iushr k) := by
  intro L S σ h p e s m args below meth c hx hb hml hr ho hts hlk hK hN hZz hTe hUu hVv hNk H locs ls hP hD hS hL
  unfold xi_iushr at h
  split at h
  · exact lv_iushr hx hb hd rfl (hk _ _ _ h p e s m args below meth c hx hb hml hr ho hts hlk hK hN hZz hTe hUu hVv hNk H locs ls hP hD hS hL)
  · exact h.elim
theorem ts_ineg (hd : decode cc pc = .ok (.ineg, 1)) (hk : TTo G ow cc nL rt d R RX K n (pc + 1) k) : TTo G ow cc nL rt d R RX K n pc (xi_ineg k) := by
  intro L S σ h p e s m args below meth c hx hb hml hr ho hts hlk hK hN hZz hTe hUu hVv hNk H locs ls hP hD hS hL
  unfold xi_ineg at h
  split at h
  · exact lv_ineg hx hb hd (hk _ _ _ h p e s m args below meth c hx hb hml hr ho hts hlk hK hN hZz hTe hUu hVv hNk H locs ls hP hD hS hL)
  · exact h.elim
theorem ts_idiv (hd : decode cc pc = .ok (.idiv, 1)) (hk : TTo G ow cc nL rt d R RX K n (pc + 1) k) : TTo G ow cc nL rt d R RX K n pc (xi_idiv k) := by
  intro L S σ h p e s m args below meth c hx hb hml hr ho hts hlk hK hN hZz hTe hUu hVv hNk H locs ls hP hD hS hL
  unfold xi_idiv at h
  split at h
  · exact lv_idiv hx hb hd h.1 (hk _ _ _ h.2 p e s m args below meth c hx hb hml hr ho hts hlk hK hN hZz hTe hUu hVv hNk H locs ls hP hD hS hL)
  · exact h.elim
theorem ts_irem (hd : decode cc pc = .ok (.irem, 1)) (hk : TTo G ow cc nL rt d R RX K n (pc + 1) k) : TTo G ow cc nL rt d R RX K n pc (xi_irem k) := by
  intro L S σ h p e s m args below meth c hx hb hml hr ho hts hlk hK hN hZz hTe hUu hVv hNk H locs ls hP hD hS hL
  unfold xi_irem at h
  split at h
  · exact lv_irem hx hb hd h.1 (hk _ _ _ h.2 p e s m args below meth c hx hb hml hr ho hts hlk hK hN hZz hTe hUu hVv hNk H locs ls hP hD hS hL)
  · exact h.elim
theorem ts_ladd (hd : decode cc pc = .ok (.ladd, 1)) (hk : TTo G ow cc nL rt d R RX K n (pc + 1) k) : TTo G ow cc nL rt d R RX K n pc (xi_ladd k) := by
  intro L S σ h p e s m args below meth c hx hb hml hr ho hts hlk hK hN hZz hTe hUu hVv hNk H locs ls hP hD hS hL
  unfold xi_ladd at h
  split at h
  · exact lv_ladd hx hb hd (hk _ _ _ h p e s m args below meth c hx hb hml hr ho hts hlk hK hN hZz hTe hUu hVv hNk H locs ls hP hD hS hL)
  · exact h.elim
theorem ts_lmul (hd : decode cc pc = .ok (.lmul, 1)) (hk : TTo G ow cc nL rt d R RX K n (pc + 1) k) : TTo G ow cc nL rt d R RX K n pc (xi_lmul k) := by
  intro L S σ h p e s m args below meth c hx hb hml hr ho hts hlk hK hN hZz hTe hUu hVv hNk H locs ls hP hD hS hL
  unfold xi_lmul at h
  split at h
  · exact lv_lmul hx hb hd (hk _ _ _ h p e s m args below meth c hx hb hml hr ho hts hlk hK hN hZz hTe hUu hVv hNk H locs ls hP hD hS hL)
  · exact h.elim
theorem ts_lrem (hd : decode cc pc = .ok (.lrem, 1)) (hk : TTo G ow cc nL rt d R RX K n (pc + 1) k) : TTo G ow cc nL rt d R RX K n pc (xi_lrem k) := by
  intro L S σ h p e s m args below meth c hx hb hml hr ho hts hlk hK hN hZz hTe hUu hVv hNk H locs ls hP hD hS hL
  unfold xi_lrem at h
  split at h
  · exact lv_lrem hx hb hd h.1 (hk _ _ _ h.2 p e s m args below meth c hx hb hml hr ho hts hlk hK hN hZz hTe hUu hVv hNk H locs ls hP hD hS hL)
  · exact h.elim
theorem ts_lcmp (hd : decode cc pc = .ok (.lcmp, 1)) (hk : TTo G ow cc nL rt d R RX K n (pc + 1) k) : TTo G ow cc nL rt d R RX K n pc (xi_lcmp k) := by
  intro L S σ h p e s m args below meth c hx hb hml hr ho hts hlk hK hN hZz hTe hUu hVv hNk H locs ls hP hD hS hL
  unfold xi_lcmp at h
  split at h
  · exact W.lcmp hx hb hd (hk _ _ _ h p e s m args below meth c hx hb hml hr ho hts hlk hK hN hZz hTe hUu hVv hNk H locs ls hP hD hS hL)
  · exact h.elim
theorem ts_i2l (hd : decode cc pc = .ok (.i2l, 1)) (hk : TTo G ow cc nL rt d R RX K n (pc + 1) k) : TTo G ow cc nL rt d R RX K n pc (xi_i2l k) := by
  intro L S σ h p e s m args below meth c hx hb hml hr ho hts hlk hK hN hZz hTe hUu hVv hNk H locs ls hP hD hS hL
  unfold xi_i2l at h
  split at h
  · exact lv_i2l hx hb hd rfl (hk _ _ _ h p e s m args below meth c hx hb hml hr ho hts hlk hK hN hZz hTe hUu hVv hNk H locs ls hP hD hS hL)
  · exact h.elim
theorem ts_l2i (hd : decode cc pc = .ok (.l2i, 1)) (hk : TTo G ow cc nL rt d R RX K n (pc + 1) k) : TTo G ow cc nL rt d R RX K n pc (xi_l2i k) := by
  intro L S σ h p e s m args below meth c hx hb hml hr ho hts hlk hK hN hZz hTe hUu hVv hNk H locs ls hP hD hS hL
  unfold xi_l2i at h
  split at h
  · exact lv_l2i hx hb hd rfl (hk _ _ _ h p e s m args below meth c hx hb hml hr ho hts hlk hK hN hZz hTe hUu hVv hNk H locs ls hP hD hS hL)
  · exact h.elim
theorem ts_i2c (hd : decode cc pc = .ok (.i2c, 1)) (hk : TTo G ow cc nL rt d R RX K n (pc + 1) k) : TTo G ow cc nL rt d R RX K n pc (xi_i2c k) := by
  intro L S σ h p e s m args below meth c hx hb hml hr ho hts hlk hK hN hZz hTe hUu hVv hNk H locs ls hP hD hS hL
  unfold xi_i2c at h
  split at h
  · exact lv_i2c hx hb hd rfl (hk _ _ _ h p e s m args below meth c hx hb hml hr ho hts hlk hK hN hZz hTe hUu hVv hNk H locs ls hP hD hS hL)
  · exact h.elim
theorem ts_dup (hd : decode cc pc = .ok (.dup, 1)) (hk : TTo G ow cc nL rt d R RX K n (pc + 1) k) : TTo G ow cc nL rt d R RX K n pc (xi_dup k) := by
  intro L S σ h p e s m args below meth c hx hb hml hr ho hts hlk hK hN hZz hTe hUu hVv hNk H locs ls hP hD hS hL
  unfold xi_dup at h
  split at h
  · split at h
    · next hc => exact lv_dup hx hb hd (xone_cat hc) (hk _ _ _ h p e s m args below meth c hx hb hml hr ho hts hlk hK hN hZz hTe hUu hVv hNk H locs ls hP hD hS hL)
    · exact h.elim
  · exact h.elim
theorem ts_pop (hd : decode cc pc = .ok (.pop, 1)) (hk : TTo G ow cc nL rt d R RX K n (pc + 1) k) : TTo G ow cc nL rt d R RX K n pc (xi_pop k) := by
  intro L S σ h p e s m args below meth c hx hb hml hr ho hts hlk hK hN hZz hTe hUu hVv hNk H locs ls hP hD hS hL
  unfold xi_pop at h
  split at h
  · split at h
    · next hc => exact lv_pop hx hb hd (xone_cat hc) (hk _ _ _ h p e s m args below meth c hx hb hml hr ho hts hlk hK hN hZz hTe hUu hVv hNk H locs ls hP hD hS hL)
    · exact h.elim
  · exact h.elim
theorem ts_dup2 (hd : decode cc pc = .ok (.dup2, 1)) (hk : TTo G ow cc nL rt d R RX K n (pc + 1) k) : TTo G ow cc nL rt d R RX K n pc (xi_dup2 k) := by
  intro L S σ h p e s m args below meth c hx hb hml hr ho hts hlk hK hN hZz hTe hUu hVv hNk H locs ls hP hD hS hL
  unfold xi_dup2 at h
  split at h
  · split at h
    · next hc =>
      rw [Bool.and_eq_true] at hc
      exact lv_dup2_11 hx hb hd (xone_cat hc.1) (xone_cat hc.2) (hk _ _ _ h p e s m args below meth c hx hb hml hr ho hts hlk hK hN hZz hTe hUu hVv hNk H locs ls hP hD hS hL)
    · exact h.elim
  · exact h.elim
theorem ts_ifeq {off : Int} {tgt : Nat} (hd : decode cc pc = .ok (.ifCond .eq off, 3)) (ht : (pc : Int) + off = (tgt : Int)) (h1 : TTo G ow cc nL rt d R RX K n tgt kt) (h2 : TTo G ow cc nL rt d R RX K n (pc + 3) kf) : TTo G ow cc nL rt d R RX K n pc (xi_ifeq kt kf) := by
  intro L S σ h p e s m args below meth c hx hb hml hr ho hts hlk hK hN hZz hTe hUu hVv hNk H locs ls hP hD hS hL
  unfold xi_ifeq at h
  split at h
  · exact lv_if_eq hx hb hd ht (fun hc => h1 _ _ _ (h.1 hc) p e s m args below meth c hx hb hml hr ho hts hlk hK hN hZz hTe hUu hVv hNk H locs ls hP hD hS hL) (fun hc => h2 _ _ _ (h.2 hc) p e s m args below meth c hx hb hml hr ho hts hlk hK hN hZz hTe hUu hVv hNk H locs ls hP hD hS hL)
  · exact h.elim
theorem ts_iceq {off : Int} {tgt : Nat} (hd : decode cc pc = .ok (.if_icmp .eq off, 3)) (ht : (pc : Int) + off = (tgt : Int)) (h1 : TTo G ow cc nL rt d R RX K n tgt kt) (h2 : TTo G ow cc nL rt d R RX K n (pc + 3) kf) : TTo G ow cc nL rt d R RX K n pc (xi_iceq kt kf) := by
  intro L S σ h p e s m args below meth c hx hb hml hr ho hts hlk hK hN hZz hTe hUu hVv hNk H locs ls hP hD hS hL
  unfold xi_iceq at h
  split at h
  · exact lv_icmp_eq hx hb hd ht (fun hc => h1 _ _ _ (h.1 hc) p e s m args below meth c hx hb hml hr ho hts hlk hK hN hZz hTe hUu hVv hNk H locs ls hP hD hS hL) (fun hc => h2 _ _ _ (h.2 hc) p e s m args below meth c hx hb hml hr ho hts hlk hK hN hZz hTe hUu hVv hNk H locs ls hP hD hS hL)
  · exact h.elim
theorem ts_ifne {off : Int} {tgt : Nat} (hd : decode cc pc = .ok (.ifCond .ne off, 3)) (ht : (pc : Int) + off = (tgt : Int)) (h1 : TTo G ow cc nL rt d R RX K n tgt kt) (h2 : TTo G ow cc nL rt d R RX K n (pc + 3) kf) : TTo G ow cc nL rt d R RX K n pc (xi_ifne kt kf) := by
  intro L S σ h p e s m args below meth c hx hb hml hr ho hts hlk hK hN hZz hTe hUu hVv hNk H locs ls hP hD hS hL
  unfold xi_ifne at h
  split at h
  · exact lv_if_ne hx hb hd ht (fun hc => h1 _ _ _ (h.1 hc) p e s m args below meth c hx hb hml hr ho hts hlk hK hN hZz hTe hUu hVv hNk H locs ls hP hD hS hL) (fun hc => h2 _ _ _ (h.2 hc) p e s m args below meth c hx hb hml hr ho hts hlk hK hN hZz hTe hUu hVv hNk H locs ls hP hD hS hL)
  · exact h.elim
theorem ts_icne {off : Int} {tgt : Nat} (hd : decode cc pc = .ok (.if_icmp .ne off, 3)) (ht : (pc : Int) + off = (tgt : Int)) (h1 : TTo G ow cc nL rt d R RX K n tgt kt) (h2 : TTo G ow cc nL rt d R RX K n (pc + 3) kf) : TTo G ow cc nL rt d R RX K n pc (xi_icne kt kf) := by
  intro L S σ h p e s m args below meth c hx hb hml hr ho hts hlk hK hN hZz hTe hUu hVv hNk H locs ls hP hD hS hL
  unfold xi_icne at h
  split at h
  · exact lv_icmp_ne hx hb hd ht (fun hc => h1 _ _ _ (h.1 hc) p e s m args below meth c hx hb hml hr ho hts hlk hK hN hZz hTe hUu hVv hNk H locs ls hP hD hS hL) (fun hc => h2 _ _ _ (h.2 hc) p e s m args below meth c hx hb hml hr ho hts hlk hK hN hZz hTe hUu hVv hNk H locs ls hP hD hS hL)
  · exact h.elim
theorem ts_iflt {off : Int} {tgt : Nat} (hd : decode cc pc = .ok (.ifCond .lt off, 3)) (ht : (pc : Int) + off = (tgt : Int)) (h1 : TTo G ow cc nL rt d R RX K n tgt kt) (h2 : TTo G ow cc nL rt d R RX K n (pc + 3) kf) : TTo G ow cc nL rt d R RX K n pc (xi_iflt kt kf) := by
  intro L S σ h p e s m args below meth c hx hb hml hr ho hts hlk hK hN hZz hTe hUu hVv hNk H locs ls hP hD hS hL
  unfold xi_iflt at h
  split at h
  · exact lv_if_lt hx hb hd ht (fun hc => h1 _ _ _ (h.1 hc) p e s m args below meth c hx hb hml hr ho hts hlk hK hN hZz hTe hUu hVv hNk H locs ls hP hD hS hL) (fun hc => h2 _ _ _ (h.2 hc) p e s m args below meth c hx hb hml hr ho hts hlk hK hN hZz hTe hUu hVv hNk H locs ls hP hD hS hL)
  · exact h.elim
theorem ts_iclt {off : Int} {tgt : Nat} (hd : decode cc pc = .ok (.if_icmp .lt off, 3)) (ht : (pc : Int) + off = (tgt : Int)) (h1 : TTo G ow cc nL rt d R RX K n tgt kt) (h2 : TTo G ow cc nL rt d R RX K n (pc + 3) kf) : TTo G ow cc nL rt d R RX K n pc (xi_iclt kt kf) := by
  intro L S σ h p e s m args below meth c hx hb hml hr ho hts hlk hK hN hZz hTe hUu hVv hNk H locs ls hP hD hS hL
  unfold xi_iclt at h
  split at h
  · exact lv_icmp_lt hx hb hd ht (fun hc => h1 _ _ _ (h.1 hc) p e s m args below meth c hx hb hml hr ho hts hlk hK hN hZz hTe hUu hVv hNk H locs ls hP hD hS hL) (fun hc => h2 _ _ _ (h.2 hc) p e s m args below meth c hx hb hml hr ho hts hlk hK hN hZz hTe hUu hVv hNk H locs ls hP hD hS hL)
  · exact h.elim
theorem ts_ifge {off : Int} {tgt : Nat} (hd : decode cc pc = .ok (.ifCond .ge off, 3)) (ht : (pc : Int) + off = (tgt : Int)) (h1 : TTo G ow cc nL rt d R RX K n tgt kt) (h2 : TTo G ow cc nL rt d R RX K n (pc + 3) kf) : TTo G ow cc nL rt d R RX K n pc (xi_ifge kt kf) := by
  intro L S σ h p e s m args below meth c hx hb hml hr ho hts hlk hK hN hZz hTe hUu hVv hNk H locs ls hP hD hS hL
  unfold xi_ifge at h
  split at h
  · exact lv_if_ge hx hb hd ht (fun hc => h1 _ _ _ (h.1 hc) p e s m args below meth c hx hb hml hr ho hts hlk hK hN hZz hTe hUu hVv hNk H locs ls hP hD hS hL) (fun hc => h2 _ _ _ (h.2 hc) p e s m args below meth c hx hb hml hr ho hts hlk hK hN hZz hTe hUu hVv hNk H locs ls hP hD hS hL)
  · exact h.elim
theorem ts_icge {off : Int} {tgt : Nat} (hd : decode cc pc = .ok (.if_icmp .ge off, 3)) (ht : (pc : Int) + off = (tgt : Int)) (h1 : TTo G ow cc nL rt d R RX K n tgt kt) (h2 : TTo G ow cc nL rt d R RX K n (pc + 3) kf) : TTo G ow cc nL rt d R RX K n pc (xi_icge kt kf) := by
  intro L S σ h p e s m args below meth c hx hb hml hr ho hts hlk hK hN hZz hTe hUu hVv hNk H locs ls hP hD hS hL
  unfold xi_icge at h
  split at h
  · exact lv_icmp_ge hx hb hd ht (fun hc => h1 _ _ _ (h.1 hc) p e s m args below meth c hx hb hml hr ho hts hlk hK hN hZz hTe hUu hVv hNk H locs ls hP hD hS hL) (fun hc => h2 _ _ _ (h.2 hc) p e s m args below meth c hx hb hml hr ho hts hlk hK hN hZz hTe hUu hVv hNk H locs ls hP hD hS hL)
  · exact h.elim
theorem ts_ifgt {off : Int} {tgt : Nat} (hd : decode cc pc = .ok (.ifCond .gt off, 3)) (ht : (pc : Int) + off = (tgt : Int)) (h1 : TTo G ow cc nL rt d R RX K n tgt kt) (h2 : TTo G ow cc nL rt d R RX K n (pc + 3) kf) : TTo G ow cc nL rt d R RX K n pc (xi_ifgt kt kf) := by
  intro L S σ h p e s m args below meth c hx hb hml hr ho hts hlk hK hN hZz hTe hUu hVv hNk H locs ls hP hD hS hL
  unfold xi_ifgt at h
  split at h
  · exact lv_if_gt hx hb hd ht (fun hc => h1 _ _ _ (h.1 hc) p e s m args below meth c hx hb hml hr ho hts hlk hK hN hZz hTe hUu hVv hNk H locs ls hP hD hS hL) (fun hc => h2 _ _ _ (h.2 hc) p e s m args below meth c hx hb hml hr ho hts hlk hK hN hZz hTe hUu hVv hNk H locs ls hP hD hS hL)
  · exact h.elim
theorem ts_icgt {off : Int} {tgt : Nat} (hd : decode cc pc = .ok (.if_icmp .gt off, 3)) (ht : (pc : Int) + off = (tgt : Int)) (h1 : TTo G ow cc nL rt d R RX K n tgt kt) (h2 : TTo G ow cc nL rt d R RX K n (pc + 3) kf) : TTo G ow cc nL rt d R RX K n pc (xi_icgt kt kf) := by
  intro L S σ h p e s m args below meth c hx hb hml hr ho hts hlk hK hN hZz hTe hUu hVv hNk H locs ls hP hD hS hL
  unfold xi_icgt at h
  split at h
  · exact lv_icmp_gt hx hb hd ht (fun hc => h1 _ _ _ (h.1 hc) p e s m args below meth c hx hb hml hr ho hts hlk hK hN hZz hTe hUu hVv hNk H locs ls hP hD hS hL) (fun hc => h2 _ _ _ (h.2 hc) p e s m args below meth c hx hb hml hr ho hts hlk hK hN hZz hTe hUu hVv hNk H locs ls hP hD hS hL)
  · exact h.elim
theorem ts_ifle {off : Int} {tgt : Nat} (hd : decode cc pc = .ok (.ifCond .le off, 3)) (ht : (pc : Int) + off = (tgt : Int)) (h1 : TTo G ow cc nL rt d R RX K n tgt kt) (h2 : TTo G ow cc nL rt d R RX K n (pc + 3) kf) : TTo G ow cc nL rt d R RX K n pc (xi_ifle kt kf) := by
  intro L S σ h p e s m args below meth c hx hb hml hr ho hts hlk hK hN hZz hTe hUu hVv hNk H locs ls hP hD hS hL
  unfold xi_ifle at h
  split at h
  · exact lv_if_le hx hb hd ht (fun hc => h1 _ _ _ (h.1 hc) p e s m args below meth c hx hb hml hr ho hts hlk hK hN hZz hTe hUu hVv hNk H locs ls hP hD hS hL) (fun hc => h2 _ _ _ (h.2 hc) p e s m args below meth c hx hb hml hr ho hts hlk hK hN hZz hTe hUu hVv hNk H locs ls hP hD hS hL)
  · exact h.elim
theorem ts_icle {off : Int} {tgt : Nat} (hd : decode cc pc = .ok (.if_icmp .le off, 3)) (ht : (pc : Int) + off = (tgt : Int)) (h1 : TTo G ow cc nL rt d R RX K n tgt kt) (h2 : TTo G ow cc nL rt d R RX K n (pc + 3) kf) : TTo G ow cc nL rt d R RX K n pc (xi_icle kt kf) := by
  intro L S σ h p e s m args below meth c hx hb hml hr ho hts hlk hK hN hZz hTe hUu hVv hNk H locs ls hP hD hS hL
  unfold xi_icle at h
  split at h
  · exact lv_icmp_le hx hb hd ht (fun hc => h1 _ _ _ (h.1 hc) p e s m args below meth c hx hb hml hr ho hts hlk hK hN hZz hTe hUu hVv hNk H locs ls hP hD hS hL) (fun hc => h2 _ _ _ (h.2 hc) p e s m args below meth c hx hb hml hr ho hts hlk hK hN hZz hTe hUu hVv hNk H locs ls hP hD hS hL)
  · exact h.elim
theorem ts_goto {off : Int} {tgt : Nat} (hd : decode cc pc = .ok (.goto off, 3)) (ht : (pc : Int) + off = (tgt : Int)) (hk : TTo G ow cc nL rt d R RX K n tgt k) : TTo G ow cc nL rt d R RX K n pc k := by
  intro L S σ h p e s m args below meth c hx hb hml hr ho hts hlk hK hN hZz hTe hUu hVv hNk H locs ls hP hD hS hL
  exact lv_goto hx hb hd ht (hk _ _ _ h p e s m args below meth c hx hb hml hr ho hts hlk hK hN hZz hTe hUu hVv hNk H locs ls hP hD hS hL)
theorem ts_iret (hd : decode cc pc = .ok (.ireturn, 1)) (hrt : rt = some .int) : TTo G ow cc nL rt d R RX K n pc (xi_iret R) := by
  intro L S σ h p e s m args below meth c hx hb hml hr ho hts hlk hK hN hZz hTe hUu hVv hNk H locs ls hP hD hS hL
  unfold xi_iret at h
  split at h
  · next x => exact W.widen (k := K) (n := 6 * K) hNk (Nat.mul_le_mul_left 6 hNk) (vx_ret (W.iret (v := x) hx hb (hr.trans hrt) (fun t ht hW => ⟨some (.int x), σ, rfl, h, by rw [ht]; exact hP, hS.F ht⟩) hS.2.2 hd hlk))
  · exact h.elim
theorem ts_zret {ty : FieldType} (hd : decode cc pc = .ok (.ireturn, 1)) (hrt : rt = some ty) : TTo G ow cc nL rt d R RX K n pc (xi_zret ty R) := by
  intro L S σ h p e s m args below meth c hx hb hml hr ho hts hlk hK hN hZz hTe hUu hVv hNk H locs ls hP hD hS hL
  unfold xi_zret at h
  split at h
  · next x => exact W.widen (k := K) (n := 6 * K) hNk (Nat.mul_le_mul_left 6 hNk) (vx_ret (W.zret (v := x) hx hb (hr.trans hrt) h.1 (fun t ht hW => ⟨some (.int x), σ, rfl, h.2, by rw [ht]; exact hP, hS.F ht⟩) hS.2.2 hd hlk))
  · exact h.elim
theorem ts_lret (hd : decode cc pc = .ok (.lreturn, 1)) (hrt : rt = some .long) : TTo G ow cc nL rt d R RX K n pc (xi_lret R) := by
  intro L S σ h p e s m args below meth c hx hb hml hr ho hts hlk hK hN hZz hTe hUu hVv hNk H locs ls hP hD hS hL
  unfold xi_lret at h
  split at h
  · next x => exact W.widen (k := K) (n := 6 * K) hNk (Nat.mul_le_mul_left 6 hNk) (vx_ret (W.lret (v := x) hx hb (hr.trans hrt) (fun t ht hW => ⟨some (.long x), σ, rfl, h, by rw [ht]; exact hP, hS.F ht⟩) hS.2.2 hd hlk))
  · exact h.elim
theorem ts_vret (hd : decode cc pc = .ok (.return_, 1)) (hrt : rt = none) : TTo G ow cc nL rt d R RX K n pc (xi_vret R) := by
  intro L S σ h p e s m args below meth c hx hb hml hr ho hts hlk hK hN hZz hTe hUu hVv hNk H locs ls hP hD hS hL
  unfold xi_vret at h
  split at h
  · exact W.widen (k := K) (n := 6 * K) hNk (Nat.mul_le_mul_left 6 hNk) (vx_ret (W.vret hx hb (hr.trans hrt) (fun t ht hW => ⟨none, σ, rfl, h, by rw [ht]; exact hP, hS.F ht⟩) hS.2.2 hd hlk))
  · exact h.elim
theorem ts_getf {ci j idx N : Nat} {C : String} {T : u_T} (hc : XCl ci C T N) (hj : j < N) (hw : Cond.fieldLink ow idx (T j).1 (T j).2.1 (T j).2.2.1 ∈ x_tbl) (hd : decode cc pc = .ok (.getfield idx, 3)) (hk : TTo G ow cc nL rt d R RX K n (pc + 3) k) : TTo G ow cc nL rt d R RX K n pc (xi_getf ci j k) := by
  intro L S σ h p e s m args below meth c hx hb hml hr ho hts hlk hK hN hZz hTe hUu hVv hNk H locs ls hP hD hS hL
  unfold xi_getf at h
  split at h
  · next o S =>
    split at h
    · next v hf =>
      obtain ⟨fs, h1, h2⟩ := xfld_spec hf
      exact va_get hx hb hts hc.2.1 ho hK hP o (xW_get h1) hc.1 j hj (hts _ hw) (fun _ q => q) (x_fs h2) hd (hk _ _ _ h p e s m args below meth c hx hb hml hr ho hts hlk hK hN hZz hTe hUu hVv hNk H locs ls hP hD hS hL)
    · next hf =>
      obtain ⟨fs, h1, h2⟩ := xfld_spec hf
      exact va_get hx hb hts hc.2.1 ho hK hP o (xW_get h1) hc.1 j hj (hts _ hw) (fun _ q => q) (x_fs h2) hd (hk _ _ _ h p e s m args below meth c hx hb hml hr ho hts hlk hK hN hZz hTe hUu hVv hNk H locs ls hP hD hS hL)
    · exact h.elim
  · exact h.elim
theorem ts_getfN {ci j idx N : Nat} {C host : String} {T : u_T} (hc : XCl ci C T N) (hj : j < N) (hw : Cond.fieldLinkNest ow idx (T j).1 (T j).2.1 (T j).2.2.1 host ∈ x_nst) (hd : decode cc pc = .ok (.getfield idx, 3)) (hk : TTo G ow cc nL rt d R RX K n (pc + 3) k) : TTo G ow cc nL rt d R RX K n pc (xi_getf ci j k) := by
  intro L S σ h p e s m args below meth c hx hb hml hr ho hts hlk hK hN hZz hTe hUu hVv hNk H locs ls hP hD hS hL
  unfold xi_getf at h
  split at h
  · next o S =>
    split at h
    · next v hf =>
      obtain ⟨fs, h1, h2⟩ := xfld_spec hf
      exact va_getN hx hb hts hc.2.1 ho hK hP o (xW_get h1) hc.1 j hj (va_Nw.use rfl (hN _ hw)) (fun _ q => q) (x_fs h2) hd (hk _ _ _ h p e s m args below meth c hx hb hml hr ho hts hlk hK hN hZz hTe hUu hVv hNk H locs ls hP hD hS hL)
    · next hf =>
      obtain ⟨fs, h1, h2⟩ := xfld_spec hf
      exact va_getN hx hb hts hc.2.1 ho hK hP o (xW_get h1) hc.1 j hj (va_Nw.use rfl (hN _ hw)) (fun _ q => q) (x_fs h2) hd (hk _ _ _ h p e s m args below meth c hx hb hml hr ho hts hlk hK hN hZz hTe hUu hVv hNk H locs ls hP hD hS hL)
    · exact h.elim
  · exact h.elim
theorem ts_putf {ty : FieldType} {ci j idx N : Nat} {C : String} {T : u_T} (hc : XCl ci C T N) (hj : j < N) (hw : Cond.fieldLink ow idx (T j).1 (T j).2.1 (T j).2.2.1 ∈ x_tbl) (hfin : (T j).2.2.2 = false) (hpd : parseFieldDescriptor (T j).2.2.1 = some ty)
    (hd : decode cc pc = .ok (.putfield idx, 3)) (hk : TTo G ow cc nL rt d R RX K n (pc + 3) k) : TTo G ow cc nL rt d R RX K n pc (xi_putf ty ci j k) := by
  intro L S σ h p e s m args below meth c hx hb hml hr ho hts hlk hK hN hZz hTe hUu hVv hNk H locs ls hP hD hS hL
  unfold xi_putf at h
  split at h
  · next x o S =>
    split at h
    · next hf =>
      obtain ⟨fs, h1, h2⟩ := xfld_spec hf
      obtain ⟨ty0, h0⟩ := hc.2.2.2
      have hl : j < fs.length := (List.getElem?_eq_some_iff.mp h2).1
      refine va_put (v := .int x) (fs := xFs G.2.1 (σ o) 0 fs) hx hb hts hc.2.1 ty0 h0 hc.2.2.1 ho hK hP hD hS o (xW_get h1) hc.1 j hj (hts _ hw) (fun _ q => q) hfin hpd h.1.1 h.1.2 (by rw [xFs_len]; exact hl) hd (fun H1 locs1 hP1 hD1 hS1 => ?_)
      have e1 := xW_set (G := G) (σ := σ) (p := o) (j := j) (x := x) (c := .inr (ci, fs)) (e := .inr (ci, (xFs G.2.1 (σ o) 0 fs).set j (.int x))) h1 (by
        show _ = Sum.inr (ci, xFs G.2.1 (upd (σ o) j x) 0 fs)
        rw [xFs_set _ _ _ _ _ _ h2, Nat.zero_add])
      rw [e1] at hP1 hD1
      exact hk _ _ _ h.2 p e s m args below meth c hx hb hml hr ho hts hlk hK hN hZz hTe hUu hVv hNk H1 locs1 ls hP1 hD1 hS1 hL
    · exact h.elim
  · exact h.elim
theorem ts_putfN {ty : FieldType} {ci j idx N : Nat} {C host : String} {T : u_T} (hc : XCl ci C T N) (hj : j < N) (hw : Cond.fieldLinkNest ow idx (T j).1 (T j).2.1 (T j).2.2.1 host ∈ x_nst) (hfin : (T j).2.2.2 = false) (hpd : parseFieldDescriptor (T j).2.2.1 = some ty)
    (hd : decode cc pc = .ok (.putfield idx, 3)) (hk : TTo G ow cc nL rt d R RX K n (pc + 3) k) : TTo G ow cc nL rt d R RX K n pc (xi_putf ty ci j k) := by
  intro L S σ h p e s m args below meth c hx hb hml hr ho hts hlk hK hN hZz hTe hUu hVv hNk H locs ls hP hD hS hL
  unfold xi_putf at h
  split at h
  · next x o S =>
    split at h
    · next hf =>
      obtain ⟨fs, h1, h2⟩ := xfld_spec hf
      obtain ⟨ty0, h0⟩ := hc.2.2.2
      have hl : j < fs.length := (List.getElem?_eq_some_iff.mp h2).1
      refine va_putN (v := .int x) (fs := xFs G.2.1 (σ o) 0 fs) hx hb hts hc.2.1 ty0 h0 hc.2.2.1 ho hK hP hD hS o (xW_get h1) hc.1 j hj (va_Nw.use rfl (hN _ hw)) (fun _ q => q) hfin hpd h.1.1 h.1.2 (by rw [xFs_len]; exact hl) hd (fun H1 locs1 hP1 hD1 hS1 => ?_)
      have e1 := xW_set (G := G) (σ := σ) (p := o) (j := j) (x := x) (c := .inr (ci, fs)) (e := .inr (ci, (xFs G.2.1 (σ o) 0 fs).set j (.int x))) h1 (by
        show _ = Sum.inr (ci, xFs G.2.1 (upd (σ o) j x) 0 fs)
        rw [xFs_set _ _ _ _ _ _ h2, Nat.zero_add])
      rw [e1] at hP1 hD1
      exact hk _ _ _ h.2 p e s m args below meth c hx hb hml hr ho hts hlk hK hN hZz hTe hUu hVv hNk H1 locs1 ls hP1 hD1 hS1 hL
    · exact h.elim
  · exact h.elim
theorem ts_iald (hd : decode cc pc = .ok (.iaload, 1)) (hk : TTo G ow cc nL rt d R RX K n (pc + 1) k) : TTo G ow cc nL rt d R RX K n pc (xi_ald 0 k) := by
  intro L S σ h p e s m args below meth c hx hb hml hr ho hts hlk hK hN hZz hTe hUu hVv hNk H locs ls hP hD hS hL
  unfold xi_ald at h
  split at h
  · split at h
    · next hq =>
      split at h
      · next ht =>
        have ht := Nat.eq_of_beq_eq_true ht
        subst ht
        exact va_iald hx hb hK hP _ 0 (xW_get (xarr_spec hq)) rfl h.1 hd (hk _ _ _ h.2 p e s m args below meth c hx hb hml hr ho hts hlk hK hN hZz hTe hUu hVv hNk H locs ls hP hD hS hL)
      · exact h.elim
    · exact h.elim
  · exact h.elim
theorem ts_zald (hd : decode cc pc = .ok (.baload, 1)) (hk : TTo G ow cc nL rt d R RX K n (pc + 1) k) : TTo G ow cc nL rt d R RX K n pc (xi_ald 1 k) := by
  intro L S σ h p e s m args below meth c hx hb hml hr ho hts hlk hK hN hZz hTe hUu hVv hNk H locs ls hP hD hS hL
  unfold xi_ald at h
  split at h
  · split at h
    · next hq =>
      split at h
      · next ht =>
        have ht := Nat.eq_of_beq_eq_true ht
        subst ht
        exact va_zald hx hb hK hP _ 1 (xW_get (xarr_spec hq)) rfl h.1 hd (hk _ _ _ h.2 p e s m args below meth c hx hb hml hr ho hts hlk hK hN hZz hTe hUu hVv hNk H locs ls hP hD hS hL)
      · exact h.elim
    · exact h.elim
  · exact h.elim
theorem ts_cald (hd : decode cc pc = .ok (.caload, 1)) (hk : TTo G ow cc nL rt d R RX K n (pc + 1) k) : TTo G ow cc nL rt d R RX K n pc (xi_ald 2 k) := by
  intro L S σ h p e s m args below meth c hx hb hml hr ho hts hlk hK hN hZz hTe hUu hVv hNk H locs ls hP hD hS hL
  unfold xi_ald at h
  split at h
  · split at h
    · next hq =>
      split at h
      · next ht =>
        have ht := Nat.eq_of_beq_eq_true ht
        subst ht
        exact va_cald hx hb hK hP _ 2 (xW_get (xarr_spec hq)) rfl h.1 hd (hk _ _ _ h.2 p e s m args below meth c hx hb hml hr ho hts hlk hK hN hZz hTe hUu hVv hNk H locs ls hP hD hS hL)
      · exact h.elim
    · exact h.elim
  · exact h.elim
theorem ts_iast (hd : decode cc pc = .ok (.iastore, 1)) (hk : TTo G ow cc nL rt d R RX K n (pc + 1) k) : TTo G ow cc nL rt d R RX K n pc (xi_ast 0 k) := by
  intro L S σ h p e s m args below meth c hx hb hml hr ho hts hlk hK hN hZz hTe hUu hVv hNk H locs ls hP hD hS hL
  unfold xi_ast at h
  split at h
  · next x i a S =>
    split at h
    · next t' n hq =>
      split at h
      · next ht =>
        have ht := Nat.eq_of_beq_eq_true ht
        subst ht
        refine va_iast hx hb hK hP hD hS _ 0 (xW_get (xarr_spec hq)) rfl h.1 hd (fun H1 locs1 hP1 hD1 hS1 => ?_)
        have e1 := xW_set (G := G) (σ := σ) (p := a) (j := i.toNatClampNeg) (x := x) (c := .inl (0, n)) (e := .inl (G.2.2.2 0, n, .inl (upd (σ a) i.toNatClampNeg x))) (xarr_spec hq) rfl
        rw [e1] at hP1 hD1
        exact hk _ _ _ h.2 p e s m args below meth c hx hb hml hr ho hts hlk hK hN hZz hTe hUu hVv hNk H1 locs1 ls hP1 hD1 hS1 hL
      · exact h.elim
    · exact h.elim
  · exact h.elim
theorem ts_zast (hd : decode cc pc = .ok (.bastore, 1)) (hk : TTo G ow cc nL rt d R RX K n (pc + 1) k) : TTo G ow cc nL rt d R RX K n pc (xi_ast 1 k) := by
  intro L S σ h p e s m args below meth c hx hb hml hr ho hts hlk hK hN hZz hTe hUu hVv hNk H locs ls hP hD hS hL
  unfold xi_ast at h
  split at h
  · next x i a S =>
    split at h
    · next t' n hq =>
      split at h
      · next ht =>
        have ht := Nat.eq_of_beq_eq_true ht
        subst ht
        refine va_zast hx hb hK hP hD hS _ 1 (xW_get (xarr_spec hq)) rfl h.1 hd (fun H1 locs1 hP1 hD1 hS1 => ?_)
        have e1 := xW_set (G := G) (σ := σ) (p := a) (j := i.toNatClampNeg) (x := vp_nar .boolean x) (c := .inl (1, n)) (e := .inl (G.2.2.2 1, n, .inl (upd (σ a) i.toNatClampNeg (vp_nar .boolean x)))) (xarr_spec hq) rfl
        rw [e1] at hP1 hD1
        exact hk _ _ _ h.2 p e s m args below meth c hx hb hml hr ho hts hlk hK hN hZz hTe hUu hVv hNk H1 locs1 ls hP1 hD1 hS1 hL
      · exact h.elim
    · exact h.elim
  · exact h.elim
theorem ts_cast (hd : decode cc pc = .ok (.castore, 1)) (hk : TTo G ow cc nL rt d R RX K n (pc + 1) k) : TTo G ow cc nL rt d R RX K n pc (xi_ast 2 k) := by
  intro L S σ h p e s m args below meth c hx hb hml hr ho hts hlk hK hN hZz hTe hUu hVv hNk H locs ls hP hD hS hL
  unfold xi_ast at h
  split at h
  · next x i a S =>
    split at h
    · next t' n hq =>
      split at h
      · next ht =>
        have ht := Nat.eq_of_beq_eq_true ht
        subst ht
        refine va_cast hx hb hK hP hD hS _ 2 (xW_get (xarr_spec hq)) rfl h.1 hd (fun H1 locs1 hP1 hD1 hS1 => ?_)
        have e1 := xW_set (G := G) (σ := σ) (p := a) (j := i.toNatClampNeg) (x := vp_nar .char x) (c := .inl (2, n)) (e := .inl (G.2.2.2 2, n, .inl (upd (σ a) i.toNatClampNeg (vp_nar .char x)))) (xarr_spec hq) rfl
        rw [e1] at hP1 hD1
        exact hk _ _ _ h.2 p e s m args below meth c hx hb hml hr ho hts hlk hK hN hZz hTe hUu hVv hNk H1 locs1 ls hP1 hD1 hS1 hL
      · exact h.elim
    · exact h.elim
  · exact h.elim
theorem ts_alen (hd : decode cc pc = .ok (.arraylength, 1)) (hk : TTo G ow cc nL rt d R RX K n (pc + 1) k) : TTo G ow cc nL rt d R RX K n pc (xi_alen k) := by
  intro L S σ h p e s m args below meth c hx hb hml hr ho hts hlk hK hN hZz hTe hUu hVv hNk H locs ls hP hD hS hL
  unfold xi_alen at h
  split at h
  · next a S =>
    split at h
    · next t n hq =>
      split at h
      · next ht =>
        have ht := Nat.le_of_ble_eq_true ht
        match t, ht, hq with
        | 0, _, hq => exact va_alen hx hb hK hP _ 0 (xW_get (xarr_spec hq)) rfl rfl hd (hk _ _ _ h p e s m args below meth c hx hb hml hr ho hts hlk hK hN hZz hTe hUu hVv hNk H locs ls hP hD hS hL)
        | 1, _, hq => exact va_alen hx hb hK hP _ 1 (xW_get (xarr_spec hq)) rfl rfl hd (hk _ _ _ h p e s m args below meth c hx hb hml hr ho hts hlk hK hN hZz hTe hUu hVv hNk H locs ls hP hD hS hL)
        | 2, _, hq => exact va_alen hx hb hK hP _ 2 (xW_get (xarr_spec hq)) rfl rfl hd (hk _ _ _ h p e s m args below meth c hx hb hml hr ho hts hlk hK hN hZz hTe hUu hVv hNk H locs ls hP hD hS hL)
      · exact h.elim
    · exact h.elim
  · exact h.elim
theorem ts_callV {y : XMth} {na ci idx : Nat} (hok : XOkV y na ci) (hw : Cond.methodLink ow idx y.1 ∈ x_tbl) (hd : decode cc pc = .ok (.invokevirtual idx, 3)) (hk : TTo G ow cc nL rt (d + 1) R RX K n (pc + 3) k) : TTo G ow cc nL rt (d + 1) R RX K n pc (xi_callV G d y ci na k) := by
  intro L S σ h p e s m args below meth c hx hb hml hr ho hts hlk hK hN hZz hTe hUu hVv hNk H locs ls hP hD hS hL
  obtain ⟨⟨a1, a2, a3, a4⟩, a5, a6, T, N, a7⟩ := hok
  unfold xi_callV at h
  split at h
  · next As o S' hp =>
    split at h
    · next hc =>
      rw [Bool.and_eq_true] at hc
      obtain ⟨R', hM, hR⟩ := h
      obtain ⟨P, e1, e2, e3⟩ := xpop_spec na S [] hp
      rw [List.append_nil] at e1
      subst e1
      subst e3
      refine t_after (va_runV (C := y.1.cls) (n := na) (nL := nL) (own := ow) (Ts := x_tbl) (As := As.map (xcv G.2.1)) (rest := S'.map (xcv G.2.1)) (b := G.2.1 o) (bytes := y.2.1) (maxL := y.2.2.1) (ret := y.2.2.2) (index := idx) ⟨hx, hb, hml, ho, hts⟩ hM ⟨callB_of na hts (XOk.good ⟨a1, a2, a3, a4⟩) rfl rfl rfl (hts _ a2) (hts _ hw) a3 ⟨Nat.le_refl _, ?_⟩, hts _ a5, hts _ a6⟩ ⟨xPre_blind, x_recv a7 hK hP hc.1, fun U hU hW => ⟨rfl, xPre_of hK hN hP hD hU hW⟩⟩ rfl (by rw [List.length_map]; exact e2) (by exact hL.2.1) (by simp [xcv]) ?_ hd ⟨hNk, Nat.mul_le_mul_left 6 hNk⟩) hS (fun v τ H1 locs1 hv hP1 hS1 => ?_)
      · show 8 + (y.2.2.1 + 11) + 40 * d ≤ 40 * (d + 1)
        omega
      · exact lv_room (xroom_spec _ _ hc.2)
      · have h9 := hk _ _ _ (hR v τ hv) p e s m args below meth c hx hb hml hr ho hts hlk hK hN hZz hTe hUu hVv hNk H1 locs1 ls hP1 (xD_of hD) hS1 hL
        rw [← x_toList] at h9
        exact h9
    · exact h.elim
  · exact h.elim
theorem ts_callVN {y : XMth} {na ci idx : Nat} {host : String} (hok : XOkV y na ci) (hw : Cond.methodLinkNest ow idx y.1 host ∈ x_nst) (hd : decode cc pc = .ok (.invokevirtual idx, 3)) (hk : TTo G ow cc nL rt (d + 1) R RX K n (pc + 3) k) : TTo G ow cc nL rt (d + 1) R RX K n pc (xi_callV G d y ci na k) := by
  intro L S σ h p e s m args below meth c hx hb hml hr ho hts hlk hK hN hZz hTe hUu hVv hNk H locs ls hP hD hS hL
  obtain ⟨⟨a1, a2, a3, a4⟩, a5, a6, T, N, a7⟩ := hok
  unfold xi_callV at h
  split at h
  · next As o S' hp =>
    split at h
    · next hc =>
      rw [Bool.and_eq_true] at hc
      obtain ⟨R', hM, hR⟩ := h
      obtain ⟨P, e1, e2, e3⟩ := xpop_spec na S [] hp
      rw [List.append_nil] at e1
      subst e1
      subst e3
      refine t_after (va_runVN (C := y.1.cls) (n := na) (nL := nL) (own := ow) (Ts := x_tbl) (As := As.map (xcv G.2.1)) (rest := S'.map (xcv G.2.1)) (b := G.2.1 o) (bytes := y.2.1) (maxL := y.2.2.1) (ret := y.2.2.2) (index := idx) (host := host) ⟨hx, hb, hml, ho, hts⟩ hM ⟨va_cnB na hts (XOk.good ⟨a1, a2, a3, a4⟩) rfl rfl rfl (hN _ hw) (hts _ a2) a3 ⟨Nat.le_refl _, ?_⟩, hts _ a5, hts _ a6⟩ ⟨xPre_blind, x_recv a7 hK hP hc.1, fun U hU hW => ⟨rfl, xPre_of hK hN hP hD hU hW⟩⟩ rfl (by rw [List.length_map]; exact e2) (by exact hL.2.1) (by simp [xcv]) ?_ hd ⟨hNk, Nat.mul_le_mul_left 6 hNk⟩) hS (fun v τ H1 locs1 hv hP1 hS1 => ?_)
      · show 8 + (y.2.2.1 + 11) + 40 * d ≤ 40 * (d + 1)
        omega
      · exact lv_room (xroom_spec _ _ hc.2)
      · have h9 := hk _ _ _ (hR v τ hv) p e s m args below meth c hx hb hml hr ho hts hlk hK hN hZz hTe hUu hVv hNk H1 locs1 ls hP1 (xD_of hD) hS1 hL
        rw [← x_toList] at h9
        exact h9
    · exact h.elim
  · exact h.elim
theorem ts_callS {y : XMth} {na idx : Nat} (hok : XOkS y na) (hw : Cond.methodLink ow idx y.1 ∈ x_tbl) (hd : decode cc pc = .ok (.invokestatic idx, 3)) (hk : TTo G ow cc nL rt (d + 1) R RX K n (pc + 3) k) : TTo G ow cc nL rt (d + 1) R RX K n pc (xi_callS G d y na k) := by
  intro L S σ h p e s m args below meth c hx hb hml hr ho hts hlk hK hN hZz hTe hUu hVv hNk H locs ls hP hD hS hL
  obtain ⟨⟨a1, a2, a3, a4⟩, a5⟩ := hok
  unfold xi_callS at h
  split at h
  · next As S' hp =>
    split at h
    · next hc =>
      obtain ⟨R', hM, hR⟩ := h
      obtain ⟨P, e1, e2, e3⟩ := xpop_spec na S [] hp
      rw [List.append_nil] at e1
      subst e1
      subst e3
      refine t_after (va_runS (n := na) (nL := nL) (own := ow) (Ts := x_tbl) (As := As.map (xcv G.2.1)) (rest := S'.map (xcv G.2.1)) (bytes := y.2.1) (maxL := y.2.2.1) (ret := y.2.2.2) (index := idx) ⟨hx, hb, hml, ho, hts⟩ hM ⟨callB_of na hts (XOk.good ⟨a1, a2, a3, a4⟩) rfl rfl rfl (hts _ a2) (hts _ hw) a3 ⟨Nat.le_refl _, ?_⟩, hts _ a5⟩ ⟨xPre_blind, fun U hU hW => ⟨rfl, xPre_of hK hN hP hD hU hW⟩⟩ rfl (by rw [List.length_map]; exact e2) (by exact hL.2.1) (by simp) ?_ hd ⟨hNk, Nat.mul_le_mul_left 6 hNk⟩) hS (fun v τ H1 locs1 hv hP1 hS1 => ?_)
      · show 8 + (y.2.2.1 + 11) + 40 * d ≤ 40 * (d + 1)
        omega
      · exact lv_room (xroom_spec _ _ hc)
      · have h9 := hk _ _ _ (hR v τ hv) p e s m args below meth c hx hb hml hr ho hts hlk hK hN hZz hTe hUu hVv hNk H1 locs1 ls hP1 (xD_of hD) hS1 hL
        rw [← x_toList] at h9
        exact h9
    · exact h.elim
  · exact h.elim
theorem ts_wide {n' : Nat} (h : n ≤ n') (hK' : n' ≤ K) (hk : TTo G ow cc nL rt d R RX K n' pc k) : TTo G ow cc nL rt d R RX K n pc k := by
  intro L S σ h1 p e s m args below meth c hx hb hml hr ho hts hlk hK hN hZz hTe hUu hVv hNk H locs ls hP hD hS hL
  exact W.widen (k := n') (n := 6 * n') h (Nat.mul_le_mul_left 6 h) (hk _ _ _ h1 p e s m args below meth c hx hb hml hr ho hts hlk hK hN hZz hTe hUu hVv hK' H locs ls hP hD hS hL)
theorem xZU_moved {A : Nat → Prop} {s U : State} {H : Heap} (hW : s.WarmedH U.vm) (h : xZU A s s.heap) (hq : ∀ a : Nat, a < s.heap.size → ¬ A a → H[a]? = s.heap[a]?) (hU : U.heap = H) : xZU A U U.heap := by
  rw [hU]; exact ⟨vx_Zq.moved hW.alike (vx_Zq.kept h.1 hq), h.2.1.moved hW.alike, h.2.2.moved hW⟩
theorem xZV_moved {A : Nat → Prop} {s U : State} {H : Heap} (hvm : s.vm.Alike U.vm) (h : xZV A s s.heap) (hq : ∀ a : Nat, a < s.heap.size → ¬ A a → H[a]? = s.heap[a]?) (hU : U.heap = H) : xZV A U U.heap := by
  rw [hU]; exact vx_Zq.moved hvm (vx_Zq.kept h hq)
theorem xPre2_blind {av : List Value} {σ : Sg} : FrameBlind (va_Pc av (xPre2 G σ)) := fun a U g mk h => by
  have h1 := xPre_blind (G := G) (av := av) (σ := σ) a U g mk ⟨h.1, h.2.1⟩
  exact ⟨h1.1, h1.2, xZU_moved (s := U) (U := U.calling g mk a) (State.WarmedH.refl U) h.2.2.1 (fun _ _ _ => rfl) rfl, xZV_moved (s := U) (U := U.calling g mk a) (Vm.Alike.refl U.vm) h.2.2.2 (fun _ _ _ => rfl) rfl⟩
/-- a call of a method that may throw; what it throws goes on to the caller -/
def xi_callVT (G : XG) (d : Nat) (y : XMth) (ci na K' : Nat) (RX : String → Sg → Prop) (k : XK) : XK := fun L S σ => match xpop na S [] with
  | some (As, .ref o :: S') => (match (xfld o ci 0).isSome && xroom S' 8 with
    | true => ∃ R' RX', XT G y d K' (.ref o :: As) σ R' RX' ∧ (∀ v τ, R' v τ → k L (v.toList ++ S') τ) ∧ ∀ E τ, RX' E τ → RX E τ
    | false => False)
  | _ => False
theorem ts_callVT {y : XMth} {na ci idx K' : Nat} (hok : XOkV y na ci) (hw : Cond.methodLink ow idx y.1 ∈ x_tbl) (hd : decode cc pc = .ok (.invokevirtual idx, 3)) (hnn : n + K' ≤ K) (hk : TTo G ow cc nL rt (d + 1) R RX K (n + K') (pc + 3) k) : TTo G ow cc nL rt (d + 1) R RX K n pc (xi_callVT G d y ci na K' RX k) := by
  intro L S σ h p e s m args below meth c hx hb hml hr ho hts hlk hK hN hZz hTe hUu hVv hNk H locs ls hP hD hS hL
  obtain ⟨⟨a1, a2, a3, a4⟩, a5, a6, T, N, a7⟩ := hok
  unfold xi_callVT at h
  split at h
  · next As o S' hp =>
    split at h
    · next hc =>
      rw [Bool.and_eq_true] at hc
      obtain ⟨R', RX', hM, hR, hRX⟩ := h
      obtain ⟨P, e1, e2, e3⟩ := xpop_spec na S [] hp
      rw [List.append_nil] at e1
      subst e1
      subst e3
      have hn6 : 6 * n + 6 * K' ≤ 6 * K := by omega
      have hr9 := vx_runV (C := y.1.cls) (n := na) (nL := nL) (own := ow) (Ts := x_tbl) (As := As.map (xcv G.2.1)) (rest := S'.map (xcv G.2.1)) (b := G.2.1 o) (bytes := y.2.1) (maxL := y.2.2.1) (ret := y.2.2.2) (index := idx) (R := xRm2 (d + 1) K) (cells := n) (slots := 6 * n) (locs := locs) (meth := meth) (below := below) (g := F0 m pc ls ((As.reverse ++ Value.ref o :: S').map (xcv G.2.1))) (e := e) (H := H) ⟨hx, hb, hml, ho, hts⟩ hM ⟨callB_of na hts (XOk.good ⟨a1, a2, a3, a4⟩) rfl rfl rfl (hts _ a2) (hts _ hw) a3 ⟨Nat.le_refl _, (by show 8 + (y.2.2.1 + 11) + 40 * d ≤ 40 * (d + 1); omega)⟩, hts _ a5, hts _ a6⟩ ⟨xPre2_blind, x_recv a7 hK hP hc.1, fun U hU9 hW => ⟨rfl, xPre_of hK hN hP hD hU9 hW, xZU_moved hW hUu hS.2.1 hU9, xZV_moved hW.alike hVv hS.2.1 hU9⟩⟩ rfl (by rw [List.length_map]; exact e2) (by exact hL.2.1) (by simp [xcv]) (lv_room (xroom_spec _ _ hc.2)) hd ⟨hnn, hn6⟩
      intro T hT X
      rcases hr9 T hT X with ⟨v, st₀, t, T', L9, h0, X', hL9, e1, e2, ⟨v', τ, hv, hp, hb9, hF⟩, st⟩ | ⟨q, st₀, t, T', L9, E, ce, h0, X', hL9, e1, e2, ⟨τ, hp, hb9, hF⟩, hce, hcv, hcl, st⟩
      · cases hv
        obtain ⟨k1, k2, k3⟩ := vx_keep (A0 := xA G) h0 e1 hS (fun _ _ z => z) (fun _ z => z) hL9 hF
        have h9 := hk _ _ _ (hR v' τ hp) p e s m args below meth c hx hb hml hr ho hts hlk hK hN hZz hTe hUu hVv hnn T'.heap (locs ++ L9) ls (by rw [e1]; exact hb9) (xD_of hD) k3 hL
        rw [← x_toList] at h9
        rw [show 6 * (n + K') = 6 * n + 6 * K' from Nat.mul_add 6 n K'] at h9
        obtain ⟨t2, a1, b1⟩ := h9 T' rfl X'
        exact ⟨t2, st t2 a1, b1⟩
      · obtain ⟨k1, k2, k3⟩ := vx_keep (A0 := xA G) h0 e1 hS (fun _ _ z => z) (fun _ z => z) hL9 hF
        have h9 : vx_W p G.1 e (xRm2 (d + 1) K) s m args below meth c T'.heap (locs ++ L9) (n + K') (6 * n + 6 * K') (vx_MQ below (XQ G R) (XX G RX) args s K (6 * K) (xA G)) (F0 m pc ls (S'.map (xcv G.2.1))) q := by
          refine vx_out (fun x hx9 => (hTe x hx9).elim) hlk (ce := ce) (E := E) (by rw [e1]; exact hce) hcv hcl (fun t9 ht9 _ => ⟨τ, hRX E τ hp, by rw [ht9, e1]; exact hb9, ?_⟩) k3.2.2 hnn hn6
          exact k3.F ht9
        obtain ⟨t2, a1, b1⟩ := h9 T' rfl X'
        exact ⟨t2, st.trans a1, b1⟩
    · exact h.elim
  · exact h.elim
/-- what the tables say of throw new E(text) -/
def XThr (ow : String) (ik ic : Nat) (E : String) : Prop := Bundle.fit E = true ∧ Cond.classLink ow ik E ∈ x_tbl ∧ Cond.initialized E ∈ x_tbl ∧ ∀ w ∈ vx_atS ow ic E ["java/lang/RuntimeException", "java/lang/Exception"], w ∈ x_tbl ∨ w ∈ x_dcl
def xi_throw (E : String) (RX : String → Sg → Prop) : XK := fun _ S σ => match S with
  | [] => RX E σ
  | _ => False
theorem vk_R_some {own tx : String} {k : Nat} {A : Array Value} {U : State} (h1 : (Cond.stringRef own k tx).before A U = true) : ∃ a, vk_R own k tx a U := by
  have h2 := h1
  simp only [Cond.before, Cond.holds, Cond.value] at h1
  have h3 : ∃ a, (Term.string own k).eval A U none [] U = some (.ref a) := by
    cases hr : U.resolvedAt? own k with
    | none => exfalso; cases hc : U.vm.findClass own <;> simp [hc, hr] at h1
    | some r =>
      cases r with
      | string a =>
        refine ⟨a, ?_⟩
        have hr2 := hr
        unfold State.resolvedAt? at hr2
        simp only [Option.bind_eq_bind, Option.bind_eq_some_iff] at hr2
        obtain ⟨c, hc, kk, hk, hj⟩ := hr2
        simp [Term.eval, hc, hk, hj]
      | _ => exfalso; cases hc : U.vm.findClass own <;> simp [hc, hr] at h1
  obtain ⟨a, ha⟩ := h3
  exact ⟨a, vk_R.of h2 ha⟩
theorem ts_throwS {E text : String} {ik is ic : Nat} (hE : XThr RX7 ik ic E) (hstr : (is, text) ∈ x_strs) (hnn : n + 1 ≤ K)
    (d0 : decode cc pc = .ok (.new ik, 3)) (d3 : decode cc (pc + 3) = .ok (.dup, 1)) (d4 : decode cc (pc + 4) = .ok (.ldc is, 2)) (d6 : decode cc (pc + 6) = .ok (.invokespecial ic, 3)) (d9 : decode cc (pc + 9) = .ok (.athrow, 1)) : TTo G RX7 cc nL rt (d + 6) R RX K n pc (xi_throw E RX) := by
  intro L S σ h p e s m args below meth c hx hb hml hr ho hts hlk hK hN hZz hTe hUu hVv hNk H locs ls hP hD hS hL
  unfold xi_throw at h
  split at h
  · obtain ⟨sa, hsa⟩ := hUu.2.2 _ hstr
    exact vx_throwS hx hb hZz ho hE.1 (by decide) (hts _ hE.2.1) (hts _ hE.2.2.1) hsa (fun w hw => (hE.2.2.2 w hw).elim (hts _) (fun q => va_any (x_dcl_on q) (hUu.2.1 w q))) (fun w hw => by
      have hm : w ∈ x_tbl ∨ w ∈ x_dcl := by
        rcases List.mem_cons.mp hw with rfl | hw
        · exact Or.inl hE.2.1
        · rcases List.mem_cons.mp hw with rfl | hw
          · exact Or.inl hE.2.2.1
          · exact hE.2.2.2 w hw
      unfold vx_ot
      rcases hm with hm | hm
      · rw [(List.mem_filter.mp hm).2, Bool.or_true]
      · rw [x_dcl_on hm, Bool.true_or]) hUu.1 hVv hS (hL.2.1.trans hml.symm) d0 d3 d4 d6 d9 (fun x hx9 => (hTe x hx9).elim)
      (by show 2 + 3 < d + 6; omega) (by show 0 + (13 * (2 + 1) + 43) ≤ 40 * (d + 6); omega) (by show n + 1 ≤ K; exact hnn) (by show 6 * n + 6 ≤ 6 * K; omega) hlk (fun t hA hsz hq => ⟨σ, h, hP.kept (fun k q hk => hq q.1 (vx_lt hP hk)), Nat.le_trans hS.1 hsz, fun q h1 h2 => by rw [hq q (Nat.lt_of_lt_of_le h1 hS.1)]; exact hS.2.1 q h1 h2⟩) hS.2.2 hnn (by omega)
  · exact h.elim
theorem ts_throwSW {E text : String} {ik is ic : Nat} (hE : XThr RX7 ik ic E) (hstr : (is, text) ∈ x_strs) (hnn : n + 1 ≤ K)
    (d0 : decode cc pc = .ok (.new ik, 3)) (d3 : decode cc (pc + 3) = .ok (.dup, 1)) (d4 : decode cc (pc + 4) = .ok (.ldc_w is, 3)) (d7 : decode cc (pc + 7) = .ok (.invokespecial ic, 3)) (d10 : decode cc (pc + 10) = .ok (.athrow, 1)) : TTo G RX7 cc nL rt (d + 6) R RX K n pc (xi_throw E RX) := by
  intro L S σ h p e s m args below meth c hx hb hml hr ho hts hlk hK hN hZz hTe hUu hVv hNk H locs ls hP hD hS hL
  unfold xi_throw at h
  split at h
  · obtain ⟨sa, hsa⟩ := hUu.2.2 _ hstr
    exact vx_throwSW hx hb hZz ho hE.1 (by decide) (hts _ hE.2.1) (hts _ hE.2.2.1) hsa (fun w hw => (hE.2.2.2 w hw).elim (hts _) (fun q => va_any (x_dcl_on q) (hUu.2.1 w q))) (fun w hw => by
      have hm : w ∈ x_tbl ∨ w ∈ x_dcl := by
        rcases List.mem_cons.mp hw with rfl | hw
        · exact Or.inl hE.2.1
        · rcases List.mem_cons.mp hw with rfl | hw
          · exact Or.inl hE.2.2.1
          · exact hE.2.2.2 w hw
      unfold vx_ot
      rcases hm with hm | hm
      · rw [(List.mem_filter.mp hm).2, Bool.or_true]
      · rw [x_dcl_on hm, Bool.true_or]) hUu.1 hVv hS (hL.2.1.trans hml.symm) d0 d3 d4 d7 d10 (fun x hx9 => (hTe x hx9).elim)
      (by show 2 + 3 < d + 6; omega) (by show 0 + (13 * (2 + 1) + 43) ≤ 40 * (d + 6); omega) (by show n + 1 ≤ K; exact hnn) (by show 6 * n + 6 ≤ 6 * K; omega) hlk (fun t hA hsz hq => ⟨σ, h, hP.kept (fun k q hk => hq q.1 (vx_lt hP hk)), Nat.le_trans hS.1 hsz, fun q h1 h2 => by rw [hq q (Nat.lt_of_lt_of_le h1 hS.1)]; exact hS.2.1 q h1 h2⟩) hS.2.2 hnn (by omega)
  · exact h.elim
theorem xt_of {y : XMth} {av : List Value} {σ : Sg} (hG : G.1.stackTraces = false) (hpl : plainName y.1.cls = true) (hav : xplain av = true) (hlen : (lg_sl (av.map (xcv G.2.1))).length ≤ y.2.2.1) (h : TAt G y.1.cls y.2.1 y.2.2.1 y.2.2.2 d R RX K 0 0 (xent av y.2.2.1) [] σ) : XT G y d K av σ R RX := by
  refine vx_ofW (cc := y.2.1) (maxL := y.2.2.1) (ret := y.2.2.2) (ws' := x_tbl) hpl rfl ?_
  intro p e s m args below meth c s₁ B hml ht hv
  obtain ⟨rfl, ⟨hP, hK, hD, hN⟩, hU, hV⟩ := hv
  have hts := atoms_spec (ws := xWs y) B.pre
  have hown : s.vm.findClass y.1.cls = some m.cls := findClass_of_methodNamed B.named
  have hl := lv_entry (av.map (xcv G.2.1)) (n := y.2.2.1) hlen
  rw [lg_entry_eq]
  exact h p e s m _ below meth c B.exec B.bytes hml B.returns hown (fun w hw => hts w (List.mem_cons_of_mem _ hw)) B.notSynchronized hK hN hG ht hU hV (Nat.zero_le _) s.heap [] _ hP hD va_S.rf ⟨xent_len _ _, lv_has_of hl (xent_sub G.2.1 av y.2.2.1 0 hav)⟩
end XTI
