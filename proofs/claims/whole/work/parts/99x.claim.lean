/-! THE CLAIM OUT OF ONE WALK OF THE LAW'S BODY. Your part is whole_start (and what it stands on); all else here is the same for every law, but numbers. -/
def R_law : String := "LinkerYardLaw"
def lw_P (b : Addr) (xs : List Int32) (args : Array Value) (s : State) : Prop := args = #[.ref b] ∧ s.IntsAt b xs ∧ xs.length ≤ 3584 ∧ (Jvm.Cond.and given_1 narrow_1).before args s = true
/-- what a walk over the start with the record d0 says of its end, said of the start itself -/
theorem lw_closed {s t : State} {o : Outcome} {d0 : Drawn} {L : List Loc} {k n : Nat} (hd0 : s.drawn.sameBut d0 lw_cs) (hv : ∃ v, o = .returned v) (hW : (s.setDrawn d0).WarmedH t.vm) (hs : (s.setDrawn d0).sameButNew ({ t with vm := s.vm } : State) L k n) : State.butDraws s t lw_cs (fun t1 => Framed s o t1 L k n) := by
  have h2 : t.drawn = d0 := congrArg State.drawn hs.1
  refine ⟨⟨hv, hW, State.sameButNew.setDrawn hs s.drawn⟩, ?_, by decide⟩
  rw [h2]
  exact hd0
def lw_Q (_ : Array Value) (s : State) (o : Outcome) (t : State) : Prop := o = .returned (some (.int 1)) ∧ State.butDraws s t lw_cs (fun t1 => Framed s o t1 [] 603072 7207018)
def lw_Z (below : List Frame) (a : Array Value) (s : State) : State → Prop := fun t => ∃ o, t.status = .running ∧ Ended t below o ∧ lw_Q a s o t
/-- the law's own end, with 1 on the stack, nothing written that was there before, its room as the claim has it; d0: the record of draws at this point (at the entry s.drawn: begin with 'refine W.base ?_' and 'have hd0 := Drawn.sameBut.refl s.drawn lw_cs') -/
theorem lw_ret {p : Program} {l : Launch} {e : Env} {s : State} {m : MethodId} {below : List Frame} {meth : Method} {c : Code} {b : Nat} {d0 : Drawn} (hd0 : s.drawn.sameBut d0 lw_cs) (hx : p.tables.exec = Jvm.exec) (hb : c.code = code) (hr : meth.sig.returnType = ret) (hlocks : meth.locks = false) {pc : Nat} {H : Heap} {ls : Array Slot} (hdg : decode code pc = .ok (.ireturn, 1)) : W p l e room_1 (s.setDrawn d0) m #[Value.ref b] below meth c H [] 603072 7207018 (lw_Z below #[Value.ref b] s) (F0 m pc ls [.int 1]) := by
  intro T hT X
  obtain ⟨fs, hret, hrun, hended, hW, hframe⟩ := X.leave (v := some (.int 1)) (hlocks := hlocks) (fun h => by rw [hr] at h; cases h)
  have hmeth' : T.vm.method? m = some meth := X.method'
  refine ⟨T.setFrames fs, ?_, .returned (some (.int 1)), hrun, hended, rfl, lw_closed hd0 ⟨_, rfl⟩ hW hframe⟩
  jvm_step X.here [X.here.top, hx, hb, hdg, hmeth', hr, ret, narrow_b1]
  (try refine ⟨rfl, ?_⟩); (try refine ⟨rfl, ?_⟩)
  first | (intro acts; rw [hret _ acts rfl rfl rfl]) | rw [hret _ _ rfl rfl rfl]
  exact Steps.refl _
/-- what holds at the law's entry: the machine, the code, the tables' words (any of lw_tbl by 'hts w (by decide +kernel)'), the script of L ints xs at the cell b, what the Statement gives of the start (any of its parts by flat_of_before) -/
def lw_At (p : Program) (s : State) (m : MethodId) (meth : Method) (c : Code) (b L : Nat) (xs : Nat → Int32) : Prop :=
  p.tables.exec = Jvm.exec ∧ c.code = code ∧ meth.sig.returnType = ret ∧ c.maxLocals = 9 ∧ s.vm.findClass R_law = some m.cls ∧ (∀ w ∈ lw_tbl, w.before #[Value.ref b] s = true) ∧ va_X b L xs s s.heap ∧ b < s.heap.size ∧ meth.locks = false ∧ (Jvm.Cond.and given_1 narrow_1).before #[Value.ref b] s = true
-- ===== YOUR PART BEGINS =====
/-- from the second constructor's end on -/
theorem law_go {p : Program} {e : Env} {s : State} {m : MethodId} {below : List Frame} {meth : Method} {c : Code} (l : Launch) (hG : l.stackTraces = false) {b N : Nat} {xs : Nat → Int32} (hL : N ≤ 3584) (C0 : lw_At p s m meth c b N xs) (htx : ∀ w ∈ x_tbl, w.before #[Value.ref b] s = true) (hN : ∀ w ∈ x_nst, va_Nw w s) {Dd : va_G} {cA : Nat → ClassId} (hK : va_K Dd x_cl (x_tys cA) s) (hR : lRm room_1 300) {ls : Array Slot} (hl : lv_has ls 9 [(1, .ref (s.heap.size + 0)), (0, .ref b)])
    {H : Heap} {locs : List Loc} (hP : va_P Dd x_cl (mkW s.heap.size cA shZ) H) (hz : H.size = s.heap.size + shZ.length) (hS : va_S (fun q => s.heap.size ≤ q) s.heap H locs) :
    W p l e room_1 s m #[Value.ref b] below meth c H locs (0 + 1 + 53 + 1 + 34) (0 + 10 + 3353 + 51 + 2668) (lw_Z below #[Value.ref b] s) (F0 m (12 + 3) ls [.ref (s.heap.size + 54)]) := by
  obtain ⟨hx, hb, hr, hml, hown, hts, hX, hbl, hlocks, hgv⟩ := id C0
  refine lv_astore_n (k := 2) (i := 2) (lv' := [(2, .ref (s.heap.size + 54)), (1, .ref (s.heap.size + 0)), (0, .ref b)]) hx hb (by decide +kernel) rfl hl (by decide) rfl (fun ls hl => ?_)
  refine lv_iconst (n := 1) (v := 1) hx hb (by decide +kernel) (by decide) ?_
  show W p l e room_1 s m #[Value.ref b] below meth c H locs _ _ (lw_Z below #[Value.ref b] s) (F0 m 17 ls [.int 1])
  refine va_newaK (atype := .long) hx hb (htx _ (x_w8 90 rfl rfl)) rfl (by show decode code 17 = _; decide +kernel) (rest := []) (n := 1) (N := 1) rfl (by decide) rfl (by decide) (Nat.le_of_ble_eq_true rfl) (Nat.le_of_ble_eq_true rfl) (h := s.heap.size + 89) (hz.trans rfl) (fun H1 cL e1 z1 o1 hAL hFL => ?_)
  show W p l e room_1 s m #[Value.ref b] below meth c H1 locs _ _ (lw_Z below #[Value.ref b] s) (F0 m 19 ls [.ref (s.heap.size + 89)])
  refine lv_astore_n (k := 3) (i := 3) (lv' := [(3, .ref (s.heap.size + 89)), (2, .ref (s.heap.size + 54)), (1, .ref (s.heap.size + 0)), (0, .ref b)]) hx hb (by decide +kernel) rfl hl (by decide) rfl (fun ls hl => ?_)
  refine lv_iconst (n := 1) (v := 1) hx hb (by decide +kernel) (by decide) ?_
  show W p l e room_1 s m #[Value.ref b] below meth c H1 locs _ _ (lw_Z below #[Value.ref b] s) (F0 m 21 ls [.int 1])
  refine va_newaK (atype := .double) hx hb (htx _ (x_w8 91 rfl rfl)) rfl (by show decode code 21 = _; decide +kernel) (rest := []) (n := 1) (N := 1) rfl (by decide) rfl (by decide) (Nat.le_of_ble_eq_true rfl) (Nat.le_of_ble_eq_true rfl) (h := s.heap.size + 90) z1 (fun H2 cD e2 z2 o2 hAD hFD => ?_)
  show W p l e room_1 s m #[Value.ref b] below meth c H2 locs _ _ (lw_Z below #[Value.ref b] s) (F0 m 23 ls [.ref (s.heap.size + 90)])
  refine lv_astore (lv' := [(4, .ref (s.heap.size + 90)), (3, .ref (s.heap.size + 89)), (2, .ref (s.heap.size + 54)), (1, .ref (s.heap.size + 0)), (0, .ref b)]) hx hb (by decide +kernel) hl (by decide) rfl (fun ls hl => ?_)
  refine lv_iconst (n := 0) (v := nI 0) hx hb (by decide +kernel) (by decide) ?_
  refine lv_istore (lv' := [(5, .int (nI 0)), (4, .ref (s.heap.size + 90)), (3, .ref (s.heap.size + 89)), (2, .ref (s.heap.size + 54)), (1, .ref (s.heap.size + 0)), (0, .ref b)]) hx hb (by decide +kernel) hl (by decide) rfl (fun ls hl => ?_)
  have hsz : s.heap.size ≤ H.size := hS.1
  have C : LC (G0 l Dd cA s.heap.size b) cL cD p room_1 s m #[Value.ref b] c (fun q => s.heap.size ≤ q) code 9 :=
    ⟨hx, hb, hml, hown, htx, ⟨hK.1, fun k q hq => by
      match k, hq with
      | 0, hq => exact hK.2 0 q hq
      | 1, hq => exact hK.2 1 q hq
      | 2, hq => exact hK.2 2 q hq
      | 3, hq => cases hq; exact ⟨hAL, hFL⟩
      | 4, hq => cases hq; exact ⟨hAD, hFD⟩
      | k + 5, hq => simp [l_tys] at hq⟩, hN, hG, l_zu hts hgv, l_zv hts hgv, l_nc hgv, G0_inj, G0_lA⟩
  have hX9 : N ≤ 3584 ∧ va_X ((G0 l Dd cA s.heap.size b).2.1 91) N xs s s.heap ∧ (G0 l Dd cA s.heap.size b).2.1 91 < s.heap.size ∧ ¬ (fun q => s.heap.size ≤ q) ((G0 l Dd cA s.heap.size b).2.1 91) := ⟨hL, hX, hbl, Nat.not_le.mpr hbl⟩
  have hH2 : ∀ q : Nat, q < H.size → H2[q]? = H[q]? := fun q hq => (o2 q (by rw [hz] at hq; exact Nat.lt_of_lt_of_le hq (Nat.le_of_lt (Nat.add_lt_add_left (by decide +kernel) _)))).trans (o1 q (by rw [hz] at hq; exact hq))
  have hPx : va_P Dd x_cl (xW (G0 l Dd cA s.heap.size b) s0) H2 := (made_P hP).kept (fun k q hk => hH2 q.1 ((made_P hP) k q hk).lt)
  have hlr : lr 0 = fun _ => 0 := by funext j; unfold lr; split <;> rfl
  have hdr : dr 0 = fun _ => 0 := by funext j; unfold dr; split <;> rfl
  have hOx : va_P Dd x_cl (oW (G0 l Dd cA s.heap.size b) cL cD (0, 0)) H2 := fun k q hk => by
    match k, hk with
    | 0, hk =>
      cases hk
      show H2[s.heap.size + 89]? = some (vp_cell cL (1, .inr (.inl (lr 0))))
      rw [o2 _ (Nat.lt_succ_self _), e1, hlr]
      rfl
    | 1, hk =>
      cases hk
      show H2[s.heap.size + 90]? = some (vp_cell cD (1, .inr (.inr (.inr (.inl (dr 0))))))
      rw [e2, hdr]
      rfl
    | k + 2, hk => simp [oW] at hk
  have hS2 : va_S (fun q => s.heap.size ≤ q) s.heap H2 locs := ⟨by rw [z2]; exact Nat.le_trans (Nat.le_add_right _ 90) (Nat.le_succ _), fun q h1 h2 => (hH2 q (Nat.lt_of_lt_of_le h1 hsz)).trans (hS.2.1 q h1 h2), hS.2.2⟩
  have hXL : XL (G0 l Dd cA s.heap.size b).2.1 ls 9 [some (.ref 91), some (.ref 0), some (.ref 30), some (.ref 89), some (.ref 90), some (.int (nI 0)), none, none, none] := ⟨rfl, lv_sub hl [5, 4, 3, 2, 1, 0] rfl⟩
  have hE : ∀ x y : Nat, x ≤ room_1.cells → y ≤ room_1.slots → LTo (G0 l Dd cA s.heap.size b) cL cD p e room_1 s m #[Value.ref b] below meth c (fun q => s.heap.size ≤ q) 9 (lw_Z below #[Value.ref b] s) x y 2409 (fun _ _ St _ => St = []) := by
    intro x y h1 h2 o L St σ hst H9 locs9 ls9 _ _ hS9 _
    rw [hst]
    exact lv_iconst (n := 1) (v := 1) hx hb (by decide +kernel) (by decide) (va_forget (fun q hq => hS9.2.2 q hq) (W.widen (k := 603072) (n := 7207018) h1 h2 (W.base (lw_ret (d0 := s.drawn) (Drawn.sameBut.refl s.drawn lw_cs) hx hb hr hlocks (by decide +kernel)))))
  have hlp := lloop (G := G0 l Dd cA s.heap.size b) C hX9 hR hE 512 91 6084 0 0 (by omega) (Nat.zero_le _) (Nat.le_of_ble_eq_true rfl) (Nat.le_of_ble_eq_true rfl) (Nat.le_of_ble_eq_true rfl)
  exact hlp (0, 0) _ [] s0 ⟨S0, none, none, none, ⟨ZC0, ZM0, ZW0⟩, rfl, rfl⟩ H2 locs ls hPx hOx hS2 hXL
/-- YOUR PART: from the entry, for every script of at most 3584 ints, the law comes to its end with true ('hflags': the launch's flags, for a law that throws: no stack traces) -/
theorem whole_start {p : Program} {e : Env} {s : State} {m : MethodId} {below : List Frame} {meth : Method} {c : Code} (l : Launch) (hflags : l.flags = flags0) {b L : Nat} {xs : Nat → Int32} (hL : L ≤ 3584) (C0 : lw_At p s m meth c b L xs) : W p l e room_1 s m #[Value.ref b] below meth c s.heap [] 0 0 (lw_Z below #[Value.ref b] s) (entryFrame m ([Value.ref b] : List Value).toArray 9) := by
  obtain ⟨hx, hb, hr, hml, hown, hts, hX, hbl, hlocks, hgv⟩ := id C0
  have htx := l_words hts
  have hN := l_nst hts
  have hG := l_trace l hflags
  obtain ⟨Dd, hKc⟩ := l_classes htx
  obtain ⟨cA, hA3⟩ := l_arrays htx
  have hK : va_K Dd x_cl (x_tys cA) s := ⟨hKc, fun k q hq => by
    match k, hq with
    | 0, hq => cases hq; exact hA3 0 (by decide)
    | 1, hq => cases hq; exact hA3 1 (by decide)
    | 2, hq => cases hq; exact hA3 2 (by decide)
    | k + 3, hq => simp [x_tys] at hq⟩
  have hAr : mkArr cA s := fun t ht => (hA3 t ht).2
  have hl := lv_entry ([.ref b]) (n := 9) (Nat.le_of_ble_eq_true rfl)
  rw [lg_entry_eq]
  generalize (lg_sl ([.ref b]) ++ List.replicate (9 - (lg_sl ([.ref b])).length) Slot.unset).toArray = ls at hl ⊢
  have hl : lv_has ls 9 [(0, .ref b)] := hl
  have hR : lRm room_1 300 := ⟨by decide +kernel, by decide +kernel⟩
  refine law_new (sh := []) (ci := 7) (fs := [.null, .null, .null, .null, .null, .int 0, .int 0, .int 0, .int 0, .int 0]) hx hb htx hown hK xcl7 (x_w1 24 rfl rfl) (x_w1 25 rfl rfl) (x_w1 1 rfl rfl) tyX7 tyX7_ok (fun j hj => by rcases (show j = 0 ∨ j = 1 ∨ j = 2 ∨ j = 3 ∨ j = 4 ∨ j = 5 ∨ j = 6 ∨ j = 7 ∨ j = 8 ∨ j = 9 by omega) with rfl | rfl | rfl | rfl | rfl | rfl | rfl | rfl | rfl | rfl <;> rfl) (fun _ => rfl) (Nat.le_of_ble_eq_true rfl) (Nat.le_of_ble_eq_true rfl) (by decide +kernel) (H := s.heap) (locs := []) (sz := s.heap.size) rfl (fun k q h => by simp [mkW, mkWl] at h) va_S.rf (fun H1 z1 hP1 hS1 => ?_)
  refine lv_dup hx hb (by decide +kernel) rfl ?_
  refine law_ctor (k := 0) (d := 3) hx hb hml hl.1 htx hown hK hN hAr (lRm_le hR (by decide)) okX7_init (x_w1 26 rfl rfl) (cX7 (d := 0)) (Nat.le_of_ble_eq_true rfl) (Nat.le_of_ble_eq_true rfl) (by decide +kernel) (Nat.le_of_ble_eq_true rfl) z1 hP1 hS1 (fun sh2 H2 locs2 e2 z2 hP2 hS2 => ?_)
  refine lv_astore_n (k := 1) (i := 1) (lv' := [(1, .ref (s.heap.size + 0)), (0, .ref b)]) hx hb (by decide +kernel) rfl hl (by decide) rfl (fun ls hl => ?_)
  refine law_new (sh := sh2) (ci := 8) (fs := [.null, .int 0, .null, .null, .null, .null, .null, .null, .int 0, .null, .null, .null, .null, .int 0, .null, .null, .null, .null, .null, .int 0, .int 0, .int 0, .int 0, .int 0, .int 0, .null, .null, .null, .null, .null, .null, .null, .null, .null, .null, .int 0, .int 0, .int 0, .int 0, .null, .null, .null, .null, .int 0, .null, .int 0, .null, .null, .null, .int 0, .int 0]) hx hb htx hown hK xcl8 (x_w6 85 rfl rfl) (x_w6 86 rfl rfl) (x_w1 9 rfl rfl) tyX8 tyX8_ok (fun j hj => by rcases (show j = 0 ∨ j = 1 ∨ j = 2 ∨ j = 3 ∨ j = 4 ∨ j = 5 ∨ j = 6 ∨ j = 7 ∨ j = 8 ∨ j = 9 ∨ j = 10 ∨ j = 11 ∨ j = 12 ∨ j = 13 ∨ j = 14 ∨ j = 15 ∨ j = 16 ∨ j = 17 ∨ j = 18 ∨ j = 19 ∨ j = 20 ∨ j = 21 ∨ j = 22 ∨ j = 23 ∨ j = 24 ∨ j = 25 ∨ j = 26 ∨ j = 27 ∨ j = 28 ∨ j = 29 ∨ j = 30 ∨ j = 31 ∨ j = 32 ∨ j = 33 ∨ j = 34 ∨ j = 35 ∨ j = 36 ∨ j = 37 ∨ j = 38 ∨ j = 39 ∨ j = 40 ∨ j = 41 ∨ j = 42 ∨ j = 43 ∨ j = 44 ∨ j = 45 ∨ j = 46 ∨ j = 47 ∨ j = 48 ∨ j = 49 ∨ j = 50 by omega) with rfl | rfl | rfl | rfl | rfl | rfl | rfl | rfl | rfl | rfl | rfl | rfl | rfl | rfl | rfl | rfl | rfl | rfl | rfl | rfl | rfl | rfl | rfl | rfl | rfl | rfl | rfl | rfl | rfl | rfl | rfl | rfl | rfl | rfl | rfl | rfl | rfl | rfl | rfl | rfl | rfl | rfl | rfl | rfl | rfl | rfl | rfl | rfl | rfl | rfl | rfl <;> rfl) (fun _ => rfl) (Nat.le_of_ble_eq_true rfl) (Nat.le_of_ble_eq_true rfl) (by decide +kernel) z2 hP2 hS2 (fun H3 z3 hP3 hS3 => ?_)
  refine lv_dup hx hb (by decide +kernel) rfl ?_
  subst e2
  refine law_ctor (k := 54) (d := 1) hx hb hml hl.1 htx hown hK hN hAr (lRm_le hR (by decide)) okX8_init (x_w6 87 rfl rfl) (cX8 (d := 0)) (Nat.le_of_ble_eq_true rfl) (Nat.le_of_ble_eq_true rfl) (by decide +kernel) (Nat.le_of_ble_eq_true rfl) z3 hP3 hS3 (fun sh4 H4 locs4 e4 z4 hP4 hS4 => ?_)
  subst e4
  exact law_go l hG hL C0 htx hN hK hR hl hP4 z4 hS4
-- ===== YOUR PART ENDS =====
set_option maxHeartbeats 4000000 in
theorem lw_walk (l : Launch) (hflags : l.flags = flags0) (b : Addr) (xs : List Int32) : MetFree l x (headSpec (Jvm.Cond.code x code maxLocals ret :: tables_1) room_1) (lw_P b xs) (fun _ _ _ _ _ => True) lw_Q := by
  refine MetFree.of_bodyS (code := code) (maxLocals := maxLocals) (ret := ret) (by decide) ?_ ?_
  · intro args s m h hn
    obtain ⟨meth, c, h1, h2, h3, h4, h5, h6, -, -⟩ := Cond.code_spec hn (atoms_spec (ws := Jvm.Cond.code x code maxLocals ret :: tables_1) h _ List.mem_cons_self)
    exact ⟨meth, c, h1, h2, h3, h4, h5, h6⟩
  · intro p e s m args below meth c s₁ B hml0 hP _
    obtain ⟨rfl, hx, hbd, hgv⟩ := hP
    obtain ⟨scr, harrAt, hlist, hof, hsmall⟩ := hx
    obtain ⟨hcb, hkn, -, -⟩ := State.arrayAt?_spec harrAt
    have hown : s.vm.findClass R_law = some m.cls := findClass_of_methodNamed B.named
    have hts0 : ∀ c ∈ (Jvm.Cond.code x code maxLocals ret :: tables_1), c.before #[Value.ref b] s = true := atoms_spec (ws := Jvm.Cond.code x code maxLocals ret :: tables_1) B.pre
    have hts : ∀ w ∈ lw_tbl, w.before #[Value.ref b] s = true := k2_hts_sels lw_privs (fun w hw => hts0 w (List.mem_cons_of_mem _ hw)) lw_privs_ok
    have hml : c.maxLocals = 9 := B.maxLocals_eq (hts0 _ List.mem_cons_self)
    have X₀ : Stand p l e room_1 s m #[Value.ref b] below meth c s₁ [] 0 0 := Stand.of_body B
    have hh0 : s₁.heap = s.heap := by rw [B.state]; rfl
    have hsz : scr.slots.size = xs.length := by rw [← Array.length_toList, hlist, List.length_map]
    have hval : ∀ j : Nat, j < xs.length → scr.slots[j]? = some (.int (xs.getD j 0)) := fun j hj => by
      rw [← Array.getElem?_toList, hlist]
      simp [hj]
    have hbl : b < s.heap.size := (Array.getElem?_eq_some_iff.mp hcb).1
    have hX : va_X b xs.length (fun j => xs.getD j 0) s s.heap := ⟨scr, hcb, hof, hkn, hsz, hval⟩
    have K : W p l e room_1 s m #[Value.ref b] below meth c s₁.heap [] 0 0 (lw_Z below #[Value.ref b] s) (entryFrame m ([Value.ref b] : List Value).toArray 9) := by
      rw [hh0]
      exact whole_start l hflags hbd ⟨B.exec, B.bytes, B.returns, hml, hown, hts, hX, hbl, B.notSynchronized, hgv⟩
    obtain ⟨t, a1, o, b1, b2, b3⟩ := K s₁ rfl X₀
    exact ⟨t, o, a1, b1, b2, b3⟩
theorem lw_pre_spec {args : Array Value} {s : State} (h : (Jvm.Cond.and given_1 narrow_1).before args s = true) (hr : rest_1_c.before args s = true) : ∃ (b : Addr) (xs : List Int32), lw_P b xs args s := by
  have hs := flat_of_before _ h
  have hq := flat_of_before _ hr
  have hc : (Cond.count 1).before args s = true := hs _ (by decide +kernel)
  have harr : (Cond.arrayOf (.arg 0) .int).before args s = true := hs _ (by decide +kernel)
  have hle : (Cond.le (.length (.arg 0)) (.int 3584)).before args s = true := hs _ (by decide +kernel)
  have hlen : (Cond.isInt (.length (.arg 0))).before args s = true := hq _ (by decide +kernel)
  have hall : (Cond.all (.arg 0) (.isInt (.elem (.arg 0) (.index 0)))).before args s = true := hq _ (by decide +kernel)
  obtain ⟨b, xs, hb, hx⟩ := State.ints_of_pre rfl harr hlen hall
  have hsm : xs.length < 2 ^ 31 := hx.choose_spec.2.2.2
  have hev : (Term.length (.arg 0)).eval args s none [] s = some (.int xs.length.toInt32) := hx.length_eval hb
  have hv := Cond.le_ints hev (show (Term.int 3584).eval args s none [] s = some (.int 3584) from rfl)
  have hd : xs.length.toInt32 ≤ 3584 := by
    simpa [Cond.before, Cond.holds, hv] using hle
  have hN : xs.length ≤ 3584 := (Int32.ofNat_le_ofNat hsm (by decide)).mp (show Int32.ofNat xs.length ≤ Int32.ofNat 3584 from hd)
  exact ⟨b, xs, Cond.one_arg hc (show args[0]? = some (.ref b) from hb), hx, hN, h⟩
theorem lw_comes (l : Launch) (hflags : l.flags = flags0) : Comes l x (Jvm.Cond.code x code maxLocals ret :: tables_1) room_1 (fun tb e args s => Calls_1 tb e args s ∧ rest_1 tb e args s ∧ Pre_1 tb e args s)
    (fun _ _ args s o t => lw_Q args s o t) := by
  intro p e ha hc hk s m args below hf hfit hheap happ hpre
  obtain ⟨b, xs, hP⟩ := lw_pre_spec hpre.2.2 hpre.2.1
  obtain ⟨k, o, h1, h2, h3, hQ⟩ := lw_walk l hflags b xs p e ha hc hk s m args below hf ((Spec.applies_iff_loose hf).mp happ).1 hP trivial
  exact ⟨k, o, h1, h2, h3, hQ⟩
theorem lw_frame {s t : State} {o : Outcome} {args : Array Value} (h : State.butDraws s t lw_cs (fun t1 => Framed s o t1 [] 603072 7207018)) :
    State.butDraws s t [Jvm.Choice.named "NaN.bits"] (fun t1 => Framed s o t1 (fieldLocs frame_1_writes args s ++ arrayLocs frame_1_arrays args s ++ staticLocs frame_1_statics s) 603072 7207018) := h
theorem lw_limb (L : Cond) (hL : ∀ (args : Array Value) (s t : State), L.after args s (.returned (some (.int 1))) t = true) :
    ArmFor flags0 classFile x code maxLocals ret World_1 tables_1 room_1 Calls_1 rest_1 Pre_1
      (fun tb e a s o t => postC L tb e a s o t ∧ State.butDraws s t [Jvm.Choice.named "NaN.bits"] (fun t1 => Framed s o t1 (fieldLocs frame_1_writes a s ++ arrayLocs frame_1_arrays a s ++ staticLocs frame_1_statics s) 603072 7207018)) := by
  intro l hflags _ _ p e ha hc hk s m args below hf hfit hheap happ hpre
  obtain ⟨k, o, h1, h2, h3, rfl, hF⟩ := lw_comes l hflags p e ha hc hk s m args below hf hfit hheap happ hpre
  exact ⟨k, _, h1, h2, h3, hL args s _, lw_frame hF⟩
theorem i_vc : Claimed_1_1 ∧ Claimed_1_2 := ⟨lw_limb limb_1_1 (fun args s t => by simp [limb_1_1, Cond.after, Cond.holds, Cond.value]), lw_limb limb_1_2 (fun args s t => Cond.after_iff.mpr (by
  first | (rw [show limb_1_2 = Cond.eq .result (.int 1) from rfl, Cond.eq_ints (x := 1) (y := 1) rfl rfl]; simp; done) | (simp [limb_1_2, Cond.value, Term.eval]; done)))⟩
