/-! .. its throw, and the words for it (written by wip/gen/throws84.py) -/
section S84
variable {p : Program} {l : Launch} {e : Env} {R : Room} {s : State} {m : MethodId} {args : Array Value} {below : List Frame} {meth : Method} {c : Code}
theorem xthrowX {locs : List Loc} {cells slots : Nat} {H : Heap} {ls : Array Slot} {rest : List Value} {XC : String → State → State → Prop} {Qc : Array Value → State → Outcome → State → Prop} {free : Addr → Prop} {cc rx : ByteArray} {pc ix : Nat} (hexec : p.tables.exec = Jvm.exec) (hb : c.code = cc) (hl : l.stackTraces = false) {own cls text : String} {ik is ic mc ms sa : Nat} {A : Nat → Prop}
    (x0 : decode rx 0 = .ok (.aload_n 0, 1)) (x1 : decode rx 1 = .ok (.aload_n 1, 1)) (x2 : decode rx 2 = .ok (.invokespecial ix, 3)) (x5 : decode rx 5 = .ok (.return_, 1))
    (hown : s.vm.findClass own = some m.cls) (hcls : Bundle.fit cls = true)
    (hk : (Cond.classLink own ik cls).before args s = true) (hini : (Cond.initialized cls).before args s = true) (hstr : vk_R own is text sa s) (hat : ∀ w ∈ (xOwn own ic cls ix rx).filter vx_no, w.before args s = true)
    (hgood : ∀ w ∈ Cond.classLink own ik cls :: Cond.initialized cls :: (xOwn own ic cls ix rx).filter vx_no, vx_ot w = true)
    (hU : vx_Zq Bundle.tN "UNASSIGNED_STACK" Bundle.steD A s s.heap) (hN : vx_Zq Bundle.tN "SUPPRESSED_SENTINEL" Bundle.listD A s s.heap) (hS : va_S A s.heap H locs) (hsize : ls.size = c.maxLocals)
    (d0 : decode cc pc = .ok (.new ik, 3)) (d3 : decode cc (pc + 3) = .ok (.dup, 1)) (d4 : decode cc (pc + 4) = .ok (.ldc is, 2)) (d6 : decode cc (pc + 6) = .ok (.invokespecial ic, 3)) (d9 : decode cc (pc + 9) = .ok (.athrow, 1))
    (hout : ∀ x ∈ c.exceptionTable.toList, covers x (pc + 9) = false)
    (hRframes : 5 < R.frames) (hRlocals : (rest.map fun v => v.category).sum + (13 * 3 + 43) ≤ R.locals) (hRcells : cells + 1 ≤ R.cells) (hRslots : slots + 6 ≤ R.slots) (hlocks : meth.locks = false)
    (hx : ∀ t : State, s.vm.Alike t.vm → H.size ≤ t.heap.size → (∀ q : Nat, q < H.size → t.heap[q]? = H[q]?) → XC cls s t)
    (hf : ∀ z ∈ locs, free z.base) (hc : cells + 1 ≤ mc) (hs : slots + 6 ≤ ms) :
    W p l e R s m args below meth c H locs cells slots (vx_MQ below Qc XC args s mc ms free) (F0 m pc ls rest) := by
  intro T hT X
  have htr : e.platform.stackTraces = false := (show e.platform.stackTraces = l.stackTraces by rw [X.admits.platform]).trans hl
  have Y := vx_rebase X (R' := { frames := R.frames, locals := R.locals, cells := 1, slots := 6 }) (Nat.le_refl _) (Nat.le_refl _) hRcells hRslots
  obtain ⟨s', hA⟩ : ∃ z, z = (T.setVm s.vm).setFrames (.invoking m args :: below) := ⟨_, rfl⟩
  rw [← hA] at Y
  have hvm : s'.vm = s.vm := by rw [hA]; rfl
  have hhp : s'.heap = H := by rw [hA]; exact hT
  have hW0 : s.WarmedH s'.vm := by rw [hvm]; exact State.WarmedH.refl s
  have hat' : ∀ w ∈ (xOwn own ic cls ix rx).filter vx_no, w.before args s' = true := fun w hw => vx_ot_at hW0 hvm.symm (hgood w (List.mem_cons_of_mem _ (List.mem_cons_of_mem _ hw))) (hat w hw)
  have hk' : (Cond.classLink own ik cls).before args s' = true := vx_ot_at hW0 hvm.symm (hgood _ List.mem_cons_self) hk
  have hini' : (Cond.initialized cls).before args s' = true := vx_ot_at hW0 hvm.symm (hgood _ (List.mem_cons_of_mem _ List.mem_cons_self)) hini
  have hU' : vx_Zq Bundle.tN "UNASSIGNED_STACK" Bundle.steD A s' s'.heap := by rw [hhp]; exact vx_Zq.moved hW0.alike (hU.kept hS.2.1)
  have hN' : vx_Zq Bundle.tN "SUPPRESSED_SENTINEL" Bundle.listD A s' s'.heap := by rw [hhp]; exact vx_Zq.moved hW0.alike (hN.kept hS.2.1)
  have h : ∀ w ∈ xOwn own ic cls ix rx, w.before args s' = true := vx_own hat' (vx_isRefq hU'.1) (vx_isRefq hN'.1) hU'.2.word hN'.2.word
  have hown' : s'.vm.findClass own = some m.cls := by rw [hvm]; exact hown
  have hins : (Cond.instantiable cls 6).before args s' = true := h _ (by simp [xOwn, xLast])
  obtain ⟨vm₁, cX, kX, hfX, hkX, -, -, X₁, st1⟩ := Y.newCold hexec (own := own) (C := cls) (index := ik) (n := 6) hown' hk' hins hini'
    (g := F0 m pc ls rest) rfl (by rw [hb]; exact d0) (Nat.le_refl _) (Nat.le_refl _)
  generalize hT1 : (T.setVm vm₁).pushCell { cls := cX, slots := kX.instanceTypes.map defaultValue, vm := .none } = T1 at X₁ st1
  have hcat : (Value.ref T.heap.size).category = 1 := rfl
  have hcellA : T1.heap[T.heap.size]? = some (freshCell cX kX) := by rw [← hT1]; exact State.heap_pushCell_size _ _
  have d3' : decode c.code (pc + 3) = .ok (.dup, 1) := by rw [hb]; exact d3
  have d4' : decode c.code (pc + 4) = .ok (.ldc is, 2) := by rw [hb]; exact d4
  have hstr' : vk_R own is text sa s' := vk_R.warm hW0 hstr
  obtain ⟨U, hsteps, hrun, hend, hW, hsame, ce, hce, hce2, hcl0⟩ := xctorX X₁ hexec htr (own := own) (cls := cls) (ic := ic) x0 x1 x2 x5 hown' hcls h (fun x hx => nomatch hx) hfX hkX hcellA (by rw [hhp, hT]; exact Nat.le_refl _) (msg := .ref sa) rfl
    (g := { method := m, pc := pc + 6, locals := ls, stack := .ref sa :: .ref T.heap.size :: .ref T.heap.size :: rest, locked := none }) rfl hsize rfl rfl (rest := rest) rfl
    (by rw [hb]; exact d6) (by rw [hb]; exact d9) hout hRframes (by simp only [List.map_cons, List.sum_cons, hcat]; omega) hlocks
  obtain ⟨f1, f2⟩ := vx_frame hsame
  rw [hhp] at f1 f2
  have hWs : s.WarmedH U.vm := State.WarmedH.trans hW0 hW
  have hcl : s.vm.findClass cls = some ce.cls := by
    have h9 := hcl0
    rw [hvm] at h9
    exact h9
  have hall : s.sameButNew ({ U with vm := s.vm } : State) locs mc ms := by
    subst hA
    obtain ⟨e1, e2⟩ := hsame
    rw [State.setFrames_setFrames] at e1
    have h2 : (T.setVm s.vm).sameButNew ({ U with vm := s.vm } : State) [] (0 + 1) (0 + 6) := ⟨e1, e2⟩
    have h3 := X.same.trans h2
    rw [List.append_nil] at h3
    exact h3.mono hc hs
  refine ⟨U, ?_, .threw T.heap.size, hrun, hend, Or.inr ⟨T.heap.size, rfl, cls, ce, locs, hx U hWs.alike f1 (fun q hq => f2 q hq (fun z hz => nomatch hz)), hce, hce2, hcl, hWs, hall, hf⟩⟩
  refine st1 _ ?_
  show Steps p.tables e below (T1.setTop { method := m, pc := pc + 3, locals := ls, stack := .ref T.heap.size :: rest, locked := none }) _
  jvm_step X₁.here [X₁.here.top, hexec, d3', Value.category]
  exact X₁.ldcString hexec (own := own) (text := text) (index := is) (a := sa) hown' hstr'.1 hstr'.2
    (g := { method := m, pc := pc + 4, locals := ls, stack := .ref T.heap.size :: .ref T.heap.size :: rest, locked := none }) rfl d4' _ hsteps

theorem xthrowXW {locs : List Loc} {cells slots : Nat} {H : Heap} {ls : Array Slot} {rest : List Value} {XC : String → State → State → Prop} {Qc : Array Value → State → Outcome → State → Prop} {free : Addr → Prop} {cc rx : ByteArray} {pc ix : Nat} (hexec : p.tables.exec = Jvm.exec) (hb : c.code = cc) (hl : l.stackTraces = false) {own cls text : String} {ik is ic mc ms sa : Nat} {A : Nat → Prop}
    (x0 : decode rx 0 = .ok (.aload_n 0, 1)) (x1 : decode rx 1 = .ok (.aload_n 1, 1)) (x2 : decode rx 2 = .ok (.invokespecial ix, 3)) (x5 : decode rx 5 = .ok (.return_, 1))
    (hown : s.vm.findClass own = some m.cls) (hcls : Bundle.fit cls = true)
    (hk : (Cond.classLink own ik cls).before args s = true) (hini : (Cond.initialized cls).before args s = true) (hstr : vk_R own is text sa s) (hat : ∀ w ∈ (xOwn own ic cls ix rx).filter vx_no, w.before args s = true)
    (hgood : ∀ w ∈ Cond.classLink own ik cls :: Cond.initialized cls :: (xOwn own ic cls ix rx).filter vx_no, vx_ot w = true)
    (hU : vx_Zq Bundle.tN "UNASSIGNED_STACK" Bundle.steD A s s.heap) (hN : vx_Zq Bundle.tN "SUPPRESSED_SENTINEL" Bundle.listD A s s.heap) (hS : va_S A s.heap H locs) (hsize : ls.size = c.maxLocals)
    (d0 : decode cc pc = .ok (.new ik, 3)) (d3 : decode cc (pc + 3) = .ok (.dup, 1)) (d4 : decode cc (pc + 4) = .ok (.ldc_w is, 3)) (d6 : decode cc (pc + 7) = .ok (.invokespecial ic, 3)) (d9 : decode cc (pc + 10) = .ok (.athrow, 1))
    (hout : ∀ x ∈ c.exceptionTable.toList, covers x (pc + 10) = false)
    (hRframes : 5 < R.frames) (hRlocals : (rest.map fun v => v.category).sum + (13 * 3 + 43) ≤ R.locals) (hRcells : cells + 1 ≤ R.cells) (hRslots : slots + 6 ≤ R.slots) (hlocks : meth.locks = false)
    (hx : ∀ t : State, s.vm.Alike t.vm → H.size ≤ t.heap.size → (∀ q : Nat, q < H.size → t.heap[q]? = H[q]?) → XC cls s t)
    (hf : ∀ z ∈ locs, free z.base) (hc : cells + 1 ≤ mc) (hs : slots + 6 ≤ ms) :
    W p l e R s m args below meth c H locs cells slots (vx_MQ below Qc XC args s mc ms free) (F0 m pc ls rest) := by
  intro T hT X
  have htr : e.platform.stackTraces = false := (show e.platform.stackTraces = l.stackTraces by rw [X.admits.platform]).trans hl
  have Y := vx_rebase X (R' := { frames := R.frames, locals := R.locals, cells := 1, slots := 6 }) (Nat.le_refl _) (Nat.le_refl _) hRcells hRslots
  obtain ⟨s', hA⟩ : ∃ z, z = (T.setVm s.vm).setFrames (.invoking m args :: below) := ⟨_, rfl⟩
  rw [← hA] at Y
  have hvm : s'.vm = s.vm := by rw [hA]; rfl
  have hhp : s'.heap = H := by rw [hA]; exact hT
  have hW0 : s.WarmedH s'.vm := by rw [hvm]; exact State.WarmedH.refl s
  have hat' : ∀ w ∈ (xOwn own ic cls ix rx).filter vx_no, w.before args s' = true := fun w hw => vx_ot_at hW0 hvm.symm (hgood w (List.mem_cons_of_mem _ (List.mem_cons_of_mem _ hw))) (hat w hw)
  have hk' : (Cond.classLink own ik cls).before args s' = true := vx_ot_at hW0 hvm.symm (hgood _ List.mem_cons_self) hk
  have hini' : (Cond.initialized cls).before args s' = true := vx_ot_at hW0 hvm.symm (hgood _ (List.mem_cons_of_mem _ List.mem_cons_self)) hini
  have hU' : vx_Zq Bundle.tN "UNASSIGNED_STACK" Bundle.steD A s' s'.heap := by rw [hhp]; exact vx_Zq.moved hW0.alike (hU.kept hS.2.1)
  have hN' : vx_Zq Bundle.tN "SUPPRESSED_SENTINEL" Bundle.listD A s' s'.heap := by rw [hhp]; exact vx_Zq.moved hW0.alike (hN.kept hS.2.1)
  have h : ∀ w ∈ xOwn own ic cls ix rx, w.before args s' = true := vx_own hat' (vx_isRefq hU'.1) (vx_isRefq hN'.1) hU'.2.word hN'.2.word
  have hown' : s'.vm.findClass own = some m.cls := by rw [hvm]; exact hown
  have hins : (Cond.instantiable cls 6).before args s' = true := h _ (by simp [xOwn, xLast])
  obtain ⟨vm₁, cX, kX, hfX, hkX, -, -, X₁, st1⟩ := Y.newCold hexec (own := own) (C := cls) (index := ik) (n := 6) hown' hk' hins hini'
    (g := F0 m pc ls rest) rfl (by rw [hb]; exact d0) (Nat.le_refl _) (Nat.le_refl _)
  generalize hT1 : (T.setVm vm₁).pushCell { cls := cX, slots := kX.instanceTypes.map defaultValue, vm := .none } = T1 at X₁ st1
  have hcat : (Value.ref T.heap.size).category = 1 := rfl
  have hcellA : T1.heap[T.heap.size]? = some (freshCell cX kX) := by rw [← hT1]; exact State.heap_pushCell_size _ _
  have d3' : decode c.code (pc + 3) = .ok (.dup, 1) := by rw [hb]; exact d3
  have d4' : decode c.code (pc + 4) = .ok (.ldc_w is, 3) := by rw [hb]; exact d4
  have hstr' : vk_R own is text sa s' := vk_R.warm hW0 hstr
  obtain ⟨U, hsteps, hrun, hend, hW, hsame, ce, hce, hce2, hcl0⟩ := xctorX X₁ hexec htr (own := own) (cls := cls) (ic := ic) x0 x1 x2 x5 hown' hcls h (fun x hx => nomatch hx) hfX hkX hcellA (by rw [hhp, hT]; exact Nat.le_refl _) (msg := .ref sa) rfl
    (g := { method := m, pc := pc + 7, locals := ls, stack := .ref sa :: .ref T.heap.size :: .ref T.heap.size :: rest, locked := none }) rfl hsize rfl rfl (rest := rest) rfl
    (by rw [hb]; exact d6) (by rw [hb]; exact d9) hout hRframes (by simp only [List.map_cons, List.sum_cons, hcat]; omega) hlocks
  obtain ⟨f1, f2⟩ := vx_frame hsame
  rw [hhp] at f1 f2
  have hWs : s.WarmedH U.vm := State.WarmedH.trans hW0 hW
  have hcl : s.vm.findClass cls = some ce.cls := by
    have h9 := hcl0
    rw [hvm] at h9
    exact h9
  have hall : s.sameButNew ({ U with vm := s.vm } : State) locs mc ms := by
    subst hA
    obtain ⟨e1, e2⟩ := hsame
    rw [State.setFrames_setFrames] at e1
    have h2 : (T.setVm s.vm).sameButNew ({ U with vm := s.vm } : State) [] (0 + 1) (0 + 6) := ⟨e1, e2⟩
    have h3 := X.same.trans h2
    rw [List.append_nil] at h3
    exact h3.mono hc hs
  refine ⟨U, ?_, .threw T.heap.size, hrun, hend, Or.inr ⟨T.heap.size, rfl, cls, ce, locs, hx U hWs.alike f1 (fun q hq => f2 q hq (fun z hz => nomatch hz)), hce, hce2, hcl, hWs, hall, hf⟩⟩
  refine st1 _ ?_
  show Steps p.tables e below (T1.setTop { method := m, pc := pc + 3, locals := ls, stack := .ref T.heap.size :: rest, locked := none }) _
  jvm_step X₁.here [X₁.here.top, hexec, d3', Value.category]
  exact X₁.ldcStringW hexec (own := own) (text := text) (index := is) (a := sa) hown' hstr'.1 hstr'.2
    (g := { method := m, pc := pc + 4, locals := ls, stack := .ref T.heap.size :: .ref T.heap.size :: rest, locked := none }) rfl d4' _ hsteps

end S84
abbrev ENSE : String := "java/util/NoSuchElementException"
theorem xthrN_k : Cond.classLink RX7 216 ENSE ∈ x_tbl := (x_w4 162 rfl rfl)
theorem xthrN_i : Cond.initialized ENSE ∈ x_tbl := (x_w1 21 rfl rfl)
theorem xthrN_a : ∀ w ∈ Bundle.passSAtoms ENSE "java/lang/RuntimeException" 13 prog_25_method_4_code, vx_no w = true → w ∈ x_tbl ∨ w ∈ x_dcl := List.forall_mem_cons.mpr ⟨fun _ => Or.inl (x_w4 173 rfl rfl), List.forall_mem_cons.mpr ⟨fun _ => Or.inl (x_w4 174 rfl rfl), List.forall_mem_cons.mpr ⟨fun _ => Or.inl (x_w4 175 rfl rfl), List.forall_mem_cons.mpr ⟨fun _ => Or.inl (x_w2 116 rfl rfl), List.forall_mem_cons.mpr ⟨fun _ => Or.inr (List.mem_of_getElem? (i := 0) rfl), fun _ h => absurd h List.not_mem_nil⟩⟩⟩⟩⟩
theorem xthrN_b : ∀ w ∈ xLast RX7 220 ENSE, vx_no w = true → w ∈ x_tbl ∨ w ∈ x_dcl := List.forall_mem_cons.mpr ⟨fun _ => Or.inl (x_w4 172 rfl rfl), List.forall_mem_cons.mpr ⟨fun _ => Or.inl (x_w4 163 rfl rfl), List.forall_mem_cons.mpr ⟨fun _ => Or.inr (List.mem_of_getElem? (i := 8) rfl), List.forall_mem_cons.mpr ⟨fun _ => Or.inl (x_w4 165 rfl rfl), List.forall_mem_cons.mpr ⟨fun _ => Or.inl (x_w2 104 rfl rfl), List.forall_mem_cons.mpr ⟨fun _ => Or.inl (x_w4 166 rfl rfl), List.forall_mem_cons.mpr ⟨fun _ => Or.inl (x_w4 167 rfl rfl), List.forall_mem_cons.mpr ⟨fun _ => Or.inl (x_w4 168 rfl rfl), List.forall_mem_cons.mpr ⟨fun _ => Or.inl (x_w4 169 rfl rfl), List.forall_mem_cons.mpr ⟨fun h => absurd h (by decide), List.forall_mem_cons.mpr ⟨fun h => absurd h (by decide), List.forall_mem_cons.mpr ⟨fun _ => Or.inl (x_w2 87 rfl rfl), List.forall_mem_cons.mpr ⟨fun _ => Or.inl (x_w2 86 rfl rfl), List.forall_mem_cons.mpr ⟨fun _ => Or.inl (x_w4 170 rfl rfl), fun _ h => absurd h List.not_mem_nil⟩⟩⟩⟩⟩⟩⟩⟩⟩⟩⟩⟩⟩⟩
theorem xthrN : ∀ w ∈ xOwn RX7 220 ENSE 13 prog_25_method_4_code, vx_no w = true → w ∈ x_tbl ∨ w ∈ x_dcl := by
  intro w h hn
  rcases List.mem_append.mp h with h | h
  · exact xthrT w h hn
  · rcases List.mem_append.mp h with h | h
    · exact xthrU w h hn
    · rcases List.mem_append.mp h with h | h
      · exact xthrN_a w h hn
      · rcases List.mem_append.mp h with h | h
        · rcases List.mem_append.mp h with h | h
          · exact xthrR w h hn
          · exact xthrX w h hn
        · exact xthrN_b w h hn
section S84
variable {G : XG} {cc : ByteArray} {nL : Nat} {rt : Option FieldType} {d : Nat} {R : Option Value → Sg → Prop} {RX : String → Sg → Prop} {K n : Nat} {pc : Nat}
theorem ts_throwN {text : String} {is : Nat} (hstr : (is, text) ∈ x_strs) (hnn : n + 1 ≤ K)
    (d0 : decode cc pc = .ok (.new 216, 3)) (d3 : decode cc (pc + 3) = .ok (.dup, 1)) (d4 : decode cc (pc + 4) = .ok (.ldc is, 2)) (d6 : decode cc (pc + 6) = .ok (.invokespecial 220, 3)) (d9 : decode cc (pc + 9) = .ok (.athrow, 1)) : TTo G RX7 cc nL rt (d + 6) R RX K n pc (xi_throw ENSE RX) := by
  intro L S σ h p e s m args below meth c hx hb hml hr ho hts hlk hK hN hZz hTe hUu hVv hNk H locs ls hP hD hS hL
  unfold xi_throw at h
  split at h
  · obtain ⟨sa, hsa⟩ := hUu.2.2 _ hstr
    exact xthrowX hx hb hZz (by decide +kernel) (by decide +kernel) (by decide +kernel) (by decide +kernel) ho (by decide) (hts _ xthrN_k) (hts _ xthrN_i) hsa (fun w hw => (xthrN w (List.mem_filter.mp hw).1 (List.mem_filter.mp hw).2).elim (hts _) (fun q => va_any (x_dcl_on q) (hUu.2.1 w q))) (fun w hw => by
      have hm : w ∈ x_tbl ∨ w ∈ x_dcl := by
        rcases List.mem_cons.mp hw with rfl | hw
        · exact Or.inl xthrN_k
        · rcases List.mem_cons.mp hw with rfl | hw
          · exact Or.inl xthrN_i
          · exact xthrN w (List.mem_filter.mp hw).1 (List.mem_filter.mp hw).2
      unfold vx_ot
      rcases hm with hm | hm
      · rw [(List.mem_filter.mp hm).2, Bool.or_true]
      · rw [x_dcl_on hm, Bool.true_or]) hUu.1 hVv hS (hL.2.1.trans hml.symm) d0 d3 d4 d6 d9 (fun x hx9 => (hTe x hx9).elim)
      (by show 5 < d + 6; omega) (by show 0 + (13 * 3 + 43) ≤ 40 * (d + 6); omega) (by show n + 1 ≤ K; exact hnn) (by show 6 * n + 6 ≤ 6 * K; omega) hlk (fun t hA hsz hq => ⟨σ, h, hP.kept (fun k q hk => hq q.1 (vx_lt hP hk)), Nat.le_trans hS.1 hsz, fun q h1 h2 => by rw [hq q (Nat.lt_of_lt_of_le h1 hS.1)]; exact hS.2.1 q h1 h2⟩) hS.2.2 hnn (by omega)
  · exact h.elim

theorem ts_throwNW {text : String} {is : Nat} (hstr : (is, text) ∈ x_strs) (hnn : n + 1 ≤ K)
    (d0 : decode cc pc = .ok (.new 216, 3)) (d3 : decode cc (pc + 3) = .ok (.dup, 1)) (d4 : decode cc (pc + 4) = .ok (.ldc_w is, 3)) (d6 : decode cc (pc + 7) = .ok (.invokespecial 220, 3)) (d9 : decode cc (pc + 10) = .ok (.athrow, 1)) : TTo G RX7 cc nL rt (d + 6) R RX K n pc (xi_throw ENSE RX) := by
  intro L S σ h p e s m args below meth c hx hb hml hr ho hts hlk hK hN hZz hTe hUu hVv hNk H locs ls hP hD hS hL
  unfold xi_throw at h
  split at h
  · obtain ⟨sa, hsa⟩ := hUu.2.2 _ hstr
    exact xthrowXW hx hb hZz (by decide +kernel) (by decide +kernel) (by decide +kernel) (by decide +kernel) ho (by decide) (hts _ xthrN_k) (hts _ xthrN_i) hsa (fun w hw => (xthrN w (List.mem_filter.mp hw).1 (List.mem_filter.mp hw).2).elim (hts _) (fun q => va_any (x_dcl_on q) (hUu.2.1 w q))) (fun w hw => by
      have hm : w ∈ x_tbl ∨ w ∈ x_dcl := by
        rcases List.mem_cons.mp hw with rfl | hw
        · exact Or.inl xthrN_k
        · rcases List.mem_cons.mp hw with rfl | hw
          · exact Or.inl xthrN_i
          · exact xthrN w (List.mem_filter.mp hw).1 (List.mem_filter.mp hw).2
      unfold vx_ot
      rcases hm with hm | hm
      · rw [(List.mem_filter.mp hm).2, Bool.or_true]
      · rw [x_dcl_on hm, Bool.true_or]) hUu.1 hVv hS (hL.2.1.trans hml.symm) d0 d3 d4 d6 d9 (fun x hx9 => (hTe x hx9).elim)
      (by show 5 < d + 6; omega) (by show 0 + (13 * 3 + 43) ≤ 40 * (d + 6); omega) (by show n + 1 ≤ K; exact hnn) (by show 6 * n + 6 ≤ 6 * K; omega) hlk (fun t hA hsz hq => ⟨σ, h, hP.kept (fun k q hk => hq q.1 (vx_lt hP hk)), Nat.le_trans hS.1 hsz, fun q h1 h2 => by rw [hq q (Nat.lt_of_lt_of_le h1 hS.1)]; exact hS.2.1 q h1 h2⟩) hS.2.2 hnn (by omega)
  · exact h.elim

end S84
