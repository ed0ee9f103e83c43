section Ends
variable {p : Program} {l : Launch} {e : Env} {R : Room} {s : State} {m : MethodId} {args : Array Value} {below : List Frame} {meth : Method} {c : Code} {H : Heap} {locs : List Loc} {cells slots : Nat} {Q : State → Prop}
variable {mc ms : Nat} {free : Addr → Prop} {A0 A1 : Nat → Prop} {H0 : Heap} {a : Array Value} {ls : Array Slot} {st0 rest : List Value}
variable {Qc : Array Value → State → Outcome → State → Prop} {XC : String → State → State → Prop}
/-- 'throw new E("text")': new; dup; ldc; invokespecial; athrow -/
theorem ns_throw {cc : ByteArray} {pc : Nat} (hexec : p.tables.exec = Jvm.exec) (hb : c.code = cc) (hl : l.stackTraces = false) {own text : String} {ik is ic mc ms sa : Nat} {A : Nat → Prop}
    (hown : s.vm.findClass own = some m.cls)
    (hk : (Cond.classLink own ik ns_X).before args s = true) (hini : (Cond.initialized ns_X).before args s = true) (hstr : vk_R own is text sa s) (hat : ∀ w ∈ ns_at own ic, w.before args s = true)
    (hgood : ∀ w ∈ Cond.classLink own ik ns_X :: Cond.initialized ns_X :: ns_at own ic, vx_ot w = true)
    (hU : vx_Zq Bundle.tN "UNASSIGNED_STACK" Bundle.steD A s s.heap) (hN : vx_Zq Bundle.tN "SUPPRESSED_SENTINEL" Bundle.listD A s s.heap) (hS : va_S A s.heap H locs) (hsize : ls.size = c.maxLocals)
    (d0 : decode cc pc = .ok (.new ik, 3)) (d3 : decode cc (pc + 3) = .ok (.dup, 1)) (d4 : decode cc (pc + 4) = .ok (.ldc is, 2)) (d6 : decode cc (pc + 6) = .ok (.invokespecial ic, 3)) (d9 : decode cc (pc + 9) = .ok (.athrow, 1))
    (hout : ∀ x ∈ c.exceptionTable.toList, covers x (pc + 9) = false)
    (hRframes : 5 < R.frames) (hRlocals : (rest.map fun v => v.category).sum + 82 ≤ R.locals) (hRcells : cells + 1 ≤ R.cells) (hRslots : slots + 6 ≤ R.slots) (hlocks : meth.locks = false)
    (hx : ∀ t : State, s.vm.Alike t.vm → H.size ≤ t.heap.size → (∀ q : Nat, q < H.size → t.heap[q]? = H[q]?) → XC ns_X s t)
    (hf : ∀ z ∈ locs, free z.base) (hc : cells + 1 ≤ mc) (hs : slots + 6 ≤ ms) :
    W p l e R s m args below meth c H locs cells slots (vx_MQ below Qc XC args s mc ms free) (F0 m pc ls rest) := by
  intro T hT X
  have htr : e.platform.stackTraces = false := (show e.platform.stackTraces = l.stackTraces by rw [X.admits.platform]).trans hl
  have Y := vx_rebase X (R' := { frames := R.frames, locals := R.locals, cells := 1, slots := 6 }) (Nat.le_refl _) (Nat.le_refl _) hRcells hRslots
  obtain ⟨s', hA⟩ : ∃ z, z = (T.setVm s.vm).setFrames (.invoking m args :: below) := ⟨_, rfl⟩
  rw [← hA] at Y
  have hvm : s'.vm = s.vm := by rw [hA]; rfl
  have hhp : s'.heap = H := by rw [hA]; exact hT
  have hW0 : s.WarmedH s'.vm := by rw [hvm]; exact State.WarmedH.refl s
  have hat' : ∀ w ∈ ns_at own ic, w.before args s' = true := fun w hw => vx_ot_at hW0 hvm.symm (hgood w (List.mem_cons_of_mem _ (List.mem_cons_of_mem _ hw))) (hat w hw)
  have hk' : (Cond.classLink own ik ns_X).before args s' = true := vx_ot_at hW0 hvm.symm (hgood _ List.mem_cons_self) hk
  have hini' : (Cond.initialized ns_X).before args s' = true := vx_ot_at hW0 hvm.symm (hgood _ (List.mem_cons_of_mem _ List.mem_cons_self)) hini
  have hU' : vx_Zq Bundle.tN "UNASSIGNED_STACK" Bundle.steD A s' s'.heap := by rw [hhp]; exact vx_Zq.moved hW0.alike (hU.kept hS.2.1)
  have hN' : vx_Zq Bundle.tN "SUPPRESSED_SENTINEL" Bundle.listD A s' s'.heap := by rw [hhp]; exact vx_Zq.moved hW0.alike (hN.kept hS.2.1)
  have h : ∀ w ∈ ns_all own ic, w.before args s' = true := vx_own hat' (vx_isRefq hU'.1) (vx_isRefq hN'.1) hU'.2.word hN'.2.word
  have hown' : s'.vm.findClass own = some m.cls := by rw [hvm]; exact hown
  have hins : (Cond.instantiable ns_X 6).before args s' = true := h _ (by simp [ns_all, ns_rest])
  obtain ⟨vm₁, cX, kX, hfX, hkX, -, -, X₁, st1⟩ := Y.newCold hexec (own := own) (C := ns_X) (index := ik) (n := 6) hown' hk' hins hini'
    (g := F0 m pc ls rest) rfl (by rw [hb]; exact d0) (Nat.le_refl _) (Nat.le_refl _)
  generalize hT1 : (T.setVm vm₁).pushCell { cls := cX, slots := kX.instanceTypes.map defaultValue, vm := .none } = T1 at X₁ st1
  have hcat : (Value.ref T.heap.size).category = 1 := rfl
  have hcellA : T1.heap[T.heap.size]? = some (freshCell cX kX) := by rw [← hT1]; exact State.heap_pushCell_size _ _
  have d3' : decode c.code (pc + 3) = .ok (.dup, 1) := by rw [hb]; exact d3
  have d4' : decode c.code (pc + 4) = .ok (.ldc is, 2) := by rw [hb]; exact d4
  have hstr' : vk_R own is text sa s' := vk_R.warm hW0 hstr
  obtain ⟨U, hsteps, hrun, hend, hW, hsame, ce, hce, hOc, hOv⟩ := ns_ctor X₁ hexec htr (own := own) (ic := ic) hown' h (fun x hx => nomatch hx) hfX hkX hcellA (by rw [hhp, hT]; exact Nat.le_refl _) (msg := .ref sa) rfl
    (g := { method := m, pc := pc + 6, locals := ls, stack := .ref sa :: .ref T.heap.size :: .ref T.heap.size :: rest, locked := none }) rfl hsize rfl rfl (rest := rest) rfl
    (by rw [hb]; exact d6) (by rw [hb]; exact d9) hout hRframes (by simp only [List.map_cons, List.sum_cons, hcat]; omega) hlocks
  obtain ⟨f1, f2⟩ := vx_frame hsame
  rw [hhp] at f1 f2
  have hWs : s.WarmedH U.vm := State.WarmedH.trans hW0 hW
  have hcl : s.vm.findClass ns_X = some ce.cls := by
    have h9 := hOc
    rw [hvm] at h9
    exact h9
  have hall : s.sameButNew ({ U with vm := s.vm } : State) locs mc ms := by
    subst hA
    obtain ⟨e1, e2⟩ := hsame
    rw [State.setFrames_setFrames] at e1
    have h2 : (T.setVm s.vm).sameButNew ({ U with vm := s.vm } : State) [] (0 + 1) (0 + 6) := ⟨e1, e2⟩
    have h3 := X.same.trans h2
    rw [List.append_nil] at h3
    exact h3.mono hc hs
  refine ⟨U, ?_, .threw T.heap.size, hrun, hend, Or.inr ⟨T.heap.size, rfl, ns_X, ce, locs, hx U hWs.alike f1 (fun q hq => f2 q hq (fun z hz => nomatch hz)), hce, hOv, hcl, hWs, hall, hf⟩⟩
  refine st1 _ ?_
  show Steps p.tables e below (T1.setTop { method := m, pc := pc + 3, locals := ls, stack := .ref T.heap.size :: rest, locked := none }) _
  jvm_step X₁.here [X₁.here.top, hexec, d3', Value.category]
  exact X₁.ldcString hexec (own := own) (text := text) (index := is) (a := sa) hown' hstr'.1 hstr'.2
    (g := { method := m, pc := pc + 4, locals := ls, stack := .ref T.heap.size :: .ref T.heap.size :: rest, locked := none }) rfl d4' _ hsteps
/-- 'throw new E("text")', the text by a wide index -/
theorem ns_throwW {cc : ByteArray} {pc : Nat} (hexec : p.tables.exec = Jvm.exec) (hb : c.code = cc) (hl : l.stackTraces = false) {own text : String} {ik is ic mc ms sa : Nat} {A : Nat → Prop}
    (hown : s.vm.findClass own = some m.cls)
    (hk : (Cond.classLink own ik ns_X).before args s = true) (hini : (Cond.initialized ns_X).before args s = true) (hstr : vk_R own is text sa s) (hat : ∀ w ∈ ns_at own ic, w.before args s = true)
    (hgood : ∀ w ∈ Cond.classLink own ik ns_X :: Cond.initialized ns_X :: ns_at own ic, vx_ot w = true)
    (hU : vx_Zq Bundle.tN "UNASSIGNED_STACK" Bundle.steD A s s.heap) (hN : vx_Zq Bundle.tN "SUPPRESSED_SENTINEL" Bundle.listD A s s.heap) (hS : va_S A s.heap H locs) (hsize : ls.size = c.maxLocals)
    (d0 : decode cc pc = .ok (.new ik, 3)) (d3 : decode cc (pc + 3) = .ok (.dup, 1)) (d4 : decode cc (pc + 4) = .ok (.ldc_w is, 3)) (d7 : decode cc (pc + 7) = .ok (.invokespecial ic, 3)) (d10 : decode cc (pc + 10) = .ok (.athrow, 1))
    (hout : ∀ x ∈ c.exceptionTable.toList, covers x (pc + 10) = false)
    (hRframes : 5 < R.frames) (hRlocals : (rest.map fun v => v.category).sum + 82 ≤ R.locals) (hRcells : cells + 1 ≤ R.cells) (hRslots : slots + 6 ≤ R.slots) (hlocks : meth.locks = false)
    (hx : ∀ t : State, s.vm.Alike t.vm → H.size ≤ t.heap.size → (∀ q : Nat, q < H.size → t.heap[q]? = H[q]?) → XC ns_X s t)
    (hf : ∀ z ∈ locs, free z.base) (hc : cells + 1 ≤ mc) (hs : slots + 6 ≤ ms) :
    W p l e R s m args below meth c H locs cells slots (vx_MQ below Qc XC args s mc ms free) (F0 m pc ls rest) := by
  intro T hT X
  have htr : e.platform.stackTraces = false := (show e.platform.stackTraces = l.stackTraces by rw [X.admits.platform]).trans hl
  have Y := vx_rebase X (R' := { frames := R.frames, locals := R.locals, cells := 1, slots := 6 }) (Nat.le_refl _) (Nat.le_refl _) hRcells hRslots
  obtain ⟨s', hA⟩ : ∃ z, z = (T.setVm s.vm).setFrames (.invoking m args :: below) := ⟨_, rfl⟩
  rw [← hA] at Y
  have hvm : s'.vm = s.vm := by rw [hA]; rfl
  have hhp : s'.heap = H := by rw [hA]; exact hT
  have hW0 : s.WarmedH s'.vm := by rw [hvm]; exact State.WarmedH.refl s
  have hat' : ∀ w ∈ ns_at own ic, w.before args s' = true := fun w hw => vx_ot_at hW0 hvm.symm (hgood w (List.mem_cons_of_mem _ (List.mem_cons_of_mem _ hw))) (hat w hw)
  have hk' : (Cond.classLink own ik ns_X).before args s' = true := vx_ot_at hW0 hvm.symm (hgood _ List.mem_cons_self) hk
  have hini' : (Cond.initialized ns_X).before args s' = true := vx_ot_at hW0 hvm.symm (hgood _ (List.mem_cons_of_mem _ List.mem_cons_self)) hini
  have hU' : vx_Zq Bundle.tN "UNASSIGNED_STACK" Bundle.steD A s' s'.heap := by rw [hhp]; exact vx_Zq.moved hW0.alike (hU.kept hS.2.1)
  have hN' : vx_Zq Bundle.tN "SUPPRESSED_SENTINEL" Bundle.listD A s' s'.heap := by rw [hhp]; exact vx_Zq.moved hW0.alike (hN.kept hS.2.1)
  have h : ∀ w ∈ ns_all own ic, w.before args s' = true := vx_own hat' (vx_isRefq hU'.1) (vx_isRefq hN'.1) hU'.2.word hN'.2.word
  have hown' : s'.vm.findClass own = some m.cls := by rw [hvm]; exact hown
  have hins : (Cond.instantiable ns_X 6).before args s' = true := h _ (by simp [ns_all, ns_rest])
  obtain ⟨vm₁, cX, kX, hfX, hkX, -, -, X₁, st1⟩ := Y.newCold hexec (own := own) (C := ns_X) (index := ik) (n := 6) hown' hk' hins hini'
    (g := F0 m pc ls rest) rfl (by rw [hb]; exact d0) (Nat.le_refl _) (Nat.le_refl _)
  generalize hT1 : (T.setVm vm₁).pushCell { cls := cX, slots := kX.instanceTypes.map defaultValue, vm := .none } = T1 at X₁ st1
  have hcat : (Value.ref T.heap.size).category = 1 := rfl
  have hcellA : T1.heap[T.heap.size]? = some (freshCell cX kX) := by rw [← hT1]; exact State.heap_pushCell_size _ _
  have d3' : decode c.code (pc + 3) = .ok (.dup, 1) := by rw [hb]; exact d3
  have d4' : decode c.code (pc + 4) = .ok (.ldc_w is, 3) := by rw [hb]; exact d4
  have hstr' : vk_R own is text sa s' := vk_R.warm hW0 hstr
  obtain ⟨U, hsteps, hrun, hend, hW, hsame, ce, hce, hOc, hOv⟩ := ns_ctor X₁ hexec htr (own := own) (ic := ic) hown' h (fun x hx => nomatch hx) hfX hkX hcellA (by rw [hhp, hT]; exact Nat.le_refl _) (msg := .ref sa) rfl
    (g := { method := m, pc := pc + 7, locals := ls, stack := .ref sa :: .ref T.heap.size :: .ref T.heap.size :: rest, locked := none }) rfl hsize rfl rfl (rest := rest) rfl
    (by rw [hb]; exact d7) (by rw [hb]; exact d10) hout hRframes (by simp only [List.map_cons, List.sum_cons, hcat]; omega) hlocks
  obtain ⟨f1, f2⟩ := vx_frame hsame
  rw [hhp] at f1 f2
  have hWs : s.WarmedH U.vm := State.WarmedH.trans hW0 hW
  have hcl : s.vm.findClass ns_X = some ce.cls := by
    have h9 := hOc
    rw [hvm] at h9
    exact h9
  have hall : s.sameButNew ({ U with vm := s.vm } : State) locs mc ms := by
    subst hA
    obtain ⟨e1, e2⟩ := hsame
    rw [State.setFrames_setFrames] at e1
    have h2 : (T.setVm s.vm).sameButNew ({ U with vm := s.vm } : State) [] (0 + 1) (0 + 6) := ⟨e1, e2⟩
    have h3 := X.same.trans h2
    rw [List.append_nil] at h3
    exact h3.mono hc hs
  refine ⟨U, ?_, .threw T.heap.size, hrun, hend, Or.inr ⟨T.heap.size, rfl, ns_X, ce, locs, hx U hWs.alike f1 (fun q hq => f2 q hq (fun z hz => nomatch hz)), hce, hOv, hcl, hWs, hall, hf⟩⟩
  refine st1 _ ?_
  show Steps p.tables e below (T1.setTop { method := m, pc := pc + 3, locals := ls, stack := .ref T.heap.size :: rest, locked := none }) _
  jvm_step X₁.here [X₁.here.top, hexec, d3', Value.category]
  exact X₁.ldcStringW hexec (own := own) (text := text) (index := is) (a := sa) hown' hstr'.1 hstr'.2
    (g := { method := m, pc := pc + 4, locals := ls, stack := .ref T.heap.size :: .ref T.heap.size :: rest, locked := none }) rfl d4' _ hsteps
end Ends
def go_TN (own : String) (ik ic : Nat) : Prop := Cond.classLink own ik ns_X ∈ go_gw ∧ Cond.initialized ns_X ∈ go_gw ∧ ns_X ∈ go_exc ∧ ∀ w ∈ ns_at own ic, w ∈ go_gw ∨ w = Cond.castable ns_X ns_X ∨ ∃ y ∈ go_dec, w = .declares y
section GT
variable {M : go_M} {x : Bool} {Po : Option Value → go_H → Prop} {Px : String → go_H → Prop} {cl sl pc : Nat} {ls : List (Nat × Value)} {st : List Value} {h : go_H}
theorem go_throwN {ik is ic : Nat} (text : String) (d0 : decode M.code pc = .ok (.new ik, 3)) (d3 : decode M.code (pc + 3) = .ok (.dup, 1)) (d4 : decode M.code (pc + 4) = .ok (.ldc is, 2)) (d6 : decode M.code (pc + 6) = .ok (.invokespecial ic, 3)) (d9 : decode M.code (pc + 9) = .ok (.athrow, 1)) (hh : M.hh = []) (hT : go_TN M.own ik ic) (hstr : (M.own, is, text) ∈ go_str) (h1 : 5 < M.rm.frames) (h2 : (st.map fun v => v.category).sum + 82 ≤ M.rm.locals) (h3 : cl + 1 ≤ M.rm.cells) (h4 : sl + 6 ≤ M.rm.slots) (hpx : Px ns_X h) : Go M x (go_Qm M x Po Px) cl sl pc ls st h := by
  intro p l e s m args below meth c b kap D H locs ks hX hP hS hl
  have hX9 := hX
  obtain ⟨hx, hb, hml, hown, hts, hr, hlk, hnt, hK, hnm, htb⟩ := hX9
  obtain ⟨w1, w2, hE9, w3⟩ := hT
  have w4 : ∀ w ∈ ns_at M.own ic, w.before args s = true := fun w hw => (w3 w hw).elim (fun q => hts w q) (fun q => q.elim (fun q => by rw [q]; exact (hK.2.2.2.2.2.2.2.1 ns_X hE9).word) (fun ⟨y, hy, q⟩ => by rw [q]; exact va_Nw.use rfl (hK.2.2.2.2.2.2.2.2.1 y hy)))
  obtain ⟨sa, hsa⟩ := hK.2.2.2.1 _ hstr
  refine ns_throw (text := text) (sa := sa) (A := fun q => b ≤ q) hx hb hnt hown (hts _ w1) (hts _ w2) hsa w4 (fun w hw => ?_) hK.2.1 hK.2.2.1 hS (by rw [hml]; exact hl.1) d0 d3 d4 d6 d9 (fun z hz => ?_) h1 (by rw [go_s_cat]; exact h2) h3 h4 hlk (fun t hal hz hk => ?_) hS.2.2 h3 h4
  · rcases List.mem_cons.mp hw with rfl | hw
    · exact go_ot w1
    · rcases List.mem_cons.mp hw with rfl | hw
      · exact go_ot w2
      · exact (w3 w hw).elim go_ot (fun q => q.elim (fun q => by rw [q]; rfl) (fun ⟨y, hy, q⟩ => by rw [q]; rfl))
  · rw [htb, hh] at hz
    cases hz
  · refine ⟨⟨h, hpx, ⟨hP.1.kept (fun k q hq => hk q.1 ((hP.1 k q hq).lt)), Nat.le_trans hP.2.1 hz, fun q => by cases q⟩⟩, Nat.le_trans hS.1 hz, fun q h1 h2 => (hk q (Nat.lt_of_lt_of_le h1 hS.1)).trans (hS.2.1 q h1 h2)⟩
theorem go_throwNW {ik is ic : Nat} (text : String) (d0 : decode M.code pc = .ok (.new ik, 3)) (d3 : decode M.code (pc + 3) = .ok (.dup, 1)) (d4 : decode M.code (pc + 4) = .ok (.ldc_w is, 3)) (d6 : decode M.code (pc + 7) = .ok (.invokespecial ic, 3)) (d9 : decode M.code (pc + 10) = .ok (.athrow, 1)) (hh : M.hh = []) (hT : go_TN M.own ik ic) (hstr : (M.own, is, text) ∈ go_str) (h1 : 5 < M.rm.frames) (h2 : (st.map fun v => v.category).sum + 82 ≤ M.rm.locals) (h3 : cl + 1 ≤ M.rm.cells) (h4 : sl + 6 ≤ M.rm.slots) (hpx : Px ns_X h) : Go M x (go_Qm M x Po Px) cl sl pc ls st h := by
  intro p l e s m args below meth c b kap D H locs ks hX hP hS hl
  have hX9 := hX
  obtain ⟨hx, hb, hml, hown, hts, hr, hlk, hnt, hK, hnm, htb⟩ := hX9
  obtain ⟨w1, w2, hE9, w3⟩ := hT
  have w4 : ∀ w ∈ ns_at M.own ic, w.before args s = true := fun w hw => (w3 w hw).elim (fun q => hts w q) (fun q => q.elim (fun q => by rw [q]; exact (hK.2.2.2.2.2.2.2.1 ns_X hE9).word) (fun ⟨y, hy, q⟩ => by rw [q]; exact va_Nw.use rfl (hK.2.2.2.2.2.2.2.2.1 y hy)))
  obtain ⟨sa, hsa⟩ := hK.2.2.2.1 _ hstr
  refine ns_throwW (text := text) (sa := sa) (A := fun q => b ≤ q) hx hb hnt hown (hts _ w1) (hts _ w2) hsa w4 (fun w hw => ?_) hK.2.1 hK.2.2.1 hS (by rw [hml]; exact hl.1) d0 d3 d4 d6 d9 (fun z hz => ?_) h1 (by rw [go_s_cat]; exact h2) h3 h4 hlk (fun t hal hz hk => ?_) hS.2.2 h3 h4
  · rcases List.mem_cons.mp hw with rfl | hw
    · exact go_ot w1
    · rcases List.mem_cons.mp hw with rfl | hw
      · exact go_ot w2
      · exact (w3 w hw).elim go_ot (fun q => q.elim (fun q => by rw [q]; rfl) (fun ⟨y, hy, q⟩ => by rw [q]; rfl))
  · rw [htb, hh] at hz
    cases hz
  · refine ⟨⟨h, hpx, ⟨hP.1.kept (fun k q hq => hk q.1 ((hP.1 k q hq).lt)), Nat.le_trans hP.2.1 hz, fun q => by cases q⟩⟩, Nat.le_trans hS.1 hz, fun q h1 h2 => (hk q (Nat.lt_of_lt_of_le h1 hS.1)).trans (hS.2.1 q h1 h2)⟩
/-- not caught here -/
theorem go_outE {E : String} (hh : M.hh = []) (h1 : cl ≤ M.rm.cells) (h2 : sl ≤ M.rm.slots) (hpx : Px E h) : GoX M (go_Qm M false Po Px) cl sl pc ls st E h := by
  intro p l e s m args below meth c b kap D H locs ks q9 ce hX hP hS hl hce hcv hcl
  obtain ⟨hx, hb, hml, hown, hts, hr, hlk, hnt, hK, hnm, htb⟩ := hX
  refine vx_out (fun z hz => ?_) hlk hce hcv hcl (fun t ht hal => ⟨⟨h, hpx, by rw [ht]; exact hP⟩, hS.F ht⟩) hS.2.2 h1 h2
  rw [htb, hh] at hz
  cases hz
end GT
theorem sT_RX8_126 : go_TN RX8 126 130 := ⟨wJ_RX8_126, go_c1 19 (by decide +kernel) (by decide +kernel), (by decide +kernel), fun w hw => by
  have h2 := List.all_eq_true.mp (show (ns_at RX8 130).all (fun w => (decide (w ∈ lw_tbl) && goodWord w) || (decide (w = Cond.castable ns_X ns_X) || go_dec.any (fun y => decide (w = .declares y)))) = true by decide +kernel) w hw
  simp only [Bool.or_eq_true, Bool.and_eq_true, decide_eq_true_eq] at h2
  exact h2.elim (fun q => Or.inl (go_in q.1 q.2)) (fun q => Or.inr (q.elim Or.inl (fun q => Or.inr (by obtain ⟨y, hy, e⟩ := List.any_eq_true.mp q; exact ⟨y, hy, of_decide_eq_true e⟩))))⟩
/-- a contract with exceptions: e = 0, and it answers r, or the e-th class is thrown -/
def gO (M : go_M) (a : List Value) (S : gS) (e : Nat) (r : Option Value) (T : gS) : Prop := go_Ct M false a (hp S) (fun v h => e = 0 ∧ v = r ∧ h = hp T) (fun E h => 0 < e ∧ go_exc[e - 1]? = some E ∧ h = hp T)
