section GRun
variable {p : Program} {l : Launch} {e : Env} {R : Room} {s : State} {m : MethodId} {args : Array Value} {below : List Frame} {meth : Method} {c : Code} {H : Heap} {locs : List Loc} {cells slots mc ms : Nat} {Q : State → Prop} {pc : Nat} {ks : Array Slot} {st0 rest : List Value} {x : Bool} {b : Nat} {kap : FieldType → ClassId} {D : va_G} {Po : Option Value → go_H → Prop} {Px : String → go_H → Prop} {A : Array Value}
theorem go_run (hr : va_Run p l e R s m args below meth c H locs cells slots mc ms (F0 m pc ks st0) rest (go_Qc x b kap D Po A) (fun q => b ≤ q)) (hS : va_S (fun q => b ≤ q) s.heap H locs)
    (kk : ∀ (v : Option Value) (h' : go_H) (H1 : Heap) (locs1 : List Loc), Po v h' → go_P x b kap D h' H1 → va_S (fun q => b ≤ q) s.heap H1 locs1 → W p l e R s m args below meth c H1 locs1 (cells + mc) (slots + ms) Q (F0 m (pc + 3) ks ((v.map (go_v b)).toList ++ rest))) : W p l e R s m args below meth c H locs cells slots Q (F0 m pc ks st0) := by
  intro T hT X
  obtain ⟨v, st₀, t, T', L, h0, X', hL, e1, e2, ⟨⟨w, h', hv, hp, hg⟩, hz, hk⟩, st⟩ := hr T hT X
  cases hv
  rw [h0] at hz hk
  obtain ⟨t2, a1, b1⟩ := kk w h' T'.heap (locs ++ L) hp (by rw [e1]; exact hg)
    ⟨Nat.le_trans hS.1 (by rw [e1]; exact hz), fun q h1 h2 => by rw [e1, hk q (Nat.lt_of_lt_of_le h1 hS.1) h2]; exact hS.2.1 q h1 h2, fun q hq => by
      rcases List.mem_append.mp hq with h | h
      · exact hS.2.2 q h
      · exact hL q h⟩ T' rfl X'
  exact ⟨t2, st t2 a1, b1⟩
theorem go_runX (hr : vx_Run p l e R s m args below meth c H locs cells slots mc ms (F0 m pc ks st0) rest (go_Qc x b kap D Po A) (go_XC b kap D Px) (fun q => b ≤ q)) (hS : va_S (fun q => b ≤ q) s.heap H locs)
    (kx : ∀ (E : String) (h' : go_H) (H1 : Heap) (locs1 : List Loc) (q9 : Addr) (ce : Cell), Px E h' → go_P false b kap D h' H1 → va_S (fun q => b ≤ q) s.heap H1 locs1 → H1[q9]? = some ce → ce.vm = .none → s.vm.findClass E = some ce.cls → vx_W p l e R s m args below meth c H1 locs1 (cells + mc) (slots + ms) Q (F0 m pc ks rest) q9)
    (kk : ∀ (v : Option Value) (h' : go_H) (H1 : Heap) (locs1 : List Loc), Po v h' → go_P x b kap D h' H1 → va_S (fun q => b ≤ q) s.heap H1 locs1 → W p l e R s m args below meth c H1 locs1 (cells + mc) (slots + ms) Q (F0 m (pc + 3) ks ((v.map (go_v b)).toList ++ rest))) : W p l e R s m args below meth c H locs cells slots Q (F0 m pc ks st0) := by
  intro T hT X
  rcases hr T hT X with ⟨v, st₀, t, T', L, h0, X', hL, e1, e2, ⟨⟨w, h', hv, hp, hg⟩, hF⟩, st⟩ | ⟨q, st₀, t, T', L, E, ce, h0, X', hL, e1, e2, ⟨⟨h', hp, hg⟩, hF⟩, hce, hcv, hcl, st⟩
  · cases hv
    obtain ⟨k1, k2, k3⟩ := vx_keep (A0 := fun q => b ≤ q) (free := fun q => b ≤ q) h0 e1 hS (fun _ _ q => q) (fun _ q => q) hL hF
    obtain ⟨t2, a1, b1⟩ := kk w h' T'.heap (locs ++ L) hp (by rw [e1]; exact hg) k3 T' rfl X'
    exact ⟨t2, st t2 a1, b1⟩
  · obtain ⟨k1, k2, k3⟩ := vx_keep (A0 := fun q => b ≤ q) (free := fun q => b ≤ q) h0 e1 hS (fun _ _ q => q) (fun _ q => q) hL hF
    obtain ⟨t2, a1, b1⟩ := kx E h' T'.heap (locs ++ L) q ce hp (by rw [e1]; exact hg) k3 (by rw [e1]; exact hce) hcv hcl T' rfl X'
    exact ⟨t2, st.trans a1, b1⟩
end GRun
theorem go_back {b : Nat} (v : Option Value) (st : List Value) : (v.map (go_v b)).toList ++ go_s b st = go_s b (v.toList ++ st) := by cases v <;> rfl
theorem go_stV (b : Nat) (a rest : List Value) (k : Nat) : go_s b (a.reverse ++ .ref k :: rest) = (go_s b a).reverse ++ .ref (b + k) :: go_s b rest := by
  simp [go_s, go_v]
theorem go_stS (b : Nat) (a rest : List Value) : go_s b (a.reverse ++ rest) = (go_s b a).reverse ++ go_s b rest := by
  simp [go_s]
/-- what a call needs that the tables and the rooms decide: the callee's own part, the link's part -/
def go_U (M M' : go_M) : Prop := Cond.initialized M'.y.cls ∈ go_gw ∧ go_w0 M' ∈ go_gw ∧ (M'.y.cls ≠ "java/lang/invoke/MethodHandle" ∧ M'.y.cls ≠ "java/lang/invoke/VarHandle") ∧ M'.rm.frames + 1 ≤ M.rm.frames ∧ 8 + (M'.nL + 11) + M'.rm.locals ≤ M.rm.locals
def go_V (M : go_M) (idx : Nat) (M' : go_M) : Prop := M'.hh = [] ∧ Cond.methodLink M.own idx M'.y ∈ go_gw ∧ Cond.instanceMethod M'.y ∈ go_gw ∧ Cond.selects M'.y.cls M'.y M'.y ∈ go_gw ∧ go_U M M'
def go_S (M : go_M) (idx : Nat) (M' : go_M) : Prop := M'.hh = [] ∧ Cond.methodLink M.own idx M'.y ∈ go_gw ∧ Cond.static M'.y ∈ go_gw ∧ go_U M M'
def go_SH (M : go_M) (idx : Nat) (M' : go_M) : Prop := M'.hh ≠ [] ∧ Cond.methodLink M.own idx M'.y ∈ go_gw ∧ Cond.static M'.y ∈ go_gw ∧ go_U M M'
def go_SN (M : go_M) (idx : Nat) (M' : go_M) : Prop := M'.hh = [] ∧ (∃ host, (M.own, idx, M'.y, host) ∈ go_nest) ∧ Cond.static M'.y ∈ go_gw ∧ go_U M M'
def go_I (M : go_M) (idx : Nat) (M' : go_M) : Prop := M'.hh = [] ∧ M'.ret = none ∧ M'.y.name = "<init>" ∧ Cond.methodLink M.own idx M'.y ∈ go_gw ∧ Cond.instanceMethod M'.y ∈ go_gw ∧ go_U M M'
def go_IN (M : go_M) (idx : Nat) (M' : go_M) : Prop := M'.hh = [] ∧ M'.ret = none ∧ M'.y.name = "<init>" ∧ (∃ host, (M.own, idx, M'.y, host) ∈ go_nest) ∧ Cond.instanceMethod M'.y ∈ go_gw ∧ go_U M M'
theorem go_w0_e {M' : go_M} (hh : M'.hh = []) : go_w0 M' = Cond.code M'.y M'.code M'.nL M'.ret := by unfold go_w0; rw [if_pos hh]
theorem go_w0_n {M' : go_M} (hh : M'.hh ≠ []) : go_w0 M' = Cond.codeWith M'.y M'.code M'.nL M'.ret M'.hh := by unfold go_w0; rw [if_neg hh]
section GC
variable {M M' : go_M} {x : Bool} {Q : go_Q} {cl sl pc : Nat} {ls : List (Nat × Value)} {st : List Value} {h : go_H} {Po : Option Value → go_H → Prop} {Px : String → go_H → Prop} {idx : Nat}
theorem go_pre {b : Nat} {kap : FieldType → ClassId} {D : va_G} {s : State} {H : Heap} {locs : List Loc} (a : List Value) (hK : go_K b kap D s) (hP : go_P x b kap D h H) (hS : va_S (fun q => b ≤ q) s.heap H locs) : ∀ U : State, U.heap = H → s.WarmedH U.vm → go_Pc x b kap D a h (go_s b a).toArray U := by
  intro U hU hW
  exact ⟨rfl, hK.to hW (by rw [hU]; exact hS.1) (fun q h1 h2 => by rw [hU]; exact hS.2.1 q h1 h2), by rw [hU]; exact hP⟩
theorem go_recv {b : Nat} {kap : FieldType → ClassId} {D : va_G} {s : State} {H : Heap} {k ci : Nat} {q : vw_C} {fs : List Value} (hK : go_K b kap D s) (hP : go_P x b kap D h H) (hc : h[k]? = some (.inr (ci, fs))) (hq : go_cl[ci]? = some q) : ∃ cell : Cell, H[b + k]? = some cell ∧ cell.vm.isStatics = false ∧ s.vm.findClass q.1 = some cell.cls := va_recv hK.1 hP.1 hq (go_w_at hc)
theorem go_callV (n : Nat) (a rest : List Value) {k : Nat} {ci : Nat} {fs : List Value} {q : vw_C} (hd : decode M.code pc = .ok (.invokevirtual idx, 3)) (hn : pc + 3 = n) (hC : go_Cn M' x (.ref k :: a) h Po) (hst : st = a.reverse ++ .ref k :: rest) (hs9 : go_V M idx M') (hpar : (parseMethodDescriptor M'.y.desc).map (fun d => d.parameters.length) = some a.length) (hc : h[k]? = some (.inr (ci, fs))) (hq : go_cl[ci]? = some q) (hqc : M'.y.cls = q.1) (hw : (rest.map fun v => v.category).sum ≤ 8) (h1 : cl + M'.rm.cells ≤ M.rm.cells) (h2 : sl + M'.rm.slots ≤ M.rm.slots) (k9 : ∀ v h', Po v h' → Go M x Q (cl + M'.rm.cells) (sl + M'.rm.slots) n ls (v.toList ++ rest) h') : Go M x Q cl sl pc ls st h := by
  subst hn; subst hst
  intro p l e s m args below meth c b kap D H locs ks hX hP hS hl
  have hX9 := hX
  obtain ⟨hx, hb, hml, hown, hts, hr, hlk, hnt, hK, hnm, htb⟩ := hX9
  obtain ⟨hh, w1, w2, w3, hU⟩ := hs9
  have hG : GoodIn go_gw (wsV M.own idx M'.y.cls M'.y (go_ws M')) := by
    intro w hw9
    unfold wsV at hw9
    rcases List.mem_append.mp hw9 with h9 | h9
    · simp only [List.mem_cons, List.not_mem_nil, or_false] at h9
      rcases h9 with rfl | rfl | rfl | rfl
      · exact ⟨w1, go_good w1⟩
      · exact ⟨w2, go_good w2⟩
      · exact ⟨w3, go_good w3⟩
      · exact ⟨hU.1, go_good hU.1⟩
    · exact go_GI hU.2.1 w h9
  have cw := cwV (R := M.rm) (s := s) (args := args) (own := M.own) (C := M'.y.cls) (index := idx) (y := M'.y) (bytes := M'.code) (maxL := M'.nL) (ret := M'.ret) (ws := go_ws M') (ws' := go_gw) (rm := M'.rm) (mc := M'.rm.cells) (ms := M'.rm.slots) a.length hts hG (by unfold go_ws; rw [go_w0_e hh]) rfl rfl ⟨rfl, hU.2.2.1.1, hU.2.2.1.2, hpar⟩ ⟨hU.2.2.2.1, hU.2.2.2.2⟩
  rw [hqc] at cw
  have hrun := va_runV (cells := cl) (slots := sl) (below := below) (e := e) (meth := meth) (locs := locs) (b := b + k) (As := go_s b a) (rest := go_s b rest) (g := F0 m pc ks (go_s b (a.reverse ++ .ref k :: rest))) ⟨hx, hb, hml, hown, hts⟩ (go_met hC hnt b kap D) cw ⟨go_blind, go_recv hK hP hc hq, go_pre (.ref k :: a) hK hP hS⟩ rfl (by simp [go_s]) (hl.1) (go_stV b a rest k) (lv_room (by rw [go_s_cat]; exact hw)) hd ⟨h1, h2⟩
  refine go_run hrun hS (fun v h' H1 locs1 p1 p2 p3 => ?_)
  rw [go_back]
  exact k9 v h' p1 p l e s m args below meth c b kap D H1 locs1 ks hX p2 p3 hl
theorem go_callVX (n : Nat) (a rest : List Value) {k : Nat} {ci : Nat} {fs : List Value} {q : vw_C} (hd : decode M.code pc = .ok (.invokevirtual idx, 3)) (hn : pc + 3 = n) (hC : go_Ct M' x (.ref k :: a) h Po Px) (hst : st = a.reverse ++ .ref k :: rest) (hs9 : go_V M idx M') (hpar : (parseMethodDescriptor M'.y.desc).map (fun d => d.parameters.length) = some a.length) (hc : h[k]? = some (.inr (ci, fs))) (hq : go_cl[ci]? = some q) (hqc : M'.y.cls = q.1) (hw : (rest.map fun v => v.category).sum ≤ 8) (h1 : cl + M'.rm.cells ≤ M.rm.cells) (h2 : sl + M'.rm.slots ≤ M.rm.slots) (kx : ∀ E h', Px E h' → GoX M Q (cl + M'.rm.cells) (sl + M'.rm.slots) pc ls rest E h') (k9 : ∀ v h', Po v h' → Go M x Q (cl + M'.rm.cells) (sl + M'.rm.slots) n ls (v.toList ++ rest) h') : Go M x Q cl sl pc ls st h := by
  subst hn; subst hst
  intro p l e s m args below meth c b kap D H locs ks hX hP hS hl
  have hX9 := hX
  obtain ⟨hx, hb, hml, hown, hts, hr, hlk, hnt, hK, hnm, htb⟩ := hX9
  obtain ⟨hh, w1, w2, w3, hU⟩ := hs9
  have hG : GoodIn go_gw (wsV M.own idx M'.y.cls M'.y (go_ws M')) := by
    intro w hw9
    unfold wsV at hw9
    rcases List.mem_append.mp hw9 with h9 | h9
    · simp only [List.mem_cons, List.not_mem_nil, or_false] at h9
      rcases h9 with rfl | rfl | rfl | rfl
      · exact ⟨w1, go_good w1⟩
      · exact ⟨w2, go_good w2⟩
      · exact ⟨w3, go_good w3⟩
      · exact ⟨hU.1, go_good hU.1⟩
    · exact go_GI hU.2.1 w h9
  have cw := cwV (R := M.rm) (s := s) (args := args) (own := M.own) (C := M'.y.cls) (index := idx) (y := M'.y) (bytes := M'.code) (maxL := M'.nL) (ret := M'.ret) (ws := go_ws M') (ws' := go_gw) (rm := M'.rm) (mc := M'.rm.cells) (ms := M'.rm.slots) a.length hts hG (by unfold go_ws; rw [go_w0_e hh]) rfl rfl ⟨rfl, hU.2.2.1.1, hU.2.2.1.2, hpar⟩ ⟨hU.2.2.2.1, hU.2.2.2.2⟩
  rw [hqc] at cw
  have hrun := vx_runV (cells := cl) (slots := sl) (below := below) (e := e) (meth := meth) (locs := locs) (b := b + k) (As := go_s b a) (rest := go_s b rest) (g := F0 m pc ks (go_s b (a.reverse ++ .ref k :: rest))) ⟨hx, hb, hml, hown, hts⟩ (hC l b kap D hnt) cw ⟨go_blind, go_recv hK hP hc hq, go_pre (.ref k :: a) hK hP hS⟩ rfl (by simp [go_s]) (hl.1) (go_stV b a rest k) (lv_room (by rw [go_s_cat]; exact hw)) hd ⟨h1, h2⟩
  refine go_runX hrun hS (fun E h' H1 locs1 q9 ce p1 p2 p3 p4 p5 p6 => kx E h' p1 p l e s m args below meth c b kap D H1 locs1 ks q9 ce hX p2 p3 hl p4 p5 p6) (fun v h' H1 locs1 p1 p2 p3 => ?_)
  rw [go_back]
  exact k9 v h' p1 p l e s m args below meth c b kap D H1 locs1 ks hX p2 p3 hl
theorem go_callS (n : Nat) (a rest : List Value) (hd : decode M.code pc = .ok (.invokestatic idx, 3)) (hn : pc + 3 = n) (hC : go_Cn M' x a h Po) (hst : st = a.reverse ++ rest) (hs9 : go_S M idx M') (hpar : (parseMethodDescriptor M'.y.desc).map (fun d => d.parameters.length) = some a.length) (hw : (rest.map fun v => v.category).sum ≤ 8) (h1 : cl + M'.rm.cells ≤ M.rm.cells) (h2 : sl + M'.rm.slots ≤ M.rm.slots) (k9 : ∀ v h', Po v h' → Go M x Q (cl + M'.rm.cells) (sl + M'.rm.slots) n ls (v.toList ++ rest) h') : Go M x Q cl sl pc ls st h := by
  subst hn; subst hst
  intro p l e s m args below meth c b kap D H locs ks hX hP hS hl
  have hX9 := hX
  obtain ⟨hx, hb, hml, hown, hts, hr, hlk, hnt, hK, hnm, htb⟩ := hX9
  obtain ⟨hh, w1, w2, hU⟩ := hs9
  have hG : GoodIn go_gw (va_wsS M.own idx M'.y (go_ws M')) := by
    intro w hw9
    unfold va_wsS at hw9
    rcases List.mem_append.mp hw9 with h9 | h9
    · simp only [List.mem_cons, List.not_mem_nil, or_false] at h9
      rcases h9 with rfl | rfl | rfl
      · exact ⟨w1, go_good w1⟩
      · exact ⟨w2, go_good w2⟩
      · exact ⟨hU.1, go_good hU.1⟩
    · exact go_GI hU.2.1 w h9
  have cw := va_cwS (R := M.rm) (s := s) (args := args) (own := M.own) (index := idx) (y := M'.y) (bytes := M'.code) (maxL := M'.nL) (ret := M'.ret) (ws := go_ws M') (ws' := go_gw) (rm := M'.rm) (mc := M'.rm.cells) (ms := M'.rm.slots) a.length hts hG (by unfold go_ws; rw [go_w0_e hh]) rfl rfl ⟨hU.2.2.1.1, hU.2.2.1.2, hpar⟩ ⟨hU.2.2.2.1, hU.2.2.2.2⟩
  have hrun := va_runS (cells := cl) (slots := sl) (below := below) (e := e) (meth := meth) (locs := locs) (As := go_s b a) (rest := go_s b rest) (g := F0 m pc ks (go_s b (a.reverse ++ rest))) ⟨hx, hb, hml, hown, hts⟩ (go_met hC hnt b kap D) cw ⟨go_blind, go_pre a hK hP hS⟩ rfl (by simp [go_s]) (hl.1) (go_stS b a rest) (lv_room (by rw [go_s_cat]; exact hw)) hd ⟨h1, h2⟩
  refine go_run hrun hS (fun v h' H1 locs1 p1 p2 p3 => ?_)
  rw [go_back]
  exact k9 v h' p1 p l e s m args below meth c b kap D H1 locs1 ks hX p2 p3 hl
theorem go_callSH (n : Nat) (a rest : List Value) (hd : decode M.code pc = .ok (.invokestatic idx, 3)) (hn : pc + 3 = n) (hC : go_Cn M' x a h Po) (hst : st = a.reverse ++ rest) (hs9 : go_SH M idx M') (hpar : (parseMethodDescriptor M'.y.desc).map (fun d => d.parameters.length) = some a.length) (hw : (rest.map fun v => v.category).sum ≤ 8) (h1 : cl + M'.rm.cells ≤ M.rm.cells) (h2 : sl + M'.rm.slots ≤ M.rm.slots) (k9 : ∀ v h', Po v h' → Go M x Q (cl + M'.rm.cells) (sl + M'.rm.slots) n ls (v.toList ++ rest) h') : Go M x Q cl sl pc ls st h := by
  subst hn; subst hst
  intro p l e s m args below meth c b kap D H locs ks hX hP hS hl
  have hX9 := hX
  obtain ⟨hx, hb, hml, hown, hts, hr, hlk, hnt, hK, hnm, htb⟩ := hX9
  obtain ⟨hh, w1, w2, hU⟩ := hs9
  have hG : GoodIn go_gw (va_wsS M.own idx M'.y (go_ws M')) := by
    intro w hw9
    unfold va_wsS at hw9
    rcases List.mem_append.mp hw9 with h9 | h9
    · simp only [List.mem_cons, List.not_mem_nil, or_false] at h9
      rcases h9 with rfl | rfl | rfl
      · exact ⟨w1, go_good w1⟩
      · exact ⟨w2, go_good w2⟩
      · exact ⟨hU.1, go_good hU.1⟩
    · exact go_GI hU.2.1 w h9
  have cw := vx_cwSW (hh := M'.hh) (R := M.rm) (s := s) (args := args) (own := M.own) (index := idx) (y := M'.y) (bytes := M'.code) (maxL := M'.nL) (ret := M'.ret) (ws := go_ws M') (ws' := go_gw) (rm := M'.rm) (mc := M'.rm.cells) (ms := M'.rm.slots) a.length hts hG (by unfold go_ws; rw [go_w0_n hh]) rfl rfl ⟨hU.2.2.1.1, hU.2.2.1.2, hpar⟩ ⟨hU.2.2.2.1, hU.2.2.2.2⟩
  have hrun := vx_runSW (cells := cl) (slots := sl) (below := below) (e := e) (meth := meth) (locs := locs) (As := go_s b a) (rest := go_s b rest) (g := F0 m pc ks (go_s b (a.reverse ++ rest))) ⟨hx, hb, hml, hown, hts⟩ (go_met hC hnt b kap D) cw ⟨go_blind, go_pre a hK hP hS⟩ rfl (by simp [go_s]) (hl.1) (go_stS b a rest) (lv_room (by rw [go_s_cat]; exact hw)) hd ⟨h1, h2⟩
  refine go_run hrun hS (fun v h' H1 locs1 p1 p2 p3 => ?_)
  rw [go_back]
  exact k9 v h' p1 p l e s m args below meth c b kap D H1 locs1 ks hX p2 p3 hl
theorem go_callSN (n : Nat) (a rest : List Value) (hd : decode M.code pc = .ok (.invokestatic idx, 3)) (hn : pc + 3 = n) (hC : go_Cn M' x a h Po) (hst : st = a.reverse ++ rest) (hs9 : go_SN M idx M') (hpar : (parseMethodDescriptor M'.y.desc).map (fun d => d.parameters.length) = some a.length) (hw : (rest.map fun v => v.category).sum ≤ 8) (h1 : cl + M'.rm.cells ≤ M.rm.cells) (h2 : sl + M'.rm.slots ≤ M.rm.slots) (k9 : ∀ v h', Po v h' → Go M x Q (cl + M'.rm.cells) (sl + M'.rm.slots) n ls (v.toList ++ rest) h') : Go M x Q cl sl pc ls st h := by
  subst hn; subst hst
  intro p l e s m args below meth c b kap D H locs ks hX hP hS hl
  have hX9 := hX
  obtain ⟨hx, hb, hml, hown, hts, hr, hlk, hnt, hK, hnm, htb⟩ := hX9
  obtain ⟨hh, ⟨host, hn9⟩, w2, hU⟩ := hs9
  have cw0 := va_cnB (R := M.rm) (s := s) (args := args) (own := M.own) (host := host) (index := idx) (y := M'.y) (bytes := M'.code) (maxL := M'.nL) (ret := M'.ret) (ws := go_ws M') (ws' := go_gw) (rm := M'.rm) (mc := M'.rm.cells) (ms := M'.rm.slots) a.length hts (go_GI hU.2.1) (by unfold go_ws; rw [go_w0_e hh]) rfl rfl (hK.2.2.2.2.1 _ hn9) (hts _ hU.1) ⟨hU.2.2.1.1, hU.2.2.1.2, hpar⟩ ⟨hU.2.2.2.1, hU.2.2.2.2⟩
  have cw := And.intro cw0 (And.intro (hts _ w2) True.intro)
  have hrun := va_runSN (cells := cl) (slots := sl) (below := below) (e := e) (meth := meth) (locs := locs) (As := go_s b a) (rest := go_s b rest) (g := F0 m pc ks (go_s b (a.reverse ++ rest))) ⟨hx, hb, hml, hown, hts⟩ (go_met hC hnt b kap D) cw ⟨go_blind, go_pre a hK hP hS⟩ rfl (by simp [go_s]) (hl.1) (go_stS b a rest) (lv_room (by rw [go_s_cat]; exact hw)) hd ⟨h1, h2⟩
  refine go_run hrun hS (fun v h' H1 locs1 p1 p2 p3 => ?_)
  rw [go_back]
  exact k9 v h' p1 p l e s m args below meth c b kap D H1 locs1 ks hX p2 p3 hl
theorem go_callI (n : Nat) (a rest : List Value) {k : Nat} (hd : decode M.code pc = .ok (.invokespecial idx, 3)) (hn : pc + 3 = n) (hC : go_Cn M' x (.ref k :: a) h Po) (hst : st = a.reverse ++ .ref k :: rest) (hs9 : go_I M idx M') (hpar : (parseMethodDescriptor M'.y.desc).map (fun d => d.parameters.length) = some a.length) (hw : (rest.map fun v => v.category).sum ≤ 8) (h1 : cl + M'.rm.cells ≤ M.rm.cells) (h2 : sl + M'.rm.slots ≤ M.rm.slots) (k9 : ∀ v h', Po v h' → Go M x Q (cl + M'.rm.cells) (sl + M'.rm.slots) n ls (v.toList ++ rest) h') : Go M x Q cl sl pc ls st h := by
  subst hn; subst hst
  intro p l e s m args below meth c b kap D H locs ks hX hP hS hl
  have hX9 := hX
  obtain ⟨hx, hb, hml, hown, hts, hr, hlk, hnt, hK, hnm, htb⟩ := hX9
  obtain ⟨hh, hrt, hin, w1, w2, hU⟩ := hs9
  have hcw9 : go_w0 M' = Cond.code M'.y M'.code M'.nL none := by rw [go_w0_e hh, hrt]
  have cw := cwI (R := M.rm) (s := s) (args := args) (own := M.own) (index := idx) (y := M'.y) (bytes := M'.code) (maxL := M'.nL) (ws := go_ws M') (ws' := go_gw) (rm := M'.rm) (mc := M'.rm.cells) (ms := M'.rm.slots) a.length hts (go_GI hU.2.1) (by unfold go_ws; rw [hcw9]) rfl rfl (hts _ hU.1) (hts _ w1) (hts _ w2) hin ⟨hU.2.2.1.1, hU.2.2.1.2, hpar⟩ ⟨hU.2.2.2.1, hU.2.2.2.2⟩
  have hrun := va_runI (cells := cl) (slots := sl) (below := below) (e := e) (meth := meth) (locs := locs) (b := b + k) (As := go_s b a) (rest := go_s b rest) (g := F0 m pc ks (go_s b (a.reverse ++ .ref k :: rest))) ⟨hx, hb, hml, hown, hts⟩ (go_met hC hnt b kap D) cw ⟨go_blind, go_pre (.ref k :: a) hK hP hS⟩ rfl (by simp [go_s]) (hl.1) (go_stV b a rest k) (lv_room (by rw [go_s_cat]; exact hw)) hd ⟨h1, h2⟩
  refine go_run hrun hS (fun v h' H1 locs1 p1 p2 p3 => ?_)
  rw [go_back]
  exact k9 v h' p1 p l e s m args below meth c b kap D H1 locs1 ks hX p2 p3 hl
theorem go_callIN (n : Nat) (a rest : List Value) {k : Nat} (hd : decode M.code pc = .ok (.invokespecial idx, 3)) (hn : pc + 3 = n) (hC : go_Cn M' x (.ref k :: a) h Po) (hst : st = a.reverse ++ .ref k :: rest) (hs9 : go_IN M idx M') (hpar : (parseMethodDescriptor M'.y.desc).map (fun d => d.parameters.length) = some a.length) (hw : (rest.map fun v => v.category).sum ≤ 8) (h1 : cl + M'.rm.cells ≤ M.rm.cells) (h2 : sl + M'.rm.slots ≤ M.rm.slots) (k9 : ∀ v h', Po v h' → Go M x Q (cl + M'.rm.cells) (sl + M'.rm.slots) n ls (v.toList ++ rest) h') : Go M x Q cl sl pc ls st h := by
  subst hn; subst hst
  intro p l e s m args below meth c b kap D H locs ks hX hP hS hl
  have hX9 := hX
  obtain ⟨hx, hb, hml, hown, hts, hr, hlk, hnt, hK, hnm, htb⟩ := hX9
  obtain ⟨hh, hrt, hin, ⟨host, hn9⟩, w2, hU⟩ := hs9
  have hcw9 : go_w0 M' = Cond.code M'.y M'.code M'.nL none := by rw [go_w0_e hh, hrt]
  have cw0 := va_cnB (R := M.rm) (s := s) (args := args) (own := M.own) (host := host) (index := idx) (y := M'.y) (bytes := M'.code) (maxL := M'.nL) (ret := none) (ws := go_ws M') (ws' := go_gw) (rm := M'.rm) (mc := M'.rm.cells) (ms := M'.rm.slots) a.length hts (go_GI hU.2.1) (by unfold go_ws; rw [hcw9]) rfl rfl (hK.2.2.2.2.1 _ hn9) (hts _ hU.1) ⟨hU.2.2.1.1, hU.2.2.1.2, hpar⟩ ⟨hU.2.2.2.1, hU.2.2.2.2⟩
  have cw := And.intro cw0 (And.intro hin (hts _ w2))
  have hrun := va_runIN (cells := cl) (slots := sl) (below := below) (e := e) (meth := meth) (locs := locs) (b := b + k) (As := go_s b a) (rest := go_s b rest) (g := F0 m pc ks (go_s b (a.reverse ++ .ref k :: rest))) ⟨hx, hb, hml, hown, hts⟩ (go_met hC hnt b kap D) cw ⟨go_blind, go_pre (.ref k :: a) hK hP hS⟩ rfl (by simp [go_s]) (hl.1) (go_stV b a rest k) (lv_room (by rw [go_s_cat]; exact hw)) hd ⟨h1, h2⟩
  refine go_run hrun hS (fun v h' H1 locs1 p1 p2 p3 => ?_)
  rw [go_back]
  exact k9 v h' p1 p l e s m args below meth c b kap D H1 locs1 ks hX p2 p3 hl
end GC
