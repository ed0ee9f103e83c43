/-- the script lies at z.1, has z.2.1 ints z.2.2, and stands in local 0 -/
def LX (z : Nat × Nat × (Nat → Int32)) (b : Nat) (s : State) (args : Array Value) (ks : Array Slot) : Prop := z.1 < b ∧ z.1 < s.heap.size ∧ va_X z.1 z.2.1 z.2.2 s s.heap ∧ ks[0]? = some (.val (.ref z.1)) ∧ s.heap.size ≤ b ∧ args = #[Value.ref z.1]
def gl_X (M : go_M) (l : Launch) (p : Program) (s : State) (m : MethodId) (args : Array Value) (meth : Method) (c : Code) (b : Nat) (kap : FieldType → ClassId) (D : va_G) : Prop :=
  p.tables.exec = Jvm.exec ∧ c.code = M.code ∧ c.maxLocals = M.nL ∧ s.vm.findClass M.own = some m.cls ∧ (∀ w ∈ go_gw, w.before args s = true) ∧ meth.sig.returnType = M.ret ∧ meth.locks = false ∧ l.stackTraces = false ∧ go_K b kap D s
def Gl (z : Nat × Nat × (Nat → Int32)) (M : go_M) (x : Bool) (Q : go_Q) (cl sl pc : Nat) (ls : List (Nat × Value)) (st : List Value) (h : go_H) : Prop :=
  ∀ (p : Program) (l : Launch) (e : Env) (s : State) (m : MethodId) (args : Array Value) (below : List Frame) (meth : Method) (c : Code) (b : Nat) (kap : FieldType → ClassId) (D : va_G) (H : Heap) (locs : List Loc) (ks : Array Slot),
    gl_X M l p s m args meth c b kap D → go_P x b kap D h H → va_S (fun q => b ≤ q) s.heap H locs → lv_has ks M.nL (go_l b ls) → LX z b s args ks →
    W p l e M.rm s m args below meth c H locs cl sl (Q l below args s b kap D) (F0 m pc ks (go_s b st))
theorem lx_ext {z : Nat × Nat × (Nat → Int32)} {b nL : Nat} {s : State} {args : Array Value} {ks : Array Slot} {L : List (Nat × Value)} (hE : LX z b s args ks) (hl : lv_has ks nL L) : lv_has ks nL ((0, .ref z.1) :: L) := ⟨hl.1, hl.2.1, fun q hq => by
  rcases List.mem_cons.mp hq with h | h
  · rw [h]; exact hE.2.2.2.1
  · exact hl.2.2 q h⟩
theorem lx_st {z : Nat × Nat × (Nat → Int32)} {b nL j : Nat} {w : Value} {s : State} {args : Array Value} {ks ks2 : Array Slot} {L : List (Nat × Value)} {f : Nat × Value → Bool} (hE : LX z b s args ks) (hf : f (0, .ref z.1) = true) (h2 : lv_has ks2 nL ((j, w) :: ((0, .ref z.1) :: L).filter f)) : LX z b s args ks2 ∧ lv_has ks2 nL ((j, w) :: L.filter f) := by
  rw [List.filter_cons_of_pos hf] at h2
  refine ⟨⟨hE.1, hE.2.1, hE.2.2.1, h2.2.2 (0, .ref z.1) (List.mem_cons_of_mem _ List.mem_cons_self), hE.2.2.2.2.1, hE.2.2.2.2.2⟩, h2.1, h2.2.1, fun q hq => h2.2.2 q ?_⟩
  rcases List.mem_cons.mp hq with h | h
  · rw [h]; exact List.mem_cons_self
  · exact List.mem_cons_of_mem _ (List.mem_cons_of_mem _ h)
theorem lx_f1 {j a : Nat} (hj : j ≠ 0) : (fun q : Nat × Value => !(q.1 == j) && !(q.1 + 1 == j && q.2.category == 2)) (0, .ref a) = true := by
  show (!((0 : Nat) == j) && !((0 + 1 == j) && ((Value.ref a).category == 2))) = true
  rw [beq_false_of_ne (Ne.symm hj), show ((Value.ref a).category == 2) = false from rfl, Bool.and_false]
  rfl
theorem lx_f2 {j a : Nat} (hj : j ≠ 0) : (fun q : Nat × Value => !(q.1 == j) && (!(q.1 == j + 1) && !(q.1 + 1 == j && q.2.category == 2))) (0, .ref a) = true := by
  show (!((0 : Nat) == j) && (!((0 : Nat) == j + 1) && !((0 + 1 == j) && ((Value.ref a).category == 2)))) = true
  rw [beq_false_of_ne (Ne.symm hj), show ((Value.ref a).category == 2) = false from rfl, Bool.and_false, beq_false_of_ne (show (0 : Nat) ≠ j + 1 by omega)]
  rfl
section GLR
variable {z : Nat × Nat × (Nat → Int32)} {M M' : go_M} {x : Bool} {Q : go_Q} {cl sl pc : Nat} {ls : List (Nat × Value)} {st : List Value} {h : go_H} {Po : Option Value → go_H → Prop} {Px : String → go_H → Prop} {idx : Nat} {S T : gS} {r : Value}

theorem gl_iadd (n : Nat) {a c9 : Int32} (hd : decode M.code pc = .ok (.iadd, 1)) (hn : pc + 1 = n) (k : Gl z M x Q cl sl n ls (.int (a + c9) :: st) h) : Gl z M x Q cl sl pc ls (.int c9 :: .int a :: st) h := by
  subst hn
  intro p l e s m args below meth c b kap D H locs ks hX hP hS hl hE
  have hX9 := hX
  obtain ⟨hx, hb, hml, hown, hts, hr, hlk, hnt, hK⟩ := hX9
  exact lv_iadd hx hb hd (k p l e s m args below meth c b kap D H locs ks hX hP hS hl hE)

theorem gl_isub (n : Nat) {a c9 : Int32} (hd : decode M.code pc = .ok (.isub, 1)) (hn : pc + 1 = n) (k : Gl z M x Q cl sl n ls (.int (a - c9) :: st) h) : Gl z M x Q cl sl pc ls (.int c9 :: .int a :: st) h := by
  subst hn
  intro p l e s m args below meth c b kap D H locs ks hX hP hS hl hE
  have hX9 := hX
  obtain ⟨hx, hb, hml, hown, hts, hr, hlk, hnt, hK⟩ := hX9
  exact lv_isub hx hb hd (k p l e s m args below meth c b kap D H locs ks hX hP hS hl hE)

theorem gl_iand (n : Nat) {a c9 : Int32} (hd : decode M.code pc = .ok (.iand, 1)) (hn : pc + 1 = n) (k : Gl z M x Q cl sl n ls (.int (a &&& c9) :: st) h) : Gl z M x Q cl sl pc ls (.int c9 :: .int a :: st) h := by
  subst hn
  intro p l e s m args below meth c b kap D H locs ks hX hP hS hl hE
  have hX9 := hX
  obtain ⟨hx, hb, hml, hown, hts, hr, hlk, hnt, hK⟩ := hX9
  exact lv_iand hx hb hd (k p l e s m args below meth c b kap D H locs ks hX hP hS hl hE)

theorem gl_iconst (n : Nat) {i : Int} (v : Int32) (hd : decode M.code pc = .ok (.iconst i, 1)) (hn : pc + 1 = n) (hv : Int32.ofInt i = v) (k : Gl z M x Q cl sl n ls (.int v :: st) h) : Gl z M x Q cl sl pc ls (st) h := by
  subst hn
  intro p l e s m args below meth c b kap D H locs ks hX hP hS hl hE
  have hX9 := hX
  obtain ⟨hx, hb, hml, hown, hts, hr, hlk, hnt, hK⟩ := hX9
  exact lv_iconst hx hb hd hv (k p l e s m args below meth c b kap D H locs ks hX hP hS hl hE)

theorem gl_bipush (n : Nat) {i : Int} (v : Int32) (hd : decode M.code pc = .ok (.bipush i, 2)) (hn : pc + 2 = n) (hv : (Int8.ofInt i).toInt32 = v) (k : Gl z M x Q cl sl n ls (.int v :: st) h) : Gl z M x Q cl sl pc ls (st) h := by
  subst hn
  intro p l e s m args below meth c b kap D H locs ks hX hP hS hl hE
  have hX9 := hX
  obtain ⟨hx, hb, hml, hown, hts, hr, hlk, hnt, hK⟩ := hX9
  exact lv_bipush hx hb hd hv (k p l e s m args below meth c b kap D H locs ks hX hP hS hl hE)

theorem gl_lconst (n : Nat) {i : Fin 2} (v : Int64) (hd : decode M.code pc = .ok (.lconst i, 1)) (hn : pc + 1 = n) (hv : Int64.ofNat (i : Nat) = v) (k : Gl z M x Q cl sl n ls (.long v :: st) h) : Gl z M x Q cl sl pc ls (st) h := by
  subst hn
  intro p l e s m args below meth c b kap D H locs ks hX hP hS hl hE
  have hX9 := hX
  obtain ⟨hx, hb, hml, hown, hts, hr, hlk, hnt, hK⟩ := hX9
  exact lv_lconst hx hb hd hv (k p l e s m args below meth c b kap D H locs ks hX hP hS hl hE)

theorem gl_aload_n (n : Nat) {j : Fin 4} {a : Nat} (hd : decode M.code pc = .ok (.aload_n j, 1)) (hn : pc + 1 = n) (hk : ls.lookup (j : Nat) = some (.ref a)) (k : Gl z M x Q cl sl n ls (.ref a :: st) h) : Gl z M x Q cl sl pc ls (st) h := by
  subst hn
  intro p l e s m args below meth c b kap D H locs ks hX hP hS hl hE
  have hX9 := hX
  obtain ⟨hx, hb, hml, hown, hts, hr, hlk, hnt, hK⟩ := hX9
  exact lv_aload_n hx hb hd rfl (go_look hl hk) (k p l e s m args below meth c b kap D H locs ks hX hP hS hl hE)

theorem gl_aload (n : Nat) {j : Nat} {a : Nat} (hd : decode M.code pc = .ok (.aload j, 2)) (hn : pc + 2 = n) (hk : ls.lookup j = some (.ref a)) (k : Gl z M x Q cl sl n ls (.ref a :: st) h) : Gl z M x Q cl sl pc ls (st) h := by
  subst hn
  intro p l e s m args below meth c b kap D H locs ks hX hP hS hl hE
  have hX9 := hX
  obtain ⟨hx, hb, hml, hown, hts, hr, hlk, hnt, hK⟩ := hX9
  exact lv_aload hx hb hd (go_look hl hk) (k p l e s m args below meth c b kap D H locs ks hX hP hS hl hE)

theorem gl_iload (n : Nat) {j : Nat} {a : Int32} (hd : decode M.code pc = .ok (.iload j, 2)) (hn : pc + 2 = n) (hk : ls.lookup j = some (.int a)) (k : Gl z M x Q cl sl n ls (.int a :: st) h) : Gl z M x Q cl sl pc ls (st) h := by
  subst hn
  intro p l e s m args below meth c b kap D H locs ks hX hP hS hl hE
  have hX9 := hX
  obtain ⟨hx, hb, hml, hown, hts, hr, hlk, hnt, hK⟩ := hX9
  exact lv_iload hx hb hd (go_look hl hk) (k p l e s m args below meth c b kap D H locs ks hX hP hS hl hE)

theorem gl_dload (n : Nat) {j : Nat} {a : UInt64} (hd : decode M.code pc = .ok (.dload j, 2)) (hn : pc + 2 = n) (hk : ls.lookup j = some (.double a)) (k : Gl z M x Q cl sl n ls (.double a :: st) h) : Gl z M x Q cl sl pc ls (st) h := by
  subst hn
  intro p l e s m args below meth c b kap D H locs ks hX hP hS hl hE
  have hX9 := hX
  obtain ⟨hx, hb, hml, hown, hts, hr, hlk, hnt, hK⟩ := hX9
  exact lv_dload hx hb hd (go_look hl hk) (k p l e s m args below meth c b kap D H locs ks hX hP hS hl hE)

theorem gl_i2c (n : Nat) {a : Int32} (hd : decode M.code pc = .ok (.i2c, 1)) (hn : pc + 1 = n) (k : Gl z M x Q cl sl n ls (.int (a.toUInt32 % 65536).toInt32 :: st) h) : Gl z M x Q cl sl pc ls (.int a :: st) h := by
  subst hn
  intro p l e s m args below meth c b kap D H locs ks hX hP hS hl hE
  have hX9 := hX
  obtain ⟨hx, hb, hml, hown, hts, hr, hlk, hnt, hK⟩ := hX9
  exact lv_i2c hx hb hd rfl (k p l e s m args below meth c b kap D H locs ks hX hP hS hl hE)

theorem gl_i2l (n : Nat) {a : Int32} (hd : decode M.code pc = .ok (.i2l, 1)) (hn : pc + 1 = n) (k : Gl z M x Q cl sl n ls (.long a.toInt64 :: st) h) : Gl z M x Q cl sl pc ls (.int a :: st) h := by
  subst hn
  intro p l e s m args below meth c b kap D H locs ks hX hP hS hl hE
  have hX9 := hX
  obtain ⟨hx, hb, hml, hown, hts, hr, hlk, hnt, hK⟩ := hX9
  exact lv_i2l hx hb hd rfl (k p l e s m args below meth c b kap D H locs ks hX hP hS hl hE)

theorem gl_lcmp (n : Nat) {a c9 : Int64} (hd : decode M.code pc = .ok (.lcmp, 1)) (hn : pc + 1 = n) (k : Gl z M x Q cl sl n ls (.int (lg_cmp a c9) :: st) h) : Gl z M x Q cl sl pc ls (.long c9 :: .long a :: st) h := by
  subst hn
  intro p l e s m args below meth c b kap D H locs ks hX hP hS hl hE
  have hX9 := hX
  obtain ⟨hx, hb, hml, hown, hts, hr, hlk, hnt, hK⟩ := hX9
  exact W.lcmp hx hb hd (k p l e s m args below meth c b kap D H locs ks hX hP hS hl hE)

theorem gl_dcmp (n : Nat) {a c9 : UInt64} {op : CmpOp} (hd : decode M.code pc = .ok (.dcmp op, 1)) (hn : pc + 1 = n) (k : Gl z M x Q cl sl n ls (.int (Op.cmpValue (FP.dcmp a c9) op) :: st) h) : Gl z M x Q cl sl pc ls (.double c9 :: .double a :: st) h := by
  subst hn
  intro p l e s m args below meth c b kap D H locs ks hX hP hS hl hE
  have hX9 := hX
  obtain ⟨hx, hb, hml, hown, hts, hr, hlk, hnt, hK⟩ := hX9
  exact lv_dcmp hx hb hd (k p l e s m args below meth c b kap D H locs ks hX hP hS hl hE)

theorem gl_dup (n : Nat) {v : Value} (hd : decode M.code pc = .ok (.dup, 1)) (hn : pc + 1 = n) (hc : v.category = 1) (k : Gl z M x Q cl sl n ls (v :: v :: st) h) : Gl z M x Q cl sl pc ls (v :: st) h := by
  subst hn
  intro p l e s m args below meth c b kap D H locs ks hX hP hS hl hE
  have hX9 := hX
  obtain ⟨hx, hb, hml, hown, hts, hr, hlk, hnt, hK⟩ := hX9
  exact lv_dup hx hb hd (by rw [go_v_cat]; exact hc) (k p l e s m args below meth c b kap D H locs ks hX hP hS hl hE)

theorem gl_goto (tgt : Nat) {off : Int} (hd : decode M.code pc = .ok (.goto off, 3)) (ht : (pc : Int) + off = (tgt : Int)) (k : Gl z M x Q cl sl tgt ls st h) : Gl z M x Q cl sl pc ls st h := by
  intro p l e s m args below meth c b kap D H locs ks hX hP hS hl hE
  have hX9 := hX
  obtain ⟨hx, hb, hml, hown, hts, hr, hlk, hnt, hK⟩ := hX9
  exact lv_goto hx hb hd ht (k p l e s m args below meth c b kap D H locs ks hX hP hS hl hE)

theorem gl_if_eq (n tgt : Nat) {a : Int32} {off : Int} (hd : decode M.code pc = .ok (.ifCond .eq off, 3)) (hn : pc + 3 = n) (ht : (pc : Int) + off = (tgt : Int)) (kt : a = 0 → Gl z M x Q cl sl tgt ls st h) (kf : ¬ a = 0 → Gl z M x Q cl sl n ls st h) : Gl z M x Q cl sl pc ls (.int a :: st) h := by
  subst hn
  intro p l e s m args below meth c b kap D H locs ks hX hP hS hl hE
  have hX9 := hX
  obtain ⟨hx, hb, hml, hown, hts, hr, hlk, hnt, hK⟩ := hX9
  exact lv_if_eq hx hb hd ht (fun q => kt q p l e s m args below meth c b kap D H locs ks hX hP hS hl hE) (fun q => kf q p l e s m args below meth c b kap D H locs ks hX hP hS hl hE)

theorem gl_if_ne (n tgt : Nat) {a : Int32} {off : Int} (hd : decode M.code pc = .ok (.ifCond .ne off, 3)) (hn : pc + 3 = n) (ht : (pc : Int) + off = (tgt : Int)) (kt : ¬ a = 0 → Gl z M x Q cl sl tgt ls st h) (kf : a = 0 → Gl z M x Q cl sl n ls st h) : Gl z M x Q cl sl pc ls (.int a :: st) h := by
  subst hn
  intro p l e s m args below meth c b kap D H locs ks hX hP hS hl hE
  have hX9 := hX
  obtain ⟨hx, hb, hml, hown, hts, hr, hlk, hnt, hK⟩ := hX9
  exact lv_if_ne hx hb hd ht (fun q => kt q p l e s m args below meth c b kap D H locs ks hX hP hS hl hE) (fun q => kf q p l e s m args below meth c b kap D H locs ks hX hP hS hl hE)

theorem gl_icmp_eq (n tgt : Nat) {a c9 : Int32} {off : Int} (hd : decode M.code pc = .ok (.if_icmp .eq off, 3)) (hn : pc + 3 = n) (ht : (pc : Int) + off = (tgt : Int)) (kt : a = c9 → Gl z M x Q cl sl tgt ls st h) (kf : ¬ a = c9 → Gl z M x Q cl sl n ls st h) : Gl z M x Q cl sl pc ls (.int c9 :: .int a :: st) h := by
  subst hn
  intro p l e s m args below meth c b kap D H locs ks hX hP hS hl hE
  have hX9 := hX
  obtain ⟨hx, hb, hml, hown, hts, hr, hlk, hnt, hK⟩ := hX9
  exact lv_icmp_eq hx hb hd ht (fun q => kt q p l e s m args below meth c b kap D H locs ks hX hP hS hl hE) (fun q => kf q p l e s m args below meth c b kap D H locs ks hX hP hS hl hE)

theorem gl_icmp_ne (n tgt : Nat) {a c9 : Int32} {off : Int} (hd : decode M.code pc = .ok (.if_icmp .ne off, 3)) (hn : pc + 3 = n) (ht : (pc : Int) + off = (tgt : Int)) (kt : ¬ a = c9 → Gl z M x Q cl sl tgt ls st h) (kf : a = c9 → Gl z M x Q cl sl n ls st h) : Gl z M x Q cl sl pc ls (.int c9 :: .int a :: st) h := by
  subst hn
  intro p l e s m args below meth c b kap D H locs ks hX hP hS hl hE
  have hX9 := hX
  obtain ⟨hx, hb, hml, hown, hts, hr, hlk, hnt, hK⟩ := hX9
  exact lv_icmp_ne hx hb hd ht (fun q => kt q p l e s m args below meth c b kap D H locs ks hX hP hS hl hE) (fun q => kf q p l e s m args below meth c b kap D H locs ks hX hP hS hl hE)

theorem gl_icmp_gt (n tgt : Nat) {a c9 : Int32} {off : Int} (hd : decode M.code pc = .ok (.if_icmp .gt off, 3)) (hn : pc + 3 = n) (ht : (pc : Int) + off = (tgt : Int)) (kt : c9 < a → Gl z M x Q cl sl tgt ls st h) (kf : ¬ c9 < a → Gl z M x Q cl sl n ls st h) : Gl z M x Q cl sl pc ls (.int c9 :: .int a :: st) h := by
  subst hn
  intro p l e s m args below meth c b kap D H locs ks hX hP hS hl hE
  have hX9 := hX
  obtain ⟨hx, hb, hml, hown, hts, hr, hlk, hnt, hK⟩ := hX9
  exact lv_icmp_gt hx hb hd ht (fun q => kt q p l e s m args below meth c b kap D H locs ks hX hP hS hl hE) (fun q => kf q p l e s m args below meth c b kap D H locs ks hX hP hS hl hE)

theorem gl_tableOut (tgt : Nat) {dflt lo hi : Int} {offs : Array Int} {len : Nat} {a : Int32} (hd : decode M.code pc = .ok (.tableswitch dflt lo hi offs, len)) (hr9 : a.toInt < lo ∨ hi < a.toInt) (ht : (pc : Int) + dflt = (tgt : Int)) (k : Gl z M x Q cl sl tgt ls st h) : Gl z M x Q cl sl pc ls (.int a :: st) h := by
  intro p l e s m args below meth c b kap D H locs ks hX hP hS hl hE
  have hX9 := hX
  obtain ⟨hx, hb, hml, hown, hts, hr, hlk, hnt, hK⟩ := hX9
  exact lv_tableOut hx hb hd hr9 ht (k p l e s m args below meth c b kap D H locs ks hX hP hS hl hE)

theorem gl_tableIn (tgt : Nat) {dflt lo hi off : Int} {offs : Array Int} {len : Nat} {a : Int32} (hd : decode M.code pc = .ok (.tableswitch dflt lo hi offs, len)) (h1 : ¬ a.toInt < lo) (h2 : ¬ hi < a.toInt) (ho : offs[(a.toInt - lo).toNat]? = some off) (ht : (pc : Int) + off = (tgt : Int)) (k : Gl z M x Q cl sl tgt ls st h) : Gl z M x Q cl sl pc ls (.int a :: st) h := by
  intro p l e s m args below meth c b kap D H locs ks hX hP hS hl hE
  have hX9 := hX
  obtain ⟨hx, hb, hml, hown, hts, hr, hlk, hnt, hK⟩ := hX9
  exact lv_tableIn hx hb hd h1 h2 ho ht (k p l e s m args below meth c b kap D H locs ks hX hP hS hl hE)

theorem gl_ls (ls2 : List (Nat × Value)) (hl2 : ∀ q ∈ ls2, ls.lookup q.1 = some q.2) (k : Gl z M x Q cl sl pc ls2 st h) : Gl z M x Q cl sl pc ls st h := by
  intro p l e s m args below meth c b kap D H locs ks hX hP hS hl hE
  have hX9 := hX
  obtain ⟨hx, hb, hml, hown, hts, hr, hlk, hnt, hK⟩ := hX9
  refine k p l e s m args below meth c b kap D H locs ks hX hP hS ⟨hl.1, hl.2.1, fun q hq => ?_⟩ hE
  unfold go_l at hq
  obtain ⟨r, hr9, rfl⟩ := List.mem_map.mp hq
  exact go_look hl (hl2 r hr9)

theorem gl_wide (cl2 sl2 : Nat) (h1 : cl ≤ cl2) (h2 : sl ≤ sl2) (k : Gl z M x Q cl2 sl2 pc ls st h) : Gl z M x Q cl sl pc ls st h := by
  intro p l e s m args below meth c b kap D H locs ks hX hP hS hl hE
  have hX9 := hX
  obtain ⟨hx, hb, hml, hown, hts, hr, hlk, hnt, hK⟩ := hX9
  exact W.widen h1 h2 (k p l e s m args below meth c b kap D H locs ks hX hP hS hl hE)

theorem gl_new (n : Nat) {idx ci : Nat} {q : vw_C} (fs : List Value) (hd : decode M.code pc = .ok (.new idx, 3)) (hn : pc + 3 = n) (hq : go_cl[ci]? = some q) (w1 : Cond.classLink M.own idx q.1 ∈ go_gw) (w2 : Cond.instantiable q.1 q.2.2 ∈ go_gw) (w3 : Cond.initialized q.1 ∈ go_gw) (hfs : go_df ci q.2.2 = fs) (h1 : cl + 1 ≤ M.rm.cells) (h2 : sl + q.2.2 ≤ M.rm.slots) (k9 : Gl z M true Q (cl + 1) (sl + q.2.2) n ls (.ref h.length :: st) (h ++ [.inr (ci, fs)])) : Gl z M true Q cl sl pc ls st h := by
  subst hn; subst hfs
  intro p l e s m args below meth c b kap D H locs ks hX hP hS hl hE
  have hX9 := hX
  obtain ⟨hx, hb, hml, hown, hts, hr, hlk, hnt, hK⟩ := hX9
  have hKn := hK.1.1 ci _ hq
  have hfix := go_fix hq
  have hsz := hP.2.2 rfl
  refine W.newcK hx hb hown (hts _ w1) (hts _ w2) (hts _ w3) rfl hd h1 h2 hKn.2.1 hsz fun H1 kC hkC e1 z1 o1 => ?_
  have hz : H1.size = H.size + 1 := by omega
  have ho : ∀ q, q < H.size → H1[q]? = H[q]? := fun q hq => o1 q (by omega)
  refine k9 p l e s m args below meth c b kap D H1 locs ks hX (hP.push ?_ hz ho) (go_S.push hS hz ho) hl hE
  refine ⟨_, hq, (u_born (go_tyOf ci) hts hfix.1 hKn hkC e1 hfix.2.1).to (fun j hj => ?_)⟩
  unfold vp_V go_df
  simp [hj, go_v_df]
/-- a new array -/

theorem gl_newa (n : Nat) {atype : ArrayType} (ty : FieldType) (t0 N : Nat) (a0 : vp_A) {i : Int32} (hd : decode M.code pc = .ok (.newarray atype, 2)) (hn : pc + 2 = n) (hty : newarray.typeOf atype = ty) (hno : ∀ C, ty ≠ .object C) (w1 : Cond.arrayClass ty ∈ go_gw) (ht : ∀ kap, (go_ty kap)[t0]? = some (kap ty, ty)) (ha : ∀ (b : Nat) (cA : ClassId), vp_cell cA (go_a b a0) = arrV cA N (fun _ => defaultValue ty)) (hi : ¬ i < 0) (hN : i.toNatClampNeg = N) (hby : N * componentBytes ty ≤ 536870912) (h1 : cl + 1 ≤ M.rm.cells) (h2 : sl + N ≤ M.rm.slots) (k9 : Gl z M true Q (cl + 1) (sl + N) n ls (.ref h.length :: st) (h ++ [.inl (ty, a0)])) : Gl z M true Q cl sl pc ls (.int i :: st) h := by
  subst hn; subst hty
  intro p l e s m args below meth c b kap D H locs ks hX hP hS hl hE
  have hX9 := hX
  obtain ⟨hx, hb, hml, hown, hts, hr, hlk, hnt, hK⟩ := hX9
  have hsz := hP.2.2 rfl
  refine va_newaK hx hb (hts _ w1) rfl hd rfl hi hN hby h1 h2 hsz fun H1 cA e1 z1 o1 hAr hNm => ?_
  have hz : H1.size = H.size + 1 := by omega
  have ho : ∀ q, q < H.size → H1[q]? = H[q]? := fun q hq => o1 q (by omega)
  have hcA : cA = kap (newarray.typeOf atype) := by
    have h9 := (hK.1.2 t0 _ (ht kap)).2
    have h8 : s.vm.findClass ("[" ++ (newarray.typeOf atype).toString) = some (kap (newarray.typeOf atype)) := by
      revert h9 hno
      generalize newarray.typeOf atype = tt
      intro hno h9
      cases tt <;> first | exact h9 | exact (hno _ rfl).elim
    exact Option.some.inj (hNm.symm.trans h8)
  subst hcA
  refine k9 p l e s m args below meth c b kap D H1 locs ks hX (hP.push ?_ hz ho) (go_S.push hS hz ho) hl hE
  show H1[b + h.length]? = some (vp_cell _ _)
  rw [ha]
  exact e1
/-- a new array of items -/

theorem gl_callI (n : Nat) (a rest : List Value) {k : Nat} (hd : decode M.code pc = .ok (.invokespecial idx, 3)) (hn : pc + 3 = n) (hC : go_Cn M' x (.ref k :: a) h Po) (hst : st = a.reverse ++ .ref k :: rest) (hs9 : go_I M idx M') (hpar : (parseMethodDescriptor M'.y.desc).map (fun d => d.parameters.length) = some a.length) (hw : (rest.map fun v => v.category).sum ≤ 8) (h1 : cl + M'.rm.cells ≤ M.rm.cells) (h2 : sl + M'.rm.slots ≤ M.rm.slots) (k9 : ∀ v h', Po v h' → Gl z M x Q (cl + M'.rm.cells) (sl + M'.rm.slots) n ls (v.toList ++ rest) h') : Gl z M x Q cl sl pc ls st h := by
  subst hn; subst hst
  intro p l e s m args below meth c b kap D H locs ks hX hP hS hl hE
  have hX9 := hX
  obtain ⟨hx, hb, hml, hown, hts, hr, hlk, hnt, hK⟩ := hX9
  obtain ⟨hh, hrt, hin, w1, w2, hU⟩ := hs9
  have hcw9 : go_w0 M' = Cond.code M'.y M'.code M'.nL none := by rw [go_w0_e hh, hrt]
  have cw := cwI (R := M.rm) (s := s) (args := args) (own := M.own) (index := idx) (y := M'.y) (bytes := M'.code) (maxL := M'.nL) (ws := go_ws M') (ws' := go_gw) (rm := M'.rm) (mc := M'.rm.cells) (ms := M'.rm.slots) a.length hts (go_GI hU.2.1) (by unfold go_ws; rw [hcw9]) rfl rfl (hts _ hU.1) (hts _ w1) (hts _ w2) hin ⟨hU.2.2.1.1, hU.2.2.1.2, hpar⟩ ⟨hU.2.2.2.1, hU.2.2.2.2⟩
  have hrun := va_runI (cells := cl) (slots := sl) (below := below) (e := e) (meth := meth) (locs := locs) (b := b + k) (As := go_s b a) (rest := go_s b rest) (g := F0 m pc ks (go_s b (a.reverse ++ .ref k :: rest))) ⟨hx, hb, hml, hown, hts⟩ (go_met hC hnt b kap D) cw ⟨go_blind, go_pre (.ref k :: a) hK hP hS⟩ rfl (by simp [go_s]) (hl.1) (go_stV b a rest k) (lv_room (by rw [go_s_cat]; exact hw)) hd ⟨h1, h2⟩
  refine go_run hrun hS (fun v h' H1 locs1 p1 p2 p3 => ?_)
  rw [go_back]
  exact k9 v h' p1 p l e s m args below meth c b kap D H1 locs1 ks hX p2 p3 hl hE

theorem gl_callV (n : Nat) (a rest : List Value) {k : Nat} {ci : Nat} {fs : List Value} {q : vw_C} (hd : decode M.code pc = .ok (.invokevirtual idx, 3)) (hn : pc + 3 = n) (hC : go_Cn M' x (.ref k :: a) h Po) (hst : st = a.reverse ++ .ref k :: rest) (hs9 : go_V M idx M') (hpar : (parseMethodDescriptor M'.y.desc).map (fun d => d.parameters.length) = some a.length) (hc : h[k]? = some (.inr (ci, fs))) (hq : go_cl[ci]? = some q) (hqc : M'.y.cls = q.1) (hw : (rest.map fun v => v.category).sum ≤ 8) (h1 : cl + M'.rm.cells ≤ M.rm.cells) (h2 : sl + M'.rm.slots ≤ M.rm.slots) (k9 : ∀ v h', Po v h' → Gl z M x Q (cl + M'.rm.cells) (sl + M'.rm.slots) n ls (v.toList ++ rest) h') : Gl z M x Q cl sl pc ls st h := by
  subst hn; subst hst
  intro p l e s m args below meth c b kap D H locs ks hX hP hS hl hE
  have hX9 := hX
  obtain ⟨hx, hb, hml, hown, hts, hr, hlk, hnt, hK⟩ := hX9
  obtain ⟨hh, w1, w2, w3, hU⟩ := hs9
  have hG : GoodIn go_gw (wsV M.own idx M'.y.cls M'.y (go_ws M')) := by
    intro w hw9
    unfold wsV at hw9
    rcases List.mem_append.mp hw9 with h9 | h9
    · simp only [List.mem_cons, List.not_mem_nil, or_false] at h9
      rcases h9 with rfl | rfl | rfl | rfl
      · exact ⟨w1, go_good w1⟩
      · exact ⟨w2, go_good w2⟩
      · exact ⟨w3, go_good w3⟩
      · exact ⟨hU.1, go_good hU.1⟩
    · exact go_GI hU.2.1 w h9
  have cw := cwV (R := M.rm) (s := s) (args := args) (own := M.own) (C := M'.y.cls) (index := idx) (y := M'.y) (bytes := M'.code) (maxL := M'.nL) (ret := M'.ret) (ws := go_ws M') (ws' := go_gw) (rm := M'.rm) (mc := M'.rm.cells) (ms := M'.rm.slots) a.length hts hG (by unfold go_ws; rw [go_w0_e hh]) rfl rfl ⟨rfl, hU.2.2.1.1, hU.2.2.1.2, hpar⟩ ⟨hU.2.2.2.1, hU.2.2.2.2⟩
  rw [hqc] at cw
  have hrun := va_runV (cells := cl) (slots := sl) (below := below) (e := e) (meth := meth) (locs := locs) (b := b + k) (As := go_s b a) (rest := go_s b rest) (g := F0 m pc ks (go_s b (a.reverse ++ .ref k :: rest))) ⟨hx, hb, hml, hown, hts⟩ (go_met hC hnt b kap D) cw ⟨go_blind, go_recv hK hP hc hq, go_pre (.ref k :: a) hK hP hS⟩ rfl (by simp [go_s]) (hl.1) (go_stV b a rest k) (lv_room (by rw [go_s_cat]; exact hw)) hd ⟨h1, h2⟩
  refine go_run hrun hS (fun v h' H1 locs1 p1 p2 p3 => ?_)
  rw [go_back]
  exact k9 v h' p1 p l e s m args below meth c b kap D H1 locs1 ks hX p2 p3 hl hE

theorem gl_callSH (n : Nat) (a rest : List Value) (hd : decode M.code pc = .ok (.invokestatic idx, 3)) (hn : pc + 3 = n) (hC : go_Cn M' x a h Po) (hst : st = a.reverse ++ rest) (hs9 : go_SH M idx M') (hpar : (parseMethodDescriptor M'.y.desc).map (fun d => d.parameters.length) = some a.length) (hw : (rest.map fun v => v.category).sum ≤ 8) (h1 : cl + M'.rm.cells ≤ M.rm.cells) (h2 : sl + M'.rm.slots ≤ M.rm.slots) (k9 : ∀ v h', Po v h' → Gl z M x Q (cl + M'.rm.cells) (sl + M'.rm.slots) n ls (v.toList ++ rest) h') : Gl z M x Q cl sl pc ls st h := by
  subst hn; subst hst
  intro p l e s m args below meth c b kap D H locs ks hX hP hS hl hE
  have hX9 := hX
  obtain ⟨hx, hb, hml, hown, hts, hr, hlk, hnt, hK⟩ := hX9
  obtain ⟨hh, w1, w2, hU⟩ := hs9
  have hG : GoodIn go_gw (va_wsS M.own idx M'.y (go_ws M')) := by
    intro w hw9
    unfold va_wsS at hw9
    rcases List.mem_append.mp hw9 with h9 | h9
    · simp only [List.mem_cons, List.not_mem_nil, or_false] at h9
      rcases h9 with rfl | rfl | rfl
      · exact ⟨w1, go_good w1⟩
      · exact ⟨w2, go_good w2⟩
      · exact ⟨hU.1, go_good hU.1⟩
    · exact go_GI hU.2.1 w h9
  have cw := vx_cwSW (hh := M'.hh) (R := M.rm) (s := s) (args := args) (own := M.own) (index := idx) (y := M'.y) (bytes := M'.code) (maxL := M'.nL) (ret := M'.ret) (ws := go_ws M') (ws' := go_gw) (rm := M'.rm) (mc := M'.rm.cells) (ms := M'.rm.slots) a.length hts hG (by unfold go_ws; rw [go_w0_n hh]) rfl rfl ⟨hU.2.2.1.1, hU.2.2.1.2, hpar⟩ ⟨hU.2.2.2.1, hU.2.2.2.2⟩
  have hrun := vx_runSW (cells := cl) (slots := sl) (below := below) (e := e) (meth := meth) (locs := locs) (As := go_s b a) (rest := go_s b rest) (g := F0 m pc ks (go_s b (a.reverse ++ rest))) ⟨hx, hb, hml, hown, hts⟩ (go_met hC hnt b kap D) cw ⟨go_blind, go_pre a hK hP hS⟩ rfl (by simp [go_s]) (hl.1) (go_stS b a rest) (lv_room (by rw [go_s_cat]; exact hw)) hd ⟨h1, h2⟩
  refine go_run hrun hS (fun v h' H1 locs1 p1 p2 p3 => ?_)
  rw [go_back]
  exact k9 v h' p1 p l e s m args below meth c b kap D H1 locs1 ks hX p2 p3 hl hE

theorem gl_lald (n : Nat) {k N : Nat} {f : Nat → Int64} {i : Int32} (hd : decode M.code pc = .ok (.laload, 1)) (hn : pc + 1 = n) (hc : h[k]? = some (.inl (.long, N, .inr (.inl f)))) (hi : vp_in i N) (k9 : Gl z M x Q cl sl n ls (.long (f i.toNatClampNeg) :: st) h) : Gl z M x Q cl sl pc ls (.int i :: .ref k :: st) h := by
  subst hn
  intro p l e s m args below meth c b kap D H locs ks hX hP hS hl hE
  have hX9 := hX
  obtain ⟨hx, hb, hml, hown, hts, hr, hlk, hnt, hK⟩ := hX9
  exact va_lald hx hb hK.1 hP.1 k 1 (go_w_at hc) rfl hi hd (k9 p l e s m args below meth c b kap D H locs ks hX hP hS hl hE)

theorem gl_dald (n : Nat) {k N : Nat} {f : Nat → UInt64} {i : Int32} (hd : decode M.code pc = .ok (.daload, 1)) (hn : pc + 1 = n) (hc : h[k]? = some (.inl (.double, N, .inr (.inr (.inr (.inl f)))))) (hi : vp_in i N) (k9 : Gl z M x Q cl sl n ls (.double (f i.toNatClampNeg) :: st) h) : Gl z M x Q cl sl pc ls (.int i :: .ref k :: st) h := by
  subst hn
  intro p l e s m args below meth c b kap D H locs ks hX hP hS hl hE
  have hX9 := hX
  obtain ⟨hx, hb, hml, hown, hts, hr, hlk, hnt, hK⟩ := hX9
  exact va_dald hx hb hK.1 hP.1 k 4 (go_w_at hc) rfl hi hd (k9 p l e s m args below meth c b kap D H locs ks hX hP hS hl hE)

theorem gm_lald (n : Nat) {k N : Nat} {f0 : Nat → Int64} {i : Int32} (hd : decode M.code pc = .ok (.laload, 1)) (hn : pc + 1 = n) (hk : ly[k]? = some (.inl (.long, N, .inr (.inl f0)))) (hi : vp_in i N) (k9 : Gl z M x Q cl sl n ls (.long (rL S k i.toNatClampNeg) :: st) (hp S)) : Gl z M x Q cl sl pc ls (.int i :: .ref k :: st) (hp S) :=
  gl_lald n hd hn (hp_at hk) hi k9

theorem gm_dald (n : Nat) {k N : Nat} {f0 : Nat → UInt64} {i : Int32} (hd : decode M.code pc = .ok (.daload, 1)) (hn : pc + 1 = n) (hk : ly[k]? = some (.inl (.double, N, .inr (.inr (.inr (.inl f0)))))) (hi : vp_in i N) (k9 : Gl z M x Q cl sl n ls (.double (rD S k i.toNatClampNeg) :: st) (hp S)) : Gl z M x Q cl sl pc ls (.int i :: .ref k :: st) (hp S) :=
  gl_dald n hd hn (hp_at hk) hi k9

theorem gm_callV (n : Nat) (a rest : List Value) {k : Nat} {ci : Nat} {fs : List Value} {q : vw_C} (hd : decode M.code pc = .ok (.invokevirtual idx, 3)) (hn : pc + 3 = n) (hC : gF M' (.ref k :: a) S (some r) T) (hst : st = a.reverse ++ .ref k :: rest) (hs9 : go_V M idx M') (hpar : (parseMethodDescriptor M'.y.desc).map (fun d => d.parameters.length) = some a.length) (hk : ly[k]? = some (.inr (ci, fs))) (hq : go_cl[ci]? = some q) (hqc : M'.y.cls = q.1) (hw : (rest.map fun v => v.category).sum ≤ 8) (h1 : cl + M'.rm.cells ≤ M.rm.cells) (h2 : sl + M'.rm.slots ≤ M.rm.slots) (k9 : Gl z M false Q (cl + M'.rm.cells) (sl + M'.rm.slots) n ls (r :: rest) (hp T)) : Gl z M false Q cl sl pc ls st (hp S) := by
  refine gl_callV n a rest hd hn hC hst hs9 hpar (hp_at hk) hq hqc hw h1 h2 (fun v h' hv => ?_)
  rw [hv.1, hv.2]
  exact k9

theorem gm_callSH (n : Nat) (a rest : List Value) (hd : decode M.code pc = .ok (.invokestatic idx, 3)) (hn : pc + 3 = n) (hC : gF M' a S (some r) T) (hst : st = a.reverse ++ rest) (hs9 : go_SH M idx M') (hpar : (parseMethodDescriptor M'.y.desc).map (fun d => d.parameters.length) = some a.length) (hw : (rest.map fun v => v.category).sum ≤ 8) (h1 : cl + M'.rm.cells ≤ M.rm.cells) (h2 : sl + M'.rm.slots ≤ M.rm.slots) (k9 : Gl z M false Q (cl + M'.rm.cells) (sl + M'.rm.slots) n ls (r :: rest) (hp T)) : Gl z M false Q cl sl pc ls st (hp S) := by
  refine gl_callSH n a rest hd hn hC hst hs9 hpar hw h1 h2 (fun v h' hv => ?_)
  rw [hv.1, hv.2]
  exact k9

theorem gl_tableS {dflt lo hi : Int} {offs : Array Int} {len : Nat} {a : Int32} (tg : List (Int32 × Nat)) (dn : Nat) (hd : decode M.code pc = .ok (.tableswitch dflt lo hi offs, len)) (hlo : lo = 0) (hhi : (offs.size : Int) = hi + 1) (hdn : (pc : Int) + dflt = (dn : Int)) (hsm : offs.size < 1000) (htg : tg.length = offs.size) (hall : ∀ i, i < offs.size → tg[i]? = some (Int32.ofNat i, ((pc : Int) + offs.getD i 0).toNat) ∧ 0 ≤ (pc : Int) + offs.getD i 0) (kk : ∀ q ∈ tg, a = q.1 → Gl z M x Q cl sl q.2 ls st h) (kd : (∀ q ∈ tg, a ≠ q.1) → Gl z M x Q cl sl dn ls st h) : Gl z M x Q cl sl pc ls (.int a :: st) h := by
  subst hlo
  by_cases hr : a.toInt < 0 ∨ hi < a.toInt
  · refine gl_tableOut dn hd hr hdn (kd (fun q hq e => ?_))
    obtain ⟨i, hi9⟩ := List.getElem?_of_mem hq
    have hlt : i < offs.size := by rw [← htg]; exact (List.getElem?_eq_some_iff.mp hi9).1
    have h1 := (hall i hlt).1
    rw [hi9] at h1
    have h2 := Option.some.inj h1
    rw [e, h2] at hr
    have h3 : (Int32.ofNat i).toInt = (i : Int) := nI_toInt (by omega)
    rw [h3] at hr
    omega
  · have h1 : ¬ a.toInt < 0 := fun q => hr (Or.inl q)
    have h2 : ¬ hi < a.toInt := fun q => hr (Or.inr q)
    have hlt : (a.toInt - 0).toNat < offs.size := by omega
    obtain ⟨g1, g2⟩ := hall _ hlt
    have hmem := List.mem_of_getElem? g1
    have hae : a = Int32.ofNat (a.toInt - 0).toNat := by
      apply Int32.toInt_inj.mp
      have h3 : (Int32.ofNat (a.toInt - 0).toNat).toInt = ((a.toInt - 0).toNat : Int) := nI_toInt (by omega)
      rw [h3]
      omega
    have k0 := kk _ hmem hae
    refine gl_tableIn (off := offs.getD (a.toInt - 0).toNat 0) _ hd h1 h2 ?_ ?_ k0
    · rw [Array.getD_eq_getD_getElem?]
      rw [Array.getElem?_eq_getElem hlt]
      rfl
    · show (pc : Int) + _ = _
      omega

theorem gl_istore (n : Nat) (ls2 : List (Nat × Value)) {j : Nat} {a : Int32} (hd : decode M.code pc = .ok (.istore j, 2)) (hn : pc + 2 = n) (hj : j < M.nL) (hj0 : j ≠ 0) (hl2 : go_s1 ls j (.int a) = ls2) (k : Gl z M x Q cl sl n ls2 st h) : Gl z M x Q cl sl pc ls (.int a :: st) h := by
  subst hn; subst hl2
  intro p l e s m args below meth c b kap D H locs ks hX hP hS hl hE
  have hX9 := hX
  obtain ⟨hx, hb, hml, hown, hts, hr, hlk, hnt, hK⟩ := hX9
  refine lv_istore hx hb hd (lx_ext hE hl) hj rfl (fun ks2 hl2 => ?_)
  obtain ⟨h1, h2⟩ := lx_st hE (lx_f1 hj0) hl2
  rw [show ((j, Value.int a) : Nat × Value) = (j, go_v b (.int a)) from rfl, go_s1_l b ls j (.int a)] at h2
  exact k p l e s m args below meth c b kap D H locs ks2 hX hP hS h2 h1
theorem gl_astore_n (n : Nat) (ls2 : List (Nat × Value)) {j : Fin 4} {a : Nat} (hd : decode M.code pc = .ok (.astore_n j, 1)) (hn : pc + 1 = n) (hj : (j : Nat) < M.nL) (hj0 : (j : Nat) ≠ 0) (hl2 : go_s1 ls (j : Nat) (.ref a) = ls2) (k : Gl z M x Q cl sl n ls2 st h) : Gl z M x Q cl sl pc ls (.ref a :: st) h := by
  subst hn; subst hl2
  intro p l e s m args below meth c b kap D H locs ks hX hP hS hl hE
  have hX9 := hX
  obtain ⟨hx, hb, hml, hown, hts, hr, hlk, hnt, hK⟩ := hX9
  refine lv_astore_n hx hb hd rfl (lx_ext hE hl) hj rfl (fun ks2 hl2 => ?_)
  obtain ⟨h1, h2⟩ := lx_st hE (lx_f1 hj0) hl2
  rw [show (((j : Nat), Value.ref (b + a)) : Nat × Value) = ((j : Nat), go_v b (.ref a)) from rfl, go_s1_l b ls (j : Nat) (.ref a)] at h2
  exact k p l e s m args below meth c b kap D H locs ks2 hX hP hS h2 h1
theorem gl_astore (n : Nat) (ls2 : List (Nat × Value)) {j : Nat} {a : Nat} (hd : decode M.code pc = .ok (.astore j, 2)) (hn : pc + 2 = n) (hj : j < M.nL) (hj0 : j ≠ 0) (hl2 : go_s1 ls j (.ref a) = ls2) (k : Gl z M x Q cl sl n ls2 st h) : Gl z M x Q cl sl pc ls (.ref a :: st) h := by
  subst hn; subst hl2
  intro p l e s m args below meth c b kap D H locs ks hX hP hS hl hE
  have hX9 := hX
  obtain ⟨hx, hb, hml, hown, hts, hr, hlk, hnt, hK⟩ := hX9
  refine lv_astore hx hb hd (lx_ext hE hl) hj rfl (fun ks2 hl2 => ?_)
  obtain ⟨h1, h2⟩ := lx_st hE (lx_f1 hj0) hl2
  rw [show ((j, Value.ref (b + a)) : Nat × Value) = (j, go_v b (.ref a)) from rfl, go_s1_l b ls j (.ref a)] at h2
  exact k p l e s m args below meth c b kap D H locs ks2 hX hP hS h2 h1
theorem gl_dstore (n : Nat) (ls2 : List (Nat × Value)) {j : Nat} {a : UInt64} (hd : decode M.code pc = .ok (.dstore j, 2)) (hn : pc + 2 = n) (hj : j + 1 < M.nL) (hj0 : j ≠ 0) (hl2 : go_s2 ls j (.double a) = ls2) (k : Gl z M x Q cl sl n ls2 st h) : Gl z M x Q cl sl pc ls (.double a :: st) h := by
  subst hn; subst hl2
  intro p l e s m args below meth c b kap D H locs ks hX hP hS hl hE
  have hX9 := hX
  obtain ⟨hx, hb, hml, hown, hts, hr, hlk, hnt, hK⟩ := hX9
  refine lv_dstore hx hb hd (lx_ext hE hl) hj rfl (fun ks2 hl2 => ?_)
  obtain ⟨h1, h2⟩ := lx_st hE (lx_f2 hj0) hl2
  rw [show ((j, Value.double a) : Nat × Value) = (j, go_v b (.double a)) from rfl, go_s2_l b ls j (.double a)] at h2
  exact k p l e s m args below meth c b kap D H locs ks2 hX hP hS h2 h1
theorem gl_iinc (n : Nat) (ls2 : List (Nat × Value)) {j : Nat} {i : Int} {a : Int32} (v : Int32) (hd : decode M.code pc = .ok (.iinc j i, 3)) (hn : pc + 3 = n) (hj : j < M.nL) (hj0 : j ≠ 0) (hk : ls.lookup j = some (.int a)) (hv : a + Int32.ofInt i = v) (hl2 : go_s1 ls j (.int v) = ls2) (k : Gl z M x Q cl sl n ls2 st h) : Gl z M x Q cl sl pc ls st h := by
  subst hn; subst hl2
  intro p l e s m args below meth c b kap D H locs ks hX hP hS hl hE
  have hX9 := hX
  obtain ⟨hx, hb, hml, hown, hts, hr, hlk, hnt, hK⟩ := hX9
  obtain ⟨k0, hk0⟩ := go_lk hk
  refine lv_iinc (k := k0 + 1) (x := a) hx hb hd (lx_ext hE hl) (by rw [List.getElem?_cons_succ]; unfold go_l; rw [List.getElem?_map, hk0]; rfl) hv hj rfl (fun ks2 hl2 => ?_)
  obtain ⟨h1, h2⟩ := lx_st hE (lx_f1 hj0) hl2
  rw [show ((j, Value.int v) : Nat × Value) = (j, go_v b (.int v)) from rfl, go_s1_l b ls j (.int v)] at h2
  exact k p l e s m args below meth c b kap D H locs ks2 hX hP hS h2 h1
/-- the script's length -/
theorem gl_slen (n : Nat) (d0 : decode M.code pc = .ok (.aload_n 0, 1)) (d1 : decode M.code (pc + 1) = .ok (.arraylength, 1)) (hn : pc + 2 = n) (k : Gl z M x Q cl sl n ls (.int (nI z.2.1) :: st) h) : Gl z M x Q cl sl pc ls st h := by
  subst hn
  intro p l e s m args below meth c b kap D H locs ks hX hP hS hl hE
  have hX9 := hX
  obtain ⟨hx, hb, hml, hown, hts, hr, hlk, hnt, hK⟩ := hX9
  refine lv_aload_n hx hb d0 rfl hE.2.2.2.1 ?_
  have hbA : ¬ (b ≤ z.1) := by have := hE.1; omega
  exact va_slen hx hb hE.2.2.1 hE.2.1 hbA hS d1 (k p l e s m args below meth c b kap D H locs ks hX hP hS hl hE)
/-- the script's element at the local 5 -/
theorem gl_s0 (n : Nat) (i : Int32) (d0 : decode M.code pc = .ok (.aload_n 0, 1)) (d1 : decode M.code (pc + 1) = .ok (.iload 5, 2)) (d2 : decode M.code (pc + 3) = .ok (.iaload, 1)) (hn : pc + 4 = n) (hk : ls.lookup 5 = some (.int i)) (hi : vp_in i z.2.1) (k : Gl z M x Q cl sl n ls (.int (z.2.2 i.toNatClampNeg) :: st) h) : Gl z M x Q cl sl pc ls st h := by
  subst hn
  intro p l e s m args below meth c b kap D H locs ks hX hP hS hl hE
  have hX9 := hX
  obtain ⟨hx, hb, hml, hown, hts, hr, hlk, hnt, hK⟩ := hX9
  refine lv_aload_n hx hb d0 rfl hE.2.2.2.1 ?_
  refine lv_iload (x := i) hx hb d1 (go_look hl hk) ?_
  have hbA : ¬ (b ≤ z.1) := by have := hE.1; omega
  exact va_sld hx hb hE.2.2.1 hE.2.1 hbA hS hi d2 (k p l e s m args below meth c b kap D H locs ks hX hP hS hl hE)
theorem gl_sk (n : Nat) (i cc9 : Int32) {ci : Int} (d0 : decode M.code pc = .ok (.aload_n 0, 1)) (d1 : decode M.code (pc + 1) = .ok (.iload 5, 2)) (d2 : decode M.code (pc + 3) = .ok (.iconst ci, 1)) (d3 : decode M.code (pc + 4) = .ok (.iadd, 1)) (d4 : decode M.code (pc + 5) = .ok (.iaload, 1)) (hn : pc + 6 = n) (hk : ls.lookup 5 = some (.int i)) (hc9 : Int32.ofInt ci = cc9) (hi : vp_in (i + cc9) z.2.1) (k : Gl z M x Q cl sl n ls (.int (z.2.2 (i + cc9).toNatClampNeg) :: st) h) : Gl z M x Q cl sl pc ls st h := by
  subst hn
  intro p l e s m args below meth c b kap D H locs ks hX hP hS hl hE
  have hX9 := hX
  obtain ⟨hx, hb, hml, hown, hts, hr, hlk, hnt, hK⟩ := hX9
  refine lv_aload_n hx hb d0 rfl hE.2.2.2.1 ?_
  refine lv_iload (x := i) hx hb d1 (go_look hl hk) ?_
  refine lv_iconst hx hb d2 hc9 ?_
  refine lv_iadd hx hb d3 ?_
  have hbA : ¬ (b ≤ z.1) := by have := hE.1; omega
  exact va_sld hx hb hE.2.2.1 hE.2.1 hbA hS hi d4 (k p l e s m args below meth c b kap D H locs ks hX hP hS hl hE)
end GLR

