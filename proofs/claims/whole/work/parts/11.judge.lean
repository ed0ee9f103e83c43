/-- the String constants of the messages; the links within the nest -/
def go_str : List (String × Nat × String) := [("WidthMinimizer", 83, "no such kind"), ("WidthMinimizer", 96, "a constant operand is out of range"), ("WidthMinimizer", 108, "an operand does not exist"), ("WidthMinimizer", 116, "there are 24 signals"), ("WidthMinimizer", 128, "there are no signals"), ("WidthMinimizer", 331, "there is no such signal"), ("WidthMinimizer", 145, "the signal is no register"), ("WidthMinimizer", 155, "the phase is not from 0 to 3"), ("WidthMinimizer", 169, "no such property of a signal"), ("WidthMinimizer", 215, "no such number about the circuit"), ("WidthMinimizer", 219, "the circuit with full signals costs nothing"), ("WidthMinimizer", 223, "there is no such unit"), ("WidthMinimizer", 239, "no such property of a unit"), ("WidthMinimizer", 244, "no unit carries out the signal"), ("WidthMinimizer", 246, "the signal is no input"), ("WidthMinimizer", 248, "the value is not in the range of the input"), ("WidthMinimizer", 253, "the number of cycles is not from 1 to 200"), ("WidthMinimizer", 283, "the input has 80 characters"), ("WidthMinimizer", 315, "no such level or property of a fault"), ("WidthMinimizer", 320, "there is no fault of this level"), ("WidthMinimizer", 326, "no snapshot was saved")]
def go_nest : List (String × Nat × MethodName × String) := [("WidthMinimizer", 9, ⟨"WidthMinimizer$Circuit", "<init>", "()V"⟩, "WidthMinimizer"), ("WidthMinimizer", 24, ⟨"WidthMinimizer$Item", "<init>", "()V"⟩, "WidthMinimizer"), ("WidthMinimizer", 31, ⟨"WidthMinimizer$Ranges", "<init>", "()V"⟩, "WidthMinimizer"), ("WidthMinimizer", 38, ⟨"WidthMinimizer$Widths", "<init>", "()V"⟩, "WidthMinimizer"), ("WidthMinimizer", 45, ⟨"WidthMinimizer$UnitPlan", "<init>", "()V"⟩, "WidthMinimizer"), ("WidthMinimizer", 52, ⟨"WidthMinimizer$Machine", "<init>", "()V"⟩, "WidthMinimizer"), ("WidthMinimizer$Text", 31, ⟨"WidthMinimizer$Item", "<init>", "()V"⟩, "WidthMinimizer"), ("WidthMinimizer", 69, ⟨"WidthMinimizer$Faults", "<init>", "()V"⟩, "WidthMinimizer"), ("WidthMinimizer$Ranges", 65, ⟨"WidthMinimizer", "bitLength", "(I)I"⟩, "WidthMinimizer"), ("WidthMinimizer$Widths", 62, ⟨"WidthMinimizer", "lowestBits", "(I)I"⟩, "WidthMinimizer"), ("WidthMinimizer$Widths", 49, ⟨"WidthMinimizer", "bitLength", "(I)I"⟩, "WidthMinimizer"), ("WidthMinimizer$UnitPlan", 67, ⟨"WidthMinimizer", "costFor", "(II)I"⟩, "WidthMinimizer"), ("WidthMinimizer$Widths", 94, ⟨"WidthMinimizer", "costFor", "(II)I"⟩, "WidthMinimizer")]
/-- classes of which the first is no subclass of the second -/
def go_nc : List (String × String) := [("java/lang/IndexOutOfBoundsException", "java/lang/IllegalArgumentException"), ("java/lang/IllegalStateException", "java/lang/IllegalArgumentException"), ("java/lang/IllegalStateException", "java/lang/IndexOutOfBoundsException"), ("java/lang/UnsupportedOperationException", "java/lang/IndexOutOfBoundsException"), ("java/lang/IllegalArgumentException", "java/lang/IndexOutOfBoundsException"), ("java/util/NoSuchElementException", "java/lang/IndexOutOfBoundsException"), ("java/lang/IllegalArgumentException", "java/lang/UnsupportedOperationException"), ("java/util/NoSuchElementException", "java/lang/IllegalArgumentException")]

/-- the classes that are thrown; a class is castable to another -/
def go_exc : List String := ["java/lang/IllegalArgumentException", "java/lang/IndexOutOfBoundsException", "java/lang/IllegalStateException", "java/util/NoSuchElementException", "java/lang/UnsupportedOperationException", "java/lang/ArithmeticException"]
def go_dec : List MethodName := [⟨"java/lang/RuntimeException", "<init>", "(Ljava/lang/String;)V"⟩, ⟨"java/lang/Exception", "<init>", "(Ljava/lang/String;)V"⟩, ⟨"java/lang/Throwable", "<init>", "(Ljava/lang/String;)V"⟩]
def va_Yc (C T : String) (U : State) : Prop := ∃ c t : ClassId, U.vm.findClass C = some c ∧ U.vm.findClass T = some t ∧ U.vm.assignable c t = true
theorem va_Yc.moved {C T : String} {u U : State} (hvm : u.vm.Alike U.vm) (h : va_Yc C T u) : va_Yc C T U := by
  obtain ⟨c, t, h1, h2, h3⟩ := h
  exact ⟨c, t, by rw [hvm.findClass]; exact h1, by rw [hvm.findClass]; exact h2, by rw [hvm.assignable]; exact h3⟩
theorem va_Yc.word {C T : String} {U : State} {args : Array Value} (h : va_Yc C T U) : (Cond.castable C T).before args U = true := by
  obtain ⟨c, t, h1, h2, h3⟩ := h
  simp [Cond.before, Cond.holds, Cond.value, h1, h2, h3]
theorem va_Yc.of {C T : String} {U : State} {args : Array Value} (h : (Cond.castable C T).before args U = true) : va_Yc C T U := by
  obtain ⟨c, t, h1, h2, h3⟩ := Cond.castable_spec h
  exact ⟨c, t, h1, h2, h3⟩
/-- what of the world never changes: classes, the two statics of Throwable, texts, links -/
def go_K (b : Nat) (kap : FieldType → ClassId) (D : va_G) (U : State) : Prop :=
  va_K D go_cl (go_ty kap) U ∧ vx_Zq Bundle.tN "UNASSIGNED_STACK" Bundle.steD (fun q => b ≤ q) U U.heap ∧ vx_Zq Bundle.tN "SUPPRESSED_SENTINEL" Bundle.listD (fun q => b ≤ q) U U.heap ∧
  (∀ q ∈ go_str, ∃ a, vk_R q.1 q.2.1 q.2.2 a U) ∧ (∀ q ∈ go_nest, va_Nw (.methodLinkNest q.1 q.2.1 q.2.2.1 q.2.2.2) U) ∧ va_AO RX2 U ∧ (∀ q ∈ go_nc, va_Nc q.1 q.2 U) ∧ (∀ E ∈ go_exc, va_Yc E E U) ∧ (∀ y ∈ go_dec, va_Nw (.declares y) U) ∧ b ≤ U.heap.size
theorem go_K.to {b : Nat} {kap : FieldType → ClassId} {D : va_G} {s U : State} (h : go_K b kap D s) (hW : s.WarmedH U.vm) (hz : s.heap.size ≤ U.heap.size) (hk : ∀ q : Nat, q < s.heap.size → ¬ b ≤ q → U.heap[q]? = s.heap[q]?) : go_K b kap D U := by
  obtain ⟨h1, h2, h3, h4, h5, h6, h8, h9, h10, h7⟩ := h
  refine ⟨va_K.moved hW.alike h1, vx_Zq.moved hW.alike (h2.kept hk), vx_Zq.moved hW.alike (h3.kept hk), fun q hq => ?_, fun q hq => va_Nw.warmM hW (h5 q hq), va_AO.moved hW.alike h6, fun q hq => va_Nc.moved hW.alike (h8 q hq), fun E hE => va_Yc.moved hW.alike (h9 E hE), fun y hy => va_Nw.warmD hW (h10 y hy), Nat.le_trans h7 hz⟩
  obtain ⟨a, ha⟩ := h4 q hq
  exact ⟨a, vk_R.warm hW ha⟩
theorem go_K.calling {b : Nat} {kap : FieldType → ClassId} {D : va_G} {U : State} (h : go_K b kap D U) (g : JFrame) (mk : MethodId) (a : Array Value) : go_K b kap D (U.calling g mk a) :=
  go_K.to (U := U.calling g mk a) h (State.WarmedH.refl U) (Nat.le_refl _) (fun _ _ _ => rfl)
/-- the heap holds the cells; with x: and none behind them -/
def go_P (x : Bool) (b : Nat) (kap : FieldType → ClassId) (D : va_G) (h : go_H) (H : Heap) : Prop :=
  va_P D go_cl (go_w b kap h) H ∧ b + h.length ≤ H.size ∧ (x = true → H.size = b + h.length)
/-- what holds in a frame of the method M -/
def go_X (M : go_M) (l : Launch) (p : Program) (s : State) (m : MethodId) (args : Array Value) (meth : Method) (c : Code) (b : Nat) (kap : FieldType → ClassId) (D : va_G) : Prop :=
  p.tables.exec = Jvm.exec ∧ c.code = M.code ∧ c.maxLocals = M.nL ∧ s.vm.findClass M.own = some m.cls ∧ (∀ w ∈ go_gw, w.before args s = true) ∧ meth.sig.returnType = M.ret ∧ meth.locks = false ∧
  l.stackTraces = false ∧ go_K b kap D s ∧ meth.name = M.y.name ∧ c.exceptionTable.toList = tableOf M.hh
abbrev go_Q : Type := Launch → List Frame → Array Value → State → Nat → (FieldType → ClassId) → va_G → State → Prop
def go_l (b : Nat) (ls : List (Nat × Value)) : List (Nat × Value) := ls.map (fun q => (q.1, go_v b q.2))
def go_s (b : Nat) (st : List Value) : List Value := st.map (go_v b)
def Go (M : go_M) (x : Bool) (Q : go_Q) (cl sl pc : Nat) (ls : List (Nat × Value)) (st : List Value) (h : go_H) : Prop :=
  ∀ (p : Program) (l : Launch) (e : Env) (s : State) (m : MethodId) (args : Array Value) (below : List Frame) (meth : Method) (c : Code) (b : Nat) (kap : FieldType → ClassId) (D : va_G) (H : Heap) (locs : List Loc) (ks : Array Slot),
    go_X M l p s m args meth c b kap D → go_P x b kap D h H → va_S (fun q => b ≤ q) s.heap H locs → lv_has ks M.nL (go_l b ls) →
    W p l e M.rm s m args below meth c H locs cl sl (Q l below args s b kap D) (F0 m pc ks (go_s b st))
/-- .. with an object of the class E thrown over the frame -/
def GoX (M : go_M) (Q : go_Q) (cl sl pc : Nat) (ls : List (Nat × Value)) (st : List Value) (E : String) (h : go_H) : Prop :=
  ∀ (p : Program) (l : Launch) (e : Env) (s : State) (m : MethodId) (args : Array Value) (below : List Frame) (meth : Method) (c : Code) (b : Nat) (kap : FieldType → ClassId) (D : va_G) (H : Heap) (locs : List Loc) (ks : Array Slot) (q9 : Addr) (ce : Cell),
    go_X M l p s m args meth c b kap D → go_P false b kap D h H → va_S (fun q => b ≤ q) s.heap H locs → lv_has ks M.nL (go_l b ls) → H[q9]? = some ce → ce.vm = .none → s.vm.findClass E = some ce.cls →
    vx_W p l e M.rm s m args below meth c H locs cl sl (Q l below args s b kap D) (F0 m pc ks (go_s b st)) q9
/-- contracts -/
def go_Qc (x : Bool) (b : Nat) (kap : FieldType → ClassId) (D : va_G) (Po : Option Value → go_H → Prop) : Array Value → State → Outcome → State → Prop := fun _ st o t =>
  (∃ (v : Option Value) (h : go_H), o = .returned (v.map (go_v b)) ∧ Po v h ∧ go_P x b kap D h t.heap) ∧ va_F (fun q => b ≤ q) st t
def go_XC (b : Nat) (kap : FieldType → ClassId) (D : va_G) (Px : String → go_H → Prop) : String → State → State → Prop := fun E st t =>
  (∃ h : go_H, Px E h ∧ go_P false b kap D h t.heap) ∧ va_F (fun q => b ≤ q) st t
def go_Pc (x : Bool) (b : Nat) (kap : FieldType → ClassId) (D : va_G) (a : List Value) (h : go_H) : Array Value → State → Prop := fun A U => A = (go_s b a).toArray ∧ go_K b kap D U ∧ go_P x b kap D h U.heap
def go_ws (M : go_M) : List Cond := go_w0 M :: go_gw
def go_Ct (M : go_M) (x : Bool) (a : List Value) (h : go_H) (Po : Option Value → go_H → Prop) (Px : String → go_H → Prop) : Prop :=
  ∀ (l : Launch) (b : Nat) (kap : FieldType → ClassId) (D : va_G), l.stackTraces = false →
    vx_Met l M.y (go_ws M) M.rm (go_Pc x b kap D a h) (go_Qc x b kap D Po) (go_XC b kap D Px) M.rm.cells M.rm.slots (fun q => b ≤ q)
def go_no : String → go_H → Prop := fun _ _ => False
abbrev go_Cn (M : go_M) (x : Bool) (a : List Value) (h : go_H) (Po : Option Value → go_H → Prop) : Prop := go_Ct M x a h Po go_no
def go_Qm (M : go_M) (x : Bool) (Po : Option Value → go_H → Prop) (Px : String → go_H → Prop) : go_Q := fun _ below args s b kap D =>
  vx_MQ below (go_Qc x b kap D Po) (go_XC b kap D Px) args s M.rm.cells M.rm.slots (fun q => b ≤ q)
theorem go_blind {x : Bool} {b : Nat} {kap : FieldType → ClassId} {D : va_G} {a : List Value} {h : go_H} : FrameBlind (go_Pc x b kap D a h) := by
  intro A U g mk hq
  exact ⟨hq.1, hq.2.1.calling g mk A, hq.2.2⟩
theorem go_s_cat (b : Nat) (st : List Value) : ((go_s b st).map fun v => v.category).sum = (st.map fun v => v.category).sum := by
  unfold go_s
  rw [List.map_map]
  congr 1
  apply List.map_congr_left
  intro v _
  exact go_v_cat b v
theorem go_sl_len (b : Nat) (a : List Value) : (lg_sl (go_s b a)).length = (lg_sl a).length := by
  unfold lg_sl go_s
  induction a with
  | nil => rfl
  | cons v r ih =>
    simp only [List.map_cons, List.flatMap_cons, List.length_append, ih, go_v_cat]
    split <;> rfl
theorem go_args (b : Nat) (a : List Value) : ∀ i, lv_args i (go_s b a) = go_l b (lv_args i a) := by
  unfold go_s go_l
  induction a with
  | nil => intro i; rfl
  | cons v r ih =>
    intro i
    simp only [List.map_cons, lv_args, go_v_cat, ih]
theorem go_look {b nL : Nat} {ks : Array Slot} {ls : List (Nat × Value)} {i : Nat} {v : Value} (h : lv_has ks nL (go_l b ls)) (hk : ls.lookup i = some v) : ks[i]? = some (.val (go_v b v)) := by
  refine h.2.2 (i, go_v b v) ?_
  unfold go_l
  refine List.mem_map.mpr ⟨(i, v), ?_, rfl⟩
  clear h
  induction ls with
  | nil => simp at hk
  | cons q r ih =>
    obtain ⟨j, w⟩ := q
    rw [List.lookup_cons] at hk
    by_cases hij : i = j
    · subst hij
      simp at hk
      subst hk
      exact List.mem_cons_self
    · rw [show (i == j) = false by simp [hij]] at hk
      exact List.mem_cons_of_mem _ (ih hk)
/-- the locals behind a store of one word, of two -/
def go_s1 (ls : List (Nat × Value)) (i : Nat) (v : Value) : List (Nat × Value) := (i, v) :: ls.filter (fun q => !(q.1 == i) && !(q.1 + 1 == i && q.2.category == 2))
def go_s2 (ls : List (Nat × Value)) (i : Nat) (v : Value) : List (Nat × Value) := (i, v) :: ls.filter (fun q => !(q.1 == i) && (!(q.1 == i + 1) && !(q.1 + 1 == i && q.2.category == 2)))
theorem go_s1_l (b : Nat) (ls : List (Nat × Value)) (i : Nat) (v : Value) : (i, go_v b v) :: (go_l b ls).filter (fun q => !(q.1 == i) && !(q.1 + 1 == i && q.2.category == 2)) = go_l b (go_s1 ls i v) := by
  unfold go_l go_s1
  rw [List.map_cons, List.filter_map]
  congr 2
  apply List.filter_congr
  intro q _
  simp [go_v_cat]
theorem go_s2_l (b : Nat) (ls : List (Nat × Value)) (i : Nat) (v : Value) : (i, go_v b v) :: (go_l b ls).filter (fun q => !(q.1 == i) && (!(q.1 == i + 1) && !(q.1 + 1 == i && q.2.category == 2))) = go_l b (go_s2 ls i v) := by
  unfold go_l go_s2
  rw [List.map_cons, List.filter_map]
  congr 2
  apply List.filter_congr
  intro q _
  simp [go_v_cat]

