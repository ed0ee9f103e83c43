/-! THE LIGHT LAYER: a heap of one's own (a list of cells; the k-th lies at address b + k), a judgement Go over it, contracts go_Ct -/
abbrev go_C : Type := (FieldType × vp_A) ⊕ (Nat × List Value)
abbrev go_H : Type := List go_C
def go_v (b : Nat) (v : Value) : Value := match v with
  | .ref k => .ref (b + k)
  | .int x => .int x
  | .long x => .long x
  | .float x => .float x
  | .double x => .double x
  | .null => .null
  | .retAddr x => .retAddr x
def go_a (b : Nat) (a : vp_A) : vp_A := (a.1, match a.2 with
  | .inl f => .inl f
  | .inr (.inl f) => .inr (.inl f)
  | .inr (.inr (.inl f)) => .inr (.inr (.inl f))
  | .inr (.inr (.inr (.inl f))) => .inr (.inr (.inr (.inl f)))
  | .inr (.inr (.inr (.inr f))) => .inr (.inr (.inr (.inr (fun j => (f j).map (fun k => b + k))))))
def go_e (b : Nat) (kap : FieldType → ClassId) (c : go_C) : va_E := match c with
  | .inl q => .inl (kap q.1, go_a b q.2)
  | .inr q => .inr (q.1, q.2.map (go_v b))
def go_w (b : Nat) (kap : FieldType → ClassId) (h : go_H) : va_W := h.mapIdx (fun k c => (b + k, go_e b kap c))
theorem go_w_at {b : Nat} {kap : FieldType → ClassId} {h : go_H} {k : Nat} {c : go_C} (hk : h[k]? = some c) : (go_w b kap h)[k]? = some (b + k, go_e b kap c) := by
  unfold go_w
  rw [List.getElem?_mapIdx, hk]
  rfl
theorem go_w_set {b : Nat} {kap : FieldType → ClassId} {h : go_H} {k : Nat} {c : go_C} : go_w b kap (h.set k c) = (go_w b kap h).set k (b + k, go_e b kap c) := by
  unfold go_w
  apply List.ext_getElem?
  intro i
  rw [List.getElem?_mapIdx, List.getElem?_set, List.getElem?_set, List.getElem?_mapIdx, List.length_mapIdx]
  by_cases hik : k = i
  · subst hik
    by_cases hl : k < h.length
    · simp [hl]
    · simp [hl]
  · simp [hik]
theorem go_w_app {b : Nat} {kap : FieldType → ClassId} {h : go_H} {c : go_C} : go_w b kap (h ++ [c]) = go_w b kap h ++ [(b + h.length, go_e b kap c)] := by
  unfold go_w
  rw [List.mapIdx_append]
  simp
theorem go_w_D {b : Nat} {kap : FieldType → ClassId} {h : go_H} : va_D (fun q => b ≤ q) (go_w b kap h) := by
  refine ⟨fun i j p q hi hj hpq => ?_, fun k q hk => ?_⟩
  · unfold go_w at hi hj
    rw [List.getElem?_mapIdx] at hi hj
    cases hhi : h[i]? with
    | none => rw [hhi] at hi; cases hi
    | some ci =>
      cases hhj : h[j]? with
      | none => rw [hhj] at hj; cases hj
      | some cj =>
        rw [hhi] at hi; rw [hhj] at hj
        cases hi; cases hj
        have h9 : b + i = b + j := hpq
        omega
  · unfold go_w at hk
    rw [List.getElem?_mapIdx] at hk
    cases hhk : h[k]? with
    | none => rw [hhk] at hk; cases hk
    | some c =>
      rw [hhk] at hk
      cases hk
      exact Nat.le_add_right _ _
theorem go_v_cat (b : Nat) (v : Value) : (go_v b v).category = v.category := by cases v <;> rfl
/-- the classes whose objects the heap holds -/
abbrev go_cl : List vw_C := [(RX0, TX0, 12), (RX1, TX1, 3), (RX2, TX2, 2), (RX3, TX3, 1), (RX4, TX4, 4), (RX5, TX5, 5), (RX6, TX6, 7), (RX7, TX7, 4), (RX8, TX8, 13), (RX9, TX9, 45)]
def go_tyOf (ci : Nat) : Nat → FieldType := match ci with
  | 0 => tyX0 | 1 => tyX1 | 2 => tyX2 | 3 => tyX3 | 4 => tyX4 | 5 => tyX5 | 6 => tyX6 | 7 => tyX7 | 8 => tyX8 | _ => tyX9
/-- the types of the arrays that the heap holds -/
def go_ty (kap : FieldType → ClassId) : List (ClassId × FieldType) := [(kap .int, .int), (kap .long, .long), (kap .boolean, .boolean), (kap .char, .char), (kap .double, .double), (kap (.object RX2), .object RX2)]
/-- the good words of the tables -/
def go_gw : List Cond := lw_tbl.filter goodWord
theorem go_in {w : Cond} (h : w ∈ lw_tbl) (hg : goodWord w = true) : w ∈ go_gw := List.mem_filter.mpr ⟨h, hg⟩
theorem go_it (i : Nat) {w : Cond} (h : tables_1[i]? = some w) (hg : goodWord w = true) : w ∈ go_gw := go_in (List.mem_append_right _ (List.mem_of_getElem? h)) hg
theorem go_ip (i : Nat) {w : Cond} (h : (k2_sels lw_privs)[i]? = some w) (hg : goodWord w = true) : w ∈ go_gw := go_in (List.mem_append_left _ (List.mem_of_getElem? h)) hg
theorem go_good {w : Cond} (h : w ∈ go_gw) : (w.onTables && w.keeps) = true ∨ ∃ ty, w = .arrayClass ty := good_of_word (List.mem_filter.mp h).2
theorem go_GI {w : Cond} (h : w ∈ go_gw) : GoodIn go_gw (w :: go_gw) := fun w' hw => by
  rcases List.mem_cons.mp hw with rfl | hw
  · exact ⟨h, go_good h⟩
  · exact ⟨hw, go_good hw⟩
theorem go_GI0 : GoodIn go_gw go_gw := fun w' hw => ⟨hw, go_good hw⟩
abbrev go_M : Type := String × MethodName × ByteArray × Nat × Option FieldType × List (Nat × Nat × Nat × Nat) × Room
abbrev go_M.own (M : go_M) : String := M.1
abbrev go_M.y (M : go_M) : MethodName := M.2.1
abbrev go_M.code (M : go_M) : ByteArray := M.2.2.1
abbrev go_M.nL (M : go_M) : Nat := M.2.2.2.1
abbrev go_M.ret (M : go_M) : Option FieldType := M.2.2.2.2.1
abbrev go_M.hh (M : go_M) : List (Nat × Nat × Nat × Nat) := M.2.2.2.2.2.1
abbrev go_M.rm (M : go_M) : Room := M.2.2.2.2.2.2
def go_w0 (M : go_M) : Cond := if M.hh = [] then .code M.y M.code M.nL M.ret else .codeWith M.y M.code M.nL M.ret M.hh
/-- a field by its link: the class's number, the slot -/
def go_F (own : String) (idx ci j : Nat) : Prop := ∃ q : vw_C, go_cl[ci]? = some q ∧ j < q.2.2 ∧ Cond.fieldLink own idx (q.2.1 j).1 (q.2.1 j).2.1 (q.2.1 j).2.2.1 ∈ go_gw
theorem go_Fof {own : String} {idx ci j : Nat} (q : vw_C) (hq : go_cl[ci]? = some q) (hj : j < q.2.2) (hw : Cond.fieldLink own idx (q.2.1 j).1 (q.2.1 j).2.1 (q.2.1 j).2.2.1 ∈ go_gw) : go_F own idx ci j := ⟨q, hq, hj, hw⟩
theorem go_c1 (i : Nat) {w : Cond} (h : tables_1_1[i]? = some w) (hg : goodWord w = true) : w ∈ go_gw := go_in (List.mem_append_right _ (List.mem_append_left _ (List.mem_of_getElem? h))) hg
theorem go_c2 (i : Nat) {w : Cond} (h : tables_1_2[i]? = some w) (hg : goodWord w = true) : w ∈ go_gw := go_in (List.mem_append_right _ (List.mem_append_right _ (List.mem_append_left _ (List.mem_of_getElem? h)))) hg
theorem go_c3 (i : Nat) {w : Cond} (h : tables_1_3[i]? = some w) (hg : goodWord w = true) : w ∈ go_gw := go_in (List.mem_append_right _ (List.mem_append_right _ (List.mem_append_right _ (List.mem_append_left _ (List.mem_of_getElem? h))))) hg
theorem go_c4 (i : Nat) {w : Cond} (h : tables_1_4[i]? = some w) (hg : goodWord w = true) : w ∈ go_gw := go_in (List.mem_append_right _ (List.mem_append_right _ (List.mem_append_right _ (List.mem_append_right _ (List.mem_append_left _ (List.mem_of_getElem? h)))))) hg
theorem go_c5 (i : Nat) {w : Cond} (h : tables_1_5[i]? = some w) (hg : goodWord w = true) : w ∈ go_gw := go_in (List.mem_append_right _ (List.mem_append_right _ (List.mem_append_right _ (List.mem_append_right _ (List.mem_append_right _ (List.mem_append_left _ (List.mem_of_getElem? h))))))) hg
theorem go_c6 (i : Nat) {w : Cond} (h : tables_1_6[i]? = some w) (hg : goodWord w = true) : w ∈ go_gw := go_in (List.mem_append_right _ (List.mem_append_right _ (List.mem_append_right _ (List.mem_append_right _ (List.mem_append_right _ (List.mem_append_right _ (List.mem_append_left _ (List.mem_of_getElem? h)))))))) hg
theorem go_c7 (i : Nat) {w : Cond} (h : tables_1_7[i]? = some w) (hg : goodWord w = true) : w ∈ go_gw := go_in (List.mem_append_right _ (List.mem_append_right _ (List.mem_append_right _ (List.mem_append_right _ (List.mem_append_right _ (List.mem_append_right _ (List.mem_append_right _ (List.mem_of_getElem? h)))))))) hg
