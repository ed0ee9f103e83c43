section GN
variable {M : go_M} {x : Bool} {Q : go_Q} {cl sl pc : Nat} {ls : List (Nat × Value)} {st : List Value} {h : go_H}
def go_df (ci N : Nat) : List Value := (List.range N).map (fun j => defaultValue (go_tyOf ci j))
theorem go_v_df (b : Nat) (t : FieldType) : go_v b (defaultValue t) = defaultValue t := by cases t <;> rfl
theorem go_P.push {b : Nat} {kap : FieldType → ClassId} {D : va_G} {H H1 : Heap} {c : go_C} (hP : go_P true b kap D h H) (hat : va_at D go_cl (b + h.length, go_e b kap c) H1) (hz : H1.size = H.size + 1) (ho : ∀ q, q < H.size → H1[q]? = H[q]?) : go_P true b kap D (h ++ [c]) H1 := by
  have hsz := hP.2.2 rfl
  refine ⟨?_, by rw [hz, hsz, List.length_append]; simp; omega, fun _ => by rw [hz, hsz, List.length_append]; simp; omega⟩
  rw [go_w_app]
  refine (hP.1.kept (fun k q hk => ho q.1 ((hP.1 k q hk).lt))).app (fun k q hk => ?_)
  have hz9 : k < 1 := (List.getElem?_eq_some_iff.mp hk).1
  rw [show k = 0 by omega] at hk
  cases hk
  exact hat
theorem go_S.push {b : Nat} {H0 H H1 : Heap} {locs : List Loc} (hS : va_S (fun q => b ≤ q) H0 H locs) (hz : H1.size = H.size + 1) (ho : ∀ q, q < H.size → H1[q]? = H[q]?) : va_S (fun q => b ≤ q) H0 H1 locs :=
  ⟨Nat.le_trans hS.1 (by omega), fun q h1 h2 => (ho q (Nat.lt_of_lt_of_le h1 hS.1)).trans (hS.2.1 q h1 h2), hS.2.2⟩
/-- a new object -/
theorem go_new (n : Nat) {idx ci : Nat} {q : vw_C} (fs : List Value) (hd : decode M.code pc = .ok (.new idx, 3)) (hn : pc + 3 = n) (hq : go_cl[ci]? = some q) (w1 : Cond.classLink M.own idx q.1 ∈ go_gw) (w2 : Cond.instantiable q.1 q.2.2 ∈ go_gw) (w3 : Cond.initialized q.1 ∈ go_gw) (hfs : go_df ci q.2.2 = fs) (h1 : cl + 1 ≤ M.rm.cells) (h2 : sl + q.2.2 ≤ M.rm.slots) (k9 : Go M true Q (cl + 1) (sl + q.2.2) n ls (.ref h.length :: st) (h ++ [.inr (ci, fs)])) : Go M true Q cl sl pc ls st h := by
  subst hn; subst hfs
  intro p l e s m args below meth c b kap D H locs ks hX hP hS hl
  have hX9 := hX
  obtain ⟨hx, hb, hml, hown, hts, hr, hlk, hnt, hK, hnm, htb⟩ := hX9
  have hKn := hK.1.1 ci _ hq
  have hfix := go_fix hq
  have hsz := hP.2.2 rfl
  refine W.newcK hx hb hown (hts _ w1) (hts _ w2) (hts _ w3) rfl hd h1 h2 hKn.2.1 hsz fun H1 kC hkC e1 z1 o1 => ?_
  have hz : H1.size = H.size + 1 := by omega
  have ho : ∀ q, q < H.size → H1[q]? = H[q]? := fun q hq => o1 q (by omega)
  refine k9 p l e s m args below meth c b kap D H1 locs ks hX (hP.push ?_ hz ho) (go_S.push hS hz ho) hl
  refine ⟨_, hq, (u_born (go_tyOf ci) hts hfix.1 hKn hkC e1 hfix.2.1).to (fun j hj => ?_)⟩
  unfold vp_V go_df
  simp [hj, go_v_df]
/-- a new array -/
theorem go_newa (n : Nat) {atype : ArrayType} (ty : FieldType) (t0 N : Nat) (a0 : vp_A) {i : Int32} (hd : decode M.code pc = .ok (.newarray atype, 2)) (hn : pc + 2 = n) (hty : newarray.typeOf atype = ty) (hno : ∀ C, ty ≠ .object C) (w1 : Cond.arrayClass ty ∈ go_gw) (ht : ∀ kap, (go_ty kap)[t0]? = some (kap ty, ty)) (ha : ∀ (b : Nat) (cA : ClassId), vp_cell cA (go_a b a0) = arrV cA N (fun _ => defaultValue ty)) (hi : ¬ i < 0) (hN : i.toNatClampNeg = N) (hby : N * componentBytes ty ≤ 536870912) (h1 : cl + 1 ≤ M.rm.cells) (h2 : sl + N ≤ M.rm.slots) (k9 : Go M true Q (cl + 1) (sl + N) n ls (.ref h.length :: st) (h ++ [.inl (ty, a0)])) : Go M true Q cl sl pc ls (.int i :: st) h := by
  subst hn; subst hty
  intro p l e s m args below meth c b kap D H locs ks hX hP hS hl
  have hX9 := hX
  obtain ⟨hx, hb, hml, hown, hts, hr, hlk, hnt, hK, hnm, htb⟩ := hX9
  have hsz := hP.2.2 rfl
  refine va_newaK hx hb (hts _ w1) rfl hd rfl hi hN hby h1 h2 hsz fun H1 cA e1 z1 o1 hAr hNm => ?_
  have hz : H1.size = H.size + 1 := by omega
  have ho : ∀ q, q < H.size → H1[q]? = H[q]? := fun q hq => o1 q (by omega)
  have hcA : cA = kap (newarray.typeOf atype) := by
    have h9 := (hK.1.2 t0 _ (ht kap)).2
    have h8 : s.vm.findClass ("[" ++ (newarray.typeOf atype).toString) = some (kap (newarray.typeOf atype)) := by
      revert h9 hno
      generalize newarray.typeOf atype = tt
      intro hno h9
      cases tt <;> first | exact h9 | exact (hno _ rfl).elim
    exact Option.some.inj (hNm.symm.trans h8)
  subst hcA
  refine k9 p l e s m args below meth c b kap D H1 locs ks hX (hP.push ?_ hz ho) (go_S.push hS hz ho) hl
  show H1[b + h.length]? = some (vp_cell _ _)
  rw [ha]
  exact e1
/-- a new array of items -/
theorem go_newq (n : Nat) {idx : Nat} (N : Nat) {i : Int32} (hd : decode M.code pc = .ok (.anewarray idx, 3)) (hn : pc + 3 = n) (w1 : Cond.classLink M.own idx RX2 ∈ go_gw) (hi : ¬ i < 0) (hN : i.toNatClampNeg = N) (hby : N * 4 ≤ 536870912) (h1 : cl + 1 ≤ M.rm.cells) (h2 : sl + N ≤ M.rm.slots) (k9 : Go M true Q (cl + 1) (sl + N) n ls (.ref h.length :: st) (h ++ [.inl (.object RX2, N, .inr (.inr (.inr (.inr (fun _ => none)))))])) : Go M true Q cl sl pc ls (.int i :: st) h := by
  subst hn; subst hN
  intro p l e s m args below meth c b kap D H locs ks hX hP hS hl
  have hX9 := hX
  obtain ⟨hx, hb, hml, hown, hts, hr, hlk, hnt, hK, hnm, htb⟩ := hX9
  have hsz := hP.2.2 rfl
  refine W.anew hx hb hown (hts _ w1) (va_AO.use hK.2.2.2.2.2.1) rfl hd rfl hi hby h1 h2 fun cA kA comp f1 f2 f3 f4 => ?_
  obtain ⟨kA', comp', g1, g2, g3, g4⟩ := (hK.1.2 5 _ (show (go_ty kap)[5]? = some (kap (.object RX2), .object RX2) from rfl)).2
  have hcA : cA = kap (.object RX2) := Option.some.inj (f1.symm.trans g4)
  subst hcA
  generalize hH1 : H.push ({ cls := kap (.object RX2), slots := Array.replicate i.toNatClampNeg .null, vm := .none } : Cell) = H1
  have hz : H1.size = H.size + 1 := by rw [← hH1, Array.size_push]
  have e1 : H1[H.size]? = some (arrV (kap (.object RX2)) i.toNatClampNeg (fun _ => .null)) := by rw [← hH1, Array.getElem?_push_size, ← arrV_new]
  have ho : ∀ q, q < H.size → H1[q]? = H[q]? := fun q hq => by rw [← hH1, Array.getElem?_push, if_neg (Nat.ne_of_lt hq)]
  have hk := k9 p l e s m args below meth c b kap D H1 locs ks hX (hP.push (by show H1[b + h.length]? = some (vp_cell _ _); rw [← hsz]; exact e1) hz ho) (go_S.push hS hz ho) hl
  rw [hsz]
  exact hk
theorem go_aast (n : Nat) {k N v : Nat} {vs : List Value} {f : Nat → Option Nat} {i : Int32} (hd : decode M.code pc = .ok (.aastore, 1)) (hn : pc + 1 = n) (hc : h[k]? = some (.inl (.object RX2, N, .inr (.inr (.inr (.inr f)))))) (hv : h[v]? = some (.inr (2, vs))) (hi : vp_in i N) (k9 : Go M x Q cl sl n ls st (h.set k (.inl (.object RX2, N, .inr (.inr (.inr (.inr (va_up f i.toNatClampNeg (some v))))))))) : Go M x Q cl sl pc ls (.ref v :: .int i :: .ref k :: st) h := by
  subst hn
  intro p l e s m args below meth c b kap D H locs ks hX hP hS hl
  have hX9 := hX
  obtain ⟨hx, hb, hml, hown, hts, hr, hlk, hnt, hK, hnm, htb⟩ := hX9
  have hlt : i.toNatClampNeg < N := Nat.not_le.mp fun q => hi (Or.inr q)
  have h0 : ¬ i < 0 := fun q => hi (Or.inl q)
  obtain ⟨r', hr', cellV, g1, g2, g3, -⟩ := hP.1 v _ (go_w_at hv)
  have hcls := (hK.1.1 2 (RX2, TX2, 2) rfl).2
  obtain ⟨kA, comp, k1, k2, k3, -⟩ := (hK.1.2 5 _ (show (go_ty kap)[5]? = some (kap (.object RX2), .object RX2) from rfl)).2
  have hcomp : comp = D.1 2 := Option.some.inj (k3.symm.trans hcls.1)
  subst hcomp
  obtain ⟨kC, hkC, -⟩ := hcls.2
  refine W.aast hx hb (hP.1 k _ (go_w_at hc)) (fun q h => by cases h) (fun h => by cases h) k1 k2 rfl hkC ⟨h0, by show _ < (arrV _ _ _).slots.size; rw [arrV_size]; exact hlt⟩ g1 (fun q h => by rw [g3] at h; cases h) (by rw [g2]; exact hkC) (by rw [g2]; exact va_assign hcls) rfl rfl hd fun H1 e1 z oq => ?_
  refine k9 p l e s m args below meth c b kap D H1 _ ks hX (hP.set (hP.1.set go_w_D (go_w_at hc) ?_ oq) z) (hS.put z oq (Nat.le_add_right _ _)) hl
  show H1[b + k]? = some (vp_cell _ _)
  rw [e1]
  show some ((vp_cell _ (N, .inr (.inr (.inr (.inr (fun j => (f j).map (fun k => b + k))))))).setSlot _ _) = some (vp_cell _ (N, .inr (.inr (.inr (.inr (fun j => (va_up f i.toNatClampNeg (some v) j).map (fun k => b + k)))))))
  rw [vp_cell_q, vp_cell_q, arrV_store]
  congr 2
  funext q
  by_cases hq : q = i.toNatClampNeg
  · subst hq
    simp [updV, va_up, va_rf]
  · simp [updV, va_up, hq]
/-- Object.<init> -/
theorem go_obj (n : Nat) {idx k : Nat} (hd : decode M.code pc = .ok (.invokespecial idx, 3)) (hn : pc + 3 = n) (w1 : Cond.methodLink M.own idx Lib.objectInit ∈ go_gw) (w2 : Cond.instanceMethod Lib.objectInit ∈ go_gw) (w3 : Cond.code Lib.objectInit ⟨#[0xb1]⟩ 1 none ∈ go_gw) (h1 : 1 ≤ M.rm.frames) (h2 : (st.map fun v => v.category).sum + 12 ≤ M.rm.locals) (k9 : Go M x Q cl sl n ls st h) : Go M x Q cl sl pc ls (.ref k :: st) h := by
  subst hn
  intro p l e s m args below meth c b kap D H locs ks hX hP hS hl
  have hX9 := hX
  obtain ⟨hx, hb, hml, hown, hts, hr, hlk, hnt, hK, hnm, htb⟩ := hX9
  refine W.objInit hx hb hown (hts _ w1) (hts _ w2) (hts _ w3) rfl (by rw [hml]; exact hl.1) rfl hd h1 (by have h9 := go_s_cat b st; unfold go_s at h9; show 2 * 0 + ((st.map (go_v b)).map fun v => v.category).sum + 12 ≤ _; rw [h9]; omega) (k9 p l e s m args below meth c b kap D H locs ks hX hP hS hl)
theorem go_mmax (n : Nat) {idx : Nat} {a c9 : Int32} (hd : decode M.code pc = .ok (.invokestatic idx, 3)) (hn : pc + 3 = n) (w1 : Cond.methodLink M.own idx Lib.Math.max.name ∈ go_gw) (w2 : Cond.static Lib.Math.max.name ∈ go_gw) (w3 : Cond.initialized "java/lang/Math" ∈ go_gw) (w4 : Cond.code Lib.Math.max.name Lib.Math.max.code 2 (some .int) ∈ go_gw) (h1 : 1 ≤ M.rm.frames) (h2 : (st.map fun v => v.category).sum + 13 ≤ M.rm.locals) (h3 : cl ≤ M.rm.cells) (h4 : sl ≤ M.rm.slots) (k9 : Go M x Q cl sl n ls (.int (if a < c9 then c9 else a) :: st) h) : Go M x Q cl sl pc ls (.int c9 :: .int a :: st) h := by
  subst hn
  intro p l e s m args below meth c b kap D H locs ks hX hP hS hl
  have hX9 := hX
  obtain ⟨hx, hb, hml, hown, hts, hr, hlk, hnt, hK, hnm, htb⟩ := hX9
  exact va_mmax hx hb (by rw [hml]; exact hl.1.symm) hown (hts _ w1) (hts _ w2) (hts _ w3) (hts _ w4) h1 (by rw [← go_s_cat b] at h2; exact h2) h3 h4 hd (k9 p l e s m args below meth c b kap D H locs ks hX hP hS hl)
theorem go_mmin (n : Nat) {idx : Nat} {a c9 : Int32} (hd : decode M.code pc = .ok (.invokestatic idx, 3)) (hn : pc + 3 = n) (w1 : Cond.methodLink M.own idx Lib.Math.min.name ∈ go_gw) (w2 : Cond.static Lib.Math.min.name ∈ go_gw) (w3 : Cond.initialized "java/lang/Math" ∈ go_gw) (w4 : Cond.code Lib.Math.min.name Lib.Math.min.code 2 (some .int) ∈ go_gw) (h1 : 1 ≤ M.rm.frames) (h2 : (st.map fun v => v.category).sum + 13 ≤ M.rm.locals) (h3 : cl ≤ M.rm.cells) (h4 : sl ≤ M.rm.slots) (k9 : Go M x Q cl sl n ls (.int (if c9 < a then c9 else a) :: st) h) : Go M x Q cl sl pc ls (.int c9 :: .int a :: st) h := by
  subst hn
  intro p l e s m args below meth c b kap D H locs ks hX hP hS hl
  have hX9 := hX
  obtain ⟨hx, hb, hml, hown, hts, hr, hlk, hnt, hK, hnm, htb⟩ := hX9
  exact va_mmin hx hb (by rw [hml]; exact hl.1.symm) hown (hts _ w1) (hts _ w2) (hts _ w3) (hts _ w4) h1 (by rw [← go_s_cat b] at h2; exact h2) h3 h4 hd (k9 p l e s m args below meth c b kap D H locs ks hX hP hS hl)
theorem go_mmaxl (n : Nat) {idx : Nat} {a c9 : Int64} (hd : decode M.code pc = .ok (.invokestatic idx, 3)) (hn : pc + 3 = n) (w1 : Cond.methodLink M.own idx Lib.MathLoose.max_long.x ∈ go_gw) (w2 : Cond.static Lib.MathLoose.max_long.x ∈ go_gw) (w3 : Cond.initialized "java/lang/Math" ∈ go_gw) (w4 : Cond.code Lib.MathLoose.max_long.x Lib.MathLoose.max_long.code 4 (some .long) ∈ go_gw) (h1 : 1 ≤ M.rm.frames) (h2 : (st.map fun v => v.category).sum + 15 ≤ M.rm.locals) (h3 : cl ≤ M.rm.cells) (h4 : sl ≤ M.rm.slots) (k9 : Go M x Q cl sl n ls (.long (if c9 < a then a else c9) :: st) h) : Go M x Q cl sl pc ls (.long c9 :: .long a :: st) h := by
  subst hn
  intro p l e s m args below meth c b kap D H locs ks hX hP hS hl
  have hX9 := hX
  obtain ⟨hx, hb, hml, hown, hts, hr, hlk, hnt, hK, hnm, htb⟩ := hX9
  exact va_mmax_long hx hb (by rw [hml]; exact hl.1.symm) hown (hts _ w1) (hts _ w2) (hts _ w3) (hts _ w4) h1 (by rw [← go_s_cat b] at h2; exact h2) h3 h4 hd (k9 p l e s m args below meth c b kap D H locs ks hX hP hS hl)
theorem go_mminl (n : Nat) {idx : Nat} {a c9 : Int64} (hd : decode M.code pc = .ok (.invokestatic idx, 3)) (hn : pc + 3 = n) (w1 : Cond.methodLink M.own idx Lib.MathLoose.min_long.x ∈ go_gw) (w2 : Cond.static Lib.MathLoose.min_long.x ∈ go_gw) (w3 : Cond.initialized "java/lang/Math" ∈ go_gw) (w4 : Cond.code Lib.MathLoose.min_long.x Lib.MathLoose.min_long.code 4 (some .long) ∈ go_gw) (h1 : 1 ≤ M.rm.frames) (h2 : (st.map fun v => v.category).sum + 15 ≤ M.rm.locals) (h3 : cl ≤ M.rm.cells) (h4 : sl ≤ M.rm.slots) (k9 : Go M x Q cl sl n ls (.long (if c9 < a then c9 else a) :: st) h) : Go M x Q cl sl pc ls (.long c9 :: .long a :: st) h := by
  subst hn
  intro p l e s m args below meth c b kap D H locs ks hX hP hS hl
  have hX9 := hX
  obtain ⟨hx, hb, hml, hown, hts, hr, hlk, hnt, hK, hnm, htb⟩ := hX9
  exact va_mmin_long hx hb (by rw [hml]; exact hl.1.symm) hown (hts _ w1) (hts _ w2) (hts _ w3) (hts _ w4) h1 (by rw [← go_s_cat b] at h2; exact h2) h3 h4 hd (k9 p l e s m args below meth c b kap D H locs ks hX hP hS hl)
theorem go_copy (n : Nat) {idx k0 k1 n0 n1 : Nat} {f g : Nat → Int32} {sp dp n9 : Int32} (hd : decode M.code pc = .ok (.invokestatic idx, 3)) (hn : pc + 3 = n) (w1 : Cond.methodLink M.own idx arraycopyName ∈ go_gw) (w2 : Cond.native arraycopyName ∈ go_gw) (w3 : Cond.static arraycopyName ∈ go_gw) (w4 : Cond.initialized "java/lang/System" ∈ go_gw) (hc0 : h[k0]? = some (.inl (.int, n0, .inl f))) (hc1 : h[k1]? = some (.inl (.int, n1, .inl g))) (h1 : ¬ sp < 0) (h2 : ¬ dp < 0) (h3 : ¬ n9 < 0) (h4 : sp.toNatClampNeg + n9.toNatClampNeg ≤ n0) (h5 : dp.toNatClampNeg + n9.toNatClampNeg ≤ n1) (h6 : 1 ≤ M.rm.frames) (h7 : (st.map fun v => v.category).sum + (nativeFrameWords "java/lang/System" "arraycopy" 5 + 11) ≤ M.rm.locals)
    (k9 : Go M false Q cl sl n ls st (h.set k1 (.inl (.int, n1, .inl (va_cpy f g sp.toNatClampNeg dp.toNatClampNeg n9.toNatClampNeg))))) : Go M false Q cl sl pc ls (.int n9 :: .int dp :: .ref k1 :: .int sp :: .ref k0 :: st) h := by
  subst hn
  intro p l e s m args below meth c b kap D H locs ks hX hP hS hl
  have hX9 := hX
  obtain ⟨hx, hb, hml, hown, hts, hr, hlk, hnt, hK, hnm, htb⟩ := hX9
  exact va_copyi hx hb (by rw [hml]; exact hl.1.symm) hown (hts _ w1) (hts _ w2) (hts _ w3) (hts _ w4) hK.1 hP.1 go_w_D hS k0 k1 0 0 (go_w_at hc0) (go_w_at hc1) rfl rfl rfl h1 h2 h3 h4 h5 (fun _ _ => rfl) h6 (by rw [← go_s_cat b] at h7; exact h7) hd (fun H1 locs1 p1 _ s1 => k9 p l e s m args below meth c b kap D H1 locs1 ks hX (go_set hK s1 p1) s1 hl)
end GN
section GT
variable {M : go_M} {x : Bool} {Po : Option Value → go_H → Prop} {Px : String → go_H → Prop} {cl sl pc : Nat} {ls : List (Nat × Value)} {st : List Value} {h : go_H}
abbrev go_names : List String := ["java/lang/RuntimeException", "java/lang/Exception"]
/-- the words of a throw, decided once for each class that is thrown -/
def go_T (own : String) (ik ic : Nat) (E : String) : Prop := Bundle.fit E = true ∧ (∀ n ∈ go_names, Bundle.fit n = true) ∧ Cond.classLink own ik E ∈ go_gw ∧ Cond.initialized E ∈ go_gw ∧ E ∈ go_exc ∧ ∀ w ∈ vx_atS own ic E go_names, w ∈ go_gw ∨ w = Cond.castable E E ∨ ∃ y ∈ go_dec, w = .declares y
theorem go_ot {w : Cond} (h : w ∈ go_gw) : vx_ot w = true := by
  unfold vx_ot
  rw [(List.mem_filter.mp h).2]
  simp
theorem go_throw {ik is ic : Nat} (E text : String) (d0 : decode M.code pc = .ok (.new ik, 3)) (d3 : decode M.code (pc + 3) = .ok (.dup, 1)) (d4 : decode M.code (pc + 4) = .ok (.ldc is, 2)) (d6 : decode M.code (pc + 6) = .ok (.invokespecial ic, 3)) (d9 : decode M.code (pc + 9) = .ok (.athrow, 1)) (hh : M.hh = []) (hT : go_T M.own ik ic E) (hstr : (M.own, is, text) ∈ go_str) (h1 : 5 < M.rm.frames) (h2 : (st.map fun v => v.category).sum + 82 ≤ M.rm.locals) (h3 : cl + 1 ≤ M.rm.cells) (h4 : sl + 6 ≤ M.rm.slots) (hpx : Px E h) : Go M x (go_Qm M x Po Px) cl sl pc ls st h := by
  intro p l e s m args below meth c b kap D H locs ks hX hP hS hl
  have hX9 := hX
  obtain ⟨hx, hb, hml, hown, hts, hr, hlk, hnt, hK, hnm, htb⟩ := hX9
  obtain ⟨hf1, hf2, w1, w2, hE9, w3⟩ := hT
  have w4 : ∀ w ∈ vx_atS M.own ic E go_names, w.before args s = true := fun w hw => (w3 w hw).elim (fun q => hts w q) (fun q => q.elim (fun q => by rw [q]; exact (hK.2.2.2.2.2.2.2.1 E hE9).word) (fun ⟨y, hy, q⟩ => by rw [q]; exact va_Nw.use rfl (hK.2.2.2.2.2.2.2.2.1 y hy)))
  obtain ⟨sa, hsa⟩ := hK.2.2.2.1 _ hstr
  refine vx_throwS (names := go_names) (text := text) (sa := sa) (A := fun q => b ≤ q) hx hb hnt hown hf1 hf2 (hts _ w1) (hts _ w2) hsa w4 (fun w hw => ?_) hK.2.1 hK.2.2.1 hS (by rw [hml]; exact hl.1) d0 d3 d4 d6 d9 (fun z hz => ?_) h1 (by rw [go_s_cat]; exact h2) h3 h4 hlk (fun t hal hz hk => ?_) hS.2.2 h3 h4
  · rcases List.mem_cons.mp hw with rfl | hw
    · exact go_ot w1
    · rcases List.mem_cons.mp hw with rfl | hw
      · exact go_ot w2
      · exact (w3 w hw).elim go_ot (fun q => q.elim (fun q => by rw [q]; rfl) (fun ⟨y, hy, q⟩ => by rw [q]; rfl))
  · rw [htb, hh] at hz
    cases hz
  · refine ⟨⟨h, hpx, ⟨hP.1.kept (fun k q hq => hk q.1 ((hP.1 k q hq).lt)), Nat.le_trans hP.2.1 hz, fun q => by cases q⟩⟩, Nat.le_trans hS.1 hz, fun q h1 h2 => (hk q (Nat.lt_of_lt_of_le h1 hS.1)).trans (hS.2.1 q h1 h2)⟩
theorem go_throwW {ik is ic : Nat} (E text : String) (d0 : decode M.code pc = .ok (.new ik, 3)) (d3 : decode M.code (pc + 3) = .ok (.dup, 1)) (d4 : decode M.code (pc + 4) = .ok (.ldc_w is, 3)) (d6 : decode M.code (pc + 7) = .ok (.invokespecial ic, 3)) (d9 : decode M.code (pc + 10) = .ok (.athrow, 1)) (hh : M.hh = []) (hT : go_T M.own ik ic E) (hstr : (M.own, is, text) ∈ go_str) (h1 : 5 < M.rm.frames) (h2 : (st.map fun v => v.category).sum + 82 ≤ M.rm.locals) (h3 : cl + 1 ≤ M.rm.cells) (h4 : sl + 6 ≤ M.rm.slots) (hpx : Px E h) : Go M x (go_Qm M x Po Px) cl sl pc ls st h := by
  intro p l e s m args below meth c b kap D H locs ks hX hP hS hl
  have hX9 := hX
  obtain ⟨hx, hb, hml, hown, hts, hr, hlk, hnt, hK, hnm, htb⟩ := hX9
  obtain ⟨hf1, hf2, w1, w2, hE9, w3⟩ := hT
  have w4 : ∀ w ∈ vx_atS M.own ic E go_names, w.before args s = true := fun w hw => (w3 w hw).elim (fun q => hts w q) (fun q => q.elim (fun q => by rw [q]; exact (hK.2.2.2.2.2.2.2.1 E hE9).word) (fun ⟨y, hy, q⟩ => by rw [q]; exact va_Nw.use rfl (hK.2.2.2.2.2.2.2.2.1 y hy)))
  obtain ⟨sa, hsa⟩ := hK.2.2.2.1 _ hstr
  refine vx_throwSW (names := go_names) (text := text) (sa := sa) (A := fun q => b ≤ q) hx hb hnt hown hf1 hf2 (hts _ w1) (hts _ w2) hsa w4 (fun w hw => ?_) hK.2.1 hK.2.2.1 hS (by rw [hml]; exact hl.1) d0 d3 d4 d6 d9 (fun z hz => ?_) h1 (by rw [go_s_cat]; exact h2) h3 h4 hlk (fun t hal hz hk => ?_) hS.2.2 h3 h4
  · rcases List.mem_cons.mp hw with rfl | hw
    · exact go_ot w1
    · rcases List.mem_cons.mp hw with rfl | hw
      · exact go_ot w2
      · exact (w3 w hw).elim go_ot (fun q => q.elim (fun q => by rw [q]; rfl) (fun ⟨y, hy, q⟩ => by rw [q]; rfl))
  · rw [htb, hh] at hz
    cases hz
  · refine ⟨⟨h, hpx, ⟨hP.1.kept (fun k q hq => hk q.1 ((hP.1 k q hq).lt)), Nat.le_trans hP.2.1 hz, fun q => by cases q⟩⟩, Nat.le_trans hS.1 hz, fun q h1 h2 => (hk q (Nat.lt_of_lt_of_le h1 hS.1)).trans (hS.2.1 q h1 h2)⟩
/-- caught, and answered: astore_n; iconst; ireturn -/
theorem go_catch {E nm : String} {j : Fin 4} {i : Int} {v : Int32} (pre : List ExceptionTableEntry) (z : ExceptionTableEntry) (suf : List ExceptionTableEntry) (hsp : tableOf M.hh = pre ++ z :: suf) (hpass : ∀ y ∈ pre, y.catchType ≠ 0 ∧ ∃ nm' : String, Cond.classLink M.own y.catchType nm' ∈ go_gw ∧ (E, nm') ∈ go_nc) (hcov : covers z pc = true) (h0 : z.catchType ≠ 0) (w1 : Cond.classLink M.own z.catchType nm ∈ go_gw) (w2 : E ∈ go_exc) (w29 : nm = E)
    (d1 : decode M.code z.handlerPc = .ok (.astore_n j, 1)) (hj : (j : Nat) < M.nL) (d2 : decode M.code (z.handlerPc + 1) = .ok (.iconst i, 1)) (hv : Int32.ofInt i = v) (d3 : decode M.code (z.handlerPc + 2) = .ok (.ireturn, 1)) (hrt : M.ret = some .int) (h1 : cl ≤ M.rm.cells) (h2 : sl ≤ M.rm.slots) (hpo : Po (some (.int v)) h) : GoX M (go_Qm M false Po Px) cl sl pc ls st E h := by
  intro p l e s m args below meth c b kap D H locs ks q9 ce hX hP hS hl hce hcv hcl
  obtain ⟨hx, hb, hml, hown, hts, hr, hlk, hnt, hK, hnm, htb⟩ := hX
  refine vx_catch hown pre z suf (htb.trans hsp) (fun y hy => ?_) hcov h0 (hts _ w1) (by rw [w29]; exact (hK.2.2.2.2.2.2.2.1 E w2).word) hce hcv hcl ?_
  · obtain ⟨g1, nm', g2, g3⟩ := hpass y hy
    exact Or.inr ⟨g1, nm', hts _ g2, hK.2.2.2.2.2.2.1 _ g3⟩
  refine lv_astore_n hx hb d1 rfl hl hj rfl (fun ks2 hl2 => ?_)
  refine lv_iconst hx hb d2 hv ?_
  refine vx_ret (W.widen h1 h2 ?_)
  exact W.iret (v := v) hx hb (hr.trans hrt) (fun t ht hW => ⟨⟨some (.int v), h, rfl, hpo, by rw [ht]; exact hP⟩, hS.F ht⟩) hS.2.2 d3
/-- .. in a local past the fourth -/
theorem go_catchL {E nm : String} {j : Nat} {i : Int} {v : Int32} (pre : List ExceptionTableEntry) (z : ExceptionTableEntry) (suf : List ExceptionTableEntry) (hsp : tableOf M.hh = pre ++ z :: suf) (hpass : ∀ y ∈ pre, y.catchType ≠ 0 ∧ ∃ nm' : String, Cond.classLink M.own y.catchType nm' ∈ go_gw ∧ (E, nm') ∈ go_nc) (hcov : covers z pc = true) (h0 : z.catchType ≠ 0) (w1 : Cond.classLink M.own z.catchType nm ∈ go_gw) (w2 : E ∈ go_exc) (w29 : nm = E)
    (d1 : decode M.code z.handlerPc = .ok (.astore j, 2)) (hj : j < M.nL) (d2 : decode M.code (z.handlerPc + 2) = .ok (.iconst i, 1)) (hv : Int32.ofInt i = v) (d3 : decode M.code (z.handlerPc + 3) = .ok (.ireturn, 1)) (hrt : M.ret = some .int) (h1 : cl ≤ M.rm.cells) (h2 : sl ≤ M.rm.slots) (hpo : Po (some (.int v)) h) : GoX M (go_Qm M false Po Px) cl sl pc ls st E h := by
  intro p l e s m args below meth c b kap D H locs ks q9 ce hX hP hS hl hce hcv hcl
  obtain ⟨hx, hb, hml, hown, hts, hr, hlk, hnt, hK, hnm, htb⟩ := hX
  refine vx_catch hown pre z suf (htb.trans hsp) (fun y hy => ?_) hcov h0 (hts _ w1) (by rw [w29]; exact (hK.2.2.2.2.2.2.2.1 E w2).word) hce hcv hcl ?_
  · obtain ⟨g1, nm', g2, g3⟩ := hpass y hy
    exact Or.inr ⟨g1, nm', hts _ g2, hK.2.2.2.2.2.2.1 _ g3⟩
  refine lv_astore hx hb d1 hl hj rfl (fun ks2 hl2 => ?_)
  refine lv_iconst hx hb d2 hv ?_
  refine vx_ret (W.widen h1 h2 ?_)
  exact W.iret (v := v) hx hb (hr.trans hrt) (fun t ht hW => ⟨⟨some (.int v), h, rfl, hpo, by rw [ht]; exact hP⟩, hS.F ht⟩) hS.2.2 d3
/-- the entry of a method with handlers -/
theorem go_enterH (a : List Value) (ls : List (Nat × Value)) (hy : plainName M.y.cls = true) (hown9 : M.y.cls = M.own) (hh : M.hh ≠ []) (hlen : (lg_sl a).length ≤ M.nL) (hls : lv_args 0 a = ls) (k : Go M x (go_Qm M x Po Px) 0 0 0 ls [] h) : go_Ct M x a h Po Px := by
  intro l b kap D hnt
  refine vx_ofWH (cc := M.code) (maxL := M.nL) (ret := M.ret) (hh := M.hh) (ws' := go_gw) hy (by unfold go_ws go_w0; rw [if_neg hh]) ?_
  intro p e s m args below meth c s₁ B hml hv
  obtain ⟨rfl, hK, hP⟩ := hv
  have hts := atoms_spec (ws := go_ws M) B.pre
  have htab := vx_table (x := M.y) B (by rw [← go_w0_n hh]; exact hts _ List.mem_cons_self)
  have hown : s.vm.findClass M.own = some m.cls := hown9 ▸ findClass_of_methodNamed B.named
  have hl := lv_entry (go_s b a) (n := M.nL) (by rw [go_sl_len]; exact hlen)
  rw [lg_entry_eq]
  rw [go_args, hls] at hl
  exact k p l e s m _ below meth c b kap D s.heap [] _ ⟨B.exec, B.bytes, hml, hown, fun w hw => hts w (List.mem_cons_of_mem _ hw), B.returns, B.notSynchronized, hnt, hK, (name_of_methodNamed B.named B.method).1, htab⟩ hP va_S.rf hl
end GT
