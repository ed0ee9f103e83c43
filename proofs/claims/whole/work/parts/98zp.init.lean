theorem ap_at {g R : go_H} {c0 : go_C} : (g ++ c0 :: R)[g.length]? = some c0 := by simp
theorem ap_set {g R : go_H} {c0 c1 : go_C} : (g ++ c0 :: R).set g.length c1 = g ++ c1 :: R := by simp
theorem ap_len {g R : go_H} {c0 : go_C} {m : Nat} (hm : R.length + 1 = m) : (g ++ c0 :: R).length = g.length + m := by rw [List.length_append, List.length_cons, hm]
theorem ap_app {g R S : go_H} {c0 : go_C} : (g ++ c0 :: R) ++ S = g ++ c0 :: (R ++ S) := by simp
section GI
variable {M M' : go_M} {Q : go_Q} {cl sl pc : Nat} {ls : List (Nat × Value)} {st : List Value} {g R : go_H} {c0 : go_C}
theorem gi_new (n m : Nat) {idx ci : Nat} {q : vw_C} (fs : List Value) (hm : R.length + 1 = m) (hd : decode M.code pc = .ok (.new idx, 3)) (hn : pc + 3 = n) (hq : go_cl[ci]? = some q) (w1 : Cond.classLink M.own idx q.1 ∈ go_gw) (w2 : Cond.instantiable q.1 q.2.2 ∈ go_gw) (w3 : Cond.initialized q.1 ∈ go_gw) (hfs : go_df ci q.2.2 = fs) (h1 : cl + 1 ≤ M.rm.cells) (h2 : sl + q.2.2 ≤ M.rm.slots) (k9 : Go M true Q (cl + 1) (sl + q.2.2) n ls (.ref (g.length + m) :: st) (g ++ c0 :: (R ++ [.inr (ci, fs)]))) : Go M true Q cl sl pc ls st (g ++ c0 :: R) := by
  refine go_new n fs hd hn hq w1 w2 w3 hfs h1 h2 ?_
  rw [ap_len hm, ap_app]
  exact k9
theorem gi_newa (n m : Nat) {atype : ArrayType} (ty : FieldType) (t0 N : Nat) (a0 : vp_A) {i : Int32} (hm : R.length + 1 = m) (hd : decode M.code pc = .ok (.newarray atype, 2)) (hn : pc + 2 = n) (hty : newarray.typeOf atype = ty) (hno : ∀ C, ty ≠ .object C) (w1 : Cond.arrayClass ty ∈ go_gw) (ht : ∀ kap, (go_ty kap)[t0]? = some (kap ty, ty)) (ha : ∀ (b : Nat) (cA : ClassId), vp_cell cA (go_a b a0) = arrV cA N (fun _ => defaultValue ty)) (hi : ¬ i < 0) (hN : i.toNatClampNeg = N) (hby : N * componentBytes ty ≤ 536870912) (h1 : cl + 1 ≤ M.rm.cells) (h2 : sl + N ≤ M.rm.slots) (k9 : Go M true Q (cl + 1) (sl + N) n ls (.ref (g.length + m) :: st) (g ++ c0 :: (R ++ [.inl (ty, a0)]))) : Go M true Q cl sl pc ls (.int i :: st) (g ++ c0 :: R) := by
  refine go_newa n ty t0 N a0 hd hn hty hno w1 ht ha hi hN hby h1 h2 ?_
  rw [ap_len hm, ap_app]
  exact k9
theorem gi_newq (n m : Nat) {idx : Nat} (N : Nat) {i : Int32} (hm : R.length + 1 = m) (hd : decode M.code pc = .ok (.anewarray idx, 3)) (hn : pc + 3 = n) (w1 : Cond.classLink M.own idx RX2 ∈ go_gw) (hi : ¬ i < 0) (hN : i.toNatClampNeg = N) (hby : N * 4 ≤ 536870912) (h1 : cl + 1 ≤ M.rm.cells) (h2 : sl + N ≤ M.rm.slots) (k9 : Go M true Q (cl + 1) (sl + N) n ls (.ref (g.length + m) :: st) (g ++ c0 :: (R ++ [.inl (.object RX2, N, .inr (.inr (.inr (.inr (fun _ => none)))))]))) : Go M true Q cl sl pc ls (.int i :: st) (g ++ c0 :: R) := by
  refine go_newq n N hd hn w1 hi hN hby h1 h2 ?_
  rw [ap_len hm, ap_app]
  exact k9
theorem gi_put (n : Nat) {idx ci j : Nat} {fs : List Value} (fs2 : List Value) {v : Value} (hd : decode M.code pc = .ok (.putfield idx, 3)) (hn : pc + 3 = n) (hF : go_F M.own idx ci j) (hl9 : j < fs.length) (hfin : ∀ q : vw_C, go_cl[ci]? = some q → (q.2.1 j).2.2.2 = false) (hna : narrow (go_tyOf ci j) v = v) (hfi : fits (go_tyOf ci j) v = true) (hnr : ∀ b, go_v b v = v) (h2 : fs.set j v = fs2) (k9 : Go M true Q cl sl n ls st (g ++ .inr (ci, fs2) :: R)) : Go M true Q cl sl pc ls (v :: .ref g.length :: st) (g ++ .inr (ci, fs) :: R) := by
  refine go_put n hd hn hF ap_at hl9 hfin hna hfi hnr ?_
  rw [ap_set, h2]
  exact k9
theorem gi_putF (n : Nat) {idx ci j : Nat} {fs : List Value} (fs2 : List Value) {v : Value} (hd : decode M.code pc = .ok (.putfield idx, 3)) (hn : pc + 3 = n) (hF : go_F M.own idx ci j) (hl9 : j < fs.length) (hfin : ∀ q : vw_C, go_cl[ci]? = some q → (q.2.1 j).2.2.2 = true ∧ (q.2.1 j).1 = M.own) (hin : M.y.name = "<init>") (hna : ∀ b, narrow (go_tyOf ci j) (go_v b v) = go_v b v) (hfi : ∀ b, fits (go_tyOf ci j) (go_v b v) = true) (h2 : fs.set j v = fs2) (k9 : Go M true Q cl sl n ls st (g ++ .inr (ci, fs2) :: R)) : Go M true Q cl sl pc ls (v :: .ref g.length :: st) (g ++ .inr (ci, fs) :: R) := by
  refine go_putF n hd hn hF ap_at hl9 hfin hin hna hfi ?_
  rw [ap_set, h2]
  exact k9
/-- what a constructor makes of the last cell: contracts for every heap before it -/
def gI (M' : go_M) (c1 : go_C) (cells : Nat → go_H) : Prop := ∀ g : go_H, go_Cn M' true [.ref g.length] (g ++ [c1]) (fun v h => v = none ∧ h = g ++ cells g.length)
theorem gi_callIN (n m : Nat) (rest : List Value) {idx : Nat} {c1 : go_C} {cells : Nat → go_H} (hC : gI M' c1 cells) (hm : R.length + 1 = m) (hd : decode M.code pc = .ok (.invokespecial idx, 3)) (hn : pc + 3 = n) (hs9 : go_IN M idx M') (hpar : (parseMethodDescriptor M'.y.desc).map (fun d => d.parameters.length) = some 0) (hw : (rest.map fun v => v.category).sum ≤ 8) (h1 : cl + M'.rm.cells ≤ M.rm.cells) (h2 : sl + M'.rm.slots ≤ M.rm.slots) (k9 : Go M true Q (cl + M'.rm.cells) (sl + M'.rm.slots) n ls rest (g ++ c0 :: (R ++ cells (g.length + m)))) : Go M true Q cl sl pc ls (.ref (g.length + m) :: rest) (g ++ c0 :: (R ++ [c1])) := by
  have hC1 := hC (g ++ c0 :: R)
  rw [ap_len hm, ap_app] at hC1
  refine go_callIN n [] rest hd hn hC1 rfl hs9 hpar hw h1 h2 (fun v h' hv => ?_)
  rw [hv.1, hv.2, ap_app]
  exact k9
theorem gi_callI (n m : Nat) (rest : List Value) {idx : Nat} {c1 : go_C} {cells : Nat → go_H} (hC : gI M' c1 cells) (hm : R.length + 1 = m) (hd : decode M.code pc = .ok (.invokespecial idx, 3)) (hn : pc + 3 = n) (hs9 : go_I M idx M') (hpar : (parseMethodDescriptor M'.y.desc).map (fun d => d.parameters.length) = some 0) (hw : (rest.map fun v => v.category).sum ≤ 8) (h1 : cl + M'.rm.cells ≤ M.rm.cells) (h2 : sl + M'.rm.slots ≤ M.rm.slots) (k9 : Go M true Q (cl + M'.rm.cells) (sl + M'.rm.slots) n ls rest (g ++ c0 :: (R ++ cells (g.length + m)))) : Go M true Q cl sl pc ls (.ref (g.length + m) :: rest) (g ++ c0 :: (R ++ [c1])) := by
  have hC1 := hC (g ++ c0 :: R)
  rw [ap_len hm, ap_app] at hC1
  refine go_callI n [] rest hd hn hC1 rfl hs9 hpar hw h1 h2 (fun v h' hv => ?_)
  rw [hv.1, hv.2, ap_app]
  exact k9
end GI

def ce_X0 (B : Nat) : go_H := .inr (0, [.int 0, .int 0, .ref (B + 1), .ref (B + 2), .ref (B + 3), .ref (B + 4), .ref (B + 5), .ref (B + 6), .ref (B + 7), .ref (B + 8), .ref (B + 9), .ref (B + 10)]) :: (((((((((([] ++ [(.inl (.int, 24, .inl (fun _ => 0)))]) ++ [(.inl (.int, 24, .inl (fun _ => 0)))]) ++ [(.inl (.int, 24, .inl (fun _ => 0)))]) ++ [(.inl (.int, 24, .inl (fun _ => 0)))]) ++ [(.inl (.int, 24, .inl (fun _ => 0)))]) ++ [(.inl (.boolean, 24, .inl (fun _ => 0)))]) ++ [(.inl (.int, 24, .inl (fun _ => 0)))]) ++ [(.inl (.int, 24, .inl (fun _ => 0)))]) ++ [(.inl (.int, 24, .inl (fun _ => 0)))]) ++ [(.inl (.int, 24, .inl (fun _ => 0)))])
set_option maxRecDepth 100000 in
theorem ci_X0 : gI mX0_init (.inr (0, [.int 0, .int 0, .null, .null, .null, .null, .null, .null, .null, .null, .null, .null])) ce_X0 := by
  intro g
  refine go_enter [.ref g.length] [(0, .ref g.length)] (by decide +kernel) rfl rfl (Nat.le_of_ble_eq_true rfl) rfl ?_
  refine go_aload_n 1 dX0_init_0 rfl rfl ?_
  refine go_obj 4 dX0_init_1 rfl wL_RX0_3 wM_obj wC_obj (Nat.le_of_ble_eq_true rfl) (Nat.le_of_ble_eq_true rfl) ?_
  refine go_aload_n 5 dX0_init_4 rfl rfl ?_
  refine go_iconst 6 (0) dX0_init_5 rfl (by decide) ?_
  refine gi_put 9 [.int 0, .int 0, .null, .null, .null, .null, .null, .null, .null, .null, .null, .null] dX0_init_6 rfl fF_RX0_9 (Nat.le_of_ble_eq_true rfl) (fun q hq => by cases hq; rfl) rfl rfl (fun b => rfl) rfl ?_
  refine go_aload_n 10 dX0_init_9 rfl rfl ?_
  refine go_iconst 11 (0) dX0_init_10 rfl (by decide) ?_
  refine gi_put 14 [.int 0, .int 0, .null, .null, .null, .null, .null, .null, .null, .null, .null, .null] dX0_init_11 rfl fF_RX0_15 (Nat.le_of_ble_eq_true rfl) (fun q hq => by cases hq; rfl) rfl rfl (fun b => rfl) rfl ?_
  refine go_aload_n 15 dX0_init_14 rfl rfl ?_
  refine go_bipush 17 (24) dX0_init_15 rfl (by decide) ?_
  refine gi_newa 19 1 .int 0 24 (24, .inl (fun _ => 0)) rfl dX0_init_17 rfl rfl (fun C h => by cases h) wB_int (fun kap => rfl) (fun b cA => rfl) (by decide) rfl (Nat.le_of_ble_eq_true rfl) (Nat.le_of_ble_eq_true rfl) (Nat.le_of_ble_eq_true rfl) ?_
  refine gi_putF 22 [.int 0, .int 0, .ref (g.length + 1), .null, .null, .null, .null, .null, .null, .null, .null, .null] dX0_init_19 rfl fF_RX0_18 (Nat.le_of_ble_eq_true rfl) (fun q hq => by cases hq; exact ⟨rfl, rfl⟩) rfl (fun b => rfl) (fun b => rfl) rfl ?_
  refine go_aload_n 23 dX0_init_22 rfl rfl ?_
  refine go_bipush 25 (24) dX0_init_23 rfl (by decide) ?_
  refine gi_newa 27 2 .int 0 24 (24, .inl (fun _ => 0)) rfl dX0_init_25 rfl rfl (fun C h => by cases h) wB_int (fun kap => rfl) (fun b cA => rfl) (by decide) rfl (Nat.le_of_ble_eq_true rfl) (Nat.le_of_ble_eq_true rfl) (Nat.le_of_ble_eq_true rfl) ?_
  refine gi_putF 30 [.int 0, .int 0, .ref (g.length + 1), .ref (g.length + 2), .null, .null, .null, .null, .null, .null, .null, .null] dX0_init_27 rfl fF_RX0_22 (Nat.le_of_ble_eq_true rfl) (fun q hq => by cases hq; exact ⟨rfl, rfl⟩) rfl (fun b => rfl) (fun b => rfl) rfl ?_
  refine go_aload_n 31 dX0_init_30 rfl rfl ?_
  refine go_bipush 33 (24) dX0_init_31 rfl (by decide) ?_
  refine gi_newa 35 3 .int 0 24 (24, .inl (fun _ => 0)) rfl dX0_init_33 rfl rfl (fun C h => by cases h) wB_int (fun kap => rfl) (fun b cA => rfl) (by decide) rfl (Nat.le_of_ble_eq_true rfl) (Nat.le_of_ble_eq_true rfl) (Nat.le_of_ble_eq_true rfl) ?_
  refine gi_putF 38 [.int 0, .int 0, .ref (g.length + 1), .ref (g.length + 2), .ref (g.length + 3), .null, .null, .null, .null, .null, .null, .null] dX0_init_35 rfl fF_RX0_25 (Nat.le_of_ble_eq_true rfl) (fun q hq => by cases hq; exact ⟨rfl, rfl⟩) rfl (fun b => rfl) (fun b => rfl) rfl ?_
  refine go_aload_n 39 dX0_init_38 rfl rfl ?_
  refine go_bipush 41 (24) dX0_init_39 rfl (by decide) ?_
  refine gi_newa 43 4 .int 0 24 (24, .inl (fun _ => 0)) rfl dX0_init_41 rfl rfl (fun C h => by cases h) wB_int (fun kap => rfl) (fun b cA => rfl) (by decide) rfl (Nat.le_of_ble_eq_true rfl) (Nat.le_of_ble_eq_true rfl) (Nat.le_of_ble_eq_true rfl) ?_
  refine gi_putF 46 [.int 0, .int 0, .ref (g.length + 1), .ref (g.length + 2), .ref (g.length + 3), .ref (g.length + 4), .null, .null, .null, .null, .null, .null] dX0_init_43 rfl fF_RX0_28 (Nat.le_of_ble_eq_true rfl) (fun q hq => by cases hq; exact ⟨rfl, rfl⟩) rfl (fun b => rfl) (fun b => rfl) rfl ?_
  refine go_aload_n 47 dX0_init_46 rfl rfl ?_
  refine go_bipush 49 (24) dX0_init_47 rfl (by decide) ?_
  refine gi_newa 51 5 .int 0 24 (24, .inl (fun _ => 0)) rfl dX0_init_49 rfl rfl (fun C h => by cases h) wB_int (fun kap => rfl) (fun b cA => rfl) (by decide) rfl (Nat.le_of_ble_eq_true rfl) (Nat.le_of_ble_eq_true rfl) (Nat.le_of_ble_eq_true rfl) ?_
  refine gi_putF 54 [.int 0, .int 0, .ref (g.length + 1), .ref (g.length + 2), .ref (g.length + 3), .ref (g.length + 4), .ref (g.length + 5), .null, .null, .null, .null, .null] dX0_init_51 rfl fF_RX0_31 (Nat.le_of_ble_eq_true rfl) (fun q hq => by cases hq; exact ⟨rfl, rfl⟩) rfl (fun b => rfl) (fun b => rfl) rfl ?_
  refine go_aload_n 55 dX0_init_54 rfl rfl ?_
  refine go_bipush 57 (24) dX0_init_55 rfl (by decide) ?_
  refine gi_newa 59 6 .boolean 2 24 (24, .inl (fun _ => 0)) rfl dX0_init_57 rfl rfl (fun C h => by cases h) wB_boolean (fun kap => rfl) (fun b cA => rfl) (by decide) rfl (Nat.le_of_ble_eq_true rfl) (Nat.le_of_ble_eq_true rfl) (Nat.le_of_ble_eq_true rfl) ?_
  refine gi_putF 62 [.int 0, .int 0, .ref (g.length + 1), .ref (g.length + 2), .ref (g.length + 3), .ref (g.length + 4), .ref (g.length + 5), .ref (g.length + 6), .null, .null, .null, .null] dX0_init_59 rfl fF_RX0_34 (Nat.le_of_ble_eq_true rfl) (fun q hq => by cases hq; exact ⟨rfl, rfl⟩) rfl (fun b => rfl) (fun b => rfl) rfl ?_
  refine go_aload_n 63 dX0_init_62 rfl rfl ?_
  refine go_bipush 65 (24) dX0_init_63 rfl (by decide) ?_
  refine gi_newa 67 7 .int 0 24 (24, .inl (fun _ => 0)) rfl dX0_init_65 rfl rfl (fun C h => by cases h) wB_int (fun kap => rfl) (fun b cA => rfl) (by decide) rfl (Nat.le_of_ble_eq_true rfl) (Nat.le_of_ble_eq_true rfl) (Nat.le_of_ble_eq_true rfl) ?_
  refine gi_putF 70 [.int 0, .int 0, .ref (g.length + 1), .ref (g.length + 2), .ref (g.length + 3), .ref (g.length + 4), .ref (g.length + 5), .ref (g.length + 6), .ref (g.length + 7), .null, .null, .null] dX0_init_67 rfl fF_RX0_38 (Nat.le_of_ble_eq_true rfl) (fun q hq => by cases hq; exact ⟨rfl, rfl⟩) rfl (fun b => rfl) (fun b => rfl) rfl ?_
  refine go_aload_n 71 dX0_init_70 rfl rfl ?_
  refine go_bipush 73 (24) dX0_init_71 rfl (by decide) ?_
  refine gi_newa 75 8 .int 0 24 (24, .inl (fun _ => 0)) rfl dX0_init_73 rfl rfl (fun C h => by cases h) wB_int (fun kap => rfl) (fun b cA => rfl) (by decide) rfl (Nat.le_of_ble_eq_true rfl) (Nat.le_of_ble_eq_true rfl) (Nat.le_of_ble_eq_true rfl) ?_
  refine gi_putF 78 [.int 0, .int 0, .ref (g.length + 1), .ref (g.length + 2), .ref (g.length + 3), .ref (g.length + 4), .ref (g.length + 5), .ref (g.length + 6), .ref (g.length + 7), .ref (g.length + 8), .null, .null] dX0_init_75 rfl fF_RX0_41 (Nat.le_of_ble_eq_true rfl) (fun q hq => by cases hq; exact ⟨rfl, rfl⟩) rfl (fun b => rfl) (fun b => rfl) rfl ?_
  refine go_aload_n 79 dX0_init_78 rfl rfl ?_
  refine go_bipush 81 (24) dX0_init_79 rfl (by decide) ?_
  refine gi_newa 83 9 .int 0 24 (24, .inl (fun _ => 0)) rfl dX0_init_81 rfl rfl (fun C h => by cases h) wB_int (fun kap => rfl) (fun b cA => rfl) (by decide) rfl (Nat.le_of_ble_eq_true rfl) (Nat.le_of_ble_eq_true rfl) (Nat.le_of_ble_eq_true rfl) ?_
  refine gi_putF 86 [.int 0, .int 0, .ref (g.length + 1), .ref (g.length + 2), .ref (g.length + 3), .ref (g.length + 4), .ref (g.length + 5), .ref (g.length + 6), .ref (g.length + 7), .ref (g.length + 8), .ref (g.length + 9), .null] dX0_init_83 rfl fF_RX0_44 (Nat.le_of_ble_eq_true rfl) (fun q hq => by cases hq; exact ⟨rfl, rfl⟩) rfl (fun b => rfl) (fun b => rfl) rfl ?_
  refine go_aload_n 87 dX0_init_86 rfl rfl ?_
  refine go_bipush 89 (24) dX0_init_87 rfl (by decide) ?_
  refine gi_newa 91 10 .int 0 24 (24, .inl (fun _ => 0)) rfl dX0_init_89 rfl rfl (fun C h => by cases h) wB_int (fun kap => rfl) (fun b cA => rfl) (by decide) rfl (Nat.le_of_ble_eq_true rfl) (Nat.le_of_ble_eq_true rfl) (Nat.le_of_ble_eq_true rfl) ?_
  refine gi_putF 94 [.int 0, .int 0, .ref (g.length + 1), .ref (g.length + 2), .ref (g.length + 3), .ref (g.length + 4), .ref (g.length + 5), .ref (g.length + 6), .ref (g.length + 7), .ref (g.length + 8), .ref (g.length + 9), .ref (g.length + 10)] dX0_init_91 rfl fF_RX0_47 (Nat.le_of_ble_eq_true rfl) (fun q hq => by cases hq; exact ⟨rfl, rfl⟩) rfl (fun b => rfl) (fun b => rfl) rfl ?_
  refine go_return dX0_init_94 rfl (Nat.le_of_ble_eq_true rfl) (Nat.le_of_ble_eq_true rfl) ?_
  exact ⟨rfl, rfl⟩

def ce_X1 (B : Nat) : go_H := .inr (1, [.int 0, .ref (B + 1), .ref (B + 2)]) :: (([] ++ [(.inl (.int, 3, .inl (fun _ => 0)))]) ++ [(.inl (.int, 3, .inl (fun _ => 0)))])
set_option maxRecDepth 100000 in
theorem ci_X1 : gI mX1_init (.inr (1, [.int 0, .null, .null])) ce_X1 := by
  intro g
  refine go_enter [.ref g.length] [(0, .ref g.length)] (by decide +kernel) rfl rfl (Nat.le_of_ble_eq_true rfl) rfl ?_
  refine go_aload_n 1 dX1_init_0 rfl rfl ?_
  refine go_obj 4 dX1_init_1 rfl wL_RX1_3 wM_obj wC_obj (Nat.le_of_ble_eq_true rfl) (Nat.le_of_ble_eq_true rfl) ?_
  refine go_aload_n 5 dX1_init_4 rfl rfl ?_
  refine go_iconst 6 (0) dX1_init_5 rfl (by decide) ?_
  refine gi_put 9 [.int 0, .null, .null] dX1_init_6 rfl fF_RX1_9 (Nat.le_of_ble_eq_true rfl) (fun q hq => by cases hq; rfl) rfl rfl (fun b => rfl) rfl ?_
  refine go_aload_n 10 dX1_init_9 rfl rfl ?_
  refine go_iconst 11 (3) dX1_init_10 rfl (by decide) ?_
  refine gi_newa 13 1 .int 0 3 (3, .inl (fun _ => 0)) rfl dX1_init_11 rfl rfl (fun C h => by cases h) wB_int (fun kap => rfl) (fun b cA => rfl) (by decide) rfl (Nat.le_of_ble_eq_true rfl) (Nat.le_of_ble_eq_true rfl) (Nat.le_of_ble_eq_true rfl) ?_
  refine gi_putF 16 [.int 0, .ref (g.length + 1), .null] dX1_init_13 rfl fF_RX1_15 (Nat.le_of_ble_eq_true rfl) (fun q hq => by cases hq; exact ⟨rfl, rfl⟩) rfl (fun b => rfl) (fun b => rfl) rfl ?_
  refine go_aload_n 17 dX1_init_16 rfl rfl ?_
  refine go_iconst 18 (3) dX1_init_17 rfl (by decide) ?_
  refine gi_newa 20 2 .int 0 3 (3, .inl (fun _ => 0)) rfl dX1_init_18 rfl rfl (fun C h => by cases h) wB_int (fun kap => rfl) (fun b cA => rfl) (by decide) rfl (Nat.le_of_ble_eq_true rfl) (Nat.le_of_ble_eq_true rfl) (Nat.le_of_ble_eq_true rfl) ?_
  refine gi_putF 23 [.int 0, .ref (g.length + 1), .ref (g.length + 2)] dX1_init_20 rfl fF_RX1_19 (Nat.le_of_ble_eq_true rfl) (fun q hq => by cases hq; exact ⟨rfl, rfl⟩) rfl (fun b => rfl) (fun b => rfl) rfl ?_
  refine go_return dX1_init_23 rfl (Nat.le_of_ble_eq_true rfl) (Nat.le_of_ble_eq_true rfl) ?_
  exact ⟨rfl, rfl⟩

def ce_X2 (B : Nat) : go_H := .inr (2, [.int 0, .ref (B + 1)]) :: ([] ++ [(.inl (.int, 3, .inl (fun _ => 0)))])
set_option maxRecDepth 100000 in
theorem ci_X2 : gI mX2_init (.inr (2, [.int 0, .null])) ce_X2 := by
  intro g
  refine go_enter [.ref g.length] [(0, .ref g.length)] (by decide +kernel) rfl rfl (Nat.le_of_ble_eq_true rfl) rfl ?_
  refine go_aload_n 1 dX2_init_0 rfl rfl ?_
  refine go_obj 4 dX2_init_1 rfl wL_RX2_3 wM_obj wC_obj (Nat.le_of_ble_eq_true rfl) (Nat.le_of_ble_eq_true rfl) ?_
  refine go_aload_n 5 dX2_init_4 rfl rfl ?_
  refine go_iconst 6 (0) dX2_init_5 rfl (by decide) ?_
  refine gi_put 9 [.int 0, .null] dX2_init_6 rfl fF_RX2_9 (Nat.le_of_ble_eq_true rfl) (fun q hq => by cases hq; rfl) rfl rfl (fun b => rfl) rfl ?_
  refine go_aload_n 10 dX2_init_9 rfl rfl ?_
  refine go_iconst 11 (3) dX2_init_10 rfl (by decide) ?_
  refine gi_newa 13 1 .int 0 3 (3, .inl (fun _ => 0)) rfl dX2_init_11 rfl rfl (fun C h => by cases h) wB_int (fun kap => rfl) (fun b cA => rfl) (by decide) rfl (Nat.le_of_ble_eq_true rfl) (Nat.le_of_ble_eq_true rfl) (Nat.le_of_ble_eq_true rfl) ?_
  refine gi_putF 16 [.int 0, .ref (g.length + 1)] dX2_init_13 rfl fF_RX2_15 (Nat.le_of_ble_eq_true rfl) (fun q hq => by cases hq; exact ⟨rfl, rfl⟩) rfl (fun b => rfl) (fun b => rfl) rfl ?_
  refine go_return dX2_init_16 rfl (Nat.le_of_ble_eq_true rfl) (Nat.le_of_ble_eq_true rfl) ?_
  exact ⟨rfl, rfl⟩

def ce_X3 (B : Nat) : go_H := .inr (3, [.ref (B + 1)]) :: ([] ++ [(.inl (.int, 24, .inl (fun _ => 0)))])
set_option maxRecDepth 100000 in
theorem ci_X3 : gI mX3_init (.inr (3, [.null])) ce_X3 := by
  intro g
  refine go_enter [.ref g.length] [(0, .ref g.length)] (by decide +kernel) rfl rfl (Nat.le_of_ble_eq_true rfl) rfl ?_
  refine go_aload_n 1 dX3_init_0 rfl rfl ?_
  refine go_obj 4 dX3_init_1 rfl wL_RX3_3 wM_obj wC_obj (Nat.le_of_ble_eq_true rfl) (Nat.le_of_ble_eq_true rfl) ?_
  refine go_aload_n 5 dX3_init_4 rfl rfl ?_
  refine go_bipush 7 (24) dX3_init_5 rfl (by decide) ?_
  refine gi_newa 9 1 .int 0 24 (24, .inl (fun _ => 0)) rfl dX3_init_7 rfl rfl (fun C h => by cases h) wB_int (fun kap => rfl) (fun b cA => rfl) (by decide) rfl (Nat.le_of_ble_eq_true rfl) (Nat.le_of_ble_eq_true rfl) (Nat.le_of_ble_eq_true rfl) ?_
  refine gi_putF 12 [.ref (g.length + 1)] dX3_init_9 rfl fF_RX3_9 (Nat.le_of_ble_eq_true rfl) (fun q hq => by cases hq; exact ⟨rfl, rfl⟩) rfl (fun b => rfl) (fun b => rfl) rfl ?_
  refine go_return dX3_init_12 rfl (Nat.le_of_ble_eq_true rfl) (Nat.le_of_ble_eq_true rfl) ?_
  exact ⟨rfl, rfl⟩

def ce_X4 (B : Nat) : go_H := .inr (4, [.ref (B + 1), .ref (B + 2), .ref (B + 3), .int 0]) :: ((([] ++ [(.inl (.int, 24, .inl (fun _ => 0)))]) ++ [(.inl (.int, 24, .inl (fun _ => 0)))]) ++ [(.inl (.int, 24, .inl (fun _ => 0)))])
set_option maxRecDepth 100000 in
theorem ci_X4 : gI mX4_init (.inr (4, [.null, .null, .null, .int 0])) ce_X4 := by
  intro g
  refine go_enter [.ref g.length] [(0, .ref g.length)] (by decide +kernel) rfl rfl (Nat.le_of_ble_eq_true rfl) rfl ?_
  refine go_aload_n 1 dX4_init_0 rfl rfl ?_
  refine go_obj 4 dX4_init_1 rfl wL_RX4_3 wM_obj wC_obj (Nat.le_of_ble_eq_true rfl) (Nat.le_of_ble_eq_true rfl) ?_
  refine go_aload_n 5 dX4_init_4 rfl rfl ?_
  refine go_bipush 7 (24) dX4_init_5 rfl (by decide) ?_
  refine gi_newa 9 1 .int 0 24 (24, .inl (fun _ => 0)) rfl dX4_init_7 rfl rfl (fun C h => by cases h) wB_int (fun kap => rfl) (fun b cA => rfl) (by decide) rfl (Nat.le_of_ble_eq_true rfl) (Nat.le_of_ble_eq_true rfl) (Nat.le_of_ble_eq_true rfl) ?_
  refine gi_putF 12 [.ref (g.length + 1), .null, .null, .int 0] dX4_init_9 rfl fF_RX4_9 (Nat.le_of_ble_eq_true rfl) (fun q hq => by cases hq; exact ⟨rfl, rfl⟩) rfl (fun b => rfl) (fun b => rfl) rfl ?_
  refine go_aload_n 13 dX4_init_12 rfl rfl ?_
  refine go_bipush 15 (24) dX4_init_13 rfl (by decide) ?_
  refine gi_newa 17 2 .int 0 24 (24, .inl (fun _ => 0)) rfl dX4_init_15 rfl rfl (fun C h => by cases h) wB_int (fun kap => rfl) (fun b cA => rfl) (by decide) rfl (Nat.le_of_ble_eq_true rfl) (Nat.le_of_ble_eq_true rfl) (Nat.le_of_ble_eq_true rfl) ?_
  refine gi_putF 20 [.ref (g.length + 1), .ref (g.length + 2), .null, .int 0] dX4_init_17 rfl fF_RX4_15 (Nat.le_of_ble_eq_true rfl) (fun q hq => by cases hq; exact ⟨rfl, rfl⟩) rfl (fun b => rfl) (fun b => rfl) rfl ?_
  refine go_aload_n 21 dX4_init_20 rfl rfl ?_
  refine go_bipush 23 (24) dX4_init_21 rfl (by decide) ?_
  refine gi_newa 25 3 .int 0 24 (24, .inl (fun _ => 0)) rfl dX4_init_23 rfl rfl (fun C h => by cases h) wB_int (fun kap => rfl) (fun b cA => rfl) (by decide) rfl (Nat.le_of_ble_eq_true rfl) (Nat.le_of_ble_eq_true rfl) (Nat.le_of_ble_eq_true rfl) ?_
  refine gi_putF 28 [.ref (g.length + 1), .ref (g.length + 2), .ref (g.length + 3), .int 0] dX4_init_25 rfl fF_RX4_18 (Nat.le_of_ble_eq_true rfl) (fun q hq => by cases hq; exact ⟨rfl, rfl⟩) rfl (fun b => rfl) (fun b => rfl) rfl ?_
  refine go_aload_n 29 dX4_init_28 rfl rfl ?_
  refine go_iconst 30 (0) dX4_init_29 rfl (by decide) ?_
  refine gi_put 33 [.ref (g.length + 1), .ref (g.length + 2), .ref (g.length + 3), .int 0] dX4_init_30 rfl fF_RX4_21 (Nat.le_of_ble_eq_true rfl) (fun q hq => by cases hq; rfl) rfl rfl (fun b => rfl) rfl ?_
  refine go_return dX4_init_33 rfl (Nat.le_of_ble_eq_true rfl) (Nat.le_of_ble_eq_true rfl) ?_
  exact ⟨rfl, rfl⟩

def ce_X6 (B : Nat) : go_H := .inr (6, [.int 0, .ref (B + 1), .ref (B + 2), .ref (B + 3), .ref (B + 4), .ref (B + 5), .ref (B + 6)]) :: (((((([] ++ [(.inl (.int, 24, .inl (fun _ => 0)))]) ++ [(.inl (.int, 24, .inl (fun _ => 0)))]) ++ [(.inl (.int, 24, .inl (fun _ => 0)))]) ++ [(.inl (.int, 24, .inl (fun _ => 0)))]) ++ [(.inl (.int, 24, .inl (fun _ => 0)))]) ++ [(.inl (.int, 24, .inl (fun _ => 0)))])
set_option maxRecDepth 100000 in
theorem ci_X6 : gI mX6_init (.inr (6, [.int 0, .null, .null, .null, .null, .null, .null])) ce_X6 := by
  intro g
  refine go_enter [.ref g.length] [(0, .ref g.length)] (by decide +kernel) rfl rfl (Nat.le_of_ble_eq_true rfl) rfl ?_
  refine go_aload_n 1 dX6_init_0 rfl rfl ?_
  refine go_obj 4 dX6_init_1 rfl wL_RX6_3 wM_obj wC_obj (Nat.le_of_ble_eq_true rfl) (Nat.le_of_ble_eq_true rfl) ?_
  refine go_aload_n 5 dX6_init_4 rfl rfl ?_
  refine go_iconst 6 (0) dX6_init_5 rfl (by decide) ?_
  refine gi_put 9 [.int 0, .null, .null, .null, .null, .null, .null] dX6_init_6 rfl fF_RX6_9 (Nat.le_of_ble_eq_true rfl) (fun q hq => by cases hq; rfl) rfl rfl (fun b => rfl) rfl ?_
  refine go_aload_n 10 dX6_init_9 rfl rfl ?_
  refine go_bipush 12 (24) dX6_init_10 rfl (by decide) ?_
  refine gi_newa 14 1 .int 0 24 (24, .inl (fun _ => 0)) rfl dX6_init_12 rfl rfl (fun C h => by cases h) wB_int (fun kap => rfl) (fun b cA => rfl) (by decide) rfl (Nat.le_of_ble_eq_true rfl) (Nat.le_of_ble_eq_true rfl) (Nat.le_of_ble_eq_true rfl) ?_
  refine gi_putF 17 [.int 0, .ref (g.length + 1), .null, .null, .null, .null, .null] dX6_init_14 rfl fF_RX6_15 (Nat.le_of_ble_eq_true rfl) (fun q hq => by cases hq; exact ⟨rfl, rfl⟩) rfl (fun b => rfl) (fun b => rfl) rfl ?_
  refine go_aload_n 18 dX6_init_17 rfl rfl ?_
  refine go_bipush 20 (24) dX6_init_18 rfl (by decide) ?_
  refine gi_newa 22 2 .int 0 24 (24, .inl (fun _ => 0)) rfl dX6_init_20 rfl rfl (fun C h => by cases h) wB_int (fun kap => rfl) (fun b cA => rfl) (by decide) rfl (Nat.le_of_ble_eq_true rfl) (Nat.le_of_ble_eq_true rfl) (Nat.le_of_ble_eq_true rfl) ?_
  refine gi_putF 25 [.int 0, .ref (g.length + 1), .ref (g.length + 2), .null, .null, .null, .null] dX6_init_22 rfl fF_RX6_19 (Nat.le_of_ble_eq_true rfl) (fun q hq => by cases hq; exact ⟨rfl, rfl⟩) rfl (fun b => rfl) (fun b => rfl) rfl ?_
  refine go_aload_n 26 dX6_init_25 rfl rfl ?_
  refine go_bipush 28 (24) dX6_init_26 rfl (by decide) ?_
  refine gi_newa 30 3 .int 0 24 (24, .inl (fun _ => 0)) rfl dX6_init_28 rfl rfl (fun C h => by cases h) wB_int (fun kap => rfl) (fun b cA => rfl) (by decide) rfl (Nat.le_of_ble_eq_true rfl) (Nat.le_of_ble_eq_true rfl) (Nat.le_of_ble_eq_true rfl) ?_
  refine gi_putF 33 [.int 0, .ref (g.length + 1), .ref (g.length + 2), .ref (g.length + 3), .null, .null, .null] dX6_init_30 rfl fF_RX6_22 (Nat.le_of_ble_eq_true rfl) (fun q hq => by cases hq; exact ⟨rfl, rfl⟩) rfl (fun b => rfl) (fun b => rfl) rfl ?_
  refine go_aload_n 34 dX6_init_33 rfl rfl ?_
  refine go_bipush 36 (24) dX6_init_34 rfl (by decide) ?_
  refine gi_newa 38 4 .int 0 24 (24, .inl (fun _ => 0)) rfl dX6_init_36 rfl rfl (fun C h => by cases h) wB_int (fun kap => rfl) (fun b cA => rfl) (by decide) rfl (Nat.le_of_ble_eq_true rfl) (Nat.le_of_ble_eq_true rfl) (Nat.le_of_ble_eq_true rfl) ?_
  refine gi_putF 41 [.int 0, .ref (g.length + 1), .ref (g.length + 2), .ref (g.length + 3), .ref (g.length + 4), .null, .null] dX6_init_38 rfl fF_RX6_25 (Nat.le_of_ble_eq_true rfl) (fun q hq => by cases hq; exact ⟨rfl, rfl⟩) rfl (fun b => rfl) (fun b => rfl) rfl ?_
  refine go_aload_n 42 dX6_init_41 rfl rfl ?_
  refine go_bipush 44 (24) dX6_init_42 rfl (by decide) ?_
  refine gi_newa 46 5 .int 0 24 (24, .inl (fun _ => 0)) rfl dX6_init_44 rfl rfl (fun C h => by cases h) wB_int (fun kap => rfl) (fun b cA => rfl) (by decide) rfl (Nat.le_of_ble_eq_true rfl) (Nat.le_of_ble_eq_true rfl) (Nat.le_of_ble_eq_true rfl) ?_
  refine gi_putF 49 [.int 0, .ref (g.length + 1), .ref (g.length + 2), .ref (g.length + 3), .ref (g.length + 4), .ref (g.length + 5), .null] dX6_init_46 rfl fF_RX6_28 (Nat.le_of_ble_eq_true rfl) (fun q hq => by cases hq; exact ⟨rfl, rfl⟩) rfl (fun b => rfl) (fun b => rfl) rfl ?_
  refine go_aload_n 50 dX6_init_49 rfl rfl ?_
  refine go_bipush 52 (24) dX6_init_50 rfl (by decide) ?_
  refine gi_newa 54 6 .int 0 24 (24, .inl (fun _ => 0)) rfl dX6_init_52 rfl rfl (fun C h => by cases h) wB_int (fun kap => rfl) (fun b cA => rfl) (by decide) rfl (Nat.le_of_ble_eq_true rfl) (Nat.le_of_ble_eq_true rfl) (Nat.le_of_ble_eq_true rfl) ?_
  refine gi_putF 57 [.int 0, .ref (g.length + 1), .ref (g.length + 2), .ref (g.length + 3), .ref (g.length + 4), .ref (g.length + 5), .ref (g.length + 6)] dX6_init_54 rfl fF_RX6_31 (Nat.le_of_ble_eq_true rfl) (fun q hq => by cases hq; exact ⟨rfl, rfl⟩) rfl (fun b => rfl) (fun b => rfl) rfl ?_
  refine go_return dX6_init_57 rfl (Nat.le_of_ble_eq_true rfl) (Nat.le_of_ble_eq_true rfl) ?_
  exact ⟨rfl, rfl⟩

def ce_X7 (B : Nat) : go_H := .inr (7, [.ref (B + 1), .ref (B + 2), .ref (B + 3), .int 0]) :: ((([] ++ [(.inl (.int, 24, .inl (fun _ => 0)))]) ++ [(.inl (.int, 24, .inl (fun _ => 0)))]) ++ [(.inl (.boolean, 24, .inl (fun _ => 0)))])
set_option maxRecDepth 100000 in
theorem ci_X7 : gI mX7_init (.inr (7, [.null, .null, .null, .int 0])) ce_X7 := by
  intro g
  refine go_enter [.ref g.length] [(0, .ref g.length)] (by decide +kernel) rfl rfl (Nat.le_of_ble_eq_true rfl) rfl ?_
  refine go_aload_n 1 dX7_init_0 rfl rfl ?_
  refine go_obj 4 dX7_init_1 rfl wL_RX7_3 wM_obj wC_obj (Nat.le_of_ble_eq_true rfl) (Nat.le_of_ble_eq_true rfl) ?_
  refine go_aload_n 5 dX7_init_4 rfl rfl ?_
  refine go_bipush 7 (24) dX7_init_5 rfl (by decide) ?_
  refine gi_newa 9 1 .int 0 24 (24, .inl (fun _ => 0)) rfl dX7_init_7 rfl rfl (fun C h => by cases h) wB_int (fun kap => rfl) (fun b cA => rfl) (by decide) rfl (Nat.le_of_ble_eq_true rfl) (Nat.le_of_ble_eq_true rfl) (Nat.le_of_ble_eq_true rfl) ?_
  refine gi_putF 12 [.ref (g.length + 1), .null, .null, .int 0] dX7_init_9 rfl fF_RX7_9 (Nat.le_of_ble_eq_true rfl) (fun q hq => by cases hq; exact ⟨rfl, rfl⟩) rfl (fun b => rfl) (fun b => rfl) rfl ?_
  refine go_aload_n 13 dX7_init_12 rfl rfl ?_
  refine go_bipush 15 (24) dX7_init_13 rfl (by decide) ?_
  refine gi_newa 17 2 .int 0 24 (24, .inl (fun _ => 0)) rfl dX7_init_15 rfl rfl (fun C h => by cases h) wB_int (fun kap => rfl) (fun b cA => rfl) (by decide) rfl (Nat.le_of_ble_eq_true rfl) (Nat.le_of_ble_eq_true rfl) (Nat.le_of_ble_eq_true rfl) ?_
  refine gi_putF 20 [.ref (g.length + 1), .ref (g.length + 2), .null, .int 0] dX7_init_17 rfl fF_RX7_15 (Nat.le_of_ble_eq_true rfl) (fun q hq => by cases hq; exact ⟨rfl, rfl⟩) rfl (fun b => rfl) (fun b => rfl) rfl ?_
  refine go_aload_n 21 dX7_init_20 rfl rfl ?_
  refine go_bipush 23 (24) dX7_init_21 rfl (by decide) ?_
  refine gi_newa 25 3 .boolean 2 24 (24, .inl (fun _ => 0)) rfl dX7_init_23 rfl rfl (fun C h => by cases h) wB_boolean (fun kap => rfl) (fun b cA => rfl) (by decide) rfl (Nat.le_of_ble_eq_true rfl) (Nat.le_of_ble_eq_true rfl) (Nat.le_of_ble_eq_true rfl) ?_
  refine gi_putF 28 [.ref (g.length + 1), .ref (g.length + 2), .ref (g.length + 3), .int 0] dX7_init_25 rfl fF_RX7_18 (Nat.le_of_ble_eq_true rfl) (fun q hq => by cases hq; exact ⟨rfl, rfl⟩) rfl (fun b => rfl) (fun b => rfl) rfl ?_
  refine go_aload_n 29 dX7_init_28 rfl rfl ?_
  refine go_iconst 30 (0) dX7_init_29 rfl (by decide) ?_
  refine gi_put 33 [.ref (g.length + 1), .ref (g.length + 2), .ref (g.length + 3), .int 0] dX7_init_30 rfl fF_RX7_22 (Nat.le_of_ble_eq_true rfl) (fun q hq => by cases hq; rfl) rfl rfl (fun b => rfl) rfl ?_
  refine go_return dX7_init_33 rfl (Nat.le_of_ble_eq_true rfl) (Nat.le_of_ble_eq_true rfl) ?_
  exact ⟨rfl, rfl⟩

def ce_X9 (B : Nat) : go_H := .inr (9, [.int 0, .ref (B + 1), .ref (B + 2), .ref (B + 3), .ref (B + 4), .ref (B + 5), .ref (B + 6), .ref (B + 7), .ref (B + 8), .ref (B + 9), .int 0, .int 0, .ref (B + 10), .ref (B + 11), .int 0, .int 0, .long 0, .long 0, .ref (B + 12), .ref (B + 13), .ref (B + 14), .ref (B + 15), .ref (B + 16), .ref (B + 17), .ref (B + 18), .ref (B + 19), .int 0, .ref (B + 20), .ref (B + 21), .ref (B + 22), .ref (B + 23), .ref (B + 24), .ref (B + 25), .ref (B + 26), .int 0, .int 0, .int 0, .ref (B + 27), .ref (B + 28), .int 0, .int 0, .ref (B + 29), .int 0, .int 0, .int 0]) :: ((((((((((((((((((((((((((((([] ++ [(.inl (.int, 24, .inl (fun _ => 0)))]) ++ [(.inl (.int, 24, .inl (fun _ => 0)))]) ++ [(.inl (.int, 24, .inl (fun _ => 0)))]) ++ [(.inl (.int, 24, .inl (fun _ => 0)))]) ++ [(.inl (.int, 24, .inl (fun _ => 0)))]) ++ [(.inl (.int, 24, .inl (fun _ => 0)))]) ++ [(.inl (.int, 24, .inl (fun _ => 0)))]) ++ [(.inl (.int, 24, .inl (fun _ => 0)))]) ++ [(.inl (.int, 24, .inl (fun _ => 0)))]) ++ [(.inl (.long, 24, .inr (.inl (fun _ => 0))))]) ++ [(.inl (.long, 24, .inr (.inl (fun _ => 0))))]) ++ [(.inl (.int, 24, .inl (fun _ => 0)))]) ++ [(.inl (.int, 24, .inl (fun _ => 0)))]) ++ [(.inl (.int, 24, .inl (fun _ => 0)))]) ++ [(.inl (.int, 24, .inl (fun _ => 0)))]) ++ [(.inl (.int, 24, .inl (fun _ => 0)))]) ++ [(.inl (.int, 24, .inl (fun _ => 0)))]) ++ [(.inl (.int, 24, .inl (fun _ => 0)))]) ++ [(.inl (.int, 24, .inl (fun _ => 0)))]) ++ [(.inl (.int, 24, .inl (fun _ => 0)))]) ++ [(.inl (.int, 24, .inl (fun _ => 0)))]) ++ [(.inl (.int, 80, .inl (fun _ => 0)))]) ++ [(.inl (.int, 40, .inl (fun _ => 0)))]) ++ [(.inl (.int, 40, .inl (fun _ => 0)))]) ++ [(.inl (.int, 40, .inl (fun _ => 0)))]) ++ [(.inl (.int, 40, .inl (fun _ => 0)))]) ++ [(.inl (.int, 3, .inl (fun _ => 0)))]) ++ [(.inl (.int, 3, .inl (fun _ => 0)))]) ++ [(.inl (.int, 440, .inl (fun _ => 0)))])
set_option maxRecDepth 100000 in
theorem ci_X9 : gI mX9_init (.inr (9, [.int 0, .null, .null, .null, .null, .null, .null, .null, .null, .null, .int 0, .int 0, .null, .null, .int 0, .int 0, .long 0, .long 0, .null, .null, .null, .null, .null, .null, .null, .null, .int 0, .null, .null, .null, .null, .null, .null, .null, .int 0, .int 0, .int 0, .null, .null, .int 0, .int 0, .null, .int 0, .int 0, .int 0])) ce_X9 := by
  intro g
  refine go_enter [.ref g.length] [(0, .ref g.length)] (by decide +kernel) rfl rfl (Nat.le_of_ble_eq_true rfl) rfl ?_
  refine go_aload_n 1 dX9_init_0 rfl rfl ?_
  refine go_obj 4 dX9_init_1 rfl wL_RX9_1 wM_obj wC_obj (Nat.le_of_ble_eq_true rfl) (Nat.le_of_ble_eq_true rfl) ?_
  refine go_aload_n 5 dX9_init_4 rfl rfl ?_
  refine go_bipush 7 (24) dX9_init_5 rfl (by decide) ?_
  refine gi_newa 9 1 .int 0 24 (24, .inl (fun _ => 0)) rfl dX9_init_7 rfl rfl (fun C h => by cases h) wB_int (fun kap => rfl) (fun b cA => rfl) (by decide) rfl (Nat.le_of_ble_eq_true rfl) (Nat.le_of_ble_eq_true rfl) (Nat.le_of_ble_eq_true rfl) ?_
  refine gi_putF 12 [.int 0, .ref (g.length + 1), .null, .null, .null, .null, .null, .null, .null, .null, .int 0, .int 0, .null, .null, .int 0, .int 0, .long 0, .long 0, .null, .null, .null, .null, .null, .null, .null, .null, .int 0, .null, .null, .null, .null, .null, .null, .null, .int 0, .int 0, .int 0, .null, .null, .int 0, .int 0, .null, .int 0, .int 0, .int 0] dX9_init_9 rfl fF_RX9_7 (Nat.le_of_ble_eq_true rfl) (fun q hq => by cases hq; exact ⟨rfl, rfl⟩) rfl (fun b => rfl) (fun b => rfl) rfl ?_
  refine go_aload_n 13 dX9_init_12 rfl rfl ?_
  refine go_bipush 15 (24) dX9_init_13 rfl (by decide) ?_
  refine gi_newa 17 2 .int 0 24 (24, .inl (fun _ => 0)) rfl dX9_init_15 rfl rfl (fun C h => by cases h) wB_int (fun kap => rfl) (fun b cA => rfl) (by decide) rfl (Nat.le_of_ble_eq_true rfl) (Nat.le_of_ble_eq_true rfl) (Nat.le_of_ble_eq_true rfl) ?_
  refine gi_putF 20 [.int 0, .ref (g.length + 1), .ref (g.length + 2), .null, .null, .null, .null, .null, .null, .null, .int 0, .int 0, .null, .null, .int 0, .int 0, .long 0, .long 0, .null, .null, .null, .null, .null, .null, .null, .null, .int 0, .null, .null, .null, .null, .null, .null, .null, .int 0, .int 0, .int 0, .null, .null, .int 0, .int 0, .null, .int 0, .int 0, .int 0] dX9_init_17 rfl fF_RX9_13 (Nat.le_of_ble_eq_true rfl) (fun q hq => by cases hq; exact ⟨rfl, rfl⟩) rfl (fun b => rfl) (fun b => rfl) rfl ?_
  refine go_aload_n 21 dX9_init_20 rfl rfl ?_
  refine go_bipush 23 (24) dX9_init_21 rfl (by decide) ?_
  refine gi_newa 25 3 .int 0 24 (24, .inl (fun _ => 0)) rfl dX9_init_23 rfl rfl (fun C h => by cases h) wB_int (fun kap => rfl) (fun b cA => rfl) (by decide) rfl (Nat.le_of_ble_eq_true rfl) (Nat.le_of_ble_eq_true rfl) (Nat.le_of_ble_eq_true rfl) ?_
  refine gi_putF 28 [.int 0, .ref (g.length + 1), .ref (g.length + 2), .ref (g.length + 3), .null, .null, .null, .null, .null, .null, .int 0, .int 0, .null, .null, .int 0, .int 0, .long 0, .long 0, .null, .null, .null, .null, .null, .null, .null, .null, .int 0, .null, .null, .null, .null, .null, .null, .null, .int 0, .int 0, .int 0, .null, .null, .int 0, .int 0, .null, .int 0, .int 0, .int 0] dX9_init_25 rfl fF_RX9_16 (Nat.le_of_ble_eq_true rfl) (fun q hq => by cases hq; exact ⟨rfl, rfl⟩) rfl (fun b => rfl) (fun b => rfl) rfl ?_
  refine go_aload_n 29 dX9_init_28 rfl rfl ?_
  refine go_bipush 31 (24) dX9_init_29 rfl (by decide) ?_
  refine gi_newa 33 4 .int 0 24 (24, .inl (fun _ => 0)) rfl dX9_init_31 rfl rfl (fun C h => by cases h) wB_int (fun kap => rfl) (fun b cA => rfl) (by decide) rfl (Nat.le_of_ble_eq_true rfl) (Nat.le_of_ble_eq_true rfl) (Nat.le_of_ble_eq_true rfl) ?_
  refine gi_putF 36 [.int 0, .ref (g.length + 1), .ref (g.length + 2), .ref (g.length + 3), .ref (g.length + 4), .null, .null, .null, .null, .null, .int 0, .int 0, .null, .null, .int 0, .int 0, .long 0, .long 0, .null, .null, .null, .null, .null, .null, .null, .null, .int 0, .null, .null, .null, .null, .null, .null, .null, .int 0, .int 0, .int 0, .null, .null, .int 0, .int 0, .null, .int 0, .int 0, .int 0] dX9_init_33 rfl fF_RX9_19 (Nat.le_of_ble_eq_true rfl) (fun q hq => by cases hq; exact ⟨rfl, rfl⟩) rfl (fun b => rfl) (fun b => rfl) rfl ?_
  refine go_aload_n 37 dX9_init_36 rfl rfl ?_
  refine go_bipush 39 (24) dX9_init_37 rfl (by decide) ?_
  refine gi_newa 41 5 .int 0 24 (24, .inl (fun _ => 0)) rfl dX9_init_39 rfl rfl (fun C h => by cases h) wB_int (fun kap => rfl) (fun b cA => rfl) (by decide) rfl (Nat.le_of_ble_eq_true rfl) (Nat.le_of_ble_eq_true rfl) (Nat.le_of_ble_eq_true rfl) ?_
  refine gi_putF 44 [.int 0, .ref (g.length + 1), .ref (g.length + 2), .ref (g.length + 3), .ref (g.length + 4), .ref (g.length + 5), .null, .null, .null, .null, .int 0, .int 0, .null, .null, .int 0, .int 0, .long 0, .long 0, .null, .null, .null, .null, .null, .null, .null, .null, .int 0, .null, .null, .null, .null, .null, .null, .null, .int 0, .int 0, .int 0, .null, .null, .int 0, .int 0, .null, .int 0, .int 0, .int 0] dX9_init_41 rfl fF_RX9_22 (Nat.le_of_ble_eq_true rfl) (fun q hq => by cases hq; exact ⟨rfl, rfl⟩) rfl (fun b => rfl) (fun b => rfl) rfl ?_
  refine go_aload_n 45 dX9_init_44 rfl rfl ?_
  refine go_bipush 47 (24) dX9_init_45 rfl (by decide) ?_
  refine gi_newa 49 6 .int 0 24 (24, .inl (fun _ => 0)) rfl dX9_init_47 rfl rfl (fun C h => by cases h) wB_int (fun kap => rfl) (fun b cA => rfl) (by decide) rfl (Nat.le_of_ble_eq_true rfl) (Nat.le_of_ble_eq_true rfl) (Nat.le_of_ble_eq_true rfl) ?_
  refine gi_putF 52 [.int 0, .ref (g.length + 1), .ref (g.length + 2), .ref (g.length + 3), .ref (g.length + 4), .ref (g.length + 5), .ref (g.length + 6), .null, .null, .null, .int 0, .int 0, .null, .null, .int 0, .int 0, .long 0, .long 0, .null, .null, .null, .null, .null, .null, .null, .null, .int 0, .null, .null, .null, .null, .null, .null, .null, .int 0, .int 0, .int 0, .null, .null, .int 0, .int 0, .null, .int 0, .int 0, .int 0] dX9_init_49 rfl fF_RX9_25 (Nat.le_of_ble_eq_true rfl) (fun q hq => by cases hq; exact ⟨rfl, rfl⟩) rfl (fun b => rfl) (fun b => rfl) rfl ?_
  refine go_aload_n 53 dX9_init_52 rfl rfl ?_
  refine go_bipush 55 (24) dX9_init_53 rfl (by decide) ?_
  refine gi_newa 57 7 .int 0 24 (24, .inl (fun _ => 0)) rfl dX9_init_55 rfl rfl (fun C h => by cases h) wB_int (fun kap => rfl) (fun b cA => rfl) (by decide) rfl (Nat.le_of_ble_eq_true rfl) (Nat.le_of_ble_eq_true rfl) (Nat.le_of_ble_eq_true rfl) ?_
  refine gi_putF 60 [.int 0, .ref (g.length + 1), .ref (g.length + 2), .ref (g.length + 3), .ref (g.length + 4), .ref (g.length + 5), .ref (g.length + 6), .ref (g.length + 7), .null, .null, .int 0, .int 0, .null, .null, .int 0, .int 0, .long 0, .long 0, .null, .null, .null, .null, .null, .null, .null, .null, .int 0, .null, .null, .null, .null, .null, .null, .null, .int 0, .int 0, .int 0, .null, .null, .int 0, .int 0, .null, .int 0, .int 0, .int 0] dX9_init_57 rfl fF_RX9_28 (Nat.le_of_ble_eq_true rfl) (fun q hq => by cases hq; exact ⟨rfl, rfl⟩) rfl (fun b => rfl) (fun b => rfl) rfl ?_
  refine go_aload_n 61 dX9_init_60 rfl rfl ?_
  refine go_bipush 63 (24) dX9_init_61 rfl (by decide) ?_
  refine gi_newa 65 8 .int 0 24 (24, .inl (fun _ => 0)) rfl dX9_init_63 rfl rfl (fun C h => by cases h) wB_int (fun kap => rfl) (fun b cA => rfl) (by decide) rfl (Nat.le_of_ble_eq_true rfl) (Nat.le_of_ble_eq_true rfl) (Nat.le_of_ble_eq_true rfl) ?_
  refine gi_putF 68 [.int 0, .ref (g.length + 1), .ref (g.length + 2), .ref (g.length + 3), .ref (g.length + 4), .ref (g.length + 5), .ref (g.length + 6), .ref (g.length + 7), .ref (g.length + 8), .null, .int 0, .int 0, .null, .null, .int 0, .int 0, .long 0, .long 0, .null, .null, .null, .null, .null, .null, .null, .null, .int 0, .null, .null, .null, .null, .null, .null, .null, .int 0, .int 0, .int 0, .null, .null, .int 0, .int 0, .null, .int 0, .int 0, .int 0] dX9_init_65 rfl fF_RX9_31 (Nat.le_of_ble_eq_true rfl) (fun q hq => by cases hq; exact ⟨rfl, rfl⟩) rfl (fun b => rfl) (fun b => rfl) rfl ?_
  refine go_aload_n 69 dX9_init_68 rfl rfl ?_
  refine go_bipush 71 (24) dX9_init_69 rfl (by decide) ?_
  refine gi_newa 73 9 .int 0 24 (24, .inl (fun _ => 0)) rfl dX9_init_71 rfl rfl (fun C h => by cases h) wB_int (fun kap => rfl) (fun b cA => rfl) (by decide) rfl (Nat.le_of_ble_eq_true rfl) (Nat.le_of_ble_eq_true rfl) (Nat.le_of_ble_eq_true rfl) ?_
  refine gi_putF 76 [.int 0, .ref (g.length + 1), .ref (g.length + 2), .ref (g.length + 3), .ref (g.length + 4), .ref (g.length + 5), .ref (g.length + 6), .ref (g.length + 7), .ref (g.length + 8), .ref (g.length + 9), .int 0, .int 0, .null, .null, .int 0, .int 0, .long 0, .long 0, .null, .null, .null, .null, .null, .null, .null, .null, .int 0, .null, .null, .null, .null, .null, .null, .null, .int 0, .int 0, .int 0, .null, .null, .int 0, .int 0, .null, .int 0, .int 0, .int 0] dX9_init_73 rfl fF_RX9_34 (Nat.le_of_ble_eq_true rfl) (fun q hq => by cases hq; exact ⟨rfl, rfl⟩) rfl (fun b => rfl) (fun b => rfl) rfl ?_
  refine go_aload_n 77 dX9_init_76 rfl rfl ?_
  refine go_bipush 79 (24) dX9_init_77 rfl (by decide) ?_
  refine gi_newa 81 10 .long 1 24 (24, .inr (.inl (fun _ => 0))) rfl dX9_init_79 rfl rfl (fun C h => by cases h) wB_long (fun kap => rfl) (fun b cA => rfl) (by decide) rfl (Nat.le_of_ble_eq_true rfl) (Nat.le_of_ble_eq_true rfl) (Nat.le_of_ble_eq_true rfl) ?_
  refine gi_putF 84 [.int 0, .ref (g.length + 1), .ref (g.length + 2), .ref (g.length + 3), .ref (g.length + 4), .ref (g.length + 5), .ref (g.length + 6), .ref (g.length + 7), .ref (g.length + 8), .ref (g.length + 9), .int 0, .int 0, .ref (g.length + 10), .null, .int 0, .int 0, .long 0, .long 0, .null, .null, .null, .null, .null, .null, .null, .null, .int 0, .null, .null, .null, .null, .null, .null, .null, .int 0, .int 0, .int 0, .null, .null, .int 0, .int 0, .null, .int 0, .int 0, .int 0] dX9_init_81 rfl fF_RX9_37 (Nat.le_of_ble_eq_true rfl) (fun q hq => by cases hq; exact ⟨rfl, rfl⟩) rfl (fun b => rfl) (fun b => rfl) rfl ?_
  refine go_aload_n 85 dX9_init_84 rfl rfl ?_
  refine go_bipush 87 (24) dX9_init_85 rfl (by decide) ?_
  refine gi_newa 89 11 .long 1 24 (24, .inr (.inl (fun _ => 0))) rfl dX9_init_87 rfl rfl (fun C h => by cases h) wB_long (fun kap => rfl) (fun b cA => rfl) (by decide) rfl (Nat.le_of_ble_eq_true rfl) (Nat.le_of_ble_eq_true rfl) (Nat.le_of_ble_eq_true rfl) ?_
  refine gi_putF 92 [.int 0, .ref (g.length + 1), .ref (g.length + 2), .ref (g.length + 3), .ref (g.length + 4), .ref (g.length + 5), .ref (g.length + 6), .ref (g.length + 7), .ref (g.length + 8), .ref (g.length + 9), .int 0, .int 0, .ref (g.length + 10), .ref (g.length + 11), .int 0, .int 0, .long 0, .long 0, .null, .null, .null, .null, .null, .null, .null, .null, .int 0, .null, .null, .null, .null, .null, .null, .null, .int 0, .int 0, .int 0, .null, .null, .int 0, .int 0, .null, .int 0, .int 0, .int 0] dX9_init_89 rfl fF_RX9_41 (Nat.le_of_ble_eq_true rfl) (fun q hq => by cases hq; exact ⟨rfl, rfl⟩) rfl (fun b => rfl) (fun b => rfl) rfl ?_
  refine go_aload_n 93 dX9_init_92 rfl rfl ?_
  refine go_bipush 95 (24) dX9_init_93 rfl (by decide) ?_
  refine gi_newa 97 12 .int 0 24 (24, .inl (fun _ => 0)) rfl dX9_init_95 rfl rfl (fun C h => by cases h) wB_int (fun kap => rfl) (fun b cA => rfl) (by decide) rfl (Nat.le_of_ble_eq_true rfl) (Nat.le_of_ble_eq_true rfl) (Nat.le_of_ble_eq_true rfl) ?_
  refine gi_putF 100 [.int 0, .ref (g.length + 1), .ref (g.length + 2), .ref (g.length + 3), .ref (g.length + 4), .ref (g.length + 5), .ref (g.length + 6), .ref (g.length + 7), .ref (g.length + 8), .ref (g.length + 9), .int 0, .int 0, .ref (g.length + 10), .ref (g.length + 11), .int 0, .int 0, .long 0, .long 0, .ref (g.length + 12), .null, .null, .null, .null, .null, .null, .null, .int 0, .null, .null, .null, .null, .null, .null, .null, .int 0, .int 0, .int 0, .null, .null, .int 0, .int 0, .null, .int 0, .int 0, .int 0] dX9_init_97 rfl fF_RX9_44 (Nat.le_of_ble_eq_true rfl) (fun q hq => by cases hq; exact ⟨rfl, rfl⟩) rfl (fun b => rfl) (fun b => rfl) rfl ?_
  refine go_aload_n 101 dX9_init_100 rfl rfl ?_
  refine go_bipush 103 (24) dX9_init_101 rfl (by decide) ?_
  refine gi_newa 105 13 .int 0 24 (24, .inl (fun _ => 0)) rfl dX9_init_103 rfl rfl (fun C h => by cases h) wB_int (fun kap => rfl) (fun b cA => rfl) (by decide) rfl (Nat.le_of_ble_eq_true rfl) (Nat.le_of_ble_eq_true rfl) (Nat.le_of_ble_eq_true rfl) ?_
  refine gi_putF 108 [.int 0, .ref (g.length + 1), .ref (g.length + 2), .ref (g.length + 3), .ref (g.length + 4), .ref (g.length + 5), .ref (g.length + 6), .ref (g.length + 7), .ref (g.length + 8), .ref (g.length + 9), .int 0, .int 0, .ref (g.length + 10), .ref (g.length + 11), .int 0, .int 0, .long 0, .long 0, .ref (g.length + 12), .ref (g.length + 13), .null, .null, .null, .null, .null, .null, .int 0, .null, .null, .null, .null, .null, .null, .null, .int 0, .int 0, .int 0, .null, .null, .int 0, .int 0, .null, .int 0, .int 0, .int 0] dX9_init_105 rfl fF_RX9_47 (Nat.le_of_ble_eq_true rfl) (fun q hq => by cases hq; exact ⟨rfl, rfl⟩) rfl (fun b => rfl) (fun b => rfl) rfl ?_
  refine go_aload_n 109 dX9_init_108 rfl rfl ?_
  refine go_bipush 111 (24) dX9_init_109 rfl (by decide) ?_
  refine gi_newa 113 14 .int 0 24 (24, .inl (fun _ => 0)) rfl dX9_init_111 rfl rfl (fun C h => by cases h) wB_int (fun kap => rfl) (fun b cA => rfl) (by decide) rfl (Nat.le_of_ble_eq_true rfl) (Nat.le_of_ble_eq_true rfl) (Nat.le_of_ble_eq_true rfl) ?_
  refine gi_putF 116 [.int 0, .ref (g.length + 1), .ref (g.length + 2), .ref (g.length + 3), .ref (g.length + 4), .ref (g.length + 5), .ref (g.length + 6), .ref (g.length + 7), .ref (g.length + 8), .ref (g.length + 9), .int 0, .int 0, .ref (g.length + 10), .ref (g.length + 11), .int 0, .int 0, .long 0, .long 0, .ref (g.length + 12), .ref (g.length + 13), .ref (g.length + 14), .null, .null, .null, .null, .null, .int 0, .null, .null, .null, .null, .null, .null, .null, .int 0, .int 0, .int 0, .null, .null, .int 0, .int 0, .null, .int 0, .int 0, .int 0] dX9_init_113 rfl fF_RX9_50 (Nat.le_of_ble_eq_true rfl) (fun q hq => by cases hq; exact ⟨rfl, rfl⟩) rfl (fun b => rfl) (fun b => rfl) rfl ?_
  refine go_aload_n 117 dX9_init_116 rfl rfl ?_
  refine go_bipush 119 (24) dX9_init_117 rfl (by decide) ?_
  refine gi_newa 121 15 .int 0 24 (24, .inl (fun _ => 0)) rfl dX9_init_119 rfl rfl (fun C h => by cases h) wB_int (fun kap => rfl) (fun b cA => rfl) (by decide) rfl (Nat.le_of_ble_eq_true rfl) (Nat.le_of_ble_eq_true rfl) (Nat.le_of_ble_eq_true rfl) ?_
  refine gi_putF 124 [.int 0, .ref (g.length + 1), .ref (g.length + 2), .ref (g.length + 3), .ref (g.length + 4), .ref (g.length + 5), .ref (g.length + 6), .ref (g.length + 7), .ref (g.length + 8), .ref (g.length + 9), .int 0, .int 0, .ref (g.length + 10), .ref (g.length + 11), .int 0, .int 0, .long 0, .long 0, .ref (g.length + 12), .ref (g.length + 13), .ref (g.length + 14), .ref (g.length + 15), .null, .null, .null, .null, .int 0, .null, .null, .null, .null, .null, .null, .null, .int 0, .int 0, .int 0, .null, .null, .int 0, .int 0, .null, .int 0, .int 0, .int 0] dX9_init_121 rfl fF_RX9_53 (Nat.le_of_ble_eq_true rfl) (fun q hq => by cases hq; exact ⟨rfl, rfl⟩) rfl (fun b => rfl) (fun b => rfl) rfl ?_
  refine go_aload_n 125 dX9_init_124 rfl rfl ?_
  refine go_bipush 127 (24) dX9_init_125 rfl (by decide) ?_
  refine gi_newa 129 16 .int 0 24 (24, .inl (fun _ => 0)) rfl dX9_init_127 rfl rfl (fun C h => by cases h) wB_int (fun kap => rfl) (fun b cA => rfl) (by decide) rfl (Nat.le_of_ble_eq_true rfl) (Nat.le_of_ble_eq_true rfl) (Nat.le_of_ble_eq_true rfl) ?_
  refine gi_putF 132 [.int 0, .ref (g.length + 1), .ref (g.length + 2), .ref (g.length + 3), .ref (g.length + 4), .ref (g.length + 5), .ref (g.length + 6), .ref (g.length + 7), .ref (g.length + 8), .ref (g.length + 9), .int 0, .int 0, .ref (g.length + 10), .ref (g.length + 11), .int 0, .int 0, .long 0, .long 0, .ref (g.length + 12), .ref (g.length + 13), .ref (g.length + 14), .ref (g.length + 15), .ref (g.length + 16), .null, .null, .null, .int 0, .null, .null, .null, .null, .null, .null, .null, .int 0, .int 0, .int 0, .null, .null, .int 0, .int 0, .null, .int 0, .int 0, .int 0] dX9_init_129 rfl fF_RX9_56 (Nat.le_of_ble_eq_true rfl) (fun q hq => by cases hq; exact ⟨rfl, rfl⟩) rfl (fun b => rfl) (fun b => rfl) rfl ?_
  refine go_aload_n 133 dX9_init_132 rfl rfl ?_
  refine go_bipush 135 (24) dX9_init_133 rfl (by decide) ?_
  refine gi_newa 137 17 .int 0 24 (24, .inl (fun _ => 0)) rfl dX9_init_135 rfl rfl (fun C h => by cases h) wB_int (fun kap => rfl) (fun b cA => rfl) (by decide) rfl (Nat.le_of_ble_eq_true rfl) (Nat.le_of_ble_eq_true rfl) (Nat.le_of_ble_eq_true rfl) ?_
  refine gi_putF 140 [.int 0, .ref (g.length + 1), .ref (g.length + 2), .ref (g.length + 3), .ref (g.length + 4), .ref (g.length + 5), .ref (g.length + 6), .ref (g.length + 7), .ref (g.length + 8), .ref (g.length + 9), .int 0, .int 0, .ref (g.length + 10), .ref (g.length + 11), .int 0, .int 0, .long 0, .long 0, .ref (g.length + 12), .ref (g.length + 13), .ref (g.length + 14), .ref (g.length + 15), .ref (g.length + 16), .ref (g.length + 17), .null, .null, .int 0, .null, .null, .null, .null, .null, .null, .null, .int 0, .int 0, .int 0, .null, .null, .int 0, .int 0, .null, .int 0, .int 0, .int 0] dX9_init_137 rfl fF_RX9_59 (Nat.le_of_ble_eq_true rfl) (fun q hq => by cases hq; exact ⟨rfl, rfl⟩) rfl (fun b => rfl) (fun b => rfl) rfl ?_
  refine go_aload_n 141 dX9_init_140 rfl rfl ?_
  refine go_bipush 143 (24) dX9_init_141 rfl (by decide) ?_
  refine gi_newa 145 18 .int 0 24 (24, .inl (fun _ => 0)) rfl dX9_init_143 rfl rfl (fun C h => by cases h) wB_int (fun kap => rfl) (fun b cA => rfl) (by decide) rfl (Nat.le_of_ble_eq_true rfl) (Nat.le_of_ble_eq_true rfl) (Nat.le_of_ble_eq_true rfl) ?_
  refine gi_putF 148 [.int 0, .ref (g.length + 1), .ref (g.length + 2), .ref (g.length + 3), .ref (g.length + 4), .ref (g.length + 5), .ref (g.length + 6), .ref (g.length + 7), .ref (g.length + 8), .ref (g.length + 9), .int 0, .int 0, .ref (g.length + 10), .ref (g.length + 11), .int 0, .int 0, .long 0, .long 0, .ref (g.length + 12), .ref (g.length + 13), .ref (g.length + 14), .ref (g.length + 15), .ref (g.length + 16), .ref (g.length + 17), .ref (g.length + 18), .null, .int 0, .null, .null, .null, .null, .null, .null, .null, .int 0, .int 0, .int 0, .null, .null, .int 0, .int 0, .null, .int 0, .int 0, .int 0] dX9_init_145 rfl fF_RX9_62 (Nat.le_of_ble_eq_true rfl) (fun q hq => by cases hq; exact ⟨rfl, rfl⟩) rfl (fun b => rfl) (fun b => rfl) rfl ?_
  refine go_aload_n 149 dX9_init_148 rfl rfl ?_
  refine go_bipush 151 (24) dX9_init_149 rfl (by decide) ?_
  refine gi_newa 153 19 .int 0 24 (24, .inl (fun _ => 0)) rfl dX9_init_151 rfl rfl (fun C h => by cases h) wB_int (fun kap => rfl) (fun b cA => rfl) (by decide) rfl (Nat.le_of_ble_eq_true rfl) (Nat.le_of_ble_eq_true rfl) (Nat.le_of_ble_eq_true rfl) ?_
  refine gi_putF 156 [.int 0, .ref (g.length + 1), .ref (g.length + 2), .ref (g.length + 3), .ref (g.length + 4), .ref (g.length + 5), .ref (g.length + 6), .ref (g.length + 7), .ref (g.length + 8), .ref (g.length + 9), .int 0, .int 0, .ref (g.length + 10), .ref (g.length + 11), .int 0, .int 0, .long 0, .long 0, .ref (g.length + 12), .ref (g.length + 13), .ref (g.length + 14), .ref (g.length + 15), .ref (g.length + 16), .ref (g.length + 17), .ref (g.length + 18), .ref (g.length + 19), .int 0, .null, .null, .null, .null, .null, .null, .null, .int 0, .int 0, .int 0, .null, .null, .int 0, .int 0, .null, .int 0, .int 0, .int 0] dX9_init_153 rfl fF_RX9_65 (Nat.le_of_ble_eq_true rfl) (fun q hq => by cases hq; exact ⟨rfl, rfl⟩) rfl (fun b => rfl) (fun b => rfl) rfl ?_
  refine go_aload_n 157 dX9_init_156 rfl rfl ?_
  refine go_bipush 159 (24) dX9_init_157 rfl (by decide) ?_
  refine gi_newa 161 20 .int 0 24 (24, .inl (fun _ => 0)) rfl dX9_init_159 rfl rfl (fun C h => by cases h) wB_int (fun kap => rfl) (fun b cA => rfl) (by decide) rfl (Nat.le_of_ble_eq_true rfl) (Nat.le_of_ble_eq_true rfl) (Nat.le_of_ble_eq_true rfl) ?_
  refine gi_putF 164 [.int 0, .ref (g.length + 1), .ref (g.length + 2), .ref (g.length + 3), .ref (g.length + 4), .ref (g.length + 5), .ref (g.length + 6), .ref (g.length + 7), .ref (g.length + 8), .ref (g.length + 9), .int 0, .int 0, .ref (g.length + 10), .ref (g.length + 11), .int 0, .int 0, .long 0, .long 0, .ref (g.length + 12), .ref (g.length + 13), .ref (g.length + 14), .ref (g.length + 15), .ref (g.length + 16), .ref (g.length + 17), .ref (g.length + 18), .ref (g.length + 19), .int 0, .ref (g.length + 20), .null, .null, .null, .null, .null, .null, .int 0, .int 0, .int 0, .null, .null, .int 0, .int 0, .null, .int 0, .int 0, .int 0] dX9_init_161 rfl fF_RX9_68 (Nat.le_of_ble_eq_true rfl) (fun q hq => by cases hq; exact ⟨rfl, rfl⟩) rfl (fun b => rfl) (fun b => rfl) rfl ?_
  refine go_aload_n 165 dX9_init_164 rfl rfl ?_
  refine go_bipush 167 (24) dX9_init_165 rfl (by decide) ?_
  refine gi_newa 169 21 .int 0 24 (24, .inl (fun _ => 0)) rfl dX9_init_167 rfl rfl (fun C h => by cases h) wB_int (fun kap => rfl) (fun b cA => rfl) (by decide) rfl (Nat.le_of_ble_eq_true rfl) (Nat.le_of_ble_eq_true rfl) (Nat.le_of_ble_eq_true rfl) ?_
  refine gi_putF 172 [.int 0, .ref (g.length + 1), .ref (g.length + 2), .ref (g.length + 3), .ref (g.length + 4), .ref (g.length + 5), .ref (g.length + 6), .ref (g.length + 7), .ref (g.length + 8), .ref (g.length + 9), .int 0, .int 0, .ref (g.length + 10), .ref (g.length + 11), .int 0, .int 0, .long 0, .long 0, .ref (g.length + 12), .ref (g.length + 13), .ref (g.length + 14), .ref (g.length + 15), .ref (g.length + 16), .ref (g.length + 17), .ref (g.length + 18), .ref (g.length + 19), .int 0, .ref (g.length + 20), .ref (g.length + 21), .null, .null, .null, .null, .null, .int 0, .int 0, .int 0, .null, .null, .int 0, .int 0, .null, .int 0, .int 0, .int 0] dX9_init_169 rfl fF_RX9_71 (Nat.le_of_ble_eq_true rfl) (fun q hq => by cases hq; exact ⟨rfl, rfl⟩) rfl (fun b => rfl) (fun b => rfl) rfl ?_
  refine go_aload_n 173 dX9_init_172 rfl rfl ?_
  refine go_bipush 175 (80) dX9_init_173 rfl (by decide) ?_
  refine gi_newa 177 22 .int 0 80 (80, .inl (fun _ => 0)) rfl dX9_init_175 rfl rfl (fun C h => by cases h) wB_int (fun kap => rfl) (fun b cA => rfl) (by decide) rfl (Nat.le_of_ble_eq_true rfl) (Nat.le_of_ble_eq_true rfl) (Nat.le_of_ble_eq_true rfl) ?_
  refine gi_putF 180 [.int 0, .ref (g.length + 1), .ref (g.length + 2), .ref (g.length + 3), .ref (g.length + 4), .ref (g.length + 5), .ref (g.length + 6), .ref (g.length + 7), .ref (g.length + 8), .ref (g.length + 9), .int 0, .int 0, .ref (g.length + 10), .ref (g.length + 11), .int 0, .int 0, .long 0, .long 0, .ref (g.length + 12), .ref (g.length + 13), .ref (g.length + 14), .ref (g.length + 15), .ref (g.length + 16), .ref (g.length + 17), .ref (g.length + 18), .ref (g.length + 19), .int 0, .ref (g.length + 20), .ref (g.length + 21), .ref (g.length + 22), .null, .null, .null, .null, .int 0, .int 0, .int 0, .null, .null, .int 0, .int 0, .null, .int 0, .int 0, .int 0] dX9_init_177 rfl fF_RX9_74 (Nat.le_of_ble_eq_true rfl) (fun q hq => by cases hq; exact ⟨rfl, rfl⟩) rfl (fun b => rfl) (fun b => rfl) rfl ?_
  refine go_aload_n 181 dX9_init_180 rfl rfl ?_
  refine go_bipush 183 (40) dX9_init_181 rfl (by decide) ?_
  refine gi_newa 185 23 .int 0 40 (40, .inl (fun _ => 0)) rfl dX9_init_183 rfl rfl (fun C h => by cases h) wB_int (fun kap => rfl) (fun b cA => rfl) (by decide) rfl (Nat.le_of_ble_eq_true rfl) (Nat.le_of_ble_eq_true rfl) (Nat.le_of_ble_eq_true rfl) ?_
  refine gi_putF 188 [.int 0, .ref (g.length + 1), .ref (g.length + 2), .ref (g.length + 3), .ref (g.length + 4), .ref (g.length + 5), .ref (g.length + 6), .ref (g.length + 7), .ref (g.length + 8), .ref (g.length + 9), .int 0, .int 0, .ref (g.length + 10), .ref (g.length + 11), .int 0, .int 0, .long 0, .long 0, .ref (g.length + 12), .ref (g.length + 13), .ref (g.length + 14), .ref (g.length + 15), .ref (g.length + 16), .ref (g.length + 17), .ref (g.length + 18), .ref (g.length + 19), .int 0, .ref (g.length + 20), .ref (g.length + 21), .ref (g.length + 22), .ref (g.length + 23), .null, .null, .null, .int 0, .int 0, .int 0, .null, .null, .int 0, .int 0, .null, .int 0, .int 0, .int 0] dX9_init_185 rfl fF_RX9_77 (Nat.le_of_ble_eq_true rfl) (fun q hq => by cases hq; exact ⟨rfl, rfl⟩) rfl (fun b => rfl) (fun b => rfl) rfl ?_
  refine go_aload_n 189 dX9_init_188 rfl rfl ?_
  refine go_bipush 191 (40) dX9_init_189 rfl (by decide) ?_
  refine gi_newa 193 24 .int 0 40 (40, .inl (fun _ => 0)) rfl dX9_init_191 rfl rfl (fun C h => by cases h) wB_int (fun kap => rfl) (fun b cA => rfl) (by decide) rfl (Nat.le_of_ble_eq_true rfl) (Nat.le_of_ble_eq_true rfl) (Nat.le_of_ble_eq_true rfl) ?_
  refine gi_putF 196 [.int 0, .ref (g.length + 1), .ref (g.length + 2), .ref (g.length + 3), .ref (g.length + 4), .ref (g.length + 5), .ref (g.length + 6), .ref (g.length + 7), .ref (g.length + 8), .ref (g.length + 9), .int 0, .int 0, .ref (g.length + 10), .ref (g.length + 11), .int 0, .int 0, .long 0, .long 0, .ref (g.length + 12), .ref (g.length + 13), .ref (g.length + 14), .ref (g.length + 15), .ref (g.length + 16), .ref (g.length + 17), .ref (g.length + 18), .ref (g.length + 19), .int 0, .ref (g.length + 20), .ref (g.length + 21), .ref (g.length + 22), .ref (g.length + 23), .ref (g.length + 24), .null, .null, .int 0, .int 0, .int 0, .null, .null, .int 0, .int 0, .null, .int 0, .int 0, .int 0] dX9_init_193 rfl fF_RX9_80 (Nat.le_of_ble_eq_true rfl) (fun q hq => by cases hq; exact ⟨rfl, rfl⟩) rfl (fun b => rfl) (fun b => rfl) rfl ?_
  refine go_aload_n 197 dX9_init_196 rfl rfl ?_
  refine go_bipush 199 (40) dX9_init_197 rfl (by decide) ?_
  refine gi_newa 201 25 .int 0 40 (40, .inl (fun _ => 0)) rfl dX9_init_199 rfl rfl (fun C h => by cases h) wB_int (fun kap => rfl) (fun b cA => rfl) (by decide) rfl (Nat.le_of_ble_eq_true rfl) (Nat.le_of_ble_eq_true rfl) (Nat.le_of_ble_eq_true rfl) ?_
  refine gi_putF 204 [.int 0, .ref (g.length + 1), .ref (g.length + 2), .ref (g.length + 3), .ref (g.length + 4), .ref (g.length + 5), .ref (g.length + 6), .ref (g.length + 7), .ref (g.length + 8), .ref (g.length + 9), .int 0, .int 0, .ref (g.length + 10), .ref (g.length + 11), .int 0, .int 0, .long 0, .long 0, .ref (g.length + 12), .ref (g.length + 13), .ref (g.length + 14), .ref (g.length + 15), .ref (g.length + 16), .ref (g.length + 17), .ref (g.length + 18), .ref (g.length + 19), .int 0, .ref (g.length + 20), .ref (g.length + 21), .ref (g.length + 22), .ref (g.length + 23), .ref (g.length + 24), .ref (g.length + 25), .null, .int 0, .int 0, .int 0, .null, .null, .int 0, .int 0, .null, .int 0, .int 0, .int 0] dX9_init_201 rfl fF_RX9_83 (Nat.le_of_ble_eq_true rfl) (fun q hq => by cases hq; exact ⟨rfl, rfl⟩) rfl (fun b => rfl) (fun b => rfl) rfl ?_
  refine go_aload_n 205 dX9_init_204 rfl rfl ?_
  refine go_bipush 207 (40) dX9_init_205 rfl (by decide) ?_
  refine gi_newa 209 26 .int 0 40 (40, .inl (fun _ => 0)) rfl dX9_init_207 rfl rfl (fun C h => by cases h) wB_int (fun kap => rfl) (fun b cA => rfl) (by decide) rfl (Nat.le_of_ble_eq_true rfl) (Nat.le_of_ble_eq_true rfl) (Nat.le_of_ble_eq_true rfl) ?_
  refine gi_putF 212 [.int 0, .ref (g.length + 1), .ref (g.length + 2), .ref (g.length + 3), .ref (g.length + 4), .ref (g.length + 5), .ref (g.length + 6), .ref (g.length + 7), .ref (g.length + 8), .ref (g.length + 9), .int 0, .int 0, .ref (g.length + 10), .ref (g.length + 11), .int 0, .int 0, .long 0, .long 0, .ref (g.length + 12), .ref (g.length + 13), .ref (g.length + 14), .ref (g.length + 15), .ref (g.length + 16), .ref (g.length + 17), .ref (g.length + 18), .ref (g.length + 19), .int 0, .ref (g.length + 20), .ref (g.length + 21), .ref (g.length + 22), .ref (g.length + 23), .ref (g.length + 24), .ref (g.length + 25), .ref (g.length + 26), .int 0, .int 0, .int 0, .null, .null, .int 0, .int 0, .null, .int 0, .int 0, .int 0] dX9_init_209 rfl fF_RX9_86 (Nat.le_of_ble_eq_true rfl) (fun q hq => by cases hq; exact ⟨rfl, rfl⟩) rfl (fun b => rfl) (fun b => rfl) rfl ?_
  refine go_aload_n 213 dX9_init_212 rfl rfl ?_
  refine go_iconst 214 (3) dX9_init_213 rfl (by decide) ?_
  refine gi_newa 216 27 .int 0 3 (3, .inl (fun _ => 0)) rfl dX9_init_214 rfl rfl (fun C h => by cases h) wB_int (fun kap => rfl) (fun b cA => rfl) (by decide) rfl (Nat.le_of_ble_eq_true rfl) (Nat.le_of_ble_eq_true rfl) (Nat.le_of_ble_eq_true rfl) ?_
  refine gi_putF 219 [.int 0, .ref (g.length + 1), .ref (g.length + 2), .ref (g.length + 3), .ref (g.length + 4), .ref (g.length + 5), .ref (g.length + 6), .ref (g.length + 7), .ref (g.length + 8), .ref (g.length + 9), .int 0, .int 0, .ref (g.length + 10), .ref (g.length + 11), .int 0, .int 0, .long 0, .long 0, .ref (g.length + 12), .ref (g.length + 13), .ref (g.length + 14), .ref (g.length + 15), .ref (g.length + 16), .ref (g.length + 17), .ref (g.length + 18), .ref (g.length + 19), .int 0, .ref (g.length + 20), .ref (g.length + 21), .ref (g.length + 22), .ref (g.length + 23), .ref (g.length + 24), .ref (g.length + 25), .ref (g.length + 26), .int 0, .int 0, .int 0, .ref (g.length + 27), .null, .int 0, .int 0, .null, .int 0, .int 0, .int 0] dX9_init_216 rfl fF_RX9_89 (Nat.le_of_ble_eq_true rfl) (fun q hq => by cases hq; exact ⟨rfl, rfl⟩) rfl (fun b => rfl) (fun b => rfl) rfl ?_
  refine go_aload_n 220 dX9_init_219 rfl rfl ?_
  refine go_iconst 221 (3) dX9_init_220 rfl (by decide) ?_
  refine gi_newa 223 28 .int 0 3 (3, .inl (fun _ => 0)) rfl dX9_init_221 rfl rfl (fun C h => by cases h) wB_int (fun kap => rfl) (fun b cA => rfl) (by decide) rfl (Nat.le_of_ble_eq_true rfl) (Nat.le_of_ble_eq_true rfl) (Nat.le_of_ble_eq_true rfl) ?_
  refine gi_putF 226 [.int 0, .ref (g.length + 1), .ref (g.length + 2), .ref (g.length + 3), .ref (g.length + 4), .ref (g.length + 5), .ref (g.length + 6), .ref (g.length + 7), .ref (g.length + 8), .ref (g.length + 9), .int 0, .int 0, .ref (g.length + 10), .ref (g.length + 11), .int 0, .int 0, .long 0, .long 0, .ref (g.length + 12), .ref (g.length + 13), .ref (g.length + 14), .ref (g.length + 15), .ref (g.length + 16), .ref (g.length + 17), .ref (g.length + 18), .ref (g.length + 19), .int 0, .ref (g.length + 20), .ref (g.length + 21), .ref (g.length + 22), .ref (g.length + 23), .ref (g.length + 24), .ref (g.length + 25), .ref (g.length + 26), .int 0, .int 0, .int 0, .ref (g.length + 27), .ref (g.length + 28), .int 0, .int 0, .null, .int 0, .int 0, .int 0] dX9_init_223 rfl fF_RX9_92 (Nat.le_of_ble_eq_true rfl) (fun q hq => by cases hq; exact ⟨rfl, rfl⟩) rfl (fun b => rfl) (fun b => rfl) rfl ?_
  refine go_aload_n 227 dX9_init_226 rfl rfl ?_
  refine go_sipush 230 (440) dX9_init_227 rfl (by decide) ?_
  refine gi_newa 232 29 .int 0 440 (440, .inl (fun _ => 0)) rfl dX9_init_230 rfl rfl (fun C h => by cases h) wB_int (fun kap => rfl) (fun b cA => rfl) (by decide) rfl (Nat.le_of_ble_eq_true rfl) (Nat.le_of_ble_eq_true rfl) (Nat.le_of_ble_eq_true rfl) ?_
  refine gi_putF 235 [.int 0, .ref (g.length + 1), .ref (g.length + 2), .ref (g.length + 3), .ref (g.length + 4), .ref (g.length + 5), .ref (g.length + 6), .ref (g.length + 7), .ref (g.length + 8), .ref (g.length + 9), .int 0, .int 0, .ref (g.length + 10), .ref (g.length + 11), .int 0, .int 0, .long 0, .long 0, .ref (g.length + 12), .ref (g.length + 13), .ref (g.length + 14), .ref (g.length + 15), .ref (g.length + 16), .ref (g.length + 17), .ref (g.length + 18), .ref (g.length + 19), .int 0, .ref (g.length + 20), .ref (g.length + 21), .ref (g.length + 22), .ref (g.length + 23), .ref (g.length + 24), .ref (g.length + 25), .ref (g.length + 26), .int 0, .int 0, .int 0, .ref (g.length + 27), .ref (g.length + 28), .int 0, .int 0, .ref (g.length + 29), .int 0, .int 0, .int 0] dX9_init_232 rfl fF_RX9_95 (Nat.le_of_ble_eq_true rfl) (fun q hq => by cases hq; exact ⟨rfl, rfl⟩) rfl (fun b => rfl) (fun b => rfl) rfl ?_
  refine go_return dX9_init_235 rfl (Nat.le_of_ble_eq_true rfl) (Nat.le_of_ble_eq_true rfl) ?_
  exact ⟨rfl, rfl⟩

