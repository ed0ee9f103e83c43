def itC (B : Nat) : Nat → go_H
  | 0 => []
  | k + 1 => itC B k ++ ce_X2 (B + 2 * k)
theorem itC_len (B k : Nat) : (itC B k).length = 2 * k := by
  induction k with
  | zero => rfl
  | succ k ih =>
    show (itC B k ++ ce_X2 (B + 2 * k)).length = _
    rw [List.length_append, ih]
    show 2 * k + 2 = _
    omega
def itf (B k : Nat) : Nat → Option Nat := fun j => if j < k then some (B + 2 * j) else none
theorem itf_up (B k : Nat) : va_up (itf B k) k (some (B + 2 * k)) = itf B (k + 1) := by
  funext j
  unfold va_up itf
  by_cases h : j = k
  · subst h; simp
  · by_cases h2 : j < k
    · simp [h, h2, show j < k + 1 by omega]
    · simp [h, h2, show ¬ j < k + 1 by omega]
abbrev itA (B k : Nat) : go_C := .inl (.object RX2, 27, .inr (.inr (.inr (.inr (itf B k)))))
abbrev chA : go_C := .inl (.char, 80, .inl (fun _ => 0))
def ce_X5 (B : Nat) : go_H := .inr (5, [.int 0, .int 0, .int 0, .ref (B + 1), .ref (B + 2)]) :: (([chA, itA (B + 3) 27]) ++ itC (B + 3) 27)
theorem ap_2 {g R : go_H} {a b c : go_C} : (g ++ a :: (([b, c]) ++ R))[g.length + 2]? = some c := by simp [List.getElem?_append]
theorem ap_2s {g R : go_H} {a b c d : go_C} : (g ++ a :: (([b, c]) ++ R)).set (g.length + 2) d = g ++ a :: (([b, d]) ++ R) := by simp [List.set_append]
theorem ap_l {g R : go_H} {a b c d : go_C} {S : go_H} {m : Nat} (hm : R.length + 3 = m) : (g ++ a :: (([b, c]) ++ R ++ d :: S))[g.length + m]? = some d := by
  subst hm
  rw [List.getElem?_append_right (by omega), show g.length + (R.length + 3) - g.length = R.length + 3 by omega]
  simp
def mX2b : go_M := (RX2, yX2_init, cX2_init, 1, none, [], { frames := 1, cells := 1, slots := 3, locals := 60 })
theorem sV_X5_init_31b : go_IN mX5_init 31 mX2b := ⟨rfl, rfl, rfl, ⟨"WidthMinimizer", (by decide +kernel)⟩, wM_X2_init, ⟨wI_RX2, wC_X2_init, ⟨(by decide +kernel), (by decide +kernel)⟩, (by decide +kernel), (by decide +kernel)⟩⟩
set_option maxRecDepth 100000 in
theorem ci_X2b : gI mX2b (.inr (2, [.int 0, .null])) ce_X2 := by
  intro g
  refine go_enter [.ref g.length] [(0, .ref g.length)] (by decide +kernel) rfl rfl (Nat.le_of_ble_eq_true rfl) rfl ?_
  refine go_aload_n 1 dX2_init_0 rfl rfl ?_
  refine go_obj 4 dX2_init_1 rfl wL_RX2_3 wM_obj wC_obj (Nat.le_of_ble_eq_true rfl) (Nat.le_of_ble_eq_true rfl) ?_
  refine go_aload_n 5 dX2_init_4 rfl rfl ?_
  refine go_iconst 6 (0) dX2_init_5 rfl (by decide) ?_
  refine gi_put 9 [.int 0, .null] dX2_init_6 rfl fF_RX2_9 (Nat.le_of_ble_eq_true rfl) (fun q hq => by cases hq; rfl) rfl rfl (fun b => rfl) rfl ?_
  refine go_aload_n 10 dX2_init_9 rfl rfl ?_
  refine go_iconst 11 (3) dX2_init_10 rfl (by decide) ?_
  refine gi_newa 13 1 .int 0 3 (3, .inl (fun _ => 0)) rfl dX2_init_11 rfl rfl (fun C h => by cases h) wB_int (fun kap => rfl) (fun b cA => rfl) (by decide) rfl (Nat.le_of_ble_eq_true rfl) (Nat.le_of_ble_eq_true rfl) (Nat.le_of_ble_eq_true rfl) ?_
  refine gi_putF 16 [.int 0, .ref (g.length + 1)] dX2_init_13 rfl fF_RX2_15 (Nat.le_of_ble_eq_true rfl) (fun q hq => by cases hq; exact ⟨rfl, rfl⟩) rfl (fun b => rfl) (fun b => rfl) rfl ?_
  refine go_return dX2_init_16 rfl (Nat.le_of_ble_eq_true rfl) (Nat.le_of_ble_eq_true rfl) ?_
  exact ⟨rfl, rfl⟩
theorem lp_X5 (g : go_H) : ∀ f k, f + k = 27 → ∀ cl sl, cl + 2 * f ≤ 100 → sl + 5 * f ≤ 2000 → Go mX5_init true (go_Qm mX5_init true (fun v h => v = none ∧ h = g ++ ce_X5 g.length) go_no) cl sl 38 [(1, .int (nI k)), (0, .ref g.length)] [] (g ++ .inr (5, [.int 0, .int 0, .int 0, .ref (g.length + 1), .ref (g.length + 2)]) :: (([chA, itA (g.length + 3) k]) ++ itC (g.length + 3) k)) := by
  intro f
  induction f with
  | zero =>
    intro k hk cl sl hc hs
    have e : k = 27 := by omega
    subst e
    refine go_iload_n 39 dX5_init_38 rfl rfl ?_
    refine go_bipush 41 (27) dX5_init_39 rfl (by decide) ?_
    refine go_icmp_ge 44 63 dX5_init_41 rfl (by decide) (fun _ => ?_) (fun q => absurd (show (27 : Int32) ≤ nI 27 by decide) q)
    refine go_return dX5_init_63 rfl (show cl ≤ 100 by omega) (show sl ≤ 2000 by omega) ?_
    exact ⟨rfl, rfl⟩
  | succ f ih =>
    intro k hk cl sl hc hs
    have hlen : (([chA, itA (g.length + 3) k]) ++ itC (g.length + 3) k).length + 1 = 3 + 2 * k := by
      rw [List.length_append, itC_len]
      show 2 + 2 * k + 1 = 3 + 2 * k
      omega
    refine go_iload_n 39 dX5_init_38 rfl rfl ?_
    refine go_bipush 41 (27) dX5_init_39 rfl (by decide) ?_
    refine go_icmp_ge 44 63 dX5_init_41 rfl (by decide) (fun q => absurd q (by rw [show (27 : Int32) = nI 27 from rfl, nI_le2 (by omega) (by omega)]; omega)) (fun _ => ?_)
    refine go_aload_n 45 dX5_init_44 rfl rfl ?_
    refine go_get 48 dX5_init_45 rfl fF_RX5_27 ap_at rfl ?_
    refine go_iload_n 49 dX5_init_48 rfl rfl ?_
    refine gi_new 52 (3 + 2 * k) [.int 0, .null] hlen dX5_init_49 rfl (ci := 2) rfl wJ_RX5_25 wA_X2 wI_RX2 rfl (show cl + 1 ≤ 100 by omega) (show sl + 2 ≤ 2000 by omega) ?_
    refine go_dup 53 dX5_init_52 rfl rfl ?_
    refine gi_callIN 56 (3 + 2 * k) [.ref (g.length + (3 + 2 * k)), .int (nI k), .ref (g.length + 2)] ci_X2b hlen dX5_init_53 rfl sV_X5_init_31b rfl (Nat.le_of_ble_eq_true rfl) (show cl + 1 + 1 ≤ 100 by omega) (show sl + 2 + 3 ≤ 2000 by omega) ?_
    have hv : (g ++ .inr (5, [.int 0, .int 0, .int 0, .ref (g.length + 1), .ref (g.length + 2)]) :: ((([chA, itA (g.length + 3) k]) ++ itC (g.length + 3) k) ++ ce_X2 (g.length + (3 + 2 * k))))[g.length + (3 + 2 * k)]? = some (.inr (2, [.int 0, .ref (g.length + (3 + 2 * k) + 1)])) := ap_l (by rw [itC_len]; omega)
    rw [List.append_assoc] at hv ⊢
    refine go_aast 57 dX5_init_56 rfl ap_2 hv (nI_i (by omega) (by omega)) ?_
    rw [ap_2s, nI_c (by omega), show g.length + (3 + 2 * k) = g.length + 3 + 2 * k by omega, itf_up]
    refine go_iinc 60 [(1, .int (nI (k + 1))), (0, .ref g.length)] (nI (k + 1)) dX5_init_57 rfl (Nat.le_of_ble_eq_true rfl) rfl (nI_1 k) rfl ?_
    refine go_goto 38 dX5_init_60 (by decide) ?_
    exact ih (k + 1) (by omega) (cl + 1 + 1) (sl + 2 + 3) (by omega) (by omega)
set_option maxRecDepth 100000 in
theorem ci_X5 : gI mX5_init (.inr (5, [.int 0, .int 0, .int 0, .null, .null])) ce_X5 := by
  intro g
  refine go_enter [.ref g.length] [(0, .ref g.length)] (by decide +kernel) rfl rfl (Nat.le_of_ble_eq_true rfl) rfl ?_
  refine go_aload_n 1 dX5_init_0 rfl rfl ?_
  refine go_obj 4 dX5_init_1 rfl wL_RX5_5 wM_obj wC_obj (Nat.le_of_ble_eq_true rfl) (Nat.le_of_ble_eq_true rfl) ?_
  refine go_aload_n 5 dX5_init_4 rfl rfl ?_
  refine go_iconst 6 (0) dX5_init_5 rfl (by decide) ?_
  refine gi_put 9 [.int 0, .int 0, .int 0, .null, .null] dX5_init_6 rfl fF_RX5_11 (Nat.le_of_ble_eq_true rfl) (fun q hq => by cases hq; rfl) rfl rfl (fun b => rfl) rfl ?_
  refine go_aload_n 10 dX5_init_9 rfl rfl ?_
  refine go_iconst 11 (0) dX5_init_10 rfl (by decide) ?_
  refine gi_put 14 [.int 0, .int 0, .int 0, .null, .null] dX5_init_11 rfl fF_RX5_15 (Nat.le_of_ble_eq_true rfl) (fun q hq => by cases hq; rfl) rfl rfl (fun b => rfl) rfl ?_
  refine go_aload_n 15 dX5_init_14 rfl rfl ?_
  refine go_iconst 16 (0) dX5_init_15 rfl (by decide) ?_
  refine gi_put 19 [.int 0, .int 0, .int 0, .null, .null] dX5_init_16 rfl fF_RX5_18 (Nat.le_of_ble_eq_true rfl) (fun q hq => by cases hq; rfl) rfl rfl (fun b => rfl) rfl ?_
  refine go_aload_n 20 dX5_init_19 rfl rfl ?_
  refine go_bipush 22 (80) dX5_init_20 rfl (by decide) ?_
  refine gi_newa 24 1 .char 3 80 (80, .inl (fun _ => 0)) rfl dX5_init_22 rfl rfl (fun C h => by cases h) wB_char (fun kap => rfl) (fun b cA => rfl) (by decide) rfl (Nat.le_of_ble_eq_true rfl) (Nat.le_of_ble_eq_true rfl) (Nat.le_of_ble_eq_true rfl) ?_
  refine gi_putF 27 [.int 0, .int 0, .int 0, .ref (g.length + 1), .null] dX5_init_24 rfl fF_RX5_21 (Nat.le_of_ble_eq_true rfl) (fun q hq => by cases hq; exact ⟨rfl, rfl⟩) rfl (fun b => rfl) (fun b => rfl) rfl ?_
  refine go_aload_n 28 dX5_init_27 rfl rfl ?_
  refine go_bipush 30 (27) dX5_init_28 rfl (by decide) ?_
  refine gi_newq 33 2 27 rfl dX5_init_30 rfl wJ_RX5_25 (by decide) rfl (Nat.le_of_ble_eq_true rfl) (Nat.le_of_ble_eq_true rfl) (Nat.le_of_ble_eq_true rfl) ?_
  refine gi_putF 36 [.int 0, .int 0, .int 0, .ref (g.length + 1), .ref (g.length + 2)] dX5_init_33 rfl fF_RX5_27 (Nat.le_of_ble_eq_true rfl) (fun q hq => by cases hq; exact ⟨rfl, rfl⟩) rfl (fun b => rfl) (fun b => rfl) rfl ?_
  refine go_iconst 37 (0) dX5_init_36 rfl (by decide) ?_
  refine go_istore_n 38 [(1, .int (nI 0)), (0, .ref g.length)] dX5_init_37 rfl (Nat.le_of_ble_eq_true rfl) rfl ?_
  exact lp_X5 g 27 0 rfl _ _ (Nat.le_of_ble_eq_true rfl) (Nat.le_of_ble_eq_true rfl)

theorem ce_X0_len (B : Nat) : (ce_X0 B).length = 11 := rfl
theorem ce_X1_len (B : Nat) : (ce_X1 B).length = 3 := rfl
theorem ce_X2_len (B : Nat) : (ce_X2 B).length = 2 := rfl
theorem ce_X3_len (B : Nat) : (ce_X3 B).length = 2 := rfl
theorem ce_X4_len (B : Nat) : (ce_X4 B).length = 4 := rfl
theorem ce_X6_len (B : Nat) : (ce_X6 B).length = 7 := rfl
theorem ce_X7_len (B : Nat) : (ce_X7 B).length = 4 := rfl
theorem ce_X5_len (B : Nat) : (ce_X5 B).length = 57 := by
  unfold ce_X5
  rw [List.length_cons, List.length_append, itC_len]
  rfl
def ce_X8 (B : Nat) : go_H := .inr (8, [.ref (B + 1), .ref (B + 12), .ref (B + 23), .ref (B + 34), .ref (B + 36), .ref (B + 40), .ref (B + 44), .ref (B + 51), .ref (B + 53), .ref (B + 55), .ref (B + 112), .int 0, .int 0]) :: ((((((((((([] ++ ce_X0 (B + 1)) ++ ce_X0 (B + 12)) ++ ce_X0 (B + 23)) ++ ce_X2 (B + 34)) ++ ce_X4 (B + 36)) ++ ce_X7 (B + 40)) ++ ce_X6 (B + 44)) ++ ce_X3 (B + 51)) ++ ce_X3 (B + 53)) ++ ce_X5 (B + 55)) ++ ce_X1 (B + 112))
set_option maxRecDepth 100000 in
theorem ci_X8 : gI mX8_init (.inr (8, [.null, .null, .null, .null, .null, .null, .null, .null, .null, .null, .null, .int 0, .int 0])) ce_X8 := by
  intro g
  refine go_enter [.ref g.length] [(0, .ref g.length)] (by decide +kernel) rfl rfl (Nat.le_of_ble_eq_true rfl) rfl ?_
  refine go_aload_n 1 dX8_init_0 rfl rfl ?_
  refine go_obj 4 dX8_init_1 rfl wL_RX8_1 wM_obj wC_obj (Nat.le_of_ble_eq_true rfl) (Nat.le_of_ble_eq_true rfl) ?_
  refine go_aload_n 5 dX8_init_4 rfl rfl ?_
  refine gi_new 8 1 [.int 0, .int 0, .null, .null, .null, .null, .null, .null, .null, .null, .null, .null] rfl dX8_init_5 rfl (ci := 0) rfl wJ_RX8_7 wA_X0 wI_RX0 rfl (Nat.le_of_ble_eq_true rfl) (Nat.le_of_ble_eq_true rfl) ?_
  refine go_dup 9 dX8_init_8 rfl rfl ?_
  refine gi_callIN 12 1 [.ref _, .ref _] ci_X0 rfl dX8_init_9 rfl sV_X8_init_9 rfl (Nat.le_of_ble_eq_true rfl) (Nat.le_of_ble_eq_true rfl) (Nat.le_of_ble_eq_true rfl) ?_
  refine gi_putF 15 [.ref (g.length + 1), .null, .null, .null, .null, .null, .null, .null, .null, .null, .null, .int 0, .int 0] dX8_init_12 rfl fF_RX8_10 (Nat.le_of_ble_eq_true rfl) (fun q hq => by cases hq; exact ⟨rfl, rfl⟩) rfl (fun b => rfl) (fun b => rfl) rfl ?_
  refine go_aload_n 16 dX8_init_15 rfl rfl ?_
  refine gi_new 19 12 [.int 0, .int 0, .null, .null, .null, .null, .null, .null, .null, .null, .null, .null] rfl dX8_init_16 rfl (ci := 0) rfl wJ_RX8_7 wA_X0 wI_RX0 rfl (Nat.le_of_ble_eq_true rfl) (Nat.le_of_ble_eq_true rfl) ?_
  refine go_dup 20 dX8_init_19 rfl rfl ?_
  refine gi_callIN 23 12 [.ref _, .ref _] ci_X0 rfl dX8_init_20 rfl sV_X8_init_9 rfl (Nat.le_of_ble_eq_true rfl) (Nat.le_of_ble_eq_true rfl) (Nat.le_of_ble_eq_true rfl) ?_
  refine gi_putF 26 [.ref (g.length + 1), .ref (g.length + 12), .null, .null, .null, .null, .null, .null, .null, .null, .null, .int 0, .int 0] dX8_init_23 rfl fF_RX8_16 (Nat.le_of_ble_eq_true rfl) (fun q hq => by cases hq; exact ⟨rfl, rfl⟩) rfl (fun b => rfl) (fun b => rfl) rfl ?_
  refine go_aload_n 27 dX8_init_26 rfl rfl ?_
  refine gi_new 30 23 [.int 0, .int 0, .null, .null, .null, .null, .null, .null, .null, .null, .null, .null] rfl dX8_init_27 rfl (ci := 0) rfl wJ_RX8_7 wA_X0 wI_RX0 rfl (Nat.le_of_ble_eq_true rfl) (Nat.le_of_ble_eq_true rfl) ?_
  refine go_dup 31 dX8_init_30 rfl rfl ?_
  refine gi_callIN 34 23 [.ref _, .ref _] ci_X0 rfl dX8_init_31 rfl sV_X8_init_9 rfl (Nat.le_of_ble_eq_true rfl) (Nat.le_of_ble_eq_true rfl) (Nat.le_of_ble_eq_true rfl) ?_
  refine gi_putF 37 [.ref (g.length + 1), .ref (g.length + 12), .ref (g.length + 23), .null, .null, .null, .null, .null, .null, .null, .null, .int 0, .int 0] dX8_init_34 rfl fF_RX8_19 (Nat.le_of_ble_eq_true rfl) (fun q hq => by cases hq; exact ⟨rfl, rfl⟩) rfl (fun b => rfl) (fun b => rfl) rfl ?_
  refine go_aload_n 38 dX8_init_37 rfl rfl ?_
  refine gi_new 41 34 [.int 0, .null] rfl dX8_init_38 rfl (ci := 2) rfl wJ_RX8_22 wA_X2 wI_RX2 rfl (Nat.le_of_ble_eq_true rfl) (Nat.le_of_ble_eq_true rfl) ?_
  refine go_dup 42 dX8_init_41 rfl rfl ?_
  refine gi_callIN 45 34 [.ref _, .ref _] ci_X2 rfl dX8_init_42 rfl sV_X8_init_24 rfl (Nat.le_of_ble_eq_true rfl) (Nat.le_of_ble_eq_true rfl) (Nat.le_of_ble_eq_true rfl) ?_
  refine gi_putF 48 [.ref (g.length + 1), .ref (g.length + 12), .ref (g.length + 23), .ref (g.length + 34), .null, .null, .null, .null, .null, .null, .null, .int 0, .int 0] dX8_init_45 rfl fF_RX8_25 (Nat.le_of_ble_eq_true rfl) (fun q hq => by cases hq; exact ⟨rfl, rfl⟩) rfl (fun b => rfl) (fun b => rfl) rfl ?_
  refine go_aload_n 49 dX8_init_48 rfl rfl ?_
  refine gi_new 52 36 [.null, .null, .null, .int 0] rfl dX8_init_49 rfl (ci := 4) rfl wJ_RX8_29 wA_X4 wI_RX4 rfl (Nat.le_of_ble_eq_true rfl) (Nat.le_of_ble_eq_true rfl) ?_
  refine go_dup 53 dX8_init_52 rfl rfl ?_
  refine gi_callIN 56 36 [.ref _, .ref _] ci_X4 rfl dX8_init_53 rfl sV_X8_init_31 rfl (Nat.le_of_ble_eq_true rfl) (Nat.le_of_ble_eq_true rfl) (Nat.le_of_ble_eq_true rfl) ?_
  refine gi_putF 59 [.ref (g.length + 1), .ref (g.length + 12), .ref (g.length + 23), .ref (g.length + 34), .ref (g.length + 36), .null, .null, .null, .null, .null, .null, .int 0, .int 0] dX8_init_56 rfl fF_RX8_32 (Nat.le_of_ble_eq_true rfl) (fun q hq => by cases hq; exact ⟨rfl, rfl⟩) rfl (fun b => rfl) (fun b => rfl) rfl ?_
  refine go_aload_n 60 dX8_init_59 rfl rfl ?_
  refine gi_new 63 40 [.null, .null, .null, .int 0] rfl dX8_init_60 rfl (ci := 7) rfl wJ_RX8_36 wA_X7 wI_RX7 rfl (Nat.le_of_ble_eq_true rfl) (Nat.le_of_ble_eq_true rfl) ?_
  refine go_dup 64 dX8_init_63 rfl rfl ?_
  refine gi_callIN 67 40 [.ref _, .ref _] ci_X7 rfl dX8_init_64 rfl sV_X8_init_38 rfl (Nat.le_of_ble_eq_true rfl) (Nat.le_of_ble_eq_true rfl) (Nat.le_of_ble_eq_true rfl) ?_
  refine gi_putF 70 [.ref (g.length + 1), .ref (g.length + 12), .ref (g.length + 23), .ref (g.length + 34), .ref (g.length + 36), .ref (g.length + 40), .null, .null, .null, .null, .null, .int 0, .int 0] dX8_init_67 rfl fF_RX8_39 (Nat.le_of_ble_eq_true rfl) (fun q hq => by cases hq; exact ⟨rfl, rfl⟩) rfl (fun b => rfl) (fun b => rfl) rfl ?_
  refine go_aload_n 71 dX8_init_70 rfl rfl ?_
  refine gi_new 74 44 [.int 0, .null, .null, .null, .null, .null, .null] rfl dX8_init_71 rfl (ci := 6) rfl wJ_RX8_43 wA_X6 wI_RX6 rfl (Nat.le_of_ble_eq_true rfl) (Nat.le_of_ble_eq_true rfl) ?_
  refine go_dup 75 dX8_init_74 rfl rfl ?_
  refine gi_callIN 78 44 [.ref _, .ref _] ci_X6 rfl dX8_init_75 rfl sV_X8_init_45 rfl (Nat.le_of_ble_eq_true rfl) (Nat.le_of_ble_eq_true rfl) (Nat.le_of_ble_eq_true rfl) ?_
  refine gi_putF 81 [.ref (g.length + 1), .ref (g.length + 12), .ref (g.length + 23), .ref (g.length + 34), .ref (g.length + 36), .ref (g.length + 40), .ref (g.length + 44), .null, .null, .null, .null, .int 0, .int 0] dX8_init_78 rfl fF_RX8_46 (Nat.le_of_ble_eq_true rfl) (fun q hq => by cases hq; exact ⟨rfl, rfl⟩) rfl (fun b => rfl) (fun b => rfl) rfl ?_
  refine go_aload_n 82 dX8_init_81 rfl rfl ?_
  refine gi_new 85 51 [.null] rfl dX8_init_82 rfl (ci := 3) rfl wJ_RX8_50 wA_X3 wI_RX3 rfl (Nat.le_of_ble_eq_true rfl) (Nat.le_of_ble_eq_true rfl) ?_
  refine go_dup 86 dX8_init_85 rfl rfl ?_
  refine gi_callIN 89 51 [.ref _, .ref _] ci_X3 rfl dX8_init_86 rfl sV_X8_init_52 rfl (Nat.le_of_ble_eq_true rfl) (Nat.le_of_ble_eq_true rfl) (Nat.le_of_ble_eq_true rfl) ?_
  refine gi_putF 92 [.ref (g.length + 1), .ref (g.length + 12), .ref (g.length + 23), .ref (g.length + 34), .ref (g.length + 36), .ref (g.length + 40), .ref (g.length + 44), .ref (g.length + 51), .null, .null, .null, .int 0, .int 0] dX8_init_89 rfl fF_RX8_53 (Nat.le_of_ble_eq_true rfl) (fun q hq => by cases hq; exact ⟨rfl, rfl⟩) rfl (fun b => rfl) (fun b => rfl) rfl ?_
  refine go_aload_n 93 dX8_init_92 rfl rfl ?_
  refine gi_new 96 53 [.null] rfl dX8_init_93 rfl (ci := 3) rfl wJ_RX8_50 wA_X3 wI_RX3 rfl (Nat.le_of_ble_eq_true rfl) (Nat.le_of_ble_eq_true rfl) ?_
  refine go_dup 97 dX8_init_96 rfl rfl ?_
  refine gi_callIN 100 53 [.ref _, .ref _] ci_X3 rfl dX8_init_97 rfl sV_X8_init_52 rfl (Nat.le_of_ble_eq_true rfl) (Nat.le_of_ble_eq_true rfl) (Nat.le_of_ble_eq_true rfl) ?_
  refine gi_putF 103 [.ref (g.length + 1), .ref (g.length + 12), .ref (g.length + 23), .ref (g.length + 34), .ref (g.length + 36), .ref (g.length + 40), .ref (g.length + 44), .ref (g.length + 51), .ref (g.length + 53), .null, .null, .int 0, .int 0] dX8_init_100 rfl fF_RX8_57 (Nat.le_of_ble_eq_true rfl) (fun q hq => by cases hq; exact ⟨rfl, rfl⟩) rfl (fun b => rfl) (fun b => rfl) rfl ?_
  refine go_aload_n 104 dX8_init_103 rfl rfl ?_
  refine gi_new 107 55 [.int 0, .int 0, .int 0, .null, .null] rfl dX8_init_104 rfl (ci := 5) rfl wJ_RX8_60 wA_X5 wI_RX5 rfl (Nat.le_of_ble_eq_true rfl) (Nat.le_of_ble_eq_true rfl) ?_
  refine go_dup 108 dX8_init_107 rfl rfl ?_
  refine gi_callI 111 55 [.ref _, .ref _] ci_X5 rfl dX8_init_108 rfl sV_X8_init_62 rfl (Nat.le_of_ble_eq_true rfl) (Nat.le_of_ble_eq_true rfl) (Nat.le_of_ble_eq_true rfl) ?_
  refine gi_putF 114 [.ref (g.length + 1), .ref (g.length + 12), .ref (g.length + 23), .ref (g.length + 34), .ref (g.length + 36), .ref (g.length + 40), .ref (g.length + 44), .ref (g.length + 51), .ref (g.length + 53), .ref (g.length + 55), .null, .int 0, .int 0] dX8_init_111 rfl fF_RX8_63 (Nat.le_of_ble_eq_true rfl) (fun q hq => by cases hq; exact ⟨rfl, rfl⟩) rfl (fun b => rfl) (fun b => rfl) rfl ?_
  refine go_aload_n 115 dX8_init_114 rfl rfl ?_
  refine gi_new 118 112 [.int 0, .null, .null] (by simp only [List.length_append, ce_X0_len, ce_X2_len, ce_X3_len, ce_X4_len, ce_X5_len, ce_X6_len, ce_X7_len, List.length_nil, Nat.reduceAdd]) dX8_init_115 rfl (ci := 1) rfl wJ_RX8_67 wA_X1 wI_RX1 rfl (Nat.le_of_ble_eq_true rfl) (Nat.le_of_ble_eq_true rfl) ?_
  refine go_dup 119 dX8_init_118 rfl rfl ?_
  refine gi_callIN 122 112 [.ref _, .ref _] ci_X1 (by simp only [List.length_append, ce_X0_len, ce_X2_len, ce_X3_len, ce_X4_len, ce_X5_len, ce_X6_len, ce_X7_len, List.length_nil, Nat.reduceAdd]) dX8_init_119 rfl sV_X8_init_69 rfl (Nat.le_of_ble_eq_true rfl) (Nat.le_of_ble_eq_true rfl) (Nat.le_of_ble_eq_true rfl) ?_
  refine gi_putF 125 [.ref (g.length + 1), .ref (g.length + 12), .ref (g.length + 23), .ref (g.length + 34), .ref (g.length + 36), .ref (g.length + 40), .ref (g.length + 44), .ref (g.length + 51), .ref (g.length + 53), .ref (g.length + 55), .ref (g.length + 112), .int 0, .int 0] dX8_init_122 rfl fF_RX8_70 (Nat.le_of_ble_eq_true rfl) (fun q hq => by cases hq; exact ⟨rfl, rfl⟩) rfl (fun b => rfl) (fun b => rfl) rfl ?_
  refine go_aload_n 126 dX8_init_125 rfl rfl ?_
  refine go_iconst 127 (0) dX8_init_126 rfl (by decide) ?_
  refine gi_put 130 [.ref (g.length + 1), .ref (g.length + 12), .ref (g.length + 23), .ref (g.length + 34), .ref (g.length + 36), .ref (g.length + 40), .ref (g.length + 44), .ref (g.length + 51), .ref (g.length + 53), .ref (g.length + 55), .ref (g.length + 112), .int 0, .int 0] dX8_init_127 rfl fF_RX8_74 (Nat.le_of_ble_eq_true rfl) (fun q hq => by cases hq; rfl) rfl rfl (fun b => rfl) rfl ?_
  refine go_aload_n 131 dX8_init_130 rfl rfl ?_
  refine go_iconst 132 (0) dX8_init_131 rfl (by decide) ?_
  refine gi_put 135 [.ref (g.length + 1), .ref (g.length + 12), .ref (g.length + 23), .ref (g.length + 34), .ref (g.length + 36), .ref (g.length + 40), .ref (g.length + 44), .ref (g.length + 51), .ref (g.length + 53), .ref (g.length + 55), .ref (g.length + 112), .int 0, .int 0] dX8_init_132 rfl fF_RX8_78 (Nat.le_of_ble_eq_true rfl) (fun q hq => by cases hq; rfl) rfl rfl (fun b => rfl) rfl ?_
  refine go_return dX8_init_135 rfl (Nat.le_of_ble_eq_true rfl) (Nat.le_of_ble_eq_true rfl) ?_
  exact ⟨rfl, rfl⟩

