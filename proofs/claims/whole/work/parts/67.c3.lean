-- needs 
theorem rI_ite {p : Prop} [Decidable p] (A B : gS) (a c : Nat) : rI (if p then A else B) a c = if p then rI A a c else rI B a c := by split <;> rfl
theorem snd_ite {p : Prop} [Decidable p] (A B : Int32 × gS) : (if p then A else B).2 = if p then A.2 else B.2 := by split <;> rfl
theorem fst_ite {p : Prop} [Decidable p] (A B : Int32 × gS) : (if p then A else B).1 = if p then A.1 else B.1 := by split <;> rfl
def f_X4_onesNotBelow (v : Int32) : Int32 := (if (0 : Int32) < v then (ushr ((-1)) ((f_nlz v))) else 0)
set_option maxRecDepth 100000 in
set_option maxHeartbeats 1000000 in
theorem ct_X4_onesNotBelow (S : gS) (v : Int32)  : gF mX4_onesNotBelow [.int v] S (some (.int (f_X4_onesNotBelow v))) S := by
  refine go_enter [.int v] [(0, .int v)] (by decide +kernel) rfl rfl (Nat.le_of_ble_eq_true rfl) rfl ?_
  refine go_iload_n 1 dX4_onesNotBelow_0 rfl rfl ?_
  refine go_if_gt 4 8 dX4_onesNotBelow_1 rfl (by decide) (fun hc1 => ?_) (fun hc1 => ?_)
  · refine go_iconst 9 (-1) dX4_onesNotBelow_8 rfl (by decide) ?_
    refine go_iload_n 10 dX4_onesNotBelow_9 rfl rfl ?_
    refine g_callS 13 [.int _] [.int _] dX4_onesNotBelow_10 rfl (ct_J6_numberOfLeadingZeros_0f7a4 _ _) rfl sV_X4_onesNotBelow_106 rfl (Nat.le_of_ble_eq_true rfl) (Nat.le_of_ble_eq_true rfl) (Nat.le_of_ble_eq_true rfl) ?_
    refine go_iushr 14 dX4_onesNotBelow_13 rfl ?_
    refine go_topi (ushr _ _) rfl ?_
    refine go_ireturn dX4_onesNotBelow_14 rfl (by first | rfl | exact bi_nar) (Nat.le_of_ble_eq_true rfl) (Nat.le_of_ble_eq_true rfl) ?_
    exact ⟨congrArg (fun z => some (Value.int z)) (by unfold f_X4_onesNotBelow; simp only [if_pos hc1]; try first | rfl | contradiction), rfl⟩
  · refine go_iconst 5 (0) dX4_onesNotBelow_4 rfl (by decide) ?_
    refine go_goto 14 dX4_onesNotBelow_5 (by decide) ?_
    refine go_ireturn dX4_onesNotBelow_14 rfl (by first | rfl | exact bi_nar) (Nat.le_of_ble_eq_true rfl) (Nat.le_of_ble_eq_true rfl) ?_
    exact ⟨congrArg (fun z => some (Value.int z)) (by unfold f_X4_onesNotBelow; simp only [if_neg hc1]; try first | rfl | contradiction), rfl⟩

def f_X4_powerNotAbove (v : Int32) : Int32 := (if v < 0 then ((f_X4_onesNotBelow ((v ^^^ (-1)))) ^^^ (-1)) else 0)
set_option maxRecDepth 100000 in
set_option maxHeartbeats 1000000 in
theorem ct_X4_powerNotAbove (S : gS) (v : Int32)  : gF mX4_powerNotAbove [.int v] S (some (.int (f_X4_powerNotAbove v))) S := by
  refine go_enter [.int v] [(0, .int v)] (by decide +kernel) rfl rfl (Nat.le_of_ble_eq_true rfl) rfl ?_
  refine go_iload_n 1 dX4_powerNotAbove_0 rfl rfl ?_
  refine go_if_lt 4 8 dX4_powerNotAbove_1 rfl (by decide) (fun hc1 => ?_) (fun hc1 => ?_)
  · refine go_iload_n 9 dX4_powerNotAbove_8 rfl rfl ?_
    refine go_iconst 10 (-1) dX4_powerNotAbove_9 rfl (by decide) ?_
    refine go_ixor 11 dX4_powerNotAbove_10 rfl ?_
    refine g_callS 14 [.int _] [] dX4_powerNotAbove_11 rfl (ct_X4_onesNotBelow _ _) rfl sV_X4_powerNotAbove_100 rfl (Nat.le_of_ble_eq_true rfl) (Nat.le_of_ble_eq_true rfl) (Nat.le_of_ble_eq_true rfl) ?_
    refine go_iconst 15 (-1) dX4_powerNotAbove_14 rfl (by decide) ?_
    refine go_ixor 16 dX4_powerNotAbove_15 rfl ?_
    refine go_ireturn dX4_powerNotAbove_16 rfl (by first | rfl | exact bi_nar) (Nat.le_of_ble_eq_true rfl) (Nat.le_of_ble_eq_true rfl) ?_
    exact ⟨congrArg (fun z => some (Value.int z)) (by unfold f_X4_powerNotAbove; simp only [if_pos hc1]; try first | rfl | contradiction), rfl⟩
  · refine go_iconst 5 (0) dX4_powerNotAbove_4 rfl (by decide) ?_
    refine go_goto 16 dX4_powerNotAbove_5 (by decide) ?_
    refine go_ireturn dX4_powerNotAbove_16 rfl (by first | rfl | exact bi_nar) (Nat.le_of_ble_eq_true rfl) (Nat.le_of_ble_eq_true rfl) ?_
    exact ⟨congrArg (fun z => some (Value.int z)) (by unfold f_X4_powerNotAbove; simp only [if_neg hc1]; try first | rfl | contradiction), rfl⟩

def f_X4_isSignedRange (S : gS) (i : Int32) : Int32 := (if (0 : Int32) ≤ (rI S 37 i.toNatClampNeg) then 0 else 1)
set_option maxRecDepth 100000 in
set_option maxHeartbeats 1000000 in
theorem ct_X4_isSignedRange (S : gS) (i : Int32) (hi : vp_in i 24) : gF mX4_isSignedRange [.ref 36, .int i] S (some (.int (f_X4_isSignedRange S i))) S := by
  refine go_enter [.ref 36, .int i] [(0, .ref 36), (1, .int i)] (by decide +kernel) rfl rfl (Nat.le_of_ble_eq_true rfl) rfl ?_
  refine go_aload_n 1 dX4_isSignedRange_0 rfl rfl ?_
  refine g_getR 4 dX4_isSignedRange_1 rfl fF_RX4_9 ly_36 rfl ?_
  refine go_iload_n 5 dX4_isSignedRange_4 rfl rfl ?_
  refine g_iald2 6 _ dX4_isSignedRange_5 rfl ly_37 hi rfl ?_
  refine go_if_ge 9 13 dX4_isSignedRange_6 rfl (by decide) (fun hc1 => ?_) (fun hc1 => ?_)
  · refine go_iconst 14 (0) dX4_isSignedRange_13 rfl (by decide) ?_
    refine go_ireturn dX4_isSignedRange_14 rfl (by first | rfl | exact bi_nar) (Nat.le_of_ble_eq_true rfl) (Nat.le_of_ble_eq_true rfl) ?_
    exact ⟨congrArg (fun z => some (Value.int z)) (by unfold f_X4_isSignedRange; simp only [if_pos hc1]; try first | rfl | contradiction), rfl⟩
  · refine go_iconst 10 (1) dX4_isSignedRange_9 rfl (by decide) ?_
    refine go_goto 14 dX4_isSignedRange_10 (by decide) ?_
    refine go_ireturn dX4_isSignedRange_14 rfl (by first | rfl | exact bi_nar) (Nat.le_of_ble_eq_true rfl) (Nat.le_of_ble_eq_true rfl) ?_
    exact ⟨congrArg (fun z => some (Value.int z)) (by unfold f_X4_isSignedRange; simp only [if_neg hc1]; try first | rfl | contradiction), rfl⟩

def f_X4_widthOf (S : gS) (i : Int32) : Int32 := (if (f_X4_isSignedRange S i) = 0 then (mxi ((f_X8_bitLength ((rI S 38 i.toNatClampNeg)))) 1) else ((f_X8_bitLength ((mxi (((rI S 37 i.toNatClampNeg) ^^^ (-1))) ((rI S 38 i.toNatClampNeg))))) + 1))
set_option maxRecDepth 100000 in
set_option maxHeartbeats 1000000 in
theorem ct_X4_widthOf (S : gS) (i : Int32) (hi : vp_in i 24) : gF mX4_widthOf [.ref 36, .int i] S (some (.int (f_X4_widthOf S i))) S := by
  refine go_enter [.ref 36, .int i] [(0, .ref 36), (1, .int i)] (by decide +kernel) rfl rfl (Nat.le_of_ble_eq_true rfl) rfl ?_
  refine go_aload_n 1 dX4_widthOf_0 rfl rfl ?_
  refine go_iload_n 2 dX4_widthOf_1 rfl rfl ?_
  refine g_callV 5 [.int _] [] dX4_widthOf_2 rfl (ct_X4_isSignedRange _ _ hi) rfl sV_X4_widthOf_55 rfl ly_36 rfl rfl (Nat.le_of_ble_eq_true rfl) (Nat.le_of_ble_eq_true rfl) (Nat.le_of_ble_eq_true rfl) ?_
  refine go_if_eq 8 31 dX4_widthOf_5 rfl (by decide) (fun hc1 => ?_) (fun hc1 => ?_)
  · refine go_aload_n 32 dX4_widthOf_31 rfl rfl ?_
    refine g_getR 35 dX4_widthOf_32 rfl fF_RX4_15 ly_36 rfl ?_
    refine go_iload_n 36 dX4_widthOf_35 rfl rfl ?_
    refine g_iald2 37 _ dX4_widthOf_36 rfl ly_38 hi rfl ?_
    refine g_callSN 40 [.int _] [] dX4_widthOf_37 rfl (ct_X8_bitLength _ _) rfl sV_X4_widthOf_65 rfl (Nat.le_of_ble_eq_true rfl) (Nat.le_of_ble_eq_true rfl) (Nat.le_of_ble_eq_true rfl) ?_
    refine go_iconst 41 (1) dX4_widthOf_40 rfl (by decide) ?_
    refine go_mmax 44 dX4_widthOf_41 rfl wL_RX4_59 wT_mmax wI_Math wC_mmax (Nat.le_of_ble_eq_true rfl) (Nat.le_of_ble_eq_true rfl) (Nat.le_of_ble_eq_true rfl) (Nat.le_of_ble_eq_true rfl) ?_
    refine go_topi (mxi _ _) rfl ?_
    refine go_ireturn dX4_widthOf_44 rfl (by first | rfl | exact bi_nar) (Nat.le_of_ble_eq_true rfl) (Nat.le_of_ble_eq_true rfl) ?_
    exact ⟨congrArg (fun z => some (Value.int z)) (by unfold f_X4_widthOf; simp only [if_pos hc1]; try first | rfl | contradiction), rfl⟩
  · refine go_aload_n 9 dX4_widthOf_8 rfl rfl ?_
    refine g_getR 12 dX4_widthOf_9 rfl fF_RX4_9 ly_36 rfl ?_
    refine go_iload_n 13 dX4_widthOf_12 rfl rfl ?_
    refine g_iald2 14 _ dX4_widthOf_13 rfl ly_37 hi rfl ?_
    refine go_iconst 15 (-1) dX4_widthOf_14 rfl (by decide) ?_
    refine go_ixor 16 dX4_widthOf_15 rfl ?_
    refine go_aload_n 17 dX4_widthOf_16 rfl rfl ?_
    refine g_getR 20 dX4_widthOf_17 rfl fF_RX4_15 ly_36 rfl ?_
    refine go_iload_n 21 dX4_widthOf_20 rfl rfl ?_
    refine g_iald2 22 _ dX4_widthOf_21 rfl ly_38 hi rfl ?_
    refine go_mmax 25 dX4_widthOf_22 rfl wL_RX4_59 wT_mmax wI_Math wC_mmax (Nat.le_of_ble_eq_true rfl) (Nat.le_of_ble_eq_true rfl) (Nat.le_of_ble_eq_true rfl) (Nat.le_of_ble_eq_true rfl) ?_
    refine go_topi (mxi _ _) rfl ?_
    refine g_callSN 28 [.int _] [] dX4_widthOf_25 rfl (ct_X8_bitLength _ _) rfl sV_X4_widthOf_65 rfl (Nat.le_of_ble_eq_true rfl) (Nat.le_of_ble_eq_true rfl) (Nat.le_of_ble_eq_true rfl) ?_
    refine go_iconst 29 (1) dX4_widthOf_28 rfl (by decide) ?_
    refine go_iadd 30 dX4_widthOf_29 rfl ?_
    refine go_ireturn dX4_widthOf_30 rfl (by first | rfl | exact bi_nar) (Nat.le_of_ble_eq_true rfl) (Nat.le_of_ble_eq_true rfl) ?_
    exact ⟨congrArg (fun z => some (Value.int z)) (by unfold f_X4_widthOf; simp only [if_neg hc1]; try first | rfl | contradiction), rfl⟩

def f_X4_become (S : gS) (i : Int32) (l g : Int64) : gS := (if l < (-2147483648 : Int64) then (wI (wI S 37 i.toNatClampNeg ((-2147483648))) 38 i.toNatClampNeg 2147483647) else (if (2147483647 : Int64) < g then (wI (wI S 37 i.toNatClampNeg ((-2147483648))) 38 i.toNatClampNeg 2147483647) else (wI (wI S 37 i.toNatClampNeg l.toInt32) 38 i.toNatClampNeg g.toInt32)))
set_option maxRecDepth 100000 in
set_option maxHeartbeats 1000000 in
theorem ct_X4_become (S : gS) (i : Int32) (l g : Int64) (hi : vp_in i 24) : gF mX4_become [.ref 36, .int i, .long l, .long g] S none (f_X4_become S i l g) := by
  refine go_enter [.ref 36, .int i, .long l, .long g] [(0, .ref 36), (1, .int i), (2, .long l), (4, .long g)] (by decide +kernel) rfl rfl (Nat.le_of_ble_eq_true rfl) rfl ?_
  refine go_lload_n 1 dX4_become_0 rfl rfl ?_
  refine go_ldc2 4 (-2147483648) dX4_become_1 rfl wK_RX4_86 ?_
  refine go_lcmp 5 dX4_become_4 rfl ?_
  refine go_if_lt 8 21 dX4_become_5 rfl (by decide) (fun hc1 => ?_) (fun hc1 => ?_)
  · have hc1 := cmp_lt.mp hc1
    refine go_iconst 22 (0) dX4_become_21 rfl (by decide) ?_
    refine go_istore 24 [(6, .int _), (0, .ref 36), (1, .int _), (2, .long _), (4, .long _)] dX4_become_22 rfl (Nat.le_of_ble_eq_true rfl) rfl ?_
    refine go_aload_n 25 dX4_become_24 rfl rfl ?_
    refine g_getR 28 dX4_become_25 rfl fF_RX4_9 ly_36 rfl ?_
    refine go_iload_n 29 dX4_become_28 rfl rfl ?_
    refine go_iload 31 dX4_become_29 rfl rfl ?_
    refine go_if_eq 34 39 dX4_become_31 rfl (by decide) (fun _ => ?_) (fun hc2 => absurd hc2 (by decide))
    refine go_ldc 41 (-2147483648) dX4_become_39 rfl wK_RX4_90 ?_
    refine g_iast2 42 _ dX4_become_41 rfl ly_37 hi rfl ?_
    refine go_aload_n 43 dX4_become_42 rfl rfl ?_
    refine g_getR 46 dX4_become_43 rfl fF_RX4_15 ly_36 rfl ?_
    refine go_iload_n 47 dX4_become_46 rfl rfl ?_
    refine go_iload 49 dX4_become_47 rfl rfl ?_
    refine go_if_eq 52 58 dX4_become_49 rfl (by decide) (fun _ => ?_) (fun hc3 => absurd hc3 (by decide))
    refine go_ldc 60 (2147483647) dX4_become_58 rfl wK_RX4_91 ?_
    refine g_iast2 61 _ dX4_become_60 rfl ly_38 hi rfl ?_
    refine go_return dX4_become_61 rfl (Nat.le_of_ble_eq_true rfl) (Nat.le_of_ble_eq_true rfl) ?_
    exact ⟨rfl, congrArg hp (by unfold f_X4_become; simp only [if_pos hc1]; try first | rfl | contradiction)⟩
  · have hc1 := (not_congr cmp_lt).mp hc1
    refine go_lload 10 dX4_become_8 rfl rfl ?_
    refine go_ldc2 13 (2147483647) dX4_become_10 rfl wK_RX4_88 ?_
    refine go_lcmp 14 dX4_become_13 rfl ?_
    refine go_if_gt 17 21 dX4_become_14 rfl (by decide) (fun hc4 => ?_) (fun hc4 => ?_)
    · have hc4 := cmp_gt.mp hc4
      refine go_iconst 22 (0) dX4_become_21 rfl (by decide) ?_
      refine go_istore 24 [(6, .int _), (0, .ref 36), (1, .int _), (2, .long _), (4, .long _)] dX4_become_22 rfl (Nat.le_of_ble_eq_true rfl) rfl ?_
      refine go_aload_n 25 dX4_become_24 rfl rfl ?_
      refine g_getR 28 dX4_become_25 rfl fF_RX4_9 ly_36 rfl ?_
      refine go_iload_n 29 dX4_become_28 rfl rfl ?_
      refine go_iload 31 dX4_become_29 rfl rfl ?_
      refine go_if_eq 34 39 dX4_become_31 rfl (by decide) (fun _ => ?_) (fun hc5 => absurd hc5 (by decide))
      refine go_ldc 41 (-2147483648) dX4_become_39 rfl wK_RX4_90 ?_
      refine g_iast2 42 _ dX4_become_41 rfl ly_37 hi rfl ?_
      refine go_aload_n 43 dX4_become_42 rfl rfl ?_
      refine g_getR 46 dX4_become_43 rfl fF_RX4_15 ly_36 rfl ?_
      refine go_iload_n 47 dX4_become_46 rfl rfl ?_
      refine go_iload 49 dX4_become_47 rfl rfl ?_
      refine go_if_eq 52 58 dX4_become_49 rfl (by decide) (fun _ => ?_) (fun hc6 => absurd hc6 (by decide))
      refine go_ldc 60 (2147483647) dX4_become_58 rfl wK_RX4_91 ?_
      refine g_iast2 61 _ dX4_become_60 rfl ly_38 hi rfl ?_
      refine go_return dX4_become_61 rfl (Nat.le_of_ble_eq_true rfl) (Nat.le_of_ble_eq_true rfl) ?_
      exact ⟨rfl, congrArg hp (by unfold f_X4_become; simp only [if_neg hc1, if_pos hc4]; try first | rfl | contradiction)⟩
    · have hc4 := (not_congr cmp_gt).mp hc4
      refine go_iconst 18 (1) dX4_become_17 rfl (by decide) ?_
      refine go_goto 22 dX4_become_18 (by decide) ?_
      refine go_istore 24 [(6, .int _), (0, .ref 36), (1, .int _), (2, .long _), (4, .long _)] dX4_become_22 rfl (Nat.le_of_ble_eq_true rfl) rfl ?_
      refine go_aload_n 25 dX4_become_24 rfl rfl ?_
      refine g_getR 28 dX4_become_25 rfl fF_RX4_9 ly_36 rfl ?_
      refine go_iload_n 29 dX4_become_28 rfl rfl ?_
      refine go_iload 31 dX4_become_29 rfl rfl ?_
      refine go_if_eq 34 39 dX4_become_31 rfl (by decide) (fun hc7 => absurd hc7 (by decide)) (fun _ => ?_)
      refine go_lload_n 35 dX4_become_34 rfl rfl ?_
      refine go_l2i 36 dX4_become_35 rfl ?_
      refine go_goto 41 dX4_become_36 (by decide) ?_
      refine g_iast2 42 _ dX4_become_41 rfl ly_37 hi rfl ?_
      refine go_aload_n 43 dX4_become_42 rfl rfl ?_
      refine g_getR 46 dX4_become_43 rfl fF_RX4_15 ly_36 rfl ?_
      refine go_iload_n 47 dX4_become_46 rfl rfl ?_
      refine go_iload 49 dX4_become_47 rfl rfl ?_
      refine go_if_eq 52 58 dX4_become_49 rfl (by decide) (fun hc8 => absurd hc8 (by decide)) (fun _ => ?_)
      refine go_lload 54 dX4_become_52 rfl rfl ?_
      refine go_l2i 55 dX4_become_54 rfl ?_
      refine go_goto 60 dX4_become_55 (by decide) ?_
      refine g_iast2 61 _ dX4_become_60 rfl ly_38 hi rfl ?_
      refine go_return dX4_become_61 rfl (Nat.le_of_ble_eq_true rfl) (Nat.le_of_ble_eq_true rfl) ?_
      exact ⟨rfl, congrArg hp (by unfold f_X4_become; simp only [if_neg hc1, if_neg hc4]; try first | rfl | contradiction)⟩
theorem fr_f_X4_become {a0 c0 : Nat} (h37 : a0 ≠ 37) (h38 : a0 ≠ 38) (S : gS) (i : Int32) (l g : Int64) : rI (f_X4_become S i l g) a0 c0 = rI S a0 c0 := by
  unfold f_X4_become
  first | (simp only [snd_ite, rI_ite, ite_self, rI_wIk h37, rI_wRk h37, rI_wIk h38, rI_wRk h38]; done) | ((repeat' split) <;> first | rfl | simp only [rI_wIk h37, rI_wRk h37, rI_wIk h38, rI_wRk h38])

def f_X4_findProduct (S : gS) (i a b : Int32) : gS := (f_X4_become S i ((mnl ((mnl ((((rI S 37 a.toNatClampNeg)).toInt64 * ((rI S 37 b.toNatClampNeg)).toInt64)) ((((rI S 37 a.toNatClampNeg)).toInt64 * ((rI S 38 b.toNatClampNeg)).toInt64)))) ((mnl ((((rI S 38 a.toNatClampNeg)).toInt64 * ((rI S 37 b.toNatClampNeg)).toInt64)) ((((rI S 38 a.toNatClampNeg)).toInt64 * ((rI S 38 b.toNatClampNeg)).toInt64)))))) ((lrg ((lrg ((((rI S 37 a.toNatClampNeg)).toInt64 * ((rI S 37 b.toNatClampNeg)).toInt64)) ((((rI S 37 a.toNatClampNeg)).toInt64 * ((rI S 38 b.toNatClampNeg)).toInt64)))) ((lrg ((((rI S 38 a.toNatClampNeg)).toInt64 * ((rI S 37 b.toNatClampNeg)).toInt64)) ((((rI S 38 a.toNatClampNeg)).toInt64 * ((rI S 38 b.toNatClampNeg)).toInt64)))))))
set_option maxRecDepth 100000 in
set_option maxHeartbeats 1000000 in
theorem ct_X4_findProduct (S : gS) (i a b : Int32) (hi : vp_in i 24) (ha : vp_in a 24) (hb : vp_in b 24) : gF mX4_findProduct [.ref 36, .int i, .int a, .int b] S none (f_X4_findProduct S i a b) := by
  refine go_enter [.ref 36, .int i, .int a, .int b] [(0, .ref 36), (1, .int i), (2, .int a), (3, .int b)] (by decide +kernel) rfl rfl (Nat.le_of_ble_eq_true rfl) rfl ?_
  refine go_aload_n 1 dX4_findProduct_0 rfl rfl ?_
  refine g_getR 4 dX4_findProduct_1 rfl fF_RX4_9 ly_36 rfl ?_
  refine go_iload_n 5 dX4_findProduct_4 rfl rfl ?_
  refine g_iald2 6 _ dX4_findProduct_5 rfl ly_37 ha rfl ?_
  refine go_i2l 7 dX4_findProduct_6 rfl ?_
  refine go_aload_n 8 dX4_findProduct_7 rfl rfl ?_
  refine g_getR 11 dX4_findProduct_8 rfl fF_RX4_9 ly_36 rfl ?_
  refine go_iload_n 12 dX4_findProduct_11 rfl rfl ?_
  refine g_iald2 13 _ dX4_findProduct_12 rfl ly_37 hb rfl ?_
  refine go_i2l 14 dX4_findProduct_13 rfl ?_
  refine go_lmul 15 dX4_findProduct_14 rfl ?_
  refine go_lstore 17 [(4, .long _), (0, .ref 36), (1, .int _), (2, .int _), (3, .int _)] dX4_findProduct_15 rfl (Nat.le_of_ble_eq_true rfl) rfl ?_
  refine go_aload_n 18 dX4_findProduct_17 rfl rfl ?_
  refine g_getR 21 dX4_findProduct_18 rfl fF_RX4_9 ly_36 rfl ?_
  refine go_iload_n 22 dX4_findProduct_21 rfl rfl ?_
  refine g_iald2 23 _ dX4_findProduct_22 rfl ly_37 ha rfl ?_
  refine go_i2l 24 dX4_findProduct_23 rfl ?_
  refine go_aload_n 25 dX4_findProduct_24 rfl rfl ?_
  refine g_getR 28 dX4_findProduct_25 rfl fF_RX4_15 ly_36 rfl ?_
  refine go_iload_n 29 dX4_findProduct_28 rfl rfl ?_
  refine g_iald2 30 _ dX4_findProduct_29 rfl ly_38 hb rfl ?_
  refine go_i2l 31 dX4_findProduct_30 rfl ?_
  refine go_lmul 32 dX4_findProduct_31 rfl ?_
  refine go_lstore 34 [(6, .long _), (4, .long _), (0, .ref 36), (1, .int _), (2, .int _), (3, .int _)] dX4_findProduct_32 rfl (Nat.le_of_ble_eq_true rfl) rfl ?_
  refine go_aload_n 35 dX4_findProduct_34 rfl rfl ?_
  refine g_getR 38 dX4_findProduct_35 rfl fF_RX4_15 ly_36 rfl ?_
  refine go_iload_n 39 dX4_findProduct_38 rfl rfl ?_
  refine g_iald2 40 _ dX4_findProduct_39 rfl ly_38 ha rfl ?_
  refine go_i2l 41 dX4_findProduct_40 rfl ?_
  refine go_aload_n 42 dX4_findProduct_41 rfl rfl ?_
  refine g_getR 45 dX4_findProduct_42 rfl fF_RX4_9 ly_36 rfl ?_
  refine go_iload_n 46 dX4_findProduct_45 rfl rfl ?_
  refine g_iald2 47 _ dX4_findProduct_46 rfl ly_37 hb rfl ?_
  refine go_i2l 48 dX4_findProduct_47 rfl ?_
  refine go_lmul 49 dX4_findProduct_48 rfl ?_
  refine go_lstore 51 [(8, .long _), (6, .long _), (4, .long _), (0, .ref 36), (1, .int _), (2, .int _), (3, .int _)] dX4_findProduct_49 rfl (Nat.le_of_ble_eq_true rfl) rfl ?_
  refine go_aload_n 52 dX4_findProduct_51 rfl rfl ?_
  refine g_getR 55 dX4_findProduct_52 rfl fF_RX4_15 ly_36 rfl ?_
  refine go_iload_n 56 dX4_findProduct_55 rfl rfl ?_
  refine g_iald2 57 _ dX4_findProduct_56 rfl ly_38 ha rfl ?_
  refine go_i2l 58 dX4_findProduct_57 rfl ?_
  refine go_aload_n 59 dX4_findProduct_58 rfl rfl ?_
  refine g_getR 62 dX4_findProduct_59 rfl fF_RX4_15 ly_36 rfl ?_
  refine go_iload_n 63 dX4_findProduct_62 rfl rfl ?_
  refine g_iald2 64 _ dX4_findProduct_63 rfl ly_38 hb rfl ?_
  refine go_i2l 65 dX4_findProduct_64 rfl ?_
  refine go_lmul 66 dX4_findProduct_65 rfl ?_
  refine go_lstore 68 [(10, .long _), (8, .long _), (6, .long _), (4, .long _), (0, .ref 36), (1, .int _), (2, .int _), (3, .int _)] dX4_findProduct_66 rfl (Nat.le_of_ble_eq_true rfl) rfl ?_
  refine go_aload_n 69 dX4_findProduct_68 rfl rfl ?_
  refine go_iload_n 70 dX4_findProduct_69 rfl rfl ?_
  refine go_lload 72 dX4_findProduct_70 rfl rfl ?_
  refine go_lload 74 dX4_findProduct_72 rfl rfl ?_
  refine go_mminl 77 dX4_findProduct_74 rfl wL_RX4_92 wT_mminl wI_Math wC_mminl (Nat.le_of_ble_eq_true rfl) (Nat.le_of_ble_eq_true rfl) (Nat.le_of_ble_eq_true rfl) (Nat.le_of_ble_eq_true rfl) ?_
  refine go_topl (mnl _ _) rfl ?_
  refine go_lload 79 dX4_findProduct_77 rfl rfl ?_
  refine go_lload 81 dX4_findProduct_79 rfl rfl ?_
  refine go_mminl 84 dX4_findProduct_81 rfl wL_RX4_92 wT_mminl wI_Math wC_mminl (Nat.le_of_ble_eq_true rfl) (Nat.le_of_ble_eq_true rfl) (Nat.le_of_ble_eq_true rfl) (Nat.le_of_ble_eq_true rfl) ?_
  refine go_topl (mnl _ _) rfl ?_
  refine go_mminl 87 dX4_findProduct_84 rfl wL_RX4_92 wT_mminl wI_Math wC_mminl (Nat.le_of_ble_eq_true rfl) (Nat.le_of_ble_eq_true rfl) (Nat.le_of_ble_eq_true rfl) (Nat.le_of_ble_eq_true rfl) ?_
  refine go_topl (mnl _ _) rfl ?_
  refine go_lload 89 dX4_findProduct_87 rfl rfl ?_
  refine go_lload 91 dX4_findProduct_89 rfl rfl ?_
  refine go_mmaxl 94 dX4_findProduct_91 rfl wL_RX4_96 wT_mmaxl wI_Math wC_mmaxl (Nat.le_of_ble_eq_true rfl) (Nat.le_of_ble_eq_true rfl) (Nat.le_of_ble_eq_true rfl) (Nat.le_of_ble_eq_true rfl) ?_
  refine go_topl (lrg _ _) rfl ?_
  refine go_lload 96 dX4_findProduct_94 rfl rfl ?_
  refine go_lload 98 dX4_findProduct_96 rfl rfl ?_
  refine go_mmaxl 101 dX4_findProduct_98 rfl wL_RX4_96 wT_mmaxl wI_Math wC_mmaxl (Nat.le_of_ble_eq_true rfl) (Nat.le_of_ble_eq_true rfl) (Nat.le_of_ble_eq_true rfl) (Nat.le_of_ble_eq_true rfl) ?_
  refine go_topl (lrg _ _) rfl ?_
  refine go_mmaxl 104 dX4_findProduct_101 rfl wL_RX4_96 wT_mmaxl wI_Math wC_mmaxl (Nat.le_of_ble_eq_true rfl) (Nat.le_of_ble_eq_true rfl) (Nat.le_of_ble_eq_true rfl) (Nat.le_of_ble_eq_true rfl) ?_
  refine go_topl (lrg _ _) rfl ?_
  refine g_callV0 107 [.int _, .long _, .long _] [] dX4_findProduct_104 rfl (ct_X4_become _ _ _ _ hi) rfl sV_X4_findProduct_68 rfl ly_36 rfl rfl (Nat.le_of_ble_eq_true rfl) (Nat.le_of_ble_eq_true rfl) (Nat.le_of_ble_eq_true rfl) ?_
  refine go_return dX4_findProduct_107 rfl (Nat.le_of_ble_eq_true rfl) (Nat.le_of_ble_eq_true rfl) ?_
  exact ⟨rfl, congrArg hp rfl⟩
theorem fr_f_X4_findProduct {a0 c0 : Nat} (h37 : a0 ≠ 37) (h38 : a0 ≠ 38) (S : gS) (i a b : Int32) : rI (f_X4_findProduct S i a b) a0 c0 = rI S a0 c0 := by
  unfold f_X4_findProduct
  first | (simp only [snd_ite, rI_ite, ite_self, rI_wIk h37, rI_wRk h37, rI_wIk h38, rI_wRk h38, fr_f_X4_become h37 h38]; done) | ((repeat' split) <;> first | rfl | simp only [rI_wIk h37, rI_wRk h37, rI_wIk h38, rI_wRk h38, fr_f_X4_become h37 h38] | (apply fr_f_X4_become <;> assumption))

def f_X4_findBitwise (S : gS) (i kd a b : Int32) : gS := (if kd = 6 then (if (f_X4_isSignedRange S a) = 0 then (if (f_X4_isSignedRange S b) = 0 then (f_X4_become S i ((0 : Int64)) (((mni ((rI S 38 a.toNatClampNeg)) ((rI S 38 b.toNatClampNeg)))).toInt64)) else (f_X4_become S i ((0 : Int64)) (((rI S 38 a.toNatClampNeg)).toInt64))) else (if (f_X4_isSignedRange S b) = 0 then (f_X4_become S i ((0 : Int64)) (((rI S 38 b.toNatClampNeg)).toInt64)) else (f_X4_become S i ((((f_X4_onesNotBelow ((mxi (((mni ((rI S 37 a.toNatClampNeg)) ((rI S 37 b.toNatClampNeg))) ^^^ (-1))) ((mxi ((rI S 38 a.toNatClampNeg)) ((rI S 38 b.toNatClampNeg))))))) ^^^ (-1))).toInt64) (((f_X4_onesNotBelow ((mxi (((mni ((rI S 37 a.toNatClampNeg)) ((rI S 37 b.toNatClampNeg))) ^^^ (-1))) ((mxi ((rI S 38 a.toNatClampNeg)) ((rI S 38 b.toNatClampNeg)))))))).toInt64)))) else (if (f_X4_isSignedRange S a) = 0 then (if (f_X4_isSignedRange S b) = 0 then (f_X4_become S i ((0 : Int64)) (((f_X4_onesNotBelow ((mxi ((rI S 38 a.toNatClampNeg)) ((rI S 38 b.toNatClampNeg)))))).toInt64)) else (f_X4_become S i ((((f_X4_onesNotBelow ((mxi (((mni ((rI S 37 a.toNatClampNeg)) ((rI S 37 b.toNatClampNeg))) ^^^ (-1))) ((mxi ((rI S 38 a.toNatClampNeg)) ((rI S 38 b.toNatClampNeg))))))) ^^^ (-1))).toInt64) (((f_X4_onesNotBelow ((mxi (((mni ((rI S 37 a.toNatClampNeg)) ((rI S 37 b.toNatClampNeg))) ^^^ (-1))) ((mxi ((rI S 38 a.toNatClampNeg)) ((rI S 38 b.toNatClampNeg)))))))).toInt64))) else (f_X4_become S i ((((f_X4_onesNotBelow ((mxi (((mni ((rI S 37 a.toNatClampNeg)) ((rI S 37 b.toNatClampNeg))) ^^^ (-1))) ((mxi ((rI S 38 a.toNatClampNeg)) ((rI S 38 b.toNatClampNeg))))))) ^^^ (-1))).toInt64) (((f_X4_onesNotBelow ((mxi (((mni ((rI S 37 a.toNatClampNeg)) ((rI S 37 b.toNatClampNeg))) ^^^ (-1))) ((mxi ((rI S 38 a.toNatClampNeg)) ((rI S 38 b.toNatClampNeg)))))))).toInt64))))
set_option maxRecDepth 100000 in
set_option maxHeartbeats 1000000 in
theorem ct_X4_findBitwise (S : gS) (i kd a b : Int32) (hi : vp_in i 24) (ha : vp_in a 24) (hb : vp_in b 24) : gF mX4_findBitwise [.ref 36, .int i, .int kd, .int a, .int b] S none (f_X4_findBitwise S i kd a b) := by
  refine go_enter [.ref 36, .int i, .int kd, .int a, .int b] [(0, .ref 36), (1, .int i), (2, .int kd), (3, .int a), (4, .int b)] (by decide +kernel) rfl rfl (Nat.le_of_ble_eq_true rfl) rfl ?_
  refine go_aload_n 1 dX4_findBitwise_0 rfl rfl ?_
  refine go_iload_n 2 dX4_findBitwise_1 rfl rfl ?_
  refine g_callV 5 [.int _] [] dX4_findBitwise_2 rfl (ct_X4_isSignedRange _ _ ha) rfl sV_X4_findBitwise_55 rfl ly_36 rfl rfl (Nat.le_of_ble_eq_true rfl) (Nat.le_of_ble_eq_true rfl) (Nat.le_of_ble_eq_true rfl) ?_
  refine go_istore 7 [(5, .int _), (0, .ref 36), (1, .int _), (2, .int _), (3, .int _), (4, .int _)] dX4_findBitwise_5 rfl (Nat.le_of_ble_eq_true rfl) rfl ?_
  refine go_aload_n 8 dX4_findBitwise_7 rfl rfl ?_
  refine go_iload 10 dX4_findBitwise_8 rfl rfl ?_
  refine g_callV 13 [.int _] [] dX4_findBitwise_10 rfl (ct_X4_isSignedRange _ _ hb) rfl sV_X4_findBitwise_55 rfl ly_36 rfl rfl (Nat.le_of_ble_eq_true rfl) (Nat.le_of_ble_eq_true rfl) (Nat.le_of_ble_eq_true rfl) ?_
  refine go_istore 15 [(6, .int _), (5, .int _), (0, .ref 36), (1, .int _), (2, .int _), (3, .int _), (4, .int _)] dX4_findBitwise_13 rfl (Nat.le_of_ble_eq_true rfl) rfl ?_
  refine go_aload_n 16 dX4_findBitwise_15 rfl rfl ?_
  refine g_getR 19 dX4_findBitwise_16 rfl fF_RX4_15 ly_36 rfl ?_
  refine go_iload_n 20 dX4_findBitwise_19 rfl rfl ?_
  refine g_iald2 21 _ dX4_findBitwise_20 rfl ly_38 ha rfl ?_
  refine go_aload_n 22 dX4_findBitwise_21 rfl rfl ?_
  refine g_getR 25 dX4_findBitwise_22 rfl fF_RX4_15 ly_36 rfl ?_
  refine go_iload 27 dX4_findBitwise_25 rfl rfl ?_
  refine g_iald2 28 _ dX4_findBitwise_27 rfl ly_38 hb rfl ?_
  refine go_mmax 31 dX4_findBitwise_28 rfl wL_RX4_59 wT_mmax wI_Math wC_mmax (Nat.le_of_ble_eq_true rfl) (Nat.le_of_ble_eq_true rfl) (Nat.le_of_ble_eq_true rfl) (Nat.le_of_ble_eq_true rfl) ?_
  refine go_topi (mxi _ _) rfl ?_
  refine go_istore 33 [(7, .int _), (6, .int _), (5, .int _), (0, .ref 36), (1, .int _), (2, .int _), (3, .int _), (4, .int _)] dX4_findBitwise_31 rfl (Nat.le_of_ble_eq_true rfl) rfl ?_
  refine go_iload_n 34 dX4_findBitwise_33 rfl rfl ?_
  refine go_bipush 36 (6) dX4_findBitwise_34 rfl (by decide) ?_
  refine go_icmp_ne 39 110 dX4_findBitwise_36 rfl (by decide) (fun hc1 => ?_) (fun hc1 => ?_)
  · refine go_iload 112 dX4_findBitwise_110 rfl rfl ?_
    refine go_if_ne 115 135 dX4_findBitwise_112 rfl (by decide) (fun hc2 => ?_) (fun hc2 => ?_)
    · refine go_aload_n 136 dX4_findBitwise_135 rfl rfl ?_
      refine g_getR 139 dX4_findBitwise_136 rfl fF_RX4_9 ly_36 rfl ?_
      refine go_iload_n 140 dX4_findBitwise_139 rfl rfl ?_
      refine g_iald2 141 _ dX4_findBitwise_140 rfl ly_37 ha rfl ?_
      refine go_aload_n 142 dX4_findBitwise_141 rfl rfl ?_
      refine g_getR 145 dX4_findBitwise_142 rfl fF_RX4_9 ly_36 rfl ?_
      refine go_iload 147 dX4_findBitwise_145 rfl rfl ?_
      refine g_iald2 148 _ dX4_findBitwise_147 rfl ly_37 hb rfl ?_
      refine go_mmin 151 dX4_findBitwise_148 rfl wL_RX4_98 wT_mmin wI_Math wC_mmin (Nat.le_of_ble_eq_true rfl) (Nat.le_of_ble_eq_true rfl) (Nat.le_of_ble_eq_true rfl) (Nat.le_of_ble_eq_true rfl) ?_
      refine go_topi (mni _ _) rfl ?_
      refine go_istore 153 [(8, .int _), (7, .int _), (6, .int _), (5, .int _), (0, .ref 36), (1, .int _), (2, .int _), (3, .int _), (4, .int _)] dX4_findBitwise_151 rfl (Nat.le_of_ble_eq_true rfl) rfl ?_
      refine go_iload 155 dX4_findBitwise_153 rfl rfl ?_
      refine go_iconst 156 (-1) dX4_findBitwise_155 rfl (by decide) ?_
      refine go_ixor 157 dX4_findBitwise_156 rfl ?_
      refine go_iload 159 dX4_findBitwise_157 rfl rfl ?_
      refine go_mmax 162 dX4_findBitwise_159 rfl wL_RX4_59 wT_mmax wI_Math wC_mmax (Nat.le_of_ble_eq_true rfl) (Nat.le_of_ble_eq_true rfl) (Nat.le_of_ble_eq_true rfl) (Nat.le_of_ble_eq_true rfl) ?_
      refine go_topi (mxi _ _) rfl ?_
      refine g_callS 165 [.int _] [] dX4_findBitwise_162 rfl (ct_X4_onesNotBelow _ _) rfl sV_X4_findBitwise_100 rfl (Nat.le_of_ble_eq_true rfl) (Nat.le_of_ble_eq_true rfl) (Nat.le_of_ble_eq_true rfl) ?_
      refine go_istore 167 [(9, .int _), (8, .int _), (7, .int _), (6, .int _), (5, .int _), (0, .ref 36), (1, .int _), (2, .int _), (3, .int _), (4, .int _)] dX4_findBitwise_165 rfl (Nat.le_of_ble_eq_true rfl) rfl ?_
      refine go_aload_n 168 dX4_findBitwise_167 rfl rfl ?_
      refine go_iload_n 169 dX4_findBitwise_168 rfl rfl ?_
      refine go_iload 171 dX4_findBitwise_169 rfl rfl ?_
      refine go_iconst 172 (-1) dX4_findBitwise_171 rfl (by decide) ?_
      refine go_ixor 173 dX4_findBitwise_172 rfl ?_
      refine go_i2l 174 dX4_findBitwise_173 rfl ?_
      refine go_iload 176 dX4_findBitwise_174 rfl rfl ?_
      refine go_i2l 177 dX4_findBitwise_176 rfl ?_
      refine g_callV0 180 [.int _, .long _, .long _] [] dX4_findBitwise_177 rfl (ct_X4_become _ _ _ _ hi) rfl sV_X4_findBitwise_68 rfl ly_36 rfl rfl (Nat.le_of_ble_eq_true rfl) (Nat.le_of_ble_eq_true rfl) (Nat.le_of_ble_eq_true rfl) ?_
      refine go_return dX4_findBitwise_180 rfl (Nat.le_of_ble_eq_true rfl) (Nat.le_of_ble_eq_true rfl) ?_
      exact ⟨rfl, congrArg hp (by unfold f_X4_findBitwise; simp only [if_neg hc1, if_neg hc2]; try first | rfl | contradiction)⟩
    · refine go_iload 117 dX4_findBitwise_115 rfl rfl ?_
      refine go_if_ne 120 135 dX4_findBitwise_117 rfl (by decide) (fun hc3 => ?_) (fun hc3 => ?_)
      · refine go_aload_n 136 dX4_findBitwise_135 rfl rfl ?_
        refine g_getR 139 dX4_findBitwise_136 rfl fF_RX4_9 ly_36 rfl ?_
        refine go_iload_n 140 dX4_findBitwise_139 rfl rfl ?_
        refine g_iald2 141 _ dX4_findBitwise_140 rfl ly_37 ha rfl ?_
        refine go_aload_n 142 dX4_findBitwise_141 rfl rfl ?_
        refine g_getR 145 dX4_findBitwise_142 rfl fF_RX4_9 ly_36 rfl ?_
        refine go_iload 147 dX4_findBitwise_145 rfl rfl ?_
        refine g_iald2 148 _ dX4_findBitwise_147 rfl ly_37 hb rfl ?_
        refine go_mmin 151 dX4_findBitwise_148 rfl wL_RX4_98 wT_mmin wI_Math wC_mmin (Nat.le_of_ble_eq_true rfl) (Nat.le_of_ble_eq_true rfl) (Nat.le_of_ble_eq_true rfl) (Nat.le_of_ble_eq_true rfl) ?_
        refine go_topi (mni _ _) rfl ?_
        refine go_istore 153 [(8, .int _), (7, .int _), (6, .int _), (5, .int _), (0, .ref 36), (1, .int _), (2, .int _), (3, .int _), (4, .int _)] dX4_findBitwise_151 rfl (Nat.le_of_ble_eq_true rfl) rfl ?_
        refine go_iload 155 dX4_findBitwise_153 rfl rfl ?_
        refine go_iconst 156 (-1) dX4_findBitwise_155 rfl (by decide) ?_
        refine go_ixor 157 dX4_findBitwise_156 rfl ?_
        refine go_iload 159 dX4_findBitwise_157 rfl rfl ?_
        refine go_mmax 162 dX4_findBitwise_159 rfl wL_RX4_59 wT_mmax wI_Math wC_mmax (Nat.le_of_ble_eq_true rfl) (Nat.le_of_ble_eq_true rfl) (Nat.le_of_ble_eq_true rfl) (Nat.le_of_ble_eq_true rfl) ?_
        refine go_topi (mxi _ _) rfl ?_
        refine g_callS 165 [.int _] [] dX4_findBitwise_162 rfl (ct_X4_onesNotBelow _ _) rfl sV_X4_findBitwise_100 rfl (Nat.le_of_ble_eq_true rfl) (Nat.le_of_ble_eq_true rfl) (Nat.le_of_ble_eq_true rfl) ?_
        refine go_istore 167 [(9, .int _), (8, .int _), (7, .int _), (6, .int _), (5, .int _), (0, .ref 36), (1, .int _), (2, .int _), (3, .int _), (4, .int _)] dX4_findBitwise_165 rfl (Nat.le_of_ble_eq_true rfl) rfl ?_
        refine go_aload_n 168 dX4_findBitwise_167 rfl rfl ?_
        refine go_iload_n 169 dX4_findBitwise_168 rfl rfl ?_
        refine go_iload 171 dX4_findBitwise_169 rfl rfl ?_
        refine go_iconst 172 (-1) dX4_findBitwise_171 rfl (by decide) ?_
        refine go_ixor 173 dX4_findBitwise_172 rfl ?_
        refine go_i2l 174 dX4_findBitwise_173 rfl ?_
        refine go_iload 176 dX4_findBitwise_174 rfl rfl ?_
        refine go_i2l 177 dX4_findBitwise_176 rfl ?_
        refine g_callV0 180 [.int _, .long _, .long _] [] dX4_findBitwise_177 rfl (ct_X4_become _ _ _ _ hi) rfl sV_X4_findBitwise_68 rfl ly_36 rfl rfl (Nat.le_of_ble_eq_true rfl) (Nat.le_of_ble_eq_true rfl) (Nat.le_of_ble_eq_true rfl) ?_
        refine go_return dX4_findBitwise_180 rfl (Nat.le_of_ble_eq_true rfl) (Nat.le_of_ble_eq_true rfl) ?_
        exact ⟨rfl, congrArg hp (by unfold f_X4_findBitwise; simp only [if_neg hc1, if_pos hc2, if_neg hc3]; try first | rfl | contradiction)⟩
      · refine go_aload_n 121 dX4_findBitwise_120 rfl rfl ?_
        refine go_iload_n 122 dX4_findBitwise_121 rfl rfl ?_
        refine go_lconst 123 (0) dX4_findBitwise_122 rfl (by decide) ?_
        refine go_iload 125 dX4_findBitwise_123 rfl rfl ?_
        refine g_callS 128 [.int _] [.long _, .int _, .ref 36] dX4_findBitwise_125 rfl (ct_X4_onesNotBelow _ _) rfl sV_X4_findBitwise_100 rfl (Nat.le_of_ble_eq_true rfl) (Nat.le_of_ble_eq_true rfl) (Nat.le_of_ble_eq_true rfl) ?_
        refine go_i2l 129 dX4_findBitwise_128 rfl ?_
        refine g_callV0 132 [.int _, .long _, .long _] [] dX4_findBitwise_129 rfl (ct_X4_become _ _ _ _ hi) rfl sV_X4_findBitwise_68 rfl ly_36 rfl rfl (Nat.le_of_ble_eq_true rfl) (Nat.le_of_ble_eq_true rfl) (Nat.le_of_ble_eq_true rfl) ?_
        refine go_goto 180 dX4_findBitwise_132 (by decide) ?_
        refine go_return dX4_findBitwise_180 rfl (Nat.le_of_ble_eq_true rfl) (Nat.le_of_ble_eq_true rfl) ?_
        exact ⟨rfl, congrArg hp (by unfold f_X4_findBitwise; simp only [if_neg hc1, if_pos hc2, if_pos hc3]; try first | rfl | contradiction)⟩
  · refine go_iload 41 dX4_findBitwise_39 rfl rfl ?_
    refine go_if_eq 44 49 dX4_findBitwise_41 rfl (by decide) (fun hc4 => ?_) (fun hc4 => ?_)
    · refine go_aload_n 50 dX4_findBitwise_49 rfl rfl ?_
      refine g_getR 53 dX4_findBitwise_50 rfl fF_RX4_15 ly_36 rfl ?_
      refine go_iload_n 54 dX4_findBitwise_53 rfl rfl ?_
      refine g_iald2 55 _ dX4_findBitwise_54 rfl ly_38 ha rfl ?_
      refine go_aload_n 56 dX4_findBitwise_55 rfl rfl ?_
      refine g_getR 59 dX4_findBitwise_56 rfl fF_RX4_15 ly_36 rfl ?_
      refine go_iload 61 dX4_findBitwise_59 rfl rfl ?_
      refine g_iald2 62 _ dX4_findBitwise_61 rfl ly_38 hb rfl ?_
      refine go_mmin 65 dX4_findBitwise_62 rfl wL_RX4_98 wT_mmin wI_Math wC_mmin (Nat.le_of_ble_eq_true rfl) (Nat.le_of_ble_eq_true rfl) (Nat.le_of_ble_eq_true rfl) (Nat.le_of_ble_eq_true rfl) ?_
      refine go_topi (mni _ _) rfl ?_
      refine go_istore 67 [(8, .int _), (7, .int _), (6, .int _), (5, .int _), (0, .ref 36), (1, .int _), (2, .int _), (3, .int _), (4, .int _)] dX4_findBitwise_65 rfl (Nat.le_of_ble_eq_true rfl) rfl ?_
      refine go_aload_n 68 dX4_findBitwise_67 rfl rfl ?_
      refine go_iload_n 69 dX4_findBitwise_68 rfl rfl ?_
      refine go_lconst 70 (0) dX4_findBitwise_69 rfl (by decide) ?_
      refine go_iload 72 dX4_findBitwise_70 rfl rfl ?_
      refine go_if_eq 75 86 dX4_findBitwise_72 rfl (by decide) (fun _ => ?_) (fun hc5 => absurd hc4 hc5)
      refine go_iload 88 dX4_findBitwise_86 rfl rfl ?_
      refine go_if_eq 91 101 dX4_findBitwise_88 rfl (by decide) (fun hc6 => ?_) (fun hc6 => ?_)
      · refine go_iload 103 dX4_findBitwise_101 rfl rfl ?_
        refine go_i2l 104 dX4_findBitwise_103 rfl ?_
        refine g_callV0 107 [.int _, .long _, .long _] [] dX4_findBitwise_104 rfl (ct_X4_become _ _ _ _ hi) rfl sV_X4_findBitwise_68 rfl ly_36 rfl rfl (Nat.le_of_ble_eq_true rfl) (Nat.le_of_ble_eq_true rfl) (Nat.le_of_ble_eq_true rfl) ?_
        refine go_goto 180 dX4_findBitwise_107 (by decide) ?_
        refine go_return dX4_findBitwise_180 rfl (Nat.le_of_ble_eq_true rfl) (Nat.le_of_ble_eq_true rfl) ?_
        exact ⟨rfl, congrArg hp (by unfold f_X4_findBitwise; simp only [if_pos hc1, if_pos hc4, if_pos hc6]; try first | rfl | contradiction)⟩
      · refine go_aload_n 92 dX4_findBitwise_91 rfl rfl ?_
        refine g_getR 95 dX4_findBitwise_92 rfl fF_RX4_15 ly_36 rfl ?_
        refine go_iload_n 96 dX4_findBitwise_95 rfl rfl ?_
        refine g_iald2 97 _ dX4_findBitwise_96 rfl ly_38 ha rfl ?_
        refine go_i2l 98 dX4_findBitwise_97 rfl ?_
        refine go_goto 104 dX4_findBitwise_98 (by decide) ?_
        refine g_callV0 107 [.int _, .long _, .long _] [] dX4_findBitwise_104 rfl (ct_X4_become _ _ _ _ hi) rfl sV_X4_findBitwise_68 rfl ly_36 rfl rfl (Nat.le_of_ble_eq_true rfl) (Nat.le_of_ble_eq_true rfl) (Nat.le_of_ble_eq_true rfl) ?_
        refine go_goto 180 dX4_findBitwise_107 (by decide) ?_
        refine go_return dX4_findBitwise_180 rfl (Nat.le_of_ble_eq_true rfl) (Nat.le_of_ble_eq_true rfl) ?_
        exact ⟨rfl, congrArg hp (by unfold f_X4_findBitwise; simp only [if_pos hc1, if_pos hc4, if_neg hc6]; try first | rfl | contradiction)⟩
    · refine go_iload 46 dX4_findBitwise_44 rfl rfl ?_
      refine go_if_ne 49 110 dX4_findBitwise_46 rfl (by decide) (fun hc7 => ?_) (fun hc7 => ?_)
      · refine go_iload 112 dX4_findBitwise_110 rfl rfl ?_
        refine go_if_ne 115 135 dX4_findBitwise_112 rfl (by decide) (fun _ => ?_) (fun hc8 => absurd hc8 hc4)
        refine go_aload_n 136 dX4_findBitwise_135 rfl rfl ?_
        refine g_getR 139 dX4_findBitwise_136 rfl fF_RX4_9 ly_36 rfl ?_
        refine go_iload_n 140 dX4_findBitwise_139 rfl rfl ?_
        refine g_iald2 141 _ dX4_findBitwise_140 rfl ly_37 ha rfl ?_
        refine go_aload_n 142 dX4_findBitwise_141 rfl rfl ?_
        refine g_getR 145 dX4_findBitwise_142 rfl fF_RX4_9 ly_36 rfl ?_
        refine go_iload 147 dX4_findBitwise_145 rfl rfl ?_
        refine g_iald2 148 _ dX4_findBitwise_147 rfl ly_37 hb rfl ?_
        refine go_mmin 151 dX4_findBitwise_148 rfl wL_RX4_98 wT_mmin wI_Math wC_mmin (Nat.le_of_ble_eq_true rfl) (Nat.le_of_ble_eq_true rfl) (Nat.le_of_ble_eq_true rfl) (Nat.le_of_ble_eq_true rfl) ?_
        refine go_topi (mni _ _) rfl ?_
        refine go_istore 153 [(8, .int _), (7, .int _), (6, .int _), (5, .int _), (0, .ref 36), (1, .int _), (2, .int _), (3, .int _), (4, .int _)] dX4_findBitwise_151 rfl (Nat.le_of_ble_eq_true rfl) rfl ?_
        refine go_iload 155 dX4_findBitwise_153 rfl rfl ?_
        refine go_iconst 156 (-1) dX4_findBitwise_155 rfl (by decide) ?_
        refine go_ixor 157 dX4_findBitwise_156 rfl ?_
        refine go_iload 159 dX4_findBitwise_157 rfl rfl ?_
        refine go_mmax 162 dX4_findBitwise_159 rfl wL_RX4_59 wT_mmax wI_Math wC_mmax (Nat.le_of_ble_eq_true rfl) (Nat.le_of_ble_eq_true rfl) (Nat.le_of_ble_eq_true rfl) (Nat.le_of_ble_eq_true rfl) ?_
        refine go_topi (mxi _ _) rfl ?_
        refine g_callS 165 [.int _] [] dX4_findBitwise_162 rfl (ct_X4_onesNotBelow _ _) rfl sV_X4_findBitwise_100 rfl (Nat.le_of_ble_eq_true rfl) (Nat.le_of_ble_eq_true rfl) (Nat.le_of_ble_eq_true rfl) ?_
        refine go_istore 167 [(9, .int _), (8, .int _), (7, .int _), (6, .int _), (5, .int _), (0, .ref 36), (1, .int _), (2, .int _), (3, .int _), (4, .int _)] dX4_findBitwise_165 rfl (Nat.le_of_ble_eq_true rfl) rfl ?_
        refine go_aload_n 168 dX4_findBitwise_167 rfl rfl ?_
        refine go_iload_n 169 dX4_findBitwise_168 rfl rfl ?_
        refine go_iload 171 dX4_findBitwise_169 rfl rfl ?_
        refine go_iconst 172 (-1) dX4_findBitwise_171 rfl (by decide) ?_
        refine go_ixor 173 dX4_findBitwise_172 rfl ?_
        refine go_i2l 174 dX4_findBitwise_173 rfl ?_
        refine go_iload 176 dX4_findBitwise_174 rfl rfl ?_
        refine go_i2l 177 dX4_findBitwise_176 rfl ?_
        refine g_callV0 180 [.int _, .long _, .long _] [] dX4_findBitwise_177 rfl (ct_X4_become _ _ _ _ hi) rfl sV_X4_findBitwise_68 rfl ly_36 rfl rfl (Nat.le_of_ble_eq_true rfl) (Nat.le_of_ble_eq_true rfl) (Nat.le_of_ble_eq_true rfl) ?_
        refine go_return dX4_findBitwise_180 rfl (Nat.le_of_ble_eq_true rfl) (Nat.le_of_ble_eq_true rfl) ?_
        exact ⟨rfl, congrArg hp (by unfold f_X4_findBitwise; simp only [if_pos hc1, if_neg hc4, if_neg hc7]; try first | rfl | contradiction)⟩
      · refine go_aload_n 50 dX4_findBitwise_49 rfl rfl ?_
        refine g_getR 53 dX4_findBitwise_50 rfl fF_RX4_15 ly_36 rfl ?_
        refine go_iload_n 54 dX4_findBitwise_53 rfl rfl ?_
        refine g_iald2 55 _ dX4_findBitwise_54 rfl ly_38 ha rfl ?_
        refine go_aload_n 56 dX4_findBitwise_55 rfl rfl ?_
        refine g_getR 59 dX4_findBitwise_56 rfl fF_RX4_15 ly_36 rfl ?_
        refine go_iload 61 dX4_findBitwise_59 rfl rfl ?_
        refine g_iald2 62 _ dX4_findBitwise_61 rfl ly_38 hb rfl ?_
        refine go_mmin 65 dX4_findBitwise_62 rfl wL_RX4_98 wT_mmin wI_Math wC_mmin (Nat.le_of_ble_eq_true rfl) (Nat.le_of_ble_eq_true rfl) (Nat.le_of_ble_eq_true rfl) (Nat.le_of_ble_eq_true rfl) ?_
        refine go_topi (mni _ _) rfl ?_
        refine go_istore 67 [(8, .int _), (7, .int _), (6, .int _), (5, .int _), (0, .ref 36), (1, .int _), (2, .int _), (3, .int _), (4, .int _)] dX4_findBitwise_65 rfl (Nat.le_of_ble_eq_true rfl) rfl ?_
        refine go_aload_n 68 dX4_findBitwise_67 rfl rfl ?_
        refine go_iload_n 69 dX4_findBitwise_68 rfl rfl ?_
        refine go_lconst 70 (0) dX4_findBitwise_69 rfl (by decide) ?_
        refine go_iload 72 dX4_findBitwise_70 rfl rfl ?_
        refine go_if_eq 75 86 dX4_findBitwise_72 rfl (by decide) (fun hc9 => absurd hc9 hc4) (fun _ => ?_)
        refine go_aload_n 76 dX4_findBitwise_75 rfl rfl ?_
        refine g_getR 79 dX4_findBitwise_76 rfl fF_RX4_15 ly_36 rfl ?_
        refine go_iload 81 dX4_findBitwise_79 rfl rfl ?_
        refine g_iald2 82 _ dX4_findBitwise_81 rfl ly_38 hb rfl ?_
        refine go_i2l 83 dX4_findBitwise_82 rfl ?_
        refine go_goto 104 dX4_findBitwise_83 (by decide) ?_
        refine g_callV0 107 [.int _, .long _, .long _] [] dX4_findBitwise_104 rfl (ct_X4_become _ _ _ _ hi) rfl sV_X4_findBitwise_68 rfl ly_36 rfl rfl (Nat.le_of_ble_eq_true rfl) (Nat.le_of_ble_eq_true rfl) (Nat.le_of_ble_eq_true rfl) ?_
        refine go_goto 180 dX4_findBitwise_107 (by decide) ?_
        refine go_return dX4_findBitwise_180 rfl (Nat.le_of_ble_eq_true rfl) (Nat.le_of_ble_eq_true rfl) ?_
        exact ⟨rfl, congrArg hp (by unfold f_X4_findBitwise; simp only [if_pos hc1, if_neg hc4, if_pos hc7]; try first | rfl | contradiction)⟩
theorem fr_f_X4_findBitwise {a0 c0 : Nat} (h37 : a0 ≠ 37) (h38 : a0 ≠ 38) (S : gS) (i kd a b : Int32) : rI (f_X4_findBitwise S i kd a b) a0 c0 = rI S a0 c0 := by
  unfold f_X4_findBitwise
  first | (simp only [snd_ite, rI_ite, ite_self, rI_wIk h37, rI_wRk h37, rI_wIk h38, rI_wRk h38, fr_f_X4_become h37 h38]; done) | ((repeat' split) <;> first | rfl | simp only [rI_wIk h37, rI_wRk h37, rI_wIk h38, rI_wRk h38, fr_f_X4_become h37 h38] | (apply fr_f_X4_become <;> assumption))

def f_X4_findChoice (S : gS) (i a b c : Int32) : gS := (if (0 : Int32) < (rI S 37 a.toNatClampNeg) then (f_X4_become S i (((rI S 37 b.toNatClampNeg)).toInt64) (((rI S 38 b.toNatClampNeg)).toInt64)) else (if (0 : Int32) ≤ (rI S 38 a.toNatClampNeg) then (if (rI S 37 a.toNatClampNeg) = 0 then (if (rI S 38 a.toNatClampNeg) = 0 then (f_X4_become S i (((rI S 37 c.toNatClampNeg)).toInt64) (((rI S 38 c.toNatClampNeg)).toInt64)) else (f_X4_become S i (((mni ((rI S 37 b.toNatClampNeg)) ((rI S 37 c.toNatClampNeg)))).toInt64) (((mxi ((rI S 38 b.toNatClampNeg)) ((rI S 38 c.toNatClampNeg)))).toInt64))) else (f_X4_become S i (((mni ((rI S 37 b.toNatClampNeg)) ((rI S 37 c.toNatClampNeg)))).toInt64) (((mxi ((rI S 38 b.toNatClampNeg)) ((rI S 38 c.toNatClampNeg)))).toInt64))) else (f_X4_become S i (((rI S 37 b.toNatClampNeg)).toInt64) (((rI S 38 b.toNatClampNeg)).toInt64))))
set_option maxRecDepth 100000 in
set_option maxHeartbeats 1000000 in
theorem ct_X4_findChoice (S : gS) (i a b c : Int32) (hi : vp_in i 24) (ha : vp_in a 24) (hb : vp_in b 24) (hc : vp_in c 24) : gF mX4_findChoice [.ref 36, .int i, .int a, .int b, .int c] S none (f_X4_findChoice S i a b c) := by
  refine go_enter [.ref 36, .int i, .int a, .int b, .int c] [(0, .ref 36), (1, .int i), (2, .int a), (3, .int b), (4, .int c)] (by decide +kernel) rfl rfl (Nat.le_of_ble_eq_true rfl) rfl ?_
  refine go_aload_n 1 dX4_findChoice_0 rfl rfl ?_
  refine g_getR 4 dX4_findChoice_1 rfl fF_RX4_9 ly_36 rfl ?_
  refine go_iload_n 5 dX4_findChoice_4 rfl rfl ?_
  refine g_iald2 6 _ dX4_findChoice_5 rfl ly_37 ha rfl ?_
  refine go_if_gt 9 18 dX4_findChoice_6 rfl (by decide) (fun hc1 => ?_) (fun hc1 => ?_)
  · refine go_aload_n 19 dX4_findChoice_18 rfl rfl ?_
    refine go_iload_n 20 dX4_findChoice_19 rfl rfl ?_
    refine go_aload_n 21 dX4_findChoice_20 rfl rfl ?_
    refine g_getR 24 dX4_findChoice_21 rfl fF_RX4_9 ly_36 rfl ?_
    refine go_iload_n 25 dX4_findChoice_24 rfl rfl ?_
    refine g_iald2 26 _ dX4_findChoice_25 rfl ly_37 hb rfl ?_
    refine go_i2l 27 dX4_findChoice_26 rfl ?_
    refine go_aload_n 28 dX4_findChoice_27 rfl rfl ?_
    refine g_getR 31 dX4_findChoice_28 rfl fF_RX4_15 ly_36 rfl ?_
    refine go_iload_n 32 dX4_findChoice_31 rfl rfl ?_
    refine g_iald2 33 _ dX4_findChoice_32 rfl ly_38 hb rfl ?_
    refine go_i2l 34 dX4_findChoice_33 rfl ?_
    refine g_callV0 37 [.int _, .long _, .long _] [] dX4_findChoice_34 rfl (ct_X4_become _ _ _ _ hi) rfl sV_X4_findChoice_68 rfl ly_36 rfl rfl (Nat.le_of_ble_eq_true rfl) (Nat.le_of_ble_eq_true rfl) (Nat.le_of_ble_eq_true rfl) ?_
    refine go_goto 121 dX4_findChoice_37 (by decide) ?_
    refine go_return dX4_findChoice_121 rfl (Nat.le_of_ble_eq_true rfl) (Nat.le_of_ble_eq_true rfl) ?_
    exact ⟨rfl, congrArg hp (by unfold f_X4_findChoice; simp only [if_pos hc1]; try first | rfl | contradiction)⟩
  · refine go_aload_n 10 dX4_findChoice_9 rfl rfl ?_
    refine g_getR 13 dX4_findChoice_10 rfl fF_RX4_15 ly_36 rfl ?_
    refine go_iload_n 14 dX4_findChoice_13 rfl rfl ?_
    refine g_iald2 15 _ dX4_findChoice_14 rfl ly_38 ha rfl ?_
    refine go_if_ge 18 40 dX4_findChoice_15 rfl (by decide) (fun hc2 => ?_) (fun hc2 => ?_)
    · refine go_aload_n 41 dX4_findChoice_40 rfl rfl ?_
      refine g_getR 44 dX4_findChoice_41 rfl fF_RX4_9 ly_36 rfl ?_
      refine go_iload_n 45 dX4_findChoice_44 rfl rfl ?_
      refine g_iald2 46 _ dX4_findChoice_45 rfl ly_37 ha rfl ?_
      refine go_if_ne 49 82 dX4_findChoice_46 rfl (by decide) (fun hc3 => ?_) (fun hc3 => ?_)
      · refine go_aload_n 83 dX4_findChoice_82 rfl rfl ?_
        refine go_iload_n 84 dX4_findChoice_83 rfl rfl ?_
        refine go_aload_n 85 dX4_findChoice_84 rfl rfl ?_
        refine g_getR 88 dX4_findChoice_85 rfl fF_RX4_9 ly_36 rfl ?_
        refine go_iload_n 89 dX4_findChoice_88 rfl rfl ?_
        refine g_iald2 90 _ dX4_findChoice_89 rfl ly_37 hb rfl ?_
        refine go_aload_n 91 dX4_findChoice_90 rfl rfl ?_
        refine g_getR 94 dX4_findChoice_91 rfl fF_RX4_9 ly_36 rfl ?_
        refine go_iload 96 dX4_findChoice_94 rfl rfl ?_
        refine g_iald2 97 _ dX4_findChoice_96 rfl ly_37 hc rfl ?_
        refine go_mmin 100 dX4_findChoice_97 rfl wL_RX4_98 wT_mmin wI_Math wC_mmin (Nat.le_of_ble_eq_true rfl) (Nat.le_of_ble_eq_true rfl) (Nat.le_of_ble_eq_true rfl) (Nat.le_of_ble_eq_true rfl) ?_
        refine go_topi (mni _ _) rfl ?_
        refine go_i2l 101 dX4_findChoice_100 rfl ?_
        refine go_aload_n 102 dX4_findChoice_101 rfl rfl ?_
        refine g_getR 105 dX4_findChoice_102 rfl fF_RX4_15 ly_36 rfl ?_
        refine go_iload_n 106 dX4_findChoice_105 rfl rfl ?_
        refine g_iald2 107 _ dX4_findChoice_106 rfl ly_38 hb rfl ?_
        refine go_aload_n 108 dX4_findChoice_107 rfl rfl ?_
        refine g_getR 111 dX4_findChoice_108 rfl fF_RX4_15 ly_36 rfl ?_
        refine go_iload 113 dX4_findChoice_111 rfl rfl ?_
        refine g_iald2 114 _ dX4_findChoice_113 rfl ly_38 hc rfl ?_
        refine go_mmax 117 dX4_findChoice_114 rfl wL_RX4_59 wT_mmax wI_Math wC_mmax (Nat.le_of_ble_eq_true rfl) (Nat.le_of_ble_eq_true rfl) (Nat.le_of_ble_eq_true rfl) (Nat.le_of_ble_eq_true rfl) ?_
        refine go_topi (mxi _ _) rfl ?_
        refine go_i2l 118 dX4_findChoice_117 rfl ?_
        refine g_callV0 121 [.int _, .long _, .long _] [] dX4_findChoice_118 rfl (ct_X4_become _ _ _ _ hi) rfl sV_X4_findChoice_68 rfl ly_36 rfl rfl (Nat.le_of_ble_eq_true rfl) (Nat.le_of_ble_eq_true rfl) (Nat.le_of_ble_eq_true rfl) ?_
        refine go_return dX4_findChoice_121 rfl (Nat.le_of_ble_eq_true rfl) (Nat.le_of_ble_eq_true rfl) ?_
        exact ⟨rfl, congrArg hp (by unfold f_X4_findChoice; simp only [if_neg hc1, if_pos hc2, if_neg hc3]; try first | rfl | contradiction)⟩
      · refine go_aload_n 50 dX4_findChoice_49 rfl rfl ?_
        refine g_getR 53 dX4_findChoice_50 rfl fF_RX4_15 ly_36 rfl ?_
        refine go_iload_n 54 dX4_findChoice_53 rfl rfl ?_
        refine g_iald2 55 _ dX4_findChoice_54 rfl ly_38 ha rfl ?_
        refine go_if_ne 58 82 dX4_findChoice_55 rfl (by decide) (fun hc4 => ?_) (fun hc4 => ?_)
        · refine go_aload_n 83 dX4_findChoice_82 rfl rfl ?_
          refine go_iload_n 84 dX4_findChoice_83 rfl rfl ?_
          refine go_aload_n 85 dX4_findChoice_84 rfl rfl ?_
          refine g_getR 88 dX4_findChoice_85 rfl fF_RX4_9 ly_36 rfl ?_
          refine go_iload_n 89 dX4_findChoice_88 rfl rfl ?_
          refine g_iald2 90 _ dX4_findChoice_89 rfl ly_37 hb rfl ?_
          refine go_aload_n 91 dX4_findChoice_90 rfl rfl ?_
          refine g_getR 94 dX4_findChoice_91 rfl fF_RX4_9 ly_36 rfl ?_
          refine go_iload 96 dX4_findChoice_94 rfl rfl ?_
          refine g_iald2 97 _ dX4_findChoice_96 rfl ly_37 hc rfl ?_
          refine go_mmin 100 dX4_findChoice_97 rfl wL_RX4_98 wT_mmin wI_Math wC_mmin (Nat.le_of_ble_eq_true rfl) (Nat.le_of_ble_eq_true rfl) (Nat.le_of_ble_eq_true rfl) (Nat.le_of_ble_eq_true rfl) ?_
          refine go_topi (mni _ _) rfl ?_
          refine go_i2l 101 dX4_findChoice_100 rfl ?_
          refine go_aload_n 102 dX4_findChoice_101 rfl rfl ?_
          refine g_getR 105 dX4_findChoice_102 rfl fF_RX4_15 ly_36 rfl ?_
          refine go_iload_n 106 dX4_findChoice_105 rfl rfl ?_
          refine g_iald2 107 _ dX4_findChoice_106 rfl ly_38 hb rfl ?_
          refine go_aload_n 108 dX4_findChoice_107 rfl rfl ?_
          refine g_getR 111 dX4_findChoice_108 rfl fF_RX4_15 ly_36 rfl ?_
          refine go_iload 113 dX4_findChoice_111 rfl rfl ?_
          refine g_iald2 114 _ dX4_findChoice_113 rfl ly_38 hc rfl ?_
          refine go_mmax 117 dX4_findChoice_114 rfl wL_RX4_59 wT_mmax wI_Math wC_mmax (Nat.le_of_ble_eq_true rfl) (Nat.le_of_ble_eq_true rfl) (Nat.le_of_ble_eq_true rfl) (Nat.le_of_ble_eq_true rfl) ?_
          refine go_topi (mxi _ _) rfl ?_
          refine go_i2l 118 dX4_findChoice_117 rfl ?_
          refine g_callV0 121 [.int _, .long _, .long _] [] dX4_findChoice_118 rfl (ct_X4_become _ _ _ _ hi) rfl sV_X4_findChoice_68 rfl ly_36 rfl rfl (Nat.le_of_ble_eq_true rfl) (Nat.le_of_ble_eq_true rfl) (Nat.le_of_ble_eq_true rfl) ?_
          refine go_return dX4_findChoice_121 rfl (Nat.le_of_ble_eq_true rfl) (Nat.le_of_ble_eq_true rfl) ?_
          exact ⟨rfl, congrArg hp (by unfold f_X4_findChoice; simp only [if_neg hc1, if_pos hc2, if_pos hc3, if_neg hc4]; try first | rfl | contradiction)⟩
        · refine go_aload_n 59 dX4_findChoice_58 rfl rfl ?_
          refine go_iload_n 60 dX4_findChoice_59 rfl rfl ?_
          refine go_aload_n 61 dX4_findChoice_60 rfl rfl ?_
          refine g_getR 64 dX4_findChoice_61 rfl fF_RX4_9 ly_36 rfl ?_
          refine go_iload 66 dX4_findChoice_64 rfl rfl ?_
          refine g_iald2 67 _ dX4_findChoice_66 rfl ly_37 hc rfl ?_
          refine go_i2l 68 dX4_findChoice_67 rfl ?_
          refine go_aload_n 69 dX4_findChoice_68 rfl rfl ?_
          refine g_getR 72 dX4_findChoice_69 rfl fF_RX4_15 ly_36 rfl ?_
          refine go_iload 74 dX4_findChoice_72 rfl rfl ?_
          refine g_iald2 75 _ dX4_findChoice_74 rfl ly_38 hc rfl ?_
          refine go_i2l 76 dX4_findChoice_75 rfl ?_
          refine g_callV0 79 [.int _, .long _, .long _] [] dX4_findChoice_76 rfl (ct_X4_become _ _ _ _ hi) rfl sV_X4_findChoice_68 rfl ly_36 rfl rfl (Nat.le_of_ble_eq_true rfl) (Nat.le_of_ble_eq_true rfl) (Nat.le_of_ble_eq_true rfl) ?_
          refine go_goto 121 dX4_findChoice_79 (by decide) ?_
          refine go_return dX4_findChoice_121 rfl (Nat.le_of_ble_eq_true rfl) (Nat.le_of_ble_eq_true rfl) ?_
          exact ⟨rfl, congrArg hp (by unfold f_X4_findChoice; simp only [if_neg hc1, if_pos hc2, if_pos hc3, if_pos hc4]; try first | rfl | contradiction)⟩
    · refine go_aload_n 19 dX4_findChoice_18 rfl rfl ?_
      refine go_iload_n 20 dX4_findChoice_19 rfl rfl ?_
      refine go_aload_n 21 dX4_findChoice_20 rfl rfl ?_
      refine g_getR 24 dX4_findChoice_21 rfl fF_RX4_9 ly_36 rfl ?_
      refine go_iload_n 25 dX4_findChoice_24 rfl rfl ?_
      refine g_iald2 26 _ dX4_findChoice_25 rfl ly_37 hb rfl ?_
      refine go_i2l 27 dX4_findChoice_26 rfl ?_
      refine go_aload_n 28 dX4_findChoice_27 rfl rfl ?_
      refine g_getR 31 dX4_findChoice_28 rfl fF_RX4_15 ly_36 rfl ?_
      refine go_iload_n 32 dX4_findChoice_31 rfl rfl ?_
      refine g_iald2 33 _ dX4_findChoice_32 rfl ly_38 hb rfl ?_
      refine go_i2l 34 dX4_findChoice_33 rfl ?_
      refine g_callV0 37 [.int _, .long _, .long _] [] dX4_findChoice_34 rfl (ct_X4_become _ _ _ _ hi) rfl sV_X4_findChoice_68 rfl ly_36 rfl rfl (Nat.le_of_ble_eq_true rfl) (Nat.le_of_ble_eq_true rfl) (Nat.le_of_ble_eq_true rfl) ?_
      refine go_goto 121 dX4_findChoice_37 (by decide) ?_
      refine go_return dX4_findChoice_121 rfl (Nat.le_of_ble_eq_true rfl) (Nat.le_of_ble_eq_true rfl) ?_
      exact ⟨rfl, congrArg hp (by unfold f_X4_findChoice; simp only [if_neg hc1, if_neg hc2]; try first | rfl | contradiction)⟩
theorem fr_f_X4_findChoice {a0 c0 : Nat} (h37 : a0 ≠ 37) (h38 : a0 ≠ 38) (S : gS) (i a b c : Int32) : rI (f_X4_findChoice S i a b c) a0 c0 = rI S a0 c0 := by
  unfold f_X4_findChoice
  first | (simp only [snd_ite, rI_ite, ite_self, rI_wIk h37, rI_wRk h37, rI_wIk h38, rI_wRk h38, fr_f_X4_become h37 h38]; done) | ((repeat' split) <;> first | rfl | simp only [rI_wIk h37, rI_wRk h37, rI_wIk h38, rI_wRk h38, fr_f_X4_become h37 h38] | (apply fr_f_X4_become <;> assumption))

def f_X4_findOne (S : gS) (j : Nat) : gS := (if (rI S 2 j) = 3 then (f_X4_become S ((nI j)) ((((rI S 37 ((rI S 3 j)).toNatClampNeg)).toInt64 + ((rI S 37 ((rI S 4 j)).toNatClampNeg)).toInt64)) ((((rI S 38 ((rI S 3 j)).toNatClampNeg)).toInt64 + ((rI S 38 ((rI S 4 j)).toNatClampNeg)).toInt64))) else (if (rI S 2 j) = 4 then (f_X4_become S ((nI j)) ((((rI S 37 ((rI S 3 j)).toNatClampNeg)).toInt64 - ((rI S 38 ((rI S 4 j)).toNatClampNeg)).toInt64)) ((((rI S 38 ((rI S 3 j)).toNatClampNeg)).toInt64 - ((rI S 37 ((rI S 4 j)).toNatClampNeg)).toInt64))) else (if (rI S 2 j) = 5 then (f_X4_findProduct S ((nI j)) ((rI S 3 j)) ((rI S 4 j))) else (if (rI S 2 j) = 6 then (f_X4_findBitwise S ((nI j)) ((rI S 2 j)) ((rI S 3 j)) ((rI S 4 j))) else (if (rI S 2 j) = 7 then (f_X4_findBitwise S ((nI j)) ((rI S 2 j)) ((rI S 3 j)) ((rI S 4 j))) else (if (rI S 2 j) = 8 then (f_X4_findBitwise S ((nI j)) ((rI S 2 j)) ((rI S 3 j)) ((rI S 4 j))) else (if (rI S 2 j) = 9 then (f_X4_become S ((nI j)) ((((rI S 37 ((rI S 3 j)).toNatClampNeg)).toInt64 <<< (((rI S 4 j)).toInt64 &&& 63))) ((((rI S 38 ((rI S 3 j)).toNatClampNeg)).toInt64 <<< (((rI S 4 j)).toInt64 &&& 63)))) else (if (rI S 2 j) = 10 then (f_X4_become S ((nI j)) ((((rI S 37 ((rI S 3 j)).toNatClampNeg) >>> ((rI S 4 j) &&& 31))).toInt64) ((((rI S 38 ((rI S 3 j)).toNatClampNeg) >>> ((rI S 4 j) &&& 31))).toInt64)) else (if (rI S 2 j) = 11 then (if (rI S 37 ((rI S 4 j)).toNatClampNeg) ≤ (rI S 38 ((rI S 3 j)).toNatClampNeg) then (if (rI S 37 ((rI S 3 j)).toNatClampNeg) < (rI S 38 ((rI S 4 j)).toNatClampNeg) then (f_X4_become S ((nI j)) ((0 : Int64)) ((1 : Int64))) else (f_X4_become S ((nI j)) ((0 : Int64)) ((0 : Int64)))) else (if (rI S 37 ((rI S 3 j)).toNatClampNeg) < (rI S 38 ((rI S 4 j)).toNatClampNeg) then (f_X4_become S ((nI j)) ((1 : Int64)) ((1 : Int64))) else (f_X4_become S ((nI j)) ((1 : Int64)) ((0 : Int64))))) else (if (rI S 2 j) = 12 then (f_X4_findChoice S ((nI j)) ((rI S 3 j)) ((rI S 4 j)) ((rI S 5 j))) else S))))))))))
set_option maxRecDepth 100000 in
set_option maxHeartbeats 1000000 in
theorem ct_X4_findOne (S : gS) (j : Nat) (n : Nat) (ho : okC S n) (hj : j < n) : gF mX4_findOne [.ref 36, .ref 1, .int (nI j)] S none (f_X4_findOne S j) := by
  have h24 := ho.2.1
  have hcl := nI_c (n := j) (by omega)
  refine go_enter [.ref 36, .ref 1, .int (nI j)] [(0, .ref 36), (1, .ref 1), (2, .int (nI j))] (by decide +kernel) rfl rfl (Nat.le_of_ble_eq_true rfl) rfl ?_
  refine go_aload_n 1 dX4_findOne_0 rfl rfl ?_
  refine g_getR 4 dX4_findOne_1 rfl fF_RX4_30 ly_1 rfl ?_
  refine go_iload_n 5 dX4_findOne_4 rfl rfl ?_
  refine g_iald2 6 j dX4_findOne_5 rfl ly_3 (nI_i (by omega) (by omega)) hcl ?_
  refine go_istore_n 7 [(3, .int _), (0, .ref 36), (1, .ref 1), (2, .int _)] dX4_findOne_6 rfl (Nat.le_of_ble_eq_true rfl) rfl ?_
  refine go_aload_n 8 dX4_findOne_7 rfl rfl ?_
  refine g_getR 11 dX4_findOne_8 rfl fF_RX4_36 ly_1 rfl ?_
  refine go_iload_n 12 dX4_findOne_11 rfl rfl ?_
  refine g_iald2 13 j dX4_findOne_12 rfl ly_4 (nI_i (by omega) (by omega)) hcl ?_
  refine go_istore 15 [(4, .int _), (3, .int _), (0, .ref 36), (1, .ref 1), (2, .int _)] dX4_findOne_13 rfl (Nat.le_of_ble_eq_true rfl) rfl ?_
  refine go_aload_n 16 dX4_findOne_15 rfl rfl ?_
  refine g_getR 19 dX4_findOne_16 rfl fF_RX4_33 ly_1 rfl ?_
  refine go_iload_n 20 dX4_findOne_19 rfl rfl ?_
  refine g_iald2 21 j dX4_findOne_20 rfl ly_2 (nI_i (by omega) (by omega)) hcl ?_
  refine go_tableN 3 [(3, 76), (4, 116), (5, 156), (6, 167), (7, 167), (8, 167), (9, 184), (10, 212), (11, 240), (12, 290)] 307 dX4_findOne_21 rfl rfl (by decide) (by decide) rfl (by decide) (List.forall_mem_cons.mpr ⟨fun hc1 => ?_, List.forall_mem_cons.mpr ⟨fun hc1 => ?_, List.forall_mem_cons.mpr ⟨fun hc1 => ?_, List.forall_mem_cons.mpr ⟨fun hc1 => ?_, List.forall_mem_cons.mpr ⟨fun hc1 => ?_, List.forall_mem_cons.mpr ⟨fun hc1 => ?_, List.forall_mem_cons.mpr ⟨fun hc1 => ?_, List.forall_mem_cons.mpr ⟨fun hc1 => ?_, List.forall_mem_cons.mpr ⟨fun hc1 => ?_, List.forall_mem_cons.mpr ⟨fun hc1 => ?_, fun _ h => absurd h List.not_mem_nil⟩⟩⟩⟩⟩⟩⟩⟩⟩⟩) (fun hc1 => ?_)
  · have hc1 : (rI S 2 j) = 3 := hc1
    refine go_aload_n 77 dX4_findOne_76 rfl rfl ?_
    refine go_iload_n 78 dX4_findOne_77 rfl rfl ?_
    refine go_aload_n 79 dX4_findOne_78 rfl rfl ?_
    refine g_getR 82 dX4_findOne_79 rfl fF_RX4_9 ly_36 rfl ?_
    refine go_iload_n 83 dX4_findOne_82 rfl rfl ?_
    refine g_iald2 84 _ dX4_findOne_83 rfl ly_37 (okC.a ho hj (by rw [hc1]; decide)) rfl ?_
    refine go_i2l 85 dX4_findOne_84 rfl ?_
    refine go_aload_n 86 dX4_findOne_85 rfl rfl ?_
    refine g_getR 89 dX4_findOne_86 rfl fF_RX4_9 ly_36 rfl ?_
    refine go_iload 91 dX4_findOne_89 rfl rfl ?_
    refine g_iald2 92 _ dX4_findOne_91 rfl ly_37 (okC.b ho hj (by rw [hc1]; decide) (by rw [hc1]; decide) (by rw [hc1]; decide)) rfl ?_
    refine go_i2l 93 dX4_findOne_92 rfl ?_
    refine go_ladd 94 dX4_findOne_93 rfl ?_
    refine go_aload_n 95 dX4_findOne_94 rfl rfl ?_
    refine g_getR 98 dX4_findOne_95 rfl fF_RX4_15 ly_36 rfl ?_
    refine go_iload_n 99 dX4_findOne_98 rfl rfl ?_
    refine g_iald2 100 _ dX4_findOne_99 rfl ly_38 (okC.a ho hj (by rw [hc1]; decide)) rfl ?_
    refine go_i2l 101 dX4_findOne_100 rfl ?_
    refine go_aload_n 102 dX4_findOne_101 rfl rfl ?_
    refine g_getR 105 dX4_findOne_102 rfl fF_RX4_15 ly_36 rfl ?_
    refine go_iload 107 dX4_findOne_105 rfl rfl ?_
    refine g_iald2 108 _ dX4_findOne_107 rfl ly_38 (okC.b ho hj (by rw [hc1]; decide) (by rw [hc1]; decide) (by rw [hc1]; decide)) rfl ?_
    refine go_i2l 109 dX4_findOne_108 rfl ?_
    refine go_ladd 110 dX4_findOne_109 rfl ?_
    refine g_callV0 113 [.int _, .long _, .long _] [] dX4_findOne_110 rfl (ct_X4_become _ _ _ _ (nI_i (by omega) (by omega))) rfl sV_X4_findOne_68 rfl ly_36 rfl rfl (Nat.le_of_ble_eq_true rfl) (Nat.le_of_ble_eq_true rfl) (Nat.le_of_ble_eq_true rfl) ?_
    refine go_goto 307 dX4_findOne_113 (by decide) ?_
    refine go_return dX4_findOne_307 rfl (Nat.le_of_ble_eq_true rfl) (Nat.le_of_ble_eq_true rfl) ?_
    exact ⟨rfl, congrArg hp (by unfold f_X4_findOne; simp only [if_pos hc1]; try first | rfl | contradiction)⟩
  · have hc1 : (rI S 2 j) = 4 := hc1
    have hc1_0 : ¬ (rI S 2 j) = 3 := by rw [hc1]; decide
    refine go_aload_n 117 dX4_findOne_116 rfl rfl ?_
    refine go_iload_n 118 dX4_findOne_117 rfl rfl ?_
    refine go_aload_n 119 dX4_findOne_118 rfl rfl ?_
    refine g_getR 122 dX4_findOne_119 rfl fF_RX4_9 ly_36 rfl ?_
    refine go_iload_n 123 dX4_findOne_122 rfl rfl ?_
    refine g_iald2 124 _ dX4_findOne_123 rfl ly_37 (okC.a ho hj (by rw [hc1]; decide)) rfl ?_
    refine go_i2l 125 dX4_findOne_124 rfl ?_
    refine go_aload_n 126 dX4_findOne_125 rfl rfl ?_
    refine g_getR 129 dX4_findOne_126 rfl fF_RX4_15 ly_36 rfl ?_
    refine go_iload 131 dX4_findOne_129 rfl rfl ?_
    refine g_iald2 132 _ dX4_findOne_131 rfl ly_38 (okC.b ho hj (by rw [hc1]; decide) (by rw [hc1]; decide) (by rw [hc1]; decide)) rfl ?_
    refine go_i2l 133 dX4_findOne_132 rfl ?_
    refine go_lsub 134 dX4_findOne_133 rfl ?_
    refine go_aload_n 135 dX4_findOne_134 rfl rfl ?_
    refine g_getR 138 dX4_findOne_135 rfl fF_RX4_15 ly_36 rfl ?_
    refine go_iload_n 139 dX4_findOne_138 rfl rfl ?_
    refine g_iald2 140 _ dX4_findOne_139 rfl ly_38 (okC.a ho hj (by rw [hc1]; decide)) rfl ?_
    refine go_i2l 141 dX4_findOne_140 rfl ?_
    refine go_aload_n 142 dX4_findOne_141 rfl rfl ?_
    refine g_getR 145 dX4_findOne_142 rfl fF_RX4_9 ly_36 rfl ?_
    refine go_iload 147 dX4_findOne_145 rfl rfl ?_
    refine g_iald2 148 _ dX4_findOne_147 rfl ly_37 (okC.b ho hj (by rw [hc1]; decide) (by rw [hc1]; decide) (by rw [hc1]; decide)) rfl ?_
    refine go_i2l 149 dX4_findOne_148 rfl ?_
    refine go_lsub 150 dX4_findOne_149 rfl ?_
    refine g_callV0 153 [.int _, .long _, .long _] [] dX4_findOne_150 rfl (ct_X4_become _ _ _ _ (nI_i (by omega) (by omega))) rfl sV_X4_findOne_68 rfl ly_36 rfl rfl (Nat.le_of_ble_eq_true rfl) (Nat.le_of_ble_eq_true rfl) (Nat.le_of_ble_eq_true rfl) ?_
    refine go_goto 307 dX4_findOne_153 (by decide) ?_
    refine go_return dX4_findOne_307 rfl (Nat.le_of_ble_eq_true rfl) (Nat.le_of_ble_eq_true rfl) ?_
    exact ⟨rfl, congrArg hp (by unfold f_X4_findOne; simp only [if_neg hc1_0, if_pos hc1]; try first | rfl | contradiction)⟩
  · have hc1 : (rI S 2 j) = 5 := hc1
    have hc1_0 : ¬ (rI S 2 j) = 3 := by rw [hc1]; decide
    have hc1_1 : ¬ (rI S 2 j) = 4 := by rw [hc1]; decide
    refine go_aload_n 157 dX4_findOne_156 rfl rfl ?_
    refine go_iload_n 158 dX4_findOne_157 rfl rfl ?_
    refine go_iload_n 159 dX4_findOne_158 rfl rfl ?_
    refine go_iload 161 dX4_findOne_159 rfl rfl ?_
    refine g_callV0 164 [.int _, .int _, .int _] [] dX4_findOne_161 rfl (ct_X4_findProduct _ _ _ _ (nI_i (by omega) (by omega)) (okC.a ho hj (by rw [hc1]; decide)) (okC.b ho hj (by rw [hc1]; decide) (by rw [hc1]; decide) (by rw [hc1]; decide))) rfl sV_X4_findOne_72 rfl ly_36 rfl rfl (Nat.le_of_ble_eq_true rfl) (Nat.le_of_ble_eq_true rfl) (Nat.le_of_ble_eq_true rfl) ?_
    refine go_goto 307 dX4_findOne_164 (by decide) ?_
    refine go_return dX4_findOne_307 rfl (Nat.le_of_ble_eq_true rfl) (Nat.le_of_ble_eq_true rfl) ?_
    exact ⟨rfl, congrArg hp (by unfold f_X4_findOne; simp only [if_neg hc1_0, if_neg hc1_1, if_pos hc1]; try first | rfl | contradiction)⟩
  · have hc1 : (rI S 2 j) = 6 := hc1
    have hc1_0 : ¬ (rI S 2 j) = 3 := by rw [hc1]; decide
    have hc1_1 : ¬ (rI S 2 j) = 4 := by rw [hc1]; decide
    have hc1_2 : ¬ (rI S 2 j) = 5 := by rw [hc1]; decide
    refine go_aload_n 168 dX4_findOne_167 rfl rfl ?_
    refine go_iload_n 169 dX4_findOne_168 rfl rfl ?_
    refine go_aload_n 170 dX4_findOne_169 rfl rfl ?_
    refine g_getR 173 dX4_findOne_170 rfl fF_RX4_33 ly_1 rfl ?_
    refine go_iload_n 174 dX4_findOne_173 rfl rfl ?_
    refine g_iald2 175 j dX4_findOne_174 rfl ly_2 (nI_i (by omega) (by omega)) hcl ?_
    refine go_iload_n 176 dX4_findOne_175 rfl rfl ?_
    refine go_iload 178 dX4_findOne_176 rfl rfl ?_
    refine g_callV0 181 [.int _, .int _, .int _, .int _] [] dX4_findOne_178 rfl (ct_X4_findBitwise _ _ _ _ _ (nI_i (by omega) (by omega)) (okC.a ho hj (by rw [hc1]; decide)) (okC.b ho hj (by rw [hc1]; decide) (by rw [hc1]; decide) (by rw [hc1]; decide))) rfl sV_X4_findOne_76 rfl ly_36 rfl rfl (Nat.le_of_ble_eq_true rfl) (Nat.le_of_ble_eq_true rfl) (Nat.le_of_ble_eq_true rfl) ?_
    refine go_goto 307 dX4_findOne_181 (by decide) ?_
    refine go_return dX4_findOne_307 rfl (Nat.le_of_ble_eq_true rfl) (Nat.le_of_ble_eq_true rfl) ?_
    exact ⟨rfl, congrArg hp (by unfold f_X4_findOne; simp only [if_neg hc1_0, if_neg hc1_1, if_neg hc1_2, if_pos hc1]; try first | rfl | contradiction)⟩
  · have hc1 : (rI S 2 j) = 7 := hc1
    have hc1_0 : ¬ (rI S 2 j) = 3 := by rw [hc1]; decide
    have hc1_1 : ¬ (rI S 2 j) = 4 := by rw [hc1]; decide
    have hc1_2 : ¬ (rI S 2 j) = 5 := by rw [hc1]; decide
    have hc1_3 : ¬ (rI S 2 j) = 6 := by rw [hc1]; decide
    refine go_aload_n 168 dX4_findOne_167 rfl rfl ?_
    refine go_iload_n 169 dX4_findOne_168 rfl rfl ?_
    refine go_aload_n 170 dX4_findOne_169 rfl rfl ?_
    refine g_getR 173 dX4_findOne_170 rfl fF_RX4_33 ly_1 rfl ?_
    refine go_iload_n 174 dX4_findOne_173 rfl rfl ?_
    refine g_iald2 175 j dX4_findOne_174 rfl ly_2 (nI_i (by omega) (by omega)) hcl ?_
    refine go_iload_n 176 dX4_findOne_175 rfl rfl ?_
    refine go_iload 178 dX4_findOne_176 rfl rfl ?_
    refine g_callV0 181 [.int _, .int _, .int _, .int _] [] dX4_findOne_178 rfl (ct_X4_findBitwise _ _ _ _ _ (nI_i (by omega) (by omega)) (okC.a ho hj (by rw [hc1]; decide)) (okC.b ho hj (by rw [hc1]; decide) (by rw [hc1]; decide) (by rw [hc1]; decide))) rfl sV_X4_findOne_76 rfl ly_36 rfl rfl (Nat.le_of_ble_eq_true rfl) (Nat.le_of_ble_eq_true rfl) (Nat.le_of_ble_eq_true rfl) ?_
    refine go_goto 307 dX4_findOne_181 (by decide) ?_
    refine go_return dX4_findOne_307 rfl (Nat.le_of_ble_eq_true rfl) (Nat.le_of_ble_eq_true rfl) ?_
    exact ⟨rfl, congrArg hp (by unfold f_X4_findOne; simp only [if_neg hc1_0, if_neg hc1_1, if_neg hc1_2, if_neg hc1_3, if_pos hc1]; try first | rfl | contradiction)⟩
  · have hc1 : (rI S 2 j) = 8 := hc1
    have hc1_0 : ¬ (rI S 2 j) = 3 := by rw [hc1]; decide
    have hc1_1 : ¬ (rI S 2 j) = 4 := by rw [hc1]; decide
    have hc1_2 : ¬ (rI S 2 j) = 5 := by rw [hc1]; decide
    have hc1_3 : ¬ (rI S 2 j) = 6 := by rw [hc1]; decide
    have hc1_4 : ¬ (rI S 2 j) = 7 := by rw [hc1]; decide
    refine go_aload_n 168 dX4_findOne_167 rfl rfl ?_
    refine go_iload_n 169 dX4_findOne_168 rfl rfl ?_
    refine go_aload_n 170 dX4_findOne_169 rfl rfl ?_
    refine g_getR 173 dX4_findOne_170 rfl fF_RX4_33 ly_1 rfl ?_
    refine go_iload_n 174 dX4_findOne_173 rfl rfl ?_
    refine g_iald2 175 j dX4_findOne_174 rfl ly_2 (nI_i (by omega) (by omega)) hcl ?_
    refine go_iload_n 176 dX4_findOne_175 rfl rfl ?_
    refine go_iload 178 dX4_findOne_176 rfl rfl ?_
    refine g_callV0 181 [.int _, .int _, .int _, .int _] [] dX4_findOne_178 rfl (ct_X4_findBitwise _ _ _ _ _ (nI_i (by omega) (by omega)) (okC.a ho hj (by rw [hc1]; decide)) (okC.b ho hj (by rw [hc1]; decide) (by rw [hc1]; decide) (by rw [hc1]; decide))) rfl sV_X4_findOne_76 rfl ly_36 rfl rfl (Nat.le_of_ble_eq_true rfl) (Nat.le_of_ble_eq_true rfl) (Nat.le_of_ble_eq_true rfl) ?_
    refine go_goto 307 dX4_findOne_181 (by decide) ?_
    refine go_return dX4_findOne_307 rfl (Nat.le_of_ble_eq_true rfl) (Nat.le_of_ble_eq_true rfl) ?_
    exact ⟨rfl, congrArg hp (by unfold f_X4_findOne; simp only [if_neg hc1_0, if_neg hc1_1, if_neg hc1_2, if_neg hc1_3, if_neg hc1_4, if_pos hc1]; try first | rfl | contradiction)⟩
  · have hc1 : (rI S 2 j) = 9 := hc1
    have hc1_0 : ¬ (rI S 2 j) = 3 := by rw [hc1]; decide
    have hc1_1 : ¬ (rI S 2 j) = 4 := by rw [hc1]; decide
    have hc1_2 : ¬ (rI S 2 j) = 5 := by rw [hc1]; decide
    have hc1_3 : ¬ (rI S 2 j) = 6 := by rw [hc1]; decide
    have hc1_4 : ¬ (rI S 2 j) = 7 := by rw [hc1]; decide
    have hc1_5 : ¬ (rI S 2 j) = 8 := by rw [hc1]; decide
    refine go_aload_n 185 dX4_findOne_184 rfl rfl ?_
    refine go_iload_n 186 dX4_findOne_185 rfl rfl ?_
    refine go_aload_n 187 dX4_findOne_186 rfl rfl ?_
    refine g_getR 190 dX4_findOne_187 rfl fF_RX4_9 ly_36 rfl ?_
    refine go_iload_n 191 dX4_findOne_190 rfl rfl ?_
    refine g_iald2 192 _ dX4_findOne_191 rfl ly_37 (okC.a ho hj (by rw [hc1]; decide)) rfl ?_
    refine go_i2l 193 dX4_findOne_192 rfl ?_
    refine go_iload 195 dX4_findOne_193 rfl rfl ?_
    refine go_lshl 196 dX4_findOne_195 rfl ?_
    refine go_aload_n 197 dX4_findOne_196 rfl rfl ?_
    refine g_getR 200 dX4_findOne_197 rfl fF_RX4_15 ly_36 rfl ?_
    refine go_iload_n 201 dX4_findOne_200 rfl rfl ?_
    refine g_iald2 202 _ dX4_findOne_201 rfl ly_38 (okC.a ho hj (by rw [hc1]; decide)) rfl ?_
    refine go_i2l 203 dX4_findOne_202 rfl ?_
    refine go_iload 205 dX4_findOne_203 rfl rfl ?_
    refine go_lshl 206 dX4_findOne_205 rfl ?_
    refine g_callV0 209 [.int _, .long _, .long _] [] dX4_findOne_206 rfl (ct_X4_become _ _ _ _ (nI_i (by omega) (by omega))) rfl sV_X4_findOne_68 rfl ly_36 rfl rfl (Nat.le_of_ble_eq_true rfl) (Nat.le_of_ble_eq_true rfl) (Nat.le_of_ble_eq_true rfl) ?_
    refine go_goto 307 dX4_findOne_209 (by decide) ?_
    refine go_return dX4_findOne_307 rfl (Nat.le_of_ble_eq_true rfl) (Nat.le_of_ble_eq_true rfl) ?_
    exact ⟨rfl, congrArg hp (by unfold f_X4_findOne; simp only [if_neg hc1_0, if_neg hc1_1, if_neg hc1_2, if_neg hc1_3, if_neg hc1_4, if_neg hc1_5, if_pos hc1]; try first | rfl | contradiction)⟩
  · have hc1 : (rI S 2 j) = 10 := hc1
    have hc1_0 : ¬ (rI S 2 j) = 3 := by rw [hc1]; decide
    have hc1_1 : ¬ (rI S 2 j) = 4 := by rw [hc1]; decide
    have hc1_2 : ¬ (rI S 2 j) = 5 := by rw [hc1]; decide
    have hc1_3 : ¬ (rI S 2 j) = 6 := by rw [hc1]; decide
    have hc1_4 : ¬ (rI S 2 j) = 7 := by rw [hc1]; decide
    have hc1_5 : ¬ (rI S 2 j) = 8 := by rw [hc1]; decide
    have hc1_6 : ¬ (rI S 2 j) = 9 := by rw [hc1]; decide
    refine go_aload_n 213 dX4_findOne_212 rfl rfl ?_
    refine go_iload_n 214 dX4_findOne_213 rfl rfl ?_
    refine go_aload_n 215 dX4_findOne_214 rfl rfl ?_
    refine g_getR 218 dX4_findOne_215 rfl fF_RX4_9 ly_36 rfl ?_
    refine go_iload_n 219 dX4_findOne_218 rfl rfl ?_
    refine g_iald2 220 _ dX4_findOne_219 rfl ly_37 (okC.a ho hj (by rw [hc1]; decide)) rfl ?_
    refine go_iload 222 dX4_findOne_220 rfl rfl ?_
    refine go_ishr 223 dX4_findOne_222 rfl ?_
    refine go_i2l 224 dX4_findOne_223 rfl ?_
    refine go_aload_n 225 dX4_findOne_224 rfl rfl ?_
    refine g_getR 228 dX4_findOne_225 rfl fF_RX4_15 ly_36 rfl ?_
    refine go_iload_n 229 dX4_findOne_228 rfl rfl ?_
    refine g_iald2 230 _ dX4_findOne_229 rfl ly_38 (okC.a ho hj (by rw [hc1]; decide)) rfl ?_
    refine go_iload 232 dX4_findOne_230 rfl rfl ?_
    refine go_ishr 233 dX4_findOne_232 rfl ?_
    refine go_i2l 234 dX4_findOne_233 rfl ?_
    refine g_callV0 237 [.int _, .long _, .long _] [] dX4_findOne_234 rfl (ct_X4_become _ _ _ _ (nI_i (by omega) (by omega))) rfl sV_X4_findOne_68 rfl ly_36 rfl rfl (Nat.le_of_ble_eq_true rfl) (Nat.le_of_ble_eq_true rfl) (Nat.le_of_ble_eq_true rfl) ?_
    refine go_goto 307 dX4_findOne_237 (by decide) ?_
    refine go_return dX4_findOne_307 rfl (Nat.le_of_ble_eq_true rfl) (Nat.le_of_ble_eq_true rfl) ?_
    exact ⟨rfl, congrArg hp (by unfold f_X4_findOne; simp only [if_neg hc1_0, if_neg hc1_1, if_neg hc1_2, if_neg hc1_3, if_neg hc1_4, if_neg hc1_5, if_neg hc1_6, if_pos hc1]; try first | rfl | contradiction)⟩
  · have hc1 : (rI S 2 j) = 11 := hc1
    have hc1_0 : ¬ (rI S 2 j) = 3 := by rw [hc1]; decide
    have hc1_1 : ¬ (rI S 2 j) = 4 := by rw [hc1]; decide
    have hc1_2 : ¬ (rI S 2 j) = 5 := by rw [hc1]; decide
    have hc1_3 : ¬ (rI S 2 j) = 6 := by rw [hc1]; decide
    have hc1_4 : ¬ (rI S 2 j) = 7 := by rw [hc1]; decide
    have hc1_5 : ¬ (rI S 2 j) = 8 := by rw [hc1]; decide
    have hc1_6 : ¬ (rI S 2 j) = 9 := by rw [hc1]; decide
    have hc1_7 : ¬ (rI S 2 j) = 10 := by rw [hc1]; decide
    refine go_aload_n 241 dX4_findOne_240 rfl rfl ?_
    refine go_iload_n 242 dX4_findOne_241 rfl rfl ?_
    refine go_aload_n 243 dX4_findOne_242 rfl rfl ?_
    refine g_getR 246 dX4_findOne_243 rfl fF_RX4_15 ly_36 rfl ?_
    refine go_iload_n 247 dX4_findOne_246 rfl rfl ?_
    refine g_iald2 248 _ dX4_findOne_247 rfl ly_38 (okC.a ho hj (by rw [hc1]; decide)) rfl ?_
    refine go_aload_n 249 dX4_findOne_248 rfl rfl ?_
    refine g_getR 252 dX4_findOne_249 rfl fF_RX4_9 ly_36 rfl ?_
    refine go_iload 254 dX4_findOne_252 rfl rfl ?_
    refine g_iald2 255 _ dX4_findOne_254 rfl ly_37 (okC.b ho hj (by rw [hc1]; decide) (by rw [hc1]; decide) (by rw [hc1]; decide)) rfl ?_
    refine go_icmp_ge 258 262 dX4_findOne_255 rfl (by decide) (fun hc2 => ?_) (fun hc2 => ?_)
    · refine go_lconst 263 (0) dX4_findOne_262 rfl (by decide) ?_
      refine go_aload_n 264 dX4_findOne_263 rfl rfl ?_
      refine g_getR 267 dX4_findOne_264 rfl fF_RX4_9 ly_36 rfl ?_
      refine go_iload_n 268 dX4_findOne_267 rfl rfl ?_
      refine g_iald2 269 _ dX4_findOne_268 rfl ly_37 (okC.a ho hj (by rw [hc1]; decide)) rfl ?_
      refine go_aload_n 270 dX4_findOne_269 rfl rfl ?_
      refine g_getR 273 dX4_findOne_270 rfl fF_RX4_15 ly_36 rfl ?_
      refine go_iload 275 dX4_findOne_273 rfl rfl ?_
      refine g_iald2 276 _ dX4_findOne_275 rfl ly_38 (okC.b ho hj (by rw [hc1]; decide) (by rw [hc1]; decide) (by rw [hc1]; decide)) rfl ?_
      refine go_icmp_lt 279 283 dX4_findOne_276 rfl (by decide) (fun hc3 => ?_) (fun hc3 => ?_)
      · refine go_lconst 284 (1) dX4_findOne_283 rfl (by decide) ?_
        refine g_callV0 287 [.int _, .long _, .long _] [] dX4_findOne_284 rfl (ct_X4_become _ _ _ _ (nI_i (by omega) (by omega))) rfl sV_X4_findOne_68 rfl ly_36 rfl rfl (Nat.le_of_ble_eq_true rfl) (Nat.le_of_ble_eq_true rfl) (Nat.le_of_ble_eq_true rfl) ?_
        refine go_goto 307 dX4_findOne_287 (by decide) ?_
        refine go_return dX4_findOne_307 rfl (Nat.le_of_ble_eq_true rfl) (Nat.le_of_ble_eq_true rfl) ?_
        exact ⟨rfl, congrArg hp (by unfold f_X4_findOne; simp only [if_neg hc1_0, if_neg hc1_1, if_neg hc1_2, if_neg hc1_3, if_neg hc1_4, if_neg hc1_5, if_neg hc1_6, if_neg hc1_7, if_pos hc1, if_pos hc2, if_pos hc3]; try first | rfl | contradiction)⟩
      · refine go_lconst 280 (0) dX4_findOne_279 rfl (by decide) ?_
        refine go_goto 284 dX4_findOne_280 (by decide) ?_
        refine g_callV0 287 [.int _, .long _, .long _] [] dX4_findOne_284 rfl (ct_X4_become _ _ _ _ (nI_i (by omega) (by omega))) rfl sV_X4_findOne_68 rfl ly_36 rfl rfl (Nat.le_of_ble_eq_true rfl) (Nat.le_of_ble_eq_true rfl) (Nat.le_of_ble_eq_true rfl) ?_
        refine go_goto 307 dX4_findOne_287 (by decide) ?_
        refine go_return dX4_findOne_307 rfl (Nat.le_of_ble_eq_true rfl) (Nat.le_of_ble_eq_true rfl) ?_
        exact ⟨rfl, congrArg hp (by unfold f_X4_findOne; simp only [if_neg hc1_0, if_neg hc1_1, if_neg hc1_2, if_neg hc1_3, if_neg hc1_4, if_neg hc1_5, if_neg hc1_6, if_neg hc1_7, if_pos hc1, if_pos hc2, if_neg hc3]; try first | rfl | contradiction)⟩
    · refine go_lconst 259 (1) dX4_findOne_258 rfl (by decide) ?_
      refine go_goto 263 dX4_findOne_259 (by decide) ?_
      refine go_aload_n 264 dX4_findOne_263 rfl rfl ?_
      refine g_getR 267 dX4_findOne_264 rfl fF_RX4_9 ly_36 rfl ?_
      refine go_iload_n 268 dX4_findOne_267 rfl rfl ?_
      refine g_iald2 269 _ dX4_findOne_268 rfl ly_37 (okC.a ho hj (by rw [hc1]; decide)) rfl ?_
      refine go_aload_n 270 dX4_findOne_269 rfl rfl ?_
      refine g_getR 273 dX4_findOne_270 rfl fF_RX4_15 ly_36 rfl ?_
      refine go_iload 275 dX4_findOne_273 rfl rfl ?_
      refine g_iald2 276 _ dX4_findOne_275 rfl ly_38 (okC.b ho hj (by rw [hc1]; decide) (by rw [hc1]; decide) (by rw [hc1]; decide)) rfl ?_
      refine go_icmp_lt 279 283 dX4_findOne_276 rfl (by decide) (fun hc4 => ?_) (fun hc4 => ?_)
      · refine go_lconst 284 (1) dX4_findOne_283 rfl (by decide) ?_
        refine g_callV0 287 [.int _, .long _, .long _] [] dX4_findOne_284 rfl (ct_X4_become _ _ _ _ (nI_i (by omega) (by omega))) rfl sV_X4_findOne_68 rfl ly_36 rfl rfl (Nat.le_of_ble_eq_true rfl) (Nat.le_of_ble_eq_true rfl) (Nat.le_of_ble_eq_true rfl) ?_
        refine go_goto 307 dX4_findOne_287 (by decide) ?_
        refine go_return dX4_findOne_307 rfl (Nat.le_of_ble_eq_true rfl) (Nat.le_of_ble_eq_true rfl) ?_
        exact ⟨rfl, congrArg hp (by unfold f_X4_findOne; simp only [if_neg hc1_0, if_neg hc1_1, if_neg hc1_2, if_neg hc1_3, if_neg hc1_4, if_neg hc1_5, if_neg hc1_6, if_neg hc1_7, if_pos hc1, if_neg hc2, if_pos hc4]; try first | rfl | contradiction)⟩
      · refine go_lconst 280 (0) dX4_findOne_279 rfl (by decide) ?_
        refine go_goto 284 dX4_findOne_280 (by decide) ?_
        refine g_callV0 287 [.int _, .long _, .long _] [] dX4_findOne_284 rfl (ct_X4_become _ _ _ _ (nI_i (by omega) (by omega))) rfl sV_X4_findOne_68 rfl ly_36 rfl rfl (Nat.le_of_ble_eq_true rfl) (Nat.le_of_ble_eq_true rfl) (Nat.le_of_ble_eq_true rfl) ?_
        refine go_goto 307 dX4_findOne_287 (by decide) ?_
        refine go_return dX4_findOne_307 rfl (Nat.le_of_ble_eq_true rfl) (Nat.le_of_ble_eq_true rfl) ?_
        exact ⟨rfl, congrArg hp (by unfold f_X4_findOne; simp only [if_neg hc1_0, if_neg hc1_1, if_neg hc1_2, if_neg hc1_3, if_neg hc1_4, if_neg hc1_5, if_neg hc1_6, if_neg hc1_7, if_pos hc1, if_neg hc2, if_neg hc4]; try first | rfl | contradiction)⟩
  · have hc1 : (rI S 2 j) = 12 := hc1
    have hc1_0 : ¬ (rI S 2 j) = 3 := by rw [hc1]; decide
    have hc1_1 : ¬ (rI S 2 j) = 4 := by rw [hc1]; decide
    have hc1_2 : ¬ (rI S 2 j) = 5 := by rw [hc1]; decide
    have hc1_3 : ¬ (rI S 2 j) = 6 := by rw [hc1]; decide
    have hc1_4 : ¬ (rI S 2 j) = 7 := by rw [hc1]; decide
    have hc1_5 : ¬ (rI S 2 j) = 8 := by rw [hc1]; decide
    have hc1_6 : ¬ (rI S 2 j) = 9 := by rw [hc1]; decide
    have hc1_7 : ¬ (rI S 2 j) = 10 := by rw [hc1]; decide
    have hc1_8 : ¬ (rI S 2 j) = 11 := by rw [hc1]; decide
    refine go_aload_n 291 dX4_findOne_290 rfl rfl ?_
    refine go_iload_n 292 dX4_findOne_291 rfl rfl ?_
    refine go_iload_n 293 dX4_findOne_292 rfl rfl ?_
    refine go_iload 295 dX4_findOne_293 rfl rfl ?_
    refine go_aload_n 296 dX4_findOne_295 rfl rfl ?_
    refine g_getR 299 dX4_findOne_296 rfl fF_RX4_80 ly_1 rfl ?_
    refine go_iload_n 300 dX4_findOne_299 rfl rfl ?_
    refine g_iald2 301 j dX4_findOne_300 rfl ly_5 (nI_i (by omega) (by omega)) hcl ?_
    refine g_callV0 304 [.int _, .int _, .int _, .int _] [] dX4_findOne_301 rfl (ct_X4_findChoice _ _ _ _ _ (nI_i (by omega) (by omega)) (okC.a ho hj (by rw [hc1]; decide)) (okC.b ho hj (by rw [hc1]; decide) (by rw [hc1]; decide) (by rw [hc1]; decide)) (okC.c ho hj hc1)) rfl sV_X4_findOne_83 rfl ly_36 rfl rfl (Nat.le_of_ble_eq_true rfl) (Nat.le_of_ble_eq_true rfl) (Nat.le_of_ble_eq_true rfl) ?_
    refine go_goto 307 dX4_findOne_304 (by decide) ?_
    refine go_return dX4_findOne_307 rfl (Nat.le_of_ble_eq_true rfl) (Nat.le_of_ble_eq_true rfl) ?_
    exact ⟨rfl, congrArg hp (by unfold f_X4_findOne; simp only [if_neg hc1_0, if_neg hc1_1, if_neg hc1_2, if_neg hc1_3, if_neg hc1_4, if_neg hc1_5, if_neg hc1_6, if_neg hc1_7, if_neg hc1_8, if_pos hc1]; try first | rfl | contradiction)⟩
  · have hc1_0 : ¬ (rI S 2 j) = 3 := hc1 (3, 76) (List.mem_of_getElem? (i := 0) rfl)
    have hc1_1 : ¬ (rI S 2 j) = 4 := hc1 (4, 116) (List.mem_of_getElem? (i := 1) rfl)
    have hc1_2 : ¬ (rI S 2 j) = 5 := hc1 (5, 156) (List.mem_of_getElem? (i := 2) rfl)
    have hc1_3 : ¬ (rI S 2 j) = 6 := hc1 (6, 167) (List.mem_of_getElem? (i := 3) rfl)
    have hc1_4 : ¬ (rI S 2 j) = 7 := hc1 (7, 167) (List.mem_of_getElem? (i := 4) rfl)
    have hc1_5 : ¬ (rI S 2 j) = 8 := hc1 (8, 167) (List.mem_of_getElem? (i := 5) rfl)
    have hc1_6 : ¬ (rI S 2 j) = 9 := hc1 (9, 184) (List.mem_of_getElem? (i := 6) rfl)
    have hc1_7 : ¬ (rI S 2 j) = 10 := hc1 (10, 212) (List.mem_of_getElem? (i := 7) rfl)
    have hc1_8 : ¬ (rI S 2 j) = 11 := hc1 (11, 240) (List.mem_of_getElem? (i := 8) rfl)
    have hc1_9 : ¬ (rI S 2 j) = 12 := hc1 (12, 290) (List.mem_of_getElem? (i := 9) rfl)
    clear hc1
    refine go_return dX4_findOne_307 rfl (Nat.le_of_ble_eq_true rfl) (Nat.le_of_ble_eq_true rfl) ?_
    exact ⟨rfl, congrArg hp (by unfold f_X4_findOne; simp only [if_neg hc1_0, if_neg hc1_1, if_neg hc1_2, if_neg hc1_3, if_neg hc1_4, if_neg hc1_5, if_neg hc1_6, if_neg hc1_7, if_neg hc1_8, if_neg hc1_9]; try first | rfl | contradiction)⟩
theorem fr_f_X4_findOne {a0 c0 : Nat} (h37 : a0 ≠ 37) (h38 : a0 ≠ 38) (S : gS) (j : Nat) : rI (f_X4_findOne S j) a0 c0 = rI S a0 c0 := by
  unfold f_X4_findOne
  first | (simp only [snd_ite, rI_ite, ite_self, rI_wIk h37, rI_wRk h37, rI_wIk h38, rI_wRk h38, fr_f_X4_become h37 h38, fr_f_X4_findBitwise h37 h38, fr_f_X4_findChoice h37 h38, fr_f_X4_findProduct h37 h38]; done) | ((repeat' split) <;> first | rfl | simp only [rI_wIk h37, rI_wRk h37, rI_wIk h38, rI_wRk h38, fr_f_X4_become h37 h38, fr_f_X4_findBitwise h37 h38, fr_f_X4_findChoice h37 h38, fr_f_X4_findProduct h37 h38] | (apply fr_f_X4_become <;> assumption) | (apply fr_f_X4_findBitwise <;> assumption) | (apply fr_f_X4_findChoice <;> assumption) | (apply fr_f_X4_findProduct <;> assumption))

def f_X4_join (S : gS) (r t : Int32) : Int32 × gS := (if (rI S 36 3) < 4 then (if (rI S 37 r.toNatClampNeg) ≤ (rI S 37 t.toNatClampNeg) then (if (rI S 38 t.toNatClampNeg) ≤ (rI S 38 r.toNatClampNeg) then (0, S) else (1, (wI S 38 r.toNatClampNeg ((rI S 38 t.toNatClampNeg))))) else (if (rI S 38 t.toNatClampNeg) ≤ (rI S 38 r.toNatClampNeg) then (1, (wI S 37 r.toNatClampNeg ((rI S 37 t.toNatClampNeg)))) else (1, (wI (wI S 37 r.toNatClampNeg ((rI S 37 t.toNatClampNeg))) 38 r.toNatClampNeg ((rI S 38 t.toNatClampNeg)))))) else (if (rI S 37 r.toNatClampNeg) ≤ (rI S 37 t.toNatClampNeg) then (if (rI S 38 t.toNatClampNeg) ≤ (rI S 38 r.toNatClampNeg) then (0, S) else (1, (wI S 38 r.toNatClampNeg ((f_X4_onesNotBelow ((rI S 38 t.toNatClampNeg))))))) else (if (rI S 38 t.toNatClampNeg) ≤ (rI S 38 r.toNatClampNeg) then (1, (wI S 37 r.toNatClampNeg ((f_X4_powerNotAbove ((rI S 37 t.toNatClampNeg)))))) else (1, (wI (wI S 37 r.toNatClampNeg ((f_X4_powerNotAbove ((rI S 37 t.toNatClampNeg))))) 38 r.toNatClampNeg ((f_X4_onesNotBelow ((rI S 38 t.toNatClampNeg)))))))))
set_option maxRecDepth 100000 in
set_option maxHeartbeats 1000000 in
theorem ct_X4_join (S : gS) (r t : Int32) (hr : vp_in r 24) (ht : vp_in t 24) : gF mX4_join [.ref 36, .int r, .int t] S (some (.int (f_X4_join S r t).1)) (f_X4_join S r t).2 := by
  refine go_enter [.ref 36, .int r, .int t] [(0, .ref 36), (1, .int r), (2, .int t)] (by decide +kernel) rfl rfl (Nat.le_of_ble_eq_true rfl) rfl ?_
  refine go_aload_n 1 dX4_join_0 rfl rfl ?_
  refine g_getI 4 dX4_join_1 rfl fF_RX4_21 ly_36 rfl ?_
  refine go_iconst 5 (4) dX4_join_4 rfl (by decide) ?_
  refine go_icmp_lt 8 12 dX4_join_5 rfl (by decide) (fun hc1 => ?_) (fun hc1 => ?_)
  · refine go_iconst 13 (0) dX4_join_12 rfl (by decide) ?_
    refine go_istore_n 14 [(3, .int _), (0, .ref 36), (1, .int _), (2, .int _)] dX4_join_13 rfl (Nat.le_of_ble_eq_true rfl) rfl ?_
    refine go_aload_n 15 dX4_join_14 rfl rfl ?_
    refine g_getR 18 dX4_join_15 rfl fF_RX4_9 ly_36 rfl ?_
    refine go_iload_n 19 dX4_join_18 rfl rfl ?_
    refine g_iald2 20 _ dX4_join_19 rfl ly_37 ht rfl ?_
    refine go_istore 22 [(4, .int _), (3, .int _), (0, .ref 36), (1, .int _), (2, .int _)] dX4_join_20 rfl (Nat.le_of_ble_eq_true rfl) rfl ?_
    refine go_aload_n 23 dX4_join_22 rfl rfl ?_
    refine g_getR 26 dX4_join_23 rfl fF_RX4_15 ly_36 rfl ?_
    refine go_iload_n 27 dX4_join_26 rfl rfl ?_
    refine g_iald2 28 _ dX4_join_27 rfl ly_38 ht rfl ?_
    refine go_istore 30 [(5, .int _), (4, .int _), (3, .int _), (0, .ref 36), (1, .int _), (2, .int _)] dX4_join_28 rfl (Nat.le_of_ble_eq_true rfl) rfl ?_
    refine go_iload 32 dX4_join_30 rfl rfl ?_
    refine go_aload_n 33 dX4_join_32 rfl rfl ?_
    refine g_getR 36 dX4_join_33 rfl fF_RX4_9 ly_36 rfl ?_
    refine go_iload_n 37 dX4_join_36 rfl rfl ?_
    refine g_iald2 38 _ dX4_join_37 rfl ly_37 hr rfl ?_
    refine go_icmp_ge 41 45 dX4_join_38 rfl (by decide) (fun hc2 => ?_) (fun hc2 => ?_)
    · refine go_iconst 46 (0) dX4_join_45 rfl (by decide) ?_
      refine go_istore 48 [(6, .int _), (5, .int _), (4, .int _), (3, .int _), (0, .ref 36), (1, .int _), (2, .int _)] dX4_join_46 rfl (Nat.le_of_ble_eq_true rfl) rfl ?_
      refine go_iload 50 dX4_join_48 rfl rfl ?_
      refine go_aload_n 51 dX4_join_50 rfl rfl ?_
      refine g_getR 54 dX4_join_51 rfl fF_RX4_15 ly_36 rfl ?_
      refine go_iload_n 55 dX4_join_54 rfl rfl ?_
      refine g_iald2 56 _ dX4_join_55 rfl ly_38 hr rfl ?_
      refine go_icmp_le 59 63 dX4_join_56 rfl (by decide) (fun hc3 => ?_) (fun hc3 => ?_)
      · refine go_iconst 64 (0) dX4_join_63 rfl (by decide) ?_
        refine go_istore 66 [(7, .int _), (6, .int _), (5, .int _), (4, .int _), (3, .int _), (0, .ref 36), (1, .int _), (2, .int _)] dX4_join_64 rfl (Nat.le_of_ble_eq_true rfl) rfl ?_
        refine go_iload 68 dX4_join_66 rfl rfl ?_
        refine go_if_eq 71 91 dX4_join_68 rfl (by decide) (fun _ => ?_) (fun hc4 => absurd hc4 (by decide))
        refine go_iload 93 dX4_join_91 rfl rfl ?_
        refine go_if_eq 96 116 dX4_join_93 rfl (by decide) (fun _ => ?_) (fun hc5 => absurd hc5 (by decide))
        refine go_iload 118 dX4_join_116 rfl rfl ?_
        refine go_if_ne 121 126 dX4_join_118 rfl (by decide) (fun hc6 => absurd hc6 (by decide)) (fun _ => ?_)
        refine go_iload 123 dX4_join_121 rfl rfl ?_
        refine go_if_eq 126 130 dX4_join_123 rfl (by decide) (fun _ => ?_) (fun hc7 => absurd hc7 (by decide))
        refine go_iconst 131 (0) dX4_join_130 rfl (by decide) ?_
        refine go_ireturn dX4_join_131 rfl (by first | rfl | exact bi_nar) (Nat.le_of_ble_eq_true rfl) (Nat.le_of_ble_eq_true rfl) ?_
        exact ⟨congrArg (fun z => some (Value.int z)) (by unfold f_X4_join; simp only [if_pos hc1, if_pos hc2, if_pos hc3]; try first | rfl | contradiction), congrArg hp (by unfold f_X4_join; simp only [if_pos hc1, if_pos hc2, if_pos hc3]; try first | rfl | contradiction)⟩
      · refine go_iconst 60 (1) dX4_join_59 rfl (by decide) ?_
        refine go_goto 64 dX4_join_60 (by decide) ?_
        refine go_istore 66 [(7, .int _), (6, .int _), (5, .int _), (4, .int _), (3, .int _), (0, .ref 36), (1, .int _), (2, .int _)] dX4_join_64 rfl (Nat.le_of_ble_eq_true rfl) rfl ?_
        refine go_iload 68 dX4_join_66 rfl rfl ?_
        refine go_if_eq 71 91 dX4_join_68 rfl (by decide) (fun _ => ?_) (fun hc8 => absurd hc8 (by decide))
        refine go_iload 93 dX4_join_91 rfl rfl ?_
        refine go_if_eq 96 116 dX4_join_93 rfl (by decide) (fun hc9 => absurd hc9 (by decide)) (fun _ => ?_)
        refine go_aload_n 97 dX4_join_96 rfl rfl ?_
        refine g_getR 100 dX4_join_97 rfl fF_RX4_15 ly_36 rfl ?_
        refine go_iload_n 101 dX4_join_100 rfl rfl ?_
        refine go_iload_n 102 dX4_join_101 rfl rfl ?_
        refine go_if_eq 105 113 dX4_join_102 rfl (by decide) (fun _ => ?_) (fun hc10 => absurd hc10 (by decide))
        refine go_iload 115 dX4_join_113 rfl rfl ?_
        refine g_iast2 116 _ dX4_join_115 rfl ly_38 hr rfl ?_
        refine go_iload 118 dX4_join_116 rfl rfl ?_
        refine go_if_ne 121 126 dX4_join_118 rfl (by decide) (fun hc11 => absurd hc11 (by decide)) (fun _ => ?_)
        refine go_iload 123 dX4_join_121 rfl rfl ?_
        refine go_if_eq 126 130 dX4_join_123 rfl (by decide) (fun hc12 => absurd hc12 (by decide)) (fun _ => ?_)
        refine go_iconst 127 (1) dX4_join_126 rfl (by decide) ?_
        refine go_goto 131 dX4_join_127 (by decide) ?_
        refine go_ireturn dX4_join_131 rfl (by first | rfl | exact bi_nar) (Nat.le_of_ble_eq_true rfl) (Nat.le_of_ble_eq_true rfl) ?_
        exact ⟨congrArg (fun z => some (Value.int z)) (by unfold f_X4_join; simp only [if_pos hc1, if_pos hc2, if_neg hc3]; try first | rfl | contradiction), congrArg hp (by unfold f_X4_join; simp only [if_pos hc1, if_pos hc2, if_neg hc3]; try first | rfl | contradiction)⟩
    · refine go_iconst 42 (1) dX4_join_41 rfl (by decide) ?_
      refine go_goto 46 dX4_join_42 (by decide) ?_
      refine go_istore 48 [(6, .int _), (5, .int _), (4, .int _), (3, .int _), (0, .ref 36), (1, .int _), (2, .int _)] dX4_join_46 rfl (Nat.le_of_ble_eq_true rfl) rfl ?_
      refine go_iload 50 dX4_join_48 rfl rfl ?_
      refine go_aload_n 51 dX4_join_50 rfl rfl ?_
      refine g_getR 54 dX4_join_51 rfl fF_RX4_15 ly_36 rfl ?_
      refine go_iload_n 55 dX4_join_54 rfl rfl ?_
      refine g_iald2 56 _ dX4_join_55 rfl ly_38 hr rfl ?_
      refine go_icmp_le 59 63 dX4_join_56 rfl (by decide) (fun hc13 => ?_) (fun hc13 => ?_)
      · refine go_iconst 64 (0) dX4_join_63 rfl (by decide) ?_
        refine go_istore 66 [(7, .int _), (6, .int _), (5, .int _), (4, .int _), (3, .int _), (0, .ref 36), (1, .int _), (2, .int _)] dX4_join_64 rfl (Nat.le_of_ble_eq_true rfl) rfl ?_
        refine go_iload 68 dX4_join_66 rfl rfl ?_
        refine go_if_eq 71 91 dX4_join_68 rfl (by decide) (fun hc14 => absurd hc14 (by decide)) (fun _ => ?_)
        refine go_aload_n 72 dX4_join_71 rfl rfl ?_
        refine g_getR 75 dX4_join_72 rfl fF_RX4_9 ly_36 rfl ?_
        refine go_iload_n 76 dX4_join_75 rfl rfl ?_
        refine go_iload_n 77 dX4_join_76 rfl rfl ?_
        refine go_if_eq 80 88 dX4_join_77 rfl (by decide) (fun _ => ?_) (fun hc15 => absurd hc15 (by decide))
        refine go_iload 90 dX4_join_88 rfl rfl ?_
        refine g_iast2 91 _ dX4_join_90 rfl ly_37 hr rfl ?_
        refine go_iload 93 dX4_join_91 rfl rfl ?_
        refine go_if_eq 96 116 dX4_join_93 rfl (by decide) (fun _ => ?_) (fun hc16 => absurd hc16 (by decide))
        refine go_iload 118 dX4_join_116 rfl rfl ?_
        refine go_if_ne 121 126 dX4_join_118 rfl (by decide) (fun _ => ?_) (fun hc17 => absurd hc17 (by decide))
        refine go_iconst 127 (1) dX4_join_126 rfl (by decide) ?_
        refine go_goto 131 dX4_join_127 (by decide) ?_
        refine go_ireturn dX4_join_131 rfl (by first | rfl | exact bi_nar) (Nat.le_of_ble_eq_true rfl) (Nat.le_of_ble_eq_true rfl) ?_
        exact ⟨congrArg (fun z => some (Value.int z)) (by unfold f_X4_join; simp only [if_pos hc1, if_neg hc2, if_pos hc13]; try first | rfl | contradiction), congrArg hp (by unfold f_X4_join; simp only [if_pos hc1, if_neg hc2, if_pos hc13]; try first | rfl | contradiction)⟩
      · refine go_iconst 60 (1) dX4_join_59 rfl (by decide) ?_
        refine go_goto 64 dX4_join_60 (by decide) ?_
        refine go_istore 66 [(7, .int _), (6, .int _), (5, .int _), (4, .int _), (3, .int _), (0, .ref 36), (1, .int _), (2, .int _)] dX4_join_64 rfl (Nat.le_of_ble_eq_true rfl) rfl ?_
        refine go_iload 68 dX4_join_66 rfl rfl ?_
        refine go_if_eq 71 91 dX4_join_68 rfl (by decide) (fun hc18 => absurd hc18 (by decide)) (fun _ => ?_)
        refine go_aload_n 72 dX4_join_71 rfl rfl ?_
        refine g_getR 75 dX4_join_72 rfl fF_RX4_9 ly_36 rfl ?_
        refine go_iload_n 76 dX4_join_75 rfl rfl ?_
        refine go_iload_n 77 dX4_join_76 rfl rfl ?_
        refine go_if_eq 80 88 dX4_join_77 rfl (by decide) (fun _ => ?_) (fun hc19 => absurd hc19 (by decide))
        refine go_iload 90 dX4_join_88 rfl rfl ?_
        refine g_iast2 91 _ dX4_join_90 rfl ly_37 hr rfl ?_
        refine go_iload 93 dX4_join_91 rfl rfl ?_
        refine go_if_eq 96 116 dX4_join_93 rfl (by decide) (fun hc20 => absurd hc20 (by decide)) (fun _ => ?_)
        refine go_aload_n 97 dX4_join_96 rfl rfl ?_
        refine g_getR 100 dX4_join_97 rfl fF_RX4_15 ly_36 rfl ?_
        refine go_iload_n 101 dX4_join_100 rfl rfl ?_
        refine go_iload_n 102 dX4_join_101 rfl rfl ?_
        refine go_if_eq 105 113 dX4_join_102 rfl (by decide) (fun _ => ?_) (fun hc21 => absurd hc21 (by decide))
        refine go_iload 115 dX4_join_113 rfl rfl ?_
        refine g_iast2 116 _ dX4_join_115 rfl ly_38 hr rfl ?_
        refine go_iload 118 dX4_join_116 rfl rfl ?_
        refine go_if_ne 121 126 dX4_join_118 rfl (by decide) (fun _ => ?_) (fun hc22 => absurd hc22 (by decide))
        refine go_iconst 127 (1) dX4_join_126 rfl (by decide) ?_
        refine go_goto 131 dX4_join_127 (by decide) ?_
        refine go_ireturn dX4_join_131 rfl (by first | rfl | exact bi_nar) (Nat.le_of_ble_eq_true rfl) (Nat.le_of_ble_eq_true rfl) ?_
        exact ⟨congrArg (fun z => some (Value.int z)) (by unfold f_X4_join; simp only [if_pos hc1, if_neg hc2, if_neg hc13]; try first | rfl | contradiction), congrArg hp (by unfold f_X4_join; simp only [if_pos hc1, if_neg hc2, if_neg hc13]; try first | rfl | contradiction)⟩
  · refine go_iconst 9 (1) dX4_join_8 rfl (by decide) ?_
    refine go_goto 13 dX4_join_9 (by decide) ?_
    refine go_istore_n 14 [(3, .int _), (0, .ref 36), (1, .int _), (2, .int _)] dX4_join_13 rfl (Nat.le_of_ble_eq_true rfl) rfl ?_
    refine go_aload_n 15 dX4_join_14 rfl rfl ?_
    refine g_getR 18 dX4_join_15 rfl fF_RX4_9 ly_36 rfl ?_
    refine go_iload_n 19 dX4_join_18 rfl rfl ?_
    refine g_iald2 20 _ dX4_join_19 rfl ly_37 ht rfl ?_
    refine go_istore 22 [(4, .int _), (3, .int _), (0, .ref 36), (1, .int _), (2, .int _)] dX4_join_20 rfl (Nat.le_of_ble_eq_true rfl) rfl ?_
    refine go_aload_n 23 dX4_join_22 rfl rfl ?_
    refine g_getR 26 dX4_join_23 rfl fF_RX4_15 ly_36 rfl ?_
    refine go_iload_n 27 dX4_join_26 rfl rfl ?_
    refine g_iald2 28 _ dX4_join_27 rfl ly_38 ht rfl ?_
    refine go_istore 30 [(5, .int _), (4, .int _), (3, .int _), (0, .ref 36), (1, .int _), (2, .int _)] dX4_join_28 rfl (Nat.le_of_ble_eq_true rfl) rfl ?_
    refine go_iload 32 dX4_join_30 rfl rfl ?_
    refine go_aload_n 33 dX4_join_32 rfl rfl ?_
    refine g_getR 36 dX4_join_33 rfl fF_RX4_9 ly_36 rfl ?_
    refine go_iload_n 37 dX4_join_36 rfl rfl ?_
    refine g_iald2 38 _ dX4_join_37 rfl ly_37 hr rfl ?_
    refine go_icmp_ge 41 45 dX4_join_38 rfl (by decide) (fun hc23 => ?_) (fun hc23 => ?_)
    · refine go_iconst 46 (0) dX4_join_45 rfl (by decide) ?_
      refine go_istore 48 [(6, .int _), (5, .int _), (4, .int _), (3, .int _), (0, .ref 36), (1, .int _), (2, .int _)] dX4_join_46 rfl (Nat.le_of_ble_eq_true rfl) rfl ?_
      refine go_iload 50 dX4_join_48 rfl rfl ?_
      refine go_aload_n 51 dX4_join_50 rfl rfl ?_
      refine g_getR 54 dX4_join_51 rfl fF_RX4_15 ly_36 rfl ?_
      refine go_iload_n 55 dX4_join_54 rfl rfl ?_
      refine g_iald2 56 _ dX4_join_55 rfl ly_38 hr rfl ?_
      refine go_icmp_le 59 63 dX4_join_56 rfl (by decide) (fun hc24 => ?_) (fun hc24 => ?_)
      · refine go_iconst 64 (0) dX4_join_63 rfl (by decide) ?_
        refine go_istore 66 [(7, .int _), (6, .int _), (5, .int _), (4, .int _), (3, .int _), (0, .ref 36), (1, .int _), (2, .int _)] dX4_join_64 rfl (Nat.le_of_ble_eq_true rfl) rfl ?_
        refine go_iload 68 dX4_join_66 rfl rfl ?_
        refine go_if_eq 71 91 dX4_join_68 rfl (by decide) (fun _ => ?_) (fun hc25 => absurd hc25 (by decide))
        refine go_iload 93 dX4_join_91 rfl rfl ?_
        refine go_if_eq 96 116 dX4_join_93 rfl (by decide) (fun _ => ?_) (fun hc26 => absurd hc26 (by decide))
        refine go_iload 118 dX4_join_116 rfl rfl ?_
        refine go_if_ne 121 126 dX4_join_118 rfl (by decide) (fun hc27 => absurd hc27 (by decide)) (fun _ => ?_)
        refine go_iload 123 dX4_join_121 rfl rfl ?_
        refine go_if_eq 126 130 dX4_join_123 rfl (by decide) (fun _ => ?_) (fun hc28 => absurd hc28 (by decide))
        refine go_iconst 131 (0) dX4_join_130 rfl (by decide) ?_
        refine go_ireturn dX4_join_131 rfl (by first | rfl | exact bi_nar) (Nat.le_of_ble_eq_true rfl) (Nat.le_of_ble_eq_true rfl) ?_
        exact ⟨congrArg (fun z => some (Value.int z)) (by unfold f_X4_join; simp only [if_neg hc1, if_pos hc23, if_pos hc24]; try first | rfl | contradiction), congrArg hp (by unfold f_X4_join; simp only [if_neg hc1, if_pos hc23, if_pos hc24]; try first | rfl | contradiction)⟩
      · refine go_iconst 60 (1) dX4_join_59 rfl (by decide) ?_
        refine go_goto 64 dX4_join_60 (by decide) ?_
        refine go_istore 66 [(7, .int _), (6, .int _), (5, .int _), (4, .int _), (3, .int _), (0, .ref 36), (1, .int _), (2, .int _)] dX4_join_64 rfl (Nat.le_of_ble_eq_true rfl) rfl ?_
        refine go_iload 68 dX4_join_66 rfl rfl ?_
        refine go_if_eq 71 91 dX4_join_68 rfl (by decide) (fun _ => ?_) (fun hc29 => absurd hc29 (by decide))
        refine go_iload 93 dX4_join_91 rfl rfl ?_
        refine go_if_eq 96 116 dX4_join_93 rfl (by decide) (fun hc30 => absurd hc30 (by decide)) (fun _ => ?_)
        refine go_aload_n 97 dX4_join_96 rfl rfl ?_
        refine g_getR 100 dX4_join_97 rfl fF_RX4_15 ly_36 rfl ?_
        refine go_iload_n 101 dX4_join_100 rfl rfl ?_
        refine go_iload_n 102 dX4_join_101 rfl rfl ?_
        refine go_if_eq 105 113 dX4_join_102 rfl (by decide) (fun hc31 => absurd hc31 (by decide)) (fun _ => ?_)
        refine go_iload 107 dX4_join_105 rfl rfl ?_
        refine g_callS 110 [.int _] [.int _, .ref 38] dX4_join_107 rfl (ct_X4_onesNotBelow _ _) rfl sV_X4_join_100 rfl (Nat.le_of_ble_eq_true rfl) (Nat.le_of_ble_eq_true rfl) (Nat.le_of_ble_eq_true rfl) ?_
        refine go_goto 115 dX4_join_110 (by decide) ?_
        refine g_iast2 116 _ dX4_join_115 rfl ly_38 hr rfl ?_
        refine go_iload 118 dX4_join_116 rfl rfl ?_
        refine go_if_ne 121 126 dX4_join_118 rfl (by decide) (fun hc32 => absurd hc32 (by decide)) (fun _ => ?_)
        refine go_iload 123 dX4_join_121 rfl rfl ?_
        refine go_if_eq 126 130 dX4_join_123 rfl (by decide) (fun hc33 => absurd hc33 (by decide)) (fun _ => ?_)
        refine go_iconst 127 (1) dX4_join_126 rfl (by decide) ?_
        refine go_goto 131 dX4_join_127 (by decide) ?_
        refine go_ireturn dX4_join_131 rfl (by first | rfl | exact bi_nar) (Nat.le_of_ble_eq_true rfl) (Nat.le_of_ble_eq_true rfl) ?_
        exact ⟨congrArg (fun z => some (Value.int z)) (by unfold f_X4_join; simp only [if_neg hc1, if_pos hc23, if_neg hc24]; try first | rfl | contradiction), congrArg hp (by unfold f_X4_join; simp only [if_neg hc1, if_pos hc23, if_neg hc24]; try first | rfl | contradiction)⟩
    · refine go_iconst 42 (1) dX4_join_41 rfl (by decide) ?_
      refine go_goto 46 dX4_join_42 (by decide) ?_
      refine go_istore 48 [(6, .int _), (5, .int _), (4, .int _), (3, .int _), (0, .ref 36), (1, .int _), (2, .int _)] dX4_join_46 rfl (Nat.le_of_ble_eq_true rfl) rfl ?_
      refine go_iload 50 dX4_join_48 rfl rfl ?_
      refine go_aload_n 51 dX4_join_50 rfl rfl ?_
      refine g_getR 54 dX4_join_51 rfl fF_RX4_15 ly_36 rfl ?_
      refine go_iload_n 55 dX4_join_54 rfl rfl ?_
      refine g_iald2 56 _ dX4_join_55 rfl ly_38 hr rfl ?_
      refine go_icmp_le 59 63 dX4_join_56 rfl (by decide) (fun hc34 => ?_) (fun hc34 => ?_)
      · refine go_iconst 64 (0) dX4_join_63 rfl (by decide) ?_
        refine go_istore 66 [(7, .int _), (6, .int _), (5, .int _), (4, .int _), (3, .int _), (0, .ref 36), (1, .int _), (2, .int _)] dX4_join_64 rfl (Nat.le_of_ble_eq_true rfl) rfl ?_
        refine go_iload 68 dX4_join_66 rfl rfl ?_
        refine go_if_eq 71 91 dX4_join_68 rfl (by decide) (fun hc35 => absurd hc35 (by decide)) (fun _ => ?_)
        refine go_aload_n 72 dX4_join_71 rfl rfl ?_
        refine g_getR 75 dX4_join_72 rfl fF_RX4_9 ly_36 rfl ?_
        refine go_iload_n 76 dX4_join_75 rfl rfl ?_
        refine go_iload_n 77 dX4_join_76 rfl rfl ?_
        refine go_if_eq 80 88 dX4_join_77 rfl (by decide) (fun hc36 => absurd hc36 (by decide)) (fun _ => ?_)
        refine go_iload 82 dX4_join_80 rfl rfl ?_
        refine g_callS 85 [.int _] [.int _, .ref 37] dX4_join_82 rfl (ct_X4_powerNotAbove _ _) rfl sV_X4_join_103 rfl (Nat.le_of_ble_eq_true rfl) (Nat.le_of_ble_eq_true rfl) (Nat.le_of_ble_eq_true rfl) ?_
        refine go_goto 90 dX4_join_85 (by decide) ?_
        refine g_iast2 91 _ dX4_join_90 rfl ly_37 hr rfl ?_
        refine go_iload 93 dX4_join_91 rfl rfl ?_
        refine go_if_eq 96 116 dX4_join_93 rfl (by decide) (fun _ => ?_) (fun hc37 => absurd hc37 (by decide))
        refine go_iload 118 dX4_join_116 rfl rfl ?_
        refine go_if_ne 121 126 dX4_join_118 rfl (by decide) (fun _ => ?_) (fun hc38 => absurd hc38 (by decide))
        refine go_iconst 127 (1) dX4_join_126 rfl (by decide) ?_
        refine go_goto 131 dX4_join_127 (by decide) ?_
        refine go_ireturn dX4_join_131 rfl (by first | rfl | exact bi_nar) (Nat.le_of_ble_eq_true rfl) (Nat.le_of_ble_eq_true rfl) ?_
        exact ⟨congrArg (fun z => some (Value.int z)) (by unfold f_X4_join; simp only [if_neg hc1, if_neg hc23, if_pos hc34]; try first | rfl | contradiction), congrArg hp (by unfold f_X4_join; simp only [if_neg hc1, if_neg hc23, if_pos hc34]; try first | rfl | contradiction)⟩
      · refine go_iconst 60 (1) dX4_join_59 rfl (by decide) ?_
        refine go_goto 64 dX4_join_60 (by decide) ?_
        refine go_istore 66 [(7, .int _), (6, .int _), (5, .int _), (4, .int _), (3, .int _), (0, .ref 36), (1, .int _), (2, .int _)] dX4_join_64 rfl (Nat.le_of_ble_eq_true rfl) rfl ?_
        refine go_iload 68 dX4_join_66 rfl rfl ?_
        refine go_if_eq 71 91 dX4_join_68 rfl (by decide) (fun hc39 => absurd hc39 (by decide)) (fun _ => ?_)
        refine go_aload_n 72 dX4_join_71 rfl rfl ?_
        refine g_getR 75 dX4_join_72 rfl fF_RX4_9 ly_36 rfl ?_
        refine go_iload_n 76 dX4_join_75 rfl rfl ?_
        refine go_iload_n 77 dX4_join_76 rfl rfl ?_
        refine go_if_eq 80 88 dX4_join_77 rfl (by decide) (fun hc40 => absurd hc40 (by decide)) (fun _ => ?_)
        refine go_iload 82 dX4_join_80 rfl rfl ?_
        refine g_callS 85 [.int _] [.int _, .ref 37] dX4_join_82 rfl (ct_X4_powerNotAbove _ _) rfl sV_X4_join_103 rfl (Nat.le_of_ble_eq_true rfl) (Nat.le_of_ble_eq_true rfl) (Nat.le_of_ble_eq_true rfl) ?_
        refine go_goto 90 dX4_join_85 (by decide) ?_
        refine g_iast2 91 _ dX4_join_90 rfl ly_37 hr rfl ?_
        refine go_iload 93 dX4_join_91 rfl rfl ?_
        refine go_if_eq 96 116 dX4_join_93 rfl (by decide) (fun hc41 => absurd hc41 (by decide)) (fun _ => ?_)
        refine go_aload_n 97 dX4_join_96 rfl rfl ?_
        refine g_getR 100 dX4_join_97 rfl fF_RX4_15 ly_36 rfl ?_
        refine go_iload_n 101 dX4_join_100 rfl rfl ?_
        refine go_iload_n 102 dX4_join_101 rfl rfl ?_
        refine go_if_eq 105 113 dX4_join_102 rfl (by decide) (fun hc42 => absurd hc42 (by decide)) (fun _ => ?_)
        refine go_iload 107 dX4_join_105 rfl rfl ?_
        refine g_callS 110 [.int _] [.int _, .ref 38] dX4_join_107 rfl (ct_X4_onesNotBelow _ _) rfl sV_X4_join_100 rfl (Nat.le_of_ble_eq_true rfl) (Nat.le_of_ble_eq_true rfl) (Nat.le_of_ble_eq_true rfl) ?_
        refine go_goto 115 dX4_join_110 (by decide) ?_
        refine g_iast2 116 _ dX4_join_115 rfl ly_38 hr rfl ?_
        refine go_iload 118 dX4_join_116 rfl rfl ?_
        refine go_if_ne 121 126 dX4_join_118 rfl (by decide) (fun _ => ?_) (fun hc43 => absurd hc43 (by decide))
        refine go_iconst 127 (1) dX4_join_126 rfl (by decide) ?_
        refine go_goto 131 dX4_join_127 (by decide) ?_
        refine go_ireturn dX4_join_131 rfl (by first | rfl | exact bi_nar) (Nat.le_of_ble_eq_true rfl) (Nat.le_of_ble_eq_true rfl) ?_
        exact ⟨congrArg (fun z => some (Value.int z)) (by unfold f_X4_join; simp only [if_neg hc1, if_neg hc23, if_neg hc34]; try first | rfl | contradiction), congrArg hp (by unfold f_X4_join; simp only [if_neg hc1, if_neg hc23, if_neg hc34]; try first | rfl | contradiction)⟩
theorem fr_f_X4_join {a0 c0 : Nat} (h37 : a0 ≠ 37) (h38 : a0 ≠ 38) (S : gS) (r t : Int32) : rI (f_X4_join S r t).2 a0 c0 = rI S a0 c0 := by
  unfold f_X4_join
  first | (simp only [snd_ite, rI_ite, ite_self, rI_wIk h37, rI_wRk h37, rI_wIk h38, rI_wRk h38]; done) | ((repeat' split) <;> first | rfl | simp only [rI_wIk h37, rI_wRk h37, rI_wIk h38, rI_wRk h38])

