-- needs 
def f_X7_ask (S : gS) (i q : Int32) : gS := (if (f_X4_isSignedRange S i) = 0 then (if ((q &&& (f_X8_lowestBits ((rI S 39 i.toNatClampNeg)))) &&& ((rI S 41 i.toNatClampNeg) ^^^ (-1))) = 0 then S else (wI (wI S 41 i.toNatClampNeg (((rI S 41 i.toNatClampNeg) ||| (q &&& (f_X8_lowestBits ((rI S 39 i.toNatClampNeg))))))) 40 3 1)) else (if (ushr q (((rI S 39 i.toNatClampNeg) - 1))) = 0 then (if ((q &&& (f_X8_lowestBits ((rI S 39 i.toNatClampNeg)))) &&& ((rI S 41 i.toNatClampNeg) ^^^ (-1))) = 0 then S else (wI (wI S 41 i.toNatClampNeg (((rI S 41 i.toNatClampNeg) ||| (q &&& (f_X8_lowestBits ((rI S 39 i.toNatClampNeg))))))) 40 3 1)) else (if (((q &&& (f_X8_lowestBits ((rI S 39 i.toNatClampNeg)))) ||| ((1 : Int32) <<< (((rI S 39 i.toNatClampNeg) - 1) &&& 31))) &&& ((rI S 41 i.toNatClampNeg) ^^^ (-1))) = 0 then S else (wI (wI S 41 i.toNatClampNeg (((rI S 41 i.toNatClampNeg) ||| ((q &&& (f_X8_lowestBits ((rI S 39 i.toNatClampNeg)))) ||| ((1 : Int32) <<< (((rI S 39 i.toNatClampNeg) - 1) &&& 31)))))) 40 3 1))))
set_option maxRecDepth 100000 in
set_option maxHeartbeats 1000000 in
theorem ct_X7_ask (S : gS) (i q : Int32) (hi : vp_in i 24) : gF mX7_ask [.ref 40, .ref 36, .int i, .int q] S none (f_X7_ask S i q) := by
  refine go_enter [.ref 40, .ref 36, .int i, .int q] [(0, .ref 40), (1, .ref 36), (2, .int i), (3, .int q)] (by decide +kernel) rfl rfl (Nat.le_of_ble_eq_true rfl) rfl ?_
  refine go_aload_n 1 dX7_ask_0 rfl rfl ?_
  refine g_getR 4 dX7_ask_1 rfl fF_RX7_59 ly_36 rfl ?_
  refine go_iload_n 5 dX7_ask_4 rfl rfl ?_
  refine g_iald2 6 _ dX7_ask_5 rfl ly_39 hi rfl ?_
  refine go_istore 8 [(4, .int _), (0, .ref 40), (1, .ref 36), (2, .int _), (3, .int _)] dX7_ask_6 rfl (Nat.le_of_ble_eq_true rfl) rfl ?_
  refine go_iload_n 9 dX7_ask_8 rfl rfl ?_
  refine go_iload 11 dX7_ask_9 rfl rfl ?_
  refine g_callSN 14 [.int _] [.int _] dX7_ask_11 rfl (ct_X8_lowestBits _ _) rfl sV_X7_ask_62 rfl (Nat.le_of_ble_eq_true rfl) (Nat.le_of_ble_eq_true rfl) (Nat.le_of_ble_eq_true rfl) ?_
  refine go_iand 15 dX7_ask_14 rfl ?_
  refine go_istore 17 [(5, .int _), (4, .int _), (0, .ref 40), (1, .ref 36), (2, .int _), (3, .int _)] dX7_ask_15 rfl (Nat.le_of_ble_eq_true rfl) rfl ?_
  refine go_iload 19 dX7_ask_17 rfl rfl ?_
  refine go_iconst 20 (1) dX7_ask_19 rfl (by decide) ?_
  refine go_isub 21 dX7_ask_20 rfl ?_
  refine go_istore 23 [(6, .int _), (5, .int _), (4, .int _), (0, .ref 40), (1, .ref 36), (2, .int _), (3, .int _)] dX7_ask_21 rfl (Nat.le_of_ble_eq_true rfl) rfl ?_
  refine go_aload_n 24 dX7_ask_23 rfl rfl ?_
  refine go_iload_n 25 dX7_ask_24 rfl rfl ?_
  refine g_callV 28 [.int _] [] dX7_ask_25 rfl (ct_X4_isSignedRange _ _ hi) rfl sV_X7_ask_53 rfl ly_36 rfl rfl (Nat.le_of_ble_eq_true rfl) (Nat.le_of_ble_eq_true rfl) (Nat.le_of_ble_eq_true rfl) ?_
  refine go_if_eq 31 47 dX7_ask_28 rfl (by decide) (fun hc1 => ?_) (fun hc1 => ?_)
  · refine go_iload 49 dX7_ask_47 rfl rfl ?_
    refine go_aload_n 50 dX7_ask_49 rfl rfl ?_
    refine g_getR 53 dX7_ask_50 rfl fF_RX7_9 ly_40 rfl ?_
    refine go_iload_n 54 dX7_ask_53 rfl rfl ?_
    refine g_iald2 55 _ dX7_ask_54 rfl ly_41 hi rfl ?_
    refine go_iconst 56 (-1) dX7_ask_55 rfl (by decide) ?_
    refine go_ixor 57 dX7_ask_56 rfl ?_
    refine go_iand 58 dX7_ask_57 rfl ?_
    refine go_if_eq 61 77 dX7_ask_58 rfl (by decide) (fun hc2 => ?_) (fun hc2 => ?_)
    · refine go_return dX7_ask_77 rfl (Nat.le_of_ble_eq_true rfl) (Nat.le_of_ble_eq_true rfl) ?_
      exact ⟨rfl, congrArg hp (by unfold f_X7_ask; simp only [if_pos hc1, if_pos hc2]; try first | rfl | contradiction)⟩
    · refine go_aload_n 62 dX7_ask_61 rfl rfl ?_
      refine g_getR 65 dX7_ask_62 rfl fF_RX7_9 ly_40 rfl ?_
      refine go_iload_n 66 dX7_ask_65 rfl rfl ?_
      refine go_dup2 67 dX7_ask_66 rfl rfl rfl ?_
      refine g_iald2 68 _ dX7_ask_67 rfl ly_41 hi rfl ?_
      refine go_iload 70 dX7_ask_68 rfl rfl ?_
      refine go_ior 71 dX7_ask_70 rfl ?_
      refine g_iast2 72 _ dX7_ask_71 rfl ly_41 hi rfl ?_
      refine go_aload_n 73 dX7_ask_72 rfl rfl ?_
      refine go_iconst 74 (1) dX7_ask_73 rfl (by decide) ?_
      refine g_putI 77 dX7_ask_74 rfl fF_RX7_22 ly_40 rfl (fun q hq => by cases hq; rfl) rfl rfl ?_
      refine go_return dX7_ask_77 rfl (Nat.le_of_ble_eq_true rfl) (Nat.le_of_ble_eq_true rfl) ?_
      exact ⟨rfl, congrArg hp (by unfold f_X7_ask; simp only [if_pos hc1, if_neg hc2]; try first | rfl | contradiction)⟩
  · refine go_iload_n 32 dX7_ask_31 rfl rfl ?_
    refine go_iload 34 dX7_ask_32 rfl rfl ?_
    refine go_iushr 35 dX7_ask_34 rfl ?_
    refine go_topi (ushr _ _) rfl ?_
    refine go_if_eq 38 47 dX7_ask_35 rfl (by decide) (fun hc3 => ?_) (fun hc3 => ?_)
    · refine go_iload 49 dX7_ask_47 rfl rfl ?_
      refine go_aload_n 50 dX7_ask_49 rfl rfl ?_
      refine g_getR 53 dX7_ask_50 rfl fF_RX7_9 ly_40 rfl ?_
      refine go_iload_n 54 dX7_ask_53 rfl rfl ?_
      refine g_iald2 55 _ dX7_ask_54 rfl ly_41 hi rfl ?_
      refine go_iconst 56 (-1) dX7_ask_55 rfl (by decide) ?_
      refine go_ixor 57 dX7_ask_56 rfl ?_
      refine go_iand 58 dX7_ask_57 rfl ?_
      refine go_if_eq 61 77 dX7_ask_58 rfl (by decide) (fun hc4 => ?_) (fun hc4 => ?_)
      · refine go_return dX7_ask_77 rfl (Nat.le_of_ble_eq_true rfl) (Nat.le_of_ble_eq_true rfl) ?_
        exact ⟨rfl, congrArg hp (by unfold f_X7_ask; simp only [if_neg hc1, if_pos hc3, if_pos hc4]; try first | rfl | contradiction)⟩
      · refine go_aload_n 62 dX7_ask_61 rfl rfl ?_
        refine g_getR 65 dX7_ask_62 rfl fF_RX7_9 ly_40 rfl ?_
        refine go_iload_n 66 dX7_ask_65 rfl rfl ?_
        refine go_dup2 67 dX7_ask_66 rfl rfl rfl ?_
        refine g_iald2 68 _ dX7_ask_67 rfl ly_41 hi rfl ?_
        refine go_iload 70 dX7_ask_68 rfl rfl ?_
        refine go_ior 71 dX7_ask_70 rfl ?_
        refine g_iast2 72 _ dX7_ask_71 rfl ly_41 hi rfl ?_
        refine go_aload_n 73 dX7_ask_72 rfl rfl ?_
        refine go_iconst 74 (1) dX7_ask_73 rfl (by decide) ?_
        refine g_putI 77 dX7_ask_74 rfl fF_RX7_22 ly_40 rfl (fun q hq => by cases hq; rfl) rfl rfl ?_
        refine go_return dX7_ask_77 rfl (Nat.le_of_ble_eq_true rfl) (Nat.le_of_ble_eq_true rfl) ?_
        exact ⟨rfl, congrArg hp (by unfold f_X7_ask; simp only [if_neg hc1, if_pos hc3, if_neg hc4]; try first | rfl | contradiction)⟩
    · refine go_iload 40 dX7_ask_38 rfl rfl ?_
      refine go_iconst 41 (1) dX7_ask_40 rfl (by decide) ?_
      refine go_iload 43 dX7_ask_41 rfl rfl ?_
      refine go_ishl 44 dX7_ask_43 rfl ?_
      refine go_ior 45 dX7_ask_44 rfl ?_
      refine go_istore 47 [(5, .int _), (6, .int _), (4, .int _), (0, .ref 40), (1, .ref 36), (2, .int _), (3, .int _)] dX7_ask_45 rfl (Nat.le_of_ble_eq_true rfl) rfl ?_
      refine go_iload 49 dX7_ask_47 rfl rfl ?_
      refine go_aload_n 50 dX7_ask_49 rfl rfl ?_
      refine g_getR 53 dX7_ask_50 rfl fF_RX7_9 ly_40 rfl ?_
      refine go_iload_n 54 dX7_ask_53 rfl rfl ?_
      refine g_iald2 55 _ dX7_ask_54 rfl ly_41 hi rfl ?_
      refine go_iconst 56 (-1) dX7_ask_55 rfl (by decide) ?_
      refine go_ixor 57 dX7_ask_56 rfl ?_
      refine go_iand 58 dX7_ask_57 rfl ?_
      refine go_if_eq 61 77 dX7_ask_58 rfl (by decide) (fun hc5 => ?_) (fun hc5 => ?_)
      · refine go_return dX7_ask_77 rfl (Nat.le_of_ble_eq_true rfl) (Nat.le_of_ble_eq_true rfl) ?_
        exact ⟨rfl, congrArg hp (by unfold f_X7_ask; simp only [if_neg hc1, if_neg hc3, if_pos hc5]; try first | rfl | contradiction)⟩
      · refine go_aload_n 62 dX7_ask_61 rfl rfl ?_
        refine g_getR 65 dX7_ask_62 rfl fF_RX7_9 ly_40 rfl ?_
        refine go_iload_n 66 dX7_ask_65 rfl rfl ?_
        refine go_dup2 67 dX7_ask_66 rfl rfl rfl ?_
        refine g_iald2 68 _ dX7_ask_67 rfl ly_41 hi rfl ?_
        refine go_iload 70 dX7_ask_68 rfl rfl ?_
        refine go_ior 71 dX7_ask_70 rfl ?_
        refine g_iast2 72 _ dX7_ask_71 rfl ly_41 hi rfl ?_
        refine go_aload_n 73 dX7_ask_72 rfl rfl ?_
        refine go_iconst 74 (1) dX7_ask_73 rfl (by decide) ?_
        refine g_putI 77 dX7_ask_74 rfl fF_RX7_22 ly_40 rfl (fun q hq => by cases hq; rfl) rfl rfl ?_
        refine go_return dX7_ask_77 rfl (Nat.le_of_ble_eq_true rfl) (Nat.le_of_ble_eq_true rfl) ?_
        exact ⟨rfl, congrArg hp (by unfold f_X7_ask; simp only [if_neg hc1, if_neg hc3, if_neg hc5]; try first | rfl | contradiction)⟩
theorem fr_f_X7_ask {a0 c0 : Nat} (h40_3 : ¬ (a0 = 40 ∧ c0 = 3)) (h41 : a0 ≠ 41) (S : gS) (i q : Int32) : rI (f_X7_ask S i q) a0 c0 = rI S a0 c0 := by
  unfold f_X7_ask
  first | (simp only [snd_ite, rI_ite, ite_self, rI_wIc h40_3, rI_wIk h41, rI_wRk h41]; done) | ((repeat' split) <;> first | rfl | simp only [rI_wIc h40_3, rI_wIk h41, rI_wRk h41])

def f_X7_maskOf (S : gS) (i : Int32) : Int32 := (if (rI S 2 i.toNatClampNeg) = 1 then (rI S 3 i.toNatClampNeg) else (-1))
set_option maxRecDepth 100000 in
set_option maxHeartbeats 1000000 in
theorem ct_X7_maskOf (S : gS) (i : Int32) (hi : vp_in i 24) : gF mX7_maskOf [.ref 1, .int i] S (some (.int (f_X7_maskOf S i))) S := by
  refine go_enter [.ref 1, .int i] [(0, .ref 1), (1, .int i)] (by decide +kernel) rfl rfl (Nat.le_of_ble_eq_true rfl) rfl ?_
  refine go_aload_n 1 dX7_maskOf_0 rfl rfl ?_
  refine g_getR 4 dX7_maskOf_1 rfl fF_RX7_71 ly_1 rfl ?_
  refine go_iload_n 5 dX7_maskOf_4 rfl rfl ?_
  refine g_iald2 6 _ dX7_maskOf_5 rfl ly_2 hi rfl ?_
  refine go_iconst 7 (1) dX7_maskOf_6 rfl (by decide) ?_
  refine go_icmp_ne 10 19 dX7_maskOf_7 rfl (by decide) (fun hc1 => ?_) (fun hc1 => ?_)
  · refine go_iconst 20 (-1) dX7_maskOf_19 rfl (by decide) ?_
    refine go_ireturn dX7_maskOf_20 rfl (by first | rfl | exact bi_nar) (Nat.le_of_ble_eq_true rfl) (Nat.le_of_ble_eq_true rfl) ?_
    exact ⟨congrArg (fun z => some (Value.int z)) (by unfold f_X7_maskOf; simp only [if_neg hc1]; try first | rfl | contradiction), rfl⟩
  · refine go_aload_n 11 dX7_maskOf_10 rfl rfl ?_
    refine g_getR 14 dX7_maskOf_11 rfl fF_RX7_65 ly_1 rfl ?_
    refine go_iload_n 15 dX7_maskOf_14 rfl rfl ?_
    refine g_iald2 16 _ dX7_maskOf_15 rfl ly_3 hi rfl ?_
    refine go_goto 20 dX7_maskOf_16 (by decide) ?_
    refine go_ireturn dX7_maskOf_20 rfl (by first | rfl | exact bi_nar) (Nat.le_of_ble_eq_true rfl) (Nat.le_of_ble_eq_true rfl) ?_
    exact ⟨congrArg (fun z => some (Value.int z)) (by unfold f_X7_maskOf; simp only [if_pos hc1]; try first | rfl | contradiction), rfl⟩

def f_X7_beforeShiftRight (v b : Int32) : Int32 := (if (ushr v (((31 : Int32) - b))) = 0 then ((v <<< (b &&& 31)) ||| 0) else ((v <<< (b &&& 31)) ||| (-2147483648)))
set_option maxRecDepth 100000 in
set_option maxHeartbeats 1000000 in
theorem ct_X7_beforeShiftRight (S : gS) (v b : Int32)  : gF mX7_beforeShiftRight [.int v, .int b] S (some (.int (f_X7_beforeShiftRight v b))) S := by
  refine go_enter [.int v, .int b] [(0, .int v), (1, .int b)] (by decide +kernel) rfl rfl (Nat.le_of_ble_eq_true rfl) rfl ?_
  refine go_iload_n 1 dX7_beforeShiftRight_0 rfl rfl ?_
  refine go_bipush 3 (31) dX7_beforeShiftRight_1 rfl (by decide) ?_
  refine go_iload_n 4 dX7_beforeShiftRight_3 rfl rfl ?_
  refine go_isub 5 dX7_beforeShiftRight_4 rfl ?_
  refine go_iushr 6 dX7_beforeShiftRight_5 rfl ?_
  refine go_topi (ushr _ _) rfl ?_
  refine go_if_eq 9 13 dX7_beforeShiftRight_6 rfl (by decide) (fun hc1 => ?_) (fun hc1 => ?_)
  · refine go_iconst 14 (0) dX7_beforeShiftRight_13 rfl (by decide) ?_
    refine go_istore_n 15 [(2, .int _), (0, .int _), (1, .int _)] dX7_beforeShiftRight_14 rfl (Nat.le_of_ble_eq_true rfl) rfl ?_
    refine go_iload_n 16 dX7_beforeShiftRight_15 rfl rfl ?_
    refine go_iload_n 17 dX7_beforeShiftRight_16 rfl rfl ?_
    refine go_ishl 18 dX7_beforeShiftRight_17 rfl ?_
    refine go_iload_n 19 dX7_beforeShiftRight_18 rfl rfl ?_
    refine go_if_eq 22 27 dX7_beforeShiftRight_19 rfl (by decide) (fun _ => ?_) (fun hc2 => absurd hc2 (by decide))
    refine go_iconst 28 (0) dX7_beforeShiftRight_27 rfl (by decide) ?_
    refine go_ior 29 dX7_beforeShiftRight_28 rfl ?_
    refine go_ireturn dX7_beforeShiftRight_29 rfl (by first | rfl | exact bi_nar) (Nat.le_of_ble_eq_true rfl) (Nat.le_of_ble_eq_true rfl) ?_
    exact ⟨congrArg (fun z => some (Value.int z)) (by unfold f_X7_beforeShiftRight; simp only [if_pos hc1]; try first | rfl | contradiction), rfl⟩
  · refine go_iconst 10 (1) dX7_beforeShiftRight_9 rfl (by decide) ?_
    refine go_goto 14 dX7_beforeShiftRight_10 (by decide) ?_
    refine go_istore_n 15 [(2, .int _), (0, .int _), (1, .int _)] dX7_beforeShiftRight_14 rfl (Nat.le_of_ble_eq_true rfl) rfl ?_
    refine go_iload_n 16 dX7_beforeShiftRight_15 rfl rfl ?_
    refine go_iload_n 17 dX7_beforeShiftRight_16 rfl rfl ?_
    refine go_ishl 18 dX7_beforeShiftRight_17 rfl ?_
    refine go_iload_n 19 dX7_beforeShiftRight_18 rfl rfl ?_
    refine go_if_eq 22 27 dX7_beforeShiftRight_19 rfl (by decide) (fun hc3 => absurd hc3 (by decide)) (fun _ => ?_)
    refine go_ldc 24 (-2147483648) dX7_beforeShiftRight_22 rfl wK_RX7_88 ?_
    refine go_goto 28 dX7_beforeShiftRight_24 (by decide) ?_
    refine go_ior 29 dX7_beforeShiftRight_28 rfl ?_
    refine go_ireturn dX7_beforeShiftRight_29 rfl (by first | rfl | exact bi_nar) (Nat.le_of_ble_eq_true rfl) (Nat.le_of_ble_eq_true rfl) ?_
    exact ⟨congrArg (fun z => some (Value.int z)) (by unfold f_X7_beforeShiftRight; simp only [if_neg hc1]; try first | rfl | contradiction), rfl⟩

def f_X7_askOperands (S : gS) (j : Nat) : gS := (if (rI S 2 j) = 2 then (f_X7_ask S ((rI S 6 j)) ((rI S 41 j))) else (if (rI S 2 j) = 3 then (f_X7_ask (f_X7_ask S ((rI S 3 j)) ((f_X8_lowestBits ((f_X8_bitLength ((rI S 41 j))))))) ((rI S 4 j)) ((f_X8_lowestBits ((f_X8_bitLength ((rI S 41 j))))))) else (if (rI S 2 j) = 4 then (f_X7_ask (f_X7_ask S ((rI S 3 j)) ((f_X8_lowestBits ((f_X8_bitLength ((rI S 41 j))))))) ((rI S 4 j)) ((f_X8_lowestBits ((f_X8_bitLength ((rI S 41 j))))))) else (if (rI S 2 j) = 5 then (f_X7_ask (f_X7_ask S ((rI S 3 j)) ((f_X8_lowestBits ((f_X8_bitLength ((rI S 41 j))))))) ((rI S 4 j)) ((f_X8_lowestBits ((f_X8_bitLength ((rI S 41 j))))))) else (if (rI S 2 j) = 6 then (f_X7_ask (f_X7_ask S ((rI S 3 j)) (((rI S 41 j) &&& (f_X7_maskOf S ((rI S 4 j)))))) ((rI S 4 j)) (((rI S 41 j) &&& (f_X7_maskOf (f_X7_ask S ((rI S 3 j)) (((rI S 41 j) &&& (f_X7_maskOf S ((rI S 4 j)))))) ((rI S 3 j)))))) else (if (rI S 2 j) = 7 then (f_X7_ask (f_X7_ask S ((rI S 3 j)) ((rI S 41 j))) ((rI S 4 j)) ((rI S 41 j))) else (if (rI S 2 j) = 8 then (f_X7_ask (f_X7_ask S ((rI S 3 j)) ((rI S 41 j))) ((rI S 4 j)) ((rI S 41 j))) else (if (rI S 2 j) = 9 then (f_X7_ask S ((rI S 3 j)) ((ushr ((rI S 41 j)) ((rI S 4 j))))) else (if (rI S 2 j) = 10 then (f_X7_ask S ((rI S 3 j)) ((f_X7_beforeShiftRight ((rI S 41 j)) ((rI S 4 j))))) else (if (rI S 2 j) = 11 then (f_X7_ask (f_X7_ask S ((rI S 3 j)) ((-1))) ((rI S 4 j)) ((-1))) else (if (rI S 2 j) = 12 then (f_X7_ask (f_X7_ask (f_X7_ask S ((rI S 3 j)) ((-1))) ((rI S 4 j)) ((rI S 41 j))) ((rI (f_X7_ask (f_X7_ask S ((rI S 3 j)) ((-1))) ((rI S 4 j)) ((rI S 41 j))) 5 j)) ((rI S 41 j))) else S)))))))))))
set_option maxRecDepth 100000 in
set_option maxHeartbeats 1000000 in
theorem ct_X7_askOperands (S : gS) (j : Nat) (n : Nat) (ho : okC S n) (hj : j < n) : gF mX7_askOperands [.ref 40, .ref 1, .ref 36, .int (nI j)] S none (f_X7_askOperands S j) := by
  have h24 := ho.2.1
  have hcl := nI_c (n := j) (by omega)
  refine go_enter [.ref 40, .ref 1, .ref 36, .int (nI j)] [(0, .ref 40), (1, .ref 1), (2, .ref 36), (3, .int (nI j))] (by decide +kernel) rfl rfl (Nat.le_of_ble_eq_true rfl) rfl ?_
  refine go_aload_n 1 dX7_askOperands_0 rfl rfl ?_
  refine g_getR 4 dX7_askOperands_1 rfl fF_RX7_65 ly_1 rfl ?_
  refine go_iload_n 5 dX7_askOperands_4 rfl rfl ?_
  refine g_iald2 6 j dX7_askOperands_5 rfl ly_3 (nI_i (by omega) (by omega)) hcl ?_
  refine go_istore 8 [(4, .int _), (0, .ref 40), (1, .ref 1), (2, .ref 36), (3, .int _)] dX7_askOperands_6 rfl (Nat.le_of_ble_eq_true rfl) rfl ?_
  refine go_aload_n 9 dX7_askOperands_8 rfl rfl ?_
  refine g_getR 12 dX7_askOperands_9 rfl fF_RX7_68 ly_1 rfl ?_
  refine go_iload_n 13 dX7_askOperands_12 rfl rfl ?_
  refine g_iald2 14 j dX7_askOperands_13 rfl ly_4 (nI_i (by omega) (by omega)) hcl ?_
  refine go_istore 16 [(5, .int _), (4, .int _), (0, .ref 40), (1, .ref 1), (2, .ref 36), (3, .int _)] dX7_askOperands_14 rfl (Nat.le_of_ble_eq_true rfl) rfl ?_
  refine go_aload_n 17 dX7_askOperands_16 rfl rfl ?_
  refine g_getR 20 dX7_askOperands_17 rfl fF_RX7_9 ly_40 rfl ?_
  refine go_iload_n 21 dX7_askOperands_20 rfl rfl ?_
  refine g_iald2 22 j dX7_askOperands_21 rfl ly_41 (nI_i (by omega) (by omega)) hcl ?_
  refine go_istore 24 [(6, .int _), (5, .int _), (4, .int _), (0, .ref 40), (1, .ref 1), (2, .ref 36), (3, .int _)] dX7_askOperands_22 rfl (Nat.le_of_ble_eq_true rfl) rfl ?_
  refine go_aload_n 25 dX7_askOperands_24 rfl rfl ?_
  refine g_getR 28 dX7_askOperands_25 rfl fF_RX7_71 ly_1 rfl ?_
  refine go_iload_n 29 dX7_askOperands_28 rfl rfl ?_
  refine g_iald2 30 j dX7_askOperands_29 rfl ly_2 (nI_i (by omega) (by omega)) hcl ?_
  refine go_tableN 2 [(2, 88), (3, 104), (4, 104), (5, 104), (6, 137), (7, 172), (8, 172), (9, 193), (10, 208), (11, 225), (12, 244)] 277 dX7_askOperands_30 rfl rfl (by decide) (by decide) rfl (by decide) (List.forall_mem_cons.mpr ⟨fun hc1 => ?_, List.forall_mem_cons.mpr ⟨fun hc1 => ?_, List.forall_mem_cons.mpr ⟨fun hc1 => ?_, List.forall_mem_cons.mpr ⟨fun hc1 => ?_, List.forall_mem_cons.mpr ⟨fun hc1 => ?_, List.forall_mem_cons.mpr ⟨fun hc1 => ?_, List.forall_mem_cons.mpr ⟨fun hc1 => ?_, List.forall_mem_cons.mpr ⟨fun hc1 => ?_, List.forall_mem_cons.mpr ⟨fun hc1 => ?_, List.forall_mem_cons.mpr ⟨fun hc1 => ?_, List.forall_mem_cons.mpr ⟨fun hc1 => ?_, fun _ h => absurd h List.not_mem_nil⟩⟩⟩⟩⟩⟩⟩⟩⟩⟩⟩) (fun hc1 => ?_)
  · have hc1 : (rI S 2 j) = 2 := hc1
    refine go_aload_n 89 dX7_askOperands_88 rfl rfl ?_
    refine go_aload_n 90 dX7_askOperands_89 rfl rfl ?_
    refine go_aload_n 91 dX7_askOperands_90 rfl rfl ?_
    refine g_getR 94 dX7_askOperands_91 rfl fF_RX7_74 ly_1 rfl ?_
    refine go_iload_n 95 dX7_askOperands_94 rfl rfl ?_
    refine g_iald2 96 j dX7_askOperands_95 rfl ly_6 (nI_i (by omega) (by omega)) hcl ?_
    refine go_iload 98 dX7_askOperands_96 rfl rfl ?_
    refine g_callV0 101 [.ref 36, .int _, .int _] [] dX7_askOperands_98 rfl (ct_X7_ask _ _ _ (okC.nx ho hj)) rfl sV_X7_askOperands_41 rfl ly_40 rfl rfl (Nat.le_of_ble_eq_true rfl) (Nat.le_of_ble_eq_true rfl) (Nat.le_of_ble_eq_true rfl) ?_
    refine go_goto 277 dX7_askOperands_101 (by decide) ?_
    refine go_return dX7_askOperands_277 rfl (Nat.le_of_ble_eq_true rfl) (Nat.le_of_ble_eq_true rfl) ?_
    exact ⟨rfl, congrArg hp (by unfold f_X7_askOperands; simp only [if_pos hc1]; try first | rfl | contradiction)⟩
  · have hc1 : (rI S 2 j) = 3 := hc1
    have hc1_0 : ¬ (rI S 2 j) = 2 := by rw [hc1]; decide
    refine go_aload_n 105 dX7_askOperands_104 rfl rfl ?_
    refine go_aload_n 106 dX7_askOperands_105 rfl rfl ?_
    refine go_iload 108 dX7_askOperands_106 rfl rfl ?_
    refine go_iload 110 dX7_askOperands_108 rfl rfl ?_
    refine g_callSN 113 [.int _] [.int _, .ref 36, .ref 40] dX7_askOperands_110 rfl (ct_X8_bitLength _ _) rfl sV_X7_askOperands_49 rfl (Nat.le_of_ble_eq_true rfl) (Nat.le_of_ble_eq_true rfl) (Nat.le_of_ble_eq_true rfl) ?_
    refine g_callSN 116 [.int _] [.int _, .ref 36, .ref 40] dX7_askOperands_113 rfl (ct_X8_lowestBits _ _) rfl sV_X7_askOperands_62 rfl (Nat.le_of_ble_eq_true rfl) (Nat.le_of_ble_eq_true rfl) (Nat.le_of_ble_eq_true rfl) ?_
    refine g_callV0 119 [.ref 36, .int _, .int _] [] dX7_askOperands_116 rfl (ct_X7_ask _ _ _ (okC.a ho hj (by rw [hc1]; decide))) rfl sV_X7_askOperands_41 rfl ly_40 rfl rfl (Nat.le_of_ble_eq_true rfl) (Nat.le_of_ble_eq_true rfl) (Nat.le_of_ble_eq_true rfl) ?_
    refine go_aload_n 120 dX7_askOperands_119 rfl rfl ?_
    refine go_aload_n 121 dX7_askOperands_120 rfl rfl ?_
    refine go_iload 123 dX7_askOperands_121 rfl rfl ?_
    refine go_iload 125 dX7_askOperands_123 rfl rfl ?_
    refine g_callSN 128 [.int _] [.int _, .ref 36, .ref 40] dX7_askOperands_125 rfl (ct_X8_bitLength _ _) rfl sV_X7_askOperands_49 rfl (Nat.le_of_ble_eq_true rfl) (Nat.le_of_ble_eq_true rfl) (Nat.le_of_ble_eq_true rfl) ?_
    refine g_callSN 131 [.int _] [.int _, .ref 36, .ref 40] dX7_askOperands_128 rfl (ct_X8_lowestBits _ _) rfl sV_X7_askOperands_62 rfl (Nat.le_of_ble_eq_true rfl) (Nat.le_of_ble_eq_true rfl) (Nat.le_of_ble_eq_true rfl) ?_
    refine g_callV0 134 [.ref 36, .int _, .int _] [] dX7_askOperands_131 rfl (ct_X7_ask _ _ _ (okC.b ho hj (by rw [hc1]; decide) (by rw [hc1]; decide) (by rw [hc1]; decide))) rfl sV_X7_askOperands_41 rfl ly_40 rfl rfl (Nat.le_of_ble_eq_true rfl) (Nat.le_of_ble_eq_true rfl) (Nat.le_of_ble_eq_true rfl) ?_
    refine go_goto 277 dX7_askOperands_134 (by decide) ?_
    refine go_return dX7_askOperands_277 rfl (Nat.le_of_ble_eq_true rfl) (Nat.le_of_ble_eq_true rfl) ?_
    exact ⟨rfl, congrArg hp (by unfold f_X7_askOperands; simp only [if_neg hc1_0, if_pos hc1]; try first | rfl | contradiction)⟩
  · have hc1 : (rI S 2 j) = 4 := hc1
    have hc1_0 : ¬ (rI S 2 j) = 2 := by rw [hc1]; decide
    have hc1_1 : ¬ (rI S 2 j) = 3 := by rw [hc1]; decide
    refine go_aload_n 105 dX7_askOperands_104 rfl rfl ?_
    refine go_aload_n 106 dX7_askOperands_105 rfl rfl ?_
    refine go_iload 108 dX7_askOperands_106 rfl rfl ?_
    refine go_iload 110 dX7_askOperands_108 rfl rfl ?_
    refine g_callSN 113 [.int _] [.int _, .ref 36, .ref 40] dX7_askOperands_110 rfl (ct_X8_bitLength _ _) rfl sV_X7_askOperands_49 rfl (Nat.le_of_ble_eq_true rfl) (Nat.le_of_ble_eq_true rfl) (Nat.le_of_ble_eq_true rfl) ?_
    refine g_callSN 116 [.int _] [.int _, .ref 36, .ref 40] dX7_askOperands_113 rfl (ct_X8_lowestBits _ _) rfl sV_X7_askOperands_62 rfl (Nat.le_of_ble_eq_true rfl) (Nat.le_of_ble_eq_true rfl) (Nat.le_of_ble_eq_true rfl) ?_
    refine g_callV0 119 [.ref 36, .int _, .int _] [] dX7_askOperands_116 rfl (ct_X7_ask _ _ _ (okC.a ho hj (by rw [hc1]; decide))) rfl sV_X7_askOperands_41 rfl ly_40 rfl rfl (Nat.le_of_ble_eq_true rfl) (Nat.le_of_ble_eq_true rfl) (Nat.le_of_ble_eq_true rfl) ?_
    refine go_aload_n 120 dX7_askOperands_119 rfl rfl ?_
    refine go_aload_n 121 dX7_askOperands_120 rfl rfl ?_
    refine go_iload 123 dX7_askOperands_121 rfl rfl ?_
    refine go_iload 125 dX7_askOperands_123 rfl rfl ?_
    refine g_callSN 128 [.int _] [.int _, .ref 36, .ref 40] dX7_askOperands_125 rfl (ct_X8_bitLength _ _) rfl sV_X7_askOperands_49 rfl (Nat.le_of_ble_eq_true rfl) (Nat.le_of_ble_eq_true rfl) (Nat.le_of_ble_eq_true rfl) ?_
    refine g_callSN 131 [.int _] [.int _, .ref 36, .ref 40] dX7_askOperands_128 rfl (ct_X8_lowestBits _ _) rfl sV_X7_askOperands_62 rfl (Nat.le_of_ble_eq_true rfl) (Nat.le_of_ble_eq_true rfl) (Nat.le_of_ble_eq_true rfl) ?_
    refine g_callV0 134 [.ref 36, .int _, .int _] [] dX7_askOperands_131 rfl (ct_X7_ask _ _ _ (okC.b ho hj (by rw [hc1]; decide) (by rw [hc1]; decide) (by rw [hc1]; decide))) rfl sV_X7_askOperands_41 rfl ly_40 rfl rfl (Nat.le_of_ble_eq_true rfl) (Nat.le_of_ble_eq_true rfl) (Nat.le_of_ble_eq_true rfl) ?_
    refine go_goto 277 dX7_askOperands_134 (by decide) ?_
    refine go_return dX7_askOperands_277 rfl (Nat.le_of_ble_eq_true rfl) (Nat.le_of_ble_eq_true rfl) ?_
    exact ⟨rfl, congrArg hp (by unfold f_X7_askOperands; simp only [if_neg hc1_0, if_neg hc1_1, if_pos hc1]; try first | rfl | contradiction)⟩
  · have hc1 : (rI S 2 j) = 5 := hc1
    have hc1_0 : ¬ (rI S 2 j) = 2 := by rw [hc1]; decide
    have hc1_1 : ¬ (rI S 2 j) = 3 := by rw [hc1]; decide
    have hc1_2 : ¬ (rI S 2 j) = 4 := by rw [hc1]; decide
    refine go_aload_n 105 dX7_askOperands_104 rfl rfl ?_
    refine go_aload_n 106 dX7_askOperands_105 rfl rfl ?_
    refine go_iload 108 dX7_askOperands_106 rfl rfl ?_
    refine go_iload 110 dX7_askOperands_108 rfl rfl ?_
    refine g_callSN 113 [.int _] [.int _, .ref 36, .ref 40] dX7_askOperands_110 rfl (ct_X8_bitLength _ _) rfl sV_X7_askOperands_49 rfl (Nat.le_of_ble_eq_true rfl) (Nat.le_of_ble_eq_true rfl) (Nat.le_of_ble_eq_true rfl) ?_
    refine g_callSN 116 [.int _] [.int _, .ref 36, .ref 40] dX7_askOperands_113 rfl (ct_X8_lowestBits _ _) rfl sV_X7_askOperands_62 rfl (Nat.le_of_ble_eq_true rfl) (Nat.le_of_ble_eq_true rfl) (Nat.le_of_ble_eq_true rfl) ?_
    refine g_callV0 119 [.ref 36, .int _, .int _] [] dX7_askOperands_116 rfl (ct_X7_ask _ _ _ (okC.a ho hj (by rw [hc1]; decide))) rfl sV_X7_askOperands_41 rfl ly_40 rfl rfl (Nat.le_of_ble_eq_true rfl) (Nat.le_of_ble_eq_true rfl) (Nat.le_of_ble_eq_true rfl) ?_
    refine go_aload_n 120 dX7_askOperands_119 rfl rfl ?_
    refine go_aload_n 121 dX7_askOperands_120 rfl rfl ?_
    refine go_iload 123 dX7_askOperands_121 rfl rfl ?_
    refine go_iload 125 dX7_askOperands_123 rfl rfl ?_
    refine g_callSN 128 [.int _] [.int _, .ref 36, .ref 40] dX7_askOperands_125 rfl (ct_X8_bitLength _ _) rfl sV_X7_askOperands_49 rfl (Nat.le_of_ble_eq_true rfl) (Nat.le_of_ble_eq_true rfl) (Nat.le_of_ble_eq_true rfl) ?_
    refine g_callSN 131 [.int _] [.int _, .ref 36, .ref 40] dX7_askOperands_128 rfl (ct_X8_lowestBits _ _) rfl sV_X7_askOperands_62 rfl (Nat.le_of_ble_eq_true rfl) (Nat.le_of_ble_eq_true rfl) (Nat.le_of_ble_eq_true rfl) ?_
    refine g_callV0 134 [.ref 36, .int _, .int _] [] dX7_askOperands_131 rfl (ct_X7_ask _ _ _ (okC.b ho hj (by rw [hc1]; decide) (by rw [hc1]; decide) (by rw [hc1]; decide))) rfl sV_X7_askOperands_41 rfl ly_40 rfl rfl (Nat.le_of_ble_eq_true rfl) (Nat.le_of_ble_eq_true rfl) (Nat.le_of_ble_eq_true rfl) ?_
    refine go_goto 277 dX7_askOperands_134 (by decide) ?_
    refine go_return dX7_askOperands_277 rfl (Nat.le_of_ble_eq_true rfl) (Nat.le_of_ble_eq_true rfl) ?_
    exact ⟨rfl, congrArg hp (by unfold f_X7_askOperands; simp only [if_neg hc1_0, if_neg hc1_1, if_neg hc1_2, if_pos hc1]; try first | rfl | contradiction)⟩
  · have hc1 : (rI S 2 j) = 6 := hc1
    have hc1_0 : ¬ (rI S 2 j) = 2 := by rw [hc1]; decide
    have hc1_1 : ¬ (rI S 2 j) = 3 := by rw [hc1]; decide
    have hc1_2 : ¬ (rI S 2 j) = 4 := by rw [hc1]; decide
    have hc1_3 : ¬ (rI S 2 j) = 5 := by rw [hc1]; decide
    refine go_aload_n 138 dX7_askOperands_137 rfl rfl ?_
    refine go_aload_n 139 dX7_askOperands_138 rfl rfl ?_
    refine go_iload 141 dX7_askOperands_139 rfl rfl ?_
    refine go_iload 143 dX7_askOperands_141 rfl rfl ?_
    refine go_aload_n 144 dX7_askOperands_143 rfl rfl ?_
    refine go_iload 146 dX7_askOperands_144 rfl rfl ?_
    refine g_callS 149 [.ref 1, .int _] [.int _, .int _, .ref 36, .ref 40] dX7_askOperands_146 rfl (ct_X7_maskOf _ _ (okC.b ho hj (by rw [hc1]; decide) (by rw [hc1]; decide) (by rw [hc1]; decide))) rfl sV_X7_askOperands_77 rfl (Nat.le_of_ble_eq_true rfl) (Nat.le_of_ble_eq_true rfl) (Nat.le_of_ble_eq_true rfl) ?_
    refine go_iand 150 dX7_askOperands_149 rfl ?_
    refine g_callV0 153 [.ref 36, .int _, .int _] [] dX7_askOperands_150 rfl (ct_X7_ask _ _ _ (okC.a ho hj (by rw [hc1]; decide))) rfl sV_X7_askOperands_41 rfl ly_40 rfl rfl (Nat.le_of_ble_eq_true rfl) (Nat.le_of_ble_eq_true rfl) (Nat.le_of_ble_eq_true rfl) ?_
    refine go_aload_n 154 dX7_askOperands_153 rfl rfl ?_
    refine go_aload_n 155 dX7_askOperands_154 rfl rfl ?_
    refine go_iload 157 dX7_askOperands_155 rfl rfl ?_
    refine go_iload 159 dX7_askOperands_157 rfl rfl ?_
    refine go_aload_n 160 dX7_askOperands_159 rfl rfl ?_
    refine go_iload 162 dX7_askOperands_160 rfl rfl ?_
    refine g_callS 165 [.ref 1, .int _] [.int _, .int _, .ref 36, .ref 40] dX7_askOperands_162 rfl (ct_X7_maskOf _ _ (okC.a ho hj (by rw [hc1]; decide))) rfl sV_X7_askOperands_77 rfl (Nat.le_of_ble_eq_true rfl) (Nat.le_of_ble_eq_true rfl) (Nat.le_of_ble_eq_true rfl) ?_
    refine go_iand 166 dX7_askOperands_165 rfl ?_
    refine g_callV0 169 [.ref 36, .int _, .int _] [] dX7_askOperands_166 rfl (ct_X7_ask _ _ _ (okC.b ho hj (by rw [hc1]; decide) (by rw [hc1]; decide) (by rw [hc1]; decide))) rfl sV_X7_askOperands_41 rfl ly_40 rfl rfl (Nat.le_of_ble_eq_true rfl) (Nat.le_of_ble_eq_true rfl) (Nat.le_of_ble_eq_true rfl) ?_
    refine go_goto 277 dX7_askOperands_169 (by decide) ?_
    refine go_return dX7_askOperands_277 rfl (Nat.le_of_ble_eq_true rfl) (Nat.le_of_ble_eq_true rfl) ?_
    exact ⟨rfl, congrArg hp (by unfold f_X7_askOperands; simp only [if_neg hc1_0, if_neg hc1_1, if_neg hc1_2, if_neg hc1_3, if_pos hc1]; try first | rfl | contradiction)⟩
  · have hc1 : (rI S 2 j) = 7 := hc1
    have hc1_0 : ¬ (rI S 2 j) = 2 := by rw [hc1]; decide
    have hc1_1 : ¬ (rI S 2 j) = 3 := by rw [hc1]; decide
    have hc1_2 : ¬ (rI S 2 j) = 4 := by rw [hc1]; decide
    have hc1_3 : ¬ (rI S 2 j) = 5 := by rw [hc1]; decide
    have hc1_4 : ¬ (rI S 2 j) = 6 := by rw [hc1]; decide
    refine go_aload_n 173 dX7_askOperands_172 rfl rfl ?_
    refine go_aload_n 174 dX7_askOperands_173 rfl rfl ?_
    refine go_iload 176 dX7_askOperands_174 rfl rfl ?_
    refine go_iload 178 dX7_askOperands_176 rfl rfl ?_
    refine g_callV0 181 [.ref 36, .int _, .int _] [] dX7_askOperands_178 rfl (ct_X7_ask _ _ _ (okC.a ho hj (by rw [hc1]; decide))) rfl sV_X7_askOperands_41 rfl ly_40 rfl rfl (Nat.le_of_ble_eq_true rfl) (Nat.le_of_ble_eq_true rfl) (Nat.le_of_ble_eq_true rfl) ?_
    refine go_aload_n 182 dX7_askOperands_181 rfl rfl ?_
    refine go_aload_n 183 dX7_askOperands_182 rfl rfl ?_
    refine go_iload 185 dX7_askOperands_183 rfl rfl ?_
    refine go_iload 187 dX7_askOperands_185 rfl rfl ?_
    refine g_callV0 190 [.ref 36, .int _, .int _] [] dX7_askOperands_187 rfl (ct_X7_ask _ _ _ (okC.b ho hj (by rw [hc1]; decide) (by rw [hc1]; decide) (by rw [hc1]; decide))) rfl sV_X7_askOperands_41 rfl ly_40 rfl rfl (Nat.le_of_ble_eq_true rfl) (Nat.le_of_ble_eq_true rfl) (Nat.le_of_ble_eq_true rfl) ?_
    refine go_goto 277 dX7_askOperands_190 (by decide) ?_
    refine go_return dX7_askOperands_277 rfl (Nat.le_of_ble_eq_true rfl) (Nat.le_of_ble_eq_true rfl) ?_
    exact ⟨rfl, congrArg hp (by unfold f_X7_askOperands; simp only [if_neg hc1_0, if_neg hc1_1, if_neg hc1_2, if_neg hc1_3, if_neg hc1_4, if_pos hc1]; try first | rfl | contradiction)⟩
  · have hc1 : (rI S 2 j) = 8 := hc1
    have hc1_0 : ¬ (rI S 2 j) = 2 := by rw [hc1]; decide
    have hc1_1 : ¬ (rI S 2 j) = 3 := by rw [hc1]; decide
    have hc1_2 : ¬ (rI S 2 j) = 4 := by rw [hc1]; decide
    have hc1_3 : ¬ (rI S 2 j) = 5 := by rw [hc1]; decide
    have hc1_4 : ¬ (rI S 2 j) = 6 := by rw [hc1]; decide
    have hc1_5 : ¬ (rI S 2 j) = 7 := by rw [hc1]; decide
    refine go_aload_n 173 dX7_askOperands_172 rfl rfl ?_
    refine go_aload_n 174 dX7_askOperands_173 rfl rfl ?_
    refine go_iload 176 dX7_askOperands_174 rfl rfl ?_
    refine go_iload 178 dX7_askOperands_176 rfl rfl ?_
    refine g_callV0 181 [.ref 36, .int _, .int _] [] dX7_askOperands_178 rfl (ct_X7_ask _ _ _ (okC.a ho hj (by rw [hc1]; decide))) rfl sV_X7_askOperands_41 rfl ly_40 rfl rfl (Nat.le_of_ble_eq_true rfl) (Nat.le_of_ble_eq_true rfl) (Nat.le_of_ble_eq_true rfl) ?_
    refine go_aload_n 182 dX7_askOperands_181 rfl rfl ?_
    refine go_aload_n 183 dX7_askOperands_182 rfl rfl ?_
    refine go_iload 185 dX7_askOperands_183 rfl rfl ?_
    refine go_iload 187 dX7_askOperands_185 rfl rfl ?_
    refine g_callV0 190 [.ref 36, .int _, .int _] [] dX7_askOperands_187 rfl (ct_X7_ask _ _ _ (okC.b ho hj (by rw [hc1]; decide) (by rw [hc1]; decide) (by rw [hc1]; decide))) rfl sV_X7_askOperands_41 rfl ly_40 rfl rfl (Nat.le_of_ble_eq_true rfl) (Nat.le_of_ble_eq_true rfl) (Nat.le_of_ble_eq_true rfl) ?_
    refine go_goto 277 dX7_askOperands_190 (by decide) ?_
    refine go_return dX7_askOperands_277 rfl (Nat.le_of_ble_eq_true rfl) (Nat.le_of_ble_eq_true rfl) ?_
    exact ⟨rfl, congrArg hp (by unfold f_X7_askOperands; simp only [if_neg hc1_0, if_neg hc1_1, if_neg hc1_2, if_neg hc1_3, if_neg hc1_4, if_neg hc1_5, if_pos hc1]; try first | rfl | contradiction)⟩
  · have hc1 : (rI S 2 j) = 9 := hc1
    have hc1_0 : ¬ (rI S 2 j) = 2 := by rw [hc1]; decide
    have hc1_1 : ¬ (rI S 2 j) = 3 := by rw [hc1]; decide
    have hc1_2 : ¬ (rI S 2 j) = 4 := by rw [hc1]; decide
    have hc1_3 : ¬ (rI S 2 j) = 5 := by rw [hc1]; decide
    have hc1_4 : ¬ (rI S 2 j) = 6 := by rw [hc1]; decide
    have hc1_5 : ¬ (rI S 2 j) = 7 := by rw [hc1]; decide
    have hc1_6 : ¬ (rI S 2 j) = 8 := by rw [hc1]; decide
    refine go_aload_n 194 dX7_askOperands_193 rfl rfl ?_
    refine go_aload_n 195 dX7_askOperands_194 rfl rfl ?_
    refine go_iload 197 dX7_askOperands_195 rfl rfl ?_
    refine go_iload 199 dX7_askOperands_197 rfl rfl ?_
    refine go_iload 201 dX7_askOperands_199 rfl rfl ?_
    refine go_iushr 202 dX7_askOperands_201 rfl ?_
    refine go_topi (ushr _ _) rfl ?_
    refine g_callV0 205 [.ref 36, .int _, .int _] [] dX7_askOperands_202 rfl (ct_X7_ask _ _ _ (okC.a ho hj (by rw [hc1]; decide))) rfl sV_X7_askOperands_41 rfl ly_40 rfl rfl (Nat.le_of_ble_eq_true rfl) (Nat.le_of_ble_eq_true rfl) (Nat.le_of_ble_eq_true rfl) ?_
    refine go_goto 277 dX7_askOperands_205 (by decide) ?_
    refine go_return dX7_askOperands_277 rfl (Nat.le_of_ble_eq_true rfl) (Nat.le_of_ble_eq_true rfl) ?_
    exact ⟨rfl, congrArg hp (by unfold f_X7_askOperands; simp only [if_neg hc1_0, if_neg hc1_1, if_neg hc1_2, if_neg hc1_3, if_neg hc1_4, if_neg hc1_5, if_neg hc1_6, if_pos hc1]; try first | rfl | contradiction)⟩
  · have hc1 : (rI S 2 j) = 10 := hc1
    have hc1_0 : ¬ (rI S 2 j) = 2 := by rw [hc1]; decide
    have hc1_1 : ¬ (rI S 2 j) = 3 := by rw [hc1]; decide
    have hc1_2 : ¬ (rI S 2 j) = 4 := by rw [hc1]; decide
    have hc1_3 : ¬ (rI S 2 j) = 5 := by rw [hc1]; decide
    have hc1_4 : ¬ (rI S 2 j) = 6 := by rw [hc1]; decide
    have hc1_5 : ¬ (rI S 2 j) = 7 := by rw [hc1]; decide
    have hc1_6 : ¬ (rI S 2 j) = 8 := by rw [hc1]; decide
    have hc1_7 : ¬ (rI S 2 j) = 9 := by rw [hc1]; decide
    refine go_aload_n 209 dX7_askOperands_208 rfl rfl ?_
    refine go_aload_n 210 dX7_askOperands_209 rfl rfl ?_
    refine go_iload 212 dX7_askOperands_210 rfl rfl ?_
    refine go_iload 214 dX7_askOperands_212 rfl rfl ?_
    refine go_iload 216 dX7_askOperands_214 rfl rfl ?_
    refine g_callS 219 [.int _, .int _] [.int _, .ref 36, .ref 40] dX7_askOperands_216 rfl (ct_X7_beforeShiftRight _ _ _) rfl sV_X7_askOperands_81 rfl (Nat.le_of_ble_eq_true rfl) (Nat.le_of_ble_eq_true rfl) (Nat.le_of_ble_eq_true rfl) ?_
    refine g_callV0 222 [.ref 36, .int _, .int _] [] dX7_askOperands_219 rfl (ct_X7_ask _ _ _ (okC.a ho hj (by rw [hc1]; decide))) rfl sV_X7_askOperands_41 rfl ly_40 rfl rfl (Nat.le_of_ble_eq_true rfl) (Nat.le_of_ble_eq_true rfl) (Nat.le_of_ble_eq_true rfl) ?_
    refine go_goto 277 dX7_askOperands_222 (by decide) ?_
    refine go_return dX7_askOperands_277 rfl (Nat.le_of_ble_eq_true rfl) (Nat.le_of_ble_eq_true rfl) ?_
    exact ⟨rfl, congrArg hp (by unfold f_X7_askOperands; simp only [if_neg hc1_0, if_neg hc1_1, if_neg hc1_2, if_neg hc1_3, if_neg hc1_4, if_neg hc1_5, if_neg hc1_6, if_neg hc1_7, if_pos hc1]; try first | rfl | contradiction)⟩
  · have hc1 : (rI S 2 j) = 11 := hc1
    have hc1_0 : ¬ (rI S 2 j) = 2 := by rw [hc1]; decide
    have hc1_1 : ¬ (rI S 2 j) = 3 := by rw [hc1]; decide
    have hc1_2 : ¬ (rI S 2 j) = 4 := by rw [hc1]; decide
    have hc1_3 : ¬ (rI S 2 j) = 5 := by rw [hc1]; decide
    have hc1_4 : ¬ (rI S 2 j) = 6 := by rw [hc1]; decide
    have hc1_5 : ¬ (rI S 2 j) = 7 := by rw [hc1]; decide
    have hc1_6 : ¬ (rI S 2 j) = 8 := by rw [hc1]; decide
    have hc1_7 : ¬ (rI S 2 j) = 9 := by rw [hc1]; decide
    have hc1_8 : ¬ (rI S 2 j) = 10 := by rw [hc1]; decide
    refine go_aload_n 226 dX7_askOperands_225 rfl rfl ?_
    refine go_aload_n 227 dX7_askOperands_226 rfl rfl ?_
    refine go_iload 229 dX7_askOperands_227 rfl rfl ?_
    refine go_iconst 230 (-1) dX7_askOperands_229 rfl (by decide) ?_
    refine g_callV0 233 [.ref 36, .int _, .int _] [] dX7_askOperands_230 rfl (ct_X7_ask _ _ _ (okC.a ho hj (by rw [hc1]; decide))) rfl sV_X7_askOperands_41 rfl ly_40 rfl rfl (Nat.le_of_ble_eq_true rfl) (Nat.le_of_ble_eq_true rfl) (Nat.le_of_ble_eq_true rfl) ?_
    refine go_aload_n 234 dX7_askOperands_233 rfl rfl ?_
    refine go_aload_n 235 dX7_askOperands_234 rfl rfl ?_
    refine go_iload 237 dX7_askOperands_235 rfl rfl ?_
    refine go_iconst 238 (-1) dX7_askOperands_237 rfl (by decide) ?_
    refine g_callV0 241 [.ref 36, .int _, .int _] [] dX7_askOperands_238 rfl (ct_X7_ask _ _ _ (okC.b ho hj (by rw [hc1]; decide) (by rw [hc1]; decide) (by rw [hc1]; decide))) rfl sV_X7_askOperands_41 rfl ly_40 rfl rfl (Nat.le_of_ble_eq_true rfl) (Nat.le_of_ble_eq_true rfl) (Nat.le_of_ble_eq_true rfl) ?_
    refine go_goto 277 dX7_askOperands_241 (by decide) ?_
    refine go_return dX7_askOperands_277 rfl (Nat.le_of_ble_eq_true rfl) (Nat.le_of_ble_eq_true rfl) ?_
    exact ⟨rfl, congrArg hp (by unfold f_X7_askOperands; simp only [if_neg hc1_0, if_neg hc1_1, if_neg hc1_2, if_neg hc1_3, if_neg hc1_4, if_neg hc1_5, if_neg hc1_6, if_neg hc1_7, if_neg hc1_8, if_pos hc1]; try first | rfl | contradiction)⟩
  · have hc1 : (rI S 2 j) = 12 := hc1
    have hc1_0 : ¬ (rI S 2 j) = 2 := by rw [hc1]; decide
    have hc1_1 : ¬ (rI S 2 j) = 3 := by rw [hc1]; decide
    have hc1_2 : ¬ (rI S 2 j) = 4 := by rw [hc1]; decide
    have hc1_3 : ¬ (rI S 2 j) = 5 := by rw [hc1]; decide
    have hc1_4 : ¬ (rI S 2 j) = 6 := by rw [hc1]; decide
    have hc1_5 : ¬ (rI S 2 j) = 7 := by rw [hc1]; decide
    have hc1_6 : ¬ (rI S 2 j) = 8 := by rw [hc1]; decide
    have hc1_7 : ¬ (rI S 2 j) = 9 := by rw [hc1]; decide
    have hc1_8 : ¬ (rI S 2 j) = 10 := by rw [hc1]; decide
    have hc1_9 : ¬ (rI S 2 j) = 11 := by rw [hc1]; decide
    refine go_aload_n 245 dX7_askOperands_244 rfl rfl ?_
    refine go_aload_n 246 dX7_askOperands_245 rfl rfl ?_
    refine go_iload 248 dX7_askOperands_246 rfl rfl ?_
    refine go_iconst 249 (-1) dX7_askOperands_248 rfl (by decide) ?_
    refine g_callV0 252 [.ref 36, .int _, .int _] [] dX7_askOperands_249 rfl (ct_X7_ask _ _ _ (okC.a ho hj (by rw [hc1]; decide))) rfl sV_X7_askOperands_41 rfl ly_40 rfl rfl (Nat.le_of_ble_eq_true rfl) (Nat.le_of_ble_eq_true rfl) (Nat.le_of_ble_eq_true rfl) ?_
    refine go_aload_n 253 dX7_askOperands_252 rfl rfl ?_
    refine go_aload_n 254 dX7_askOperands_253 rfl rfl ?_
    refine go_iload 256 dX7_askOperands_254 rfl rfl ?_
    refine go_iload 258 dX7_askOperands_256 rfl rfl ?_
    refine g_callV0 261 [.ref 36, .int _, .int _] [] dX7_askOperands_258 rfl (ct_X7_ask _ _ _ (okC.b ho hj (by rw [hc1]; decide) (by rw [hc1]; decide) (by rw [hc1]; decide))) rfl sV_X7_askOperands_41 rfl ly_40 rfl rfl (Nat.le_of_ble_eq_true rfl) (Nat.le_of_ble_eq_true rfl) (Nat.le_of_ble_eq_true rfl) ?_
    refine go_aload_n 262 dX7_askOperands_261 rfl rfl ?_
    refine go_aload_n 263 dX7_askOperands_262 rfl rfl ?_
    refine go_aload_n 264 dX7_askOperands_263 rfl rfl ?_
    refine g_getR 267 dX7_askOperands_264 rfl fF_RX7_85 ly_1 rfl ?_
    refine go_iload_n 268 dX7_askOperands_267 rfl rfl ?_
    refine g_iald2 269 j dX7_askOperands_268 rfl ly_5 (nI_i (by omega) (by omega)) hcl ?_
    refine go_iload 271 dX7_askOperands_269 rfl rfl ?_
    refine g_callV0 274 [.ref 36, .int _, .int _] [] dX7_askOperands_271 rfl (ct_X7_ask _ _ _ (by rw [fr_f_X7_ask (by omega) (by omega), fr_f_X7_ask (by omega) (by omega)]; exact (okC.c ho hj hc1))) rfl sV_X7_askOperands_41 rfl ly_40 rfl rfl (Nat.le_of_ble_eq_true rfl) (Nat.le_of_ble_eq_true rfl) (Nat.le_of_ble_eq_true rfl) ?_
    refine go_goto 277 dX7_askOperands_274 (by decide) ?_
    refine go_return dX7_askOperands_277 rfl (Nat.le_of_ble_eq_true rfl) (Nat.le_of_ble_eq_true rfl) ?_
    exact ⟨rfl, congrArg hp (by unfold f_X7_askOperands; simp only [if_neg hc1_0, if_neg hc1_1, if_neg hc1_2, if_neg hc1_3, if_neg hc1_4, if_neg hc1_5, if_neg hc1_6, if_neg hc1_7, if_neg hc1_8, if_neg hc1_9, if_pos hc1]; try first | rfl | contradiction)⟩
  · have hc1_0 : ¬ (rI S 2 j) = 2 := hc1 (2, 88) (List.mem_of_getElem? (i := 0) rfl)
    have hc1_1 : ¬ (rI S 2 j) = 3 := hc1 (3, 104) (List.mem_of_getElem? (i := 1) rfl)
    have hc1_2 : ¬ (rI S 2 j) = 4 := hc1 (4, 104) (List.mem_of_getElem? (i := 2) rfl)
    have hc1_3 : ¬ (rI S 2 j) = 5 := hc1 (5, 104) (List.mem_of_getElem? (i := 3) rfl)
    have hc1_4 : ¬ (rI S 2 j) = 6 := hc1 (6, 137) (List.mem_of_getElem? (i := 4) rfl)
    have hc1_5 : ¬ (rI S 2 j) = 7 := hc1 (7, 172) (List.mem_of_getElem? (i := 5) rfl)
    have hc1_6 : ¬ (rI S 2 j) = 8 := hc1 (8, 172) (List.mem_of_getElem? (i := 6) rfl)
    have hc1_7 : ¬ (rI S 2 j) = 9 := hc1 (9, 193) (List.mem_of_getElem? (i := 7) rfl)
    have hc1_8 : ¬ (rI S 2 j) = 10 := hc1 (10, 208) (List.mem_of_getElem? (i := 8) rfl)
    have hc1_9 : ¬ (rI S 2 j) = 11 := hc1 (11, 225) (List.mem_of_getElem? (i := 9) rfl)
    have hc1_10 : ¬ (rI S 2 j) = 12 := hc1 (12, 244) (List.mem_of_getElem? (i := 10) rfl)
    clear hc1
    refine go_return dX7_askOperands_277 rfl (Nat.le_of_ble_eq_true rfl) (Nat.le_of_ble_eq_true rfl) ?_
    exact ⟨rfl, congrArg hp (by unfold f_X7_askOperands; simp only [if_neg hc1_0, if_neg hc1_1, if_neg hc1_2, if_neg hc1_3, if_neg hc1_4, if_neg hc1_5, if_neg hc1_6, if_neg hc1_7, if_neg hc1_8, if_neg hc1_9, if_neg hc1_10]; try first | rfl | contradiction)⟩
theorem fr_f_X7_askOperands {a0 c0 : Nat} (h40_3 : ¬ (a0 = 40 ∧ c0 = 3)) (h41 : a0 ≠ 41) (S : gS) (j : Nat) : rI (f_X7_askOperands S j) a0 c0 = rI S a0 c0 := by
  unfold f_X7_askOperands
  first | (simp only [snd_ite, rI_ite, ite_self, rI_wIc h40_3, rI_wIk h41, rI_wRk h41, fr_f_X7_ask h40_3 h41]; done) | ((repeat' split) <;> first | rfl | simp only [rI_wIc h40_3, rI_wIk h41, rI_wRk h41, fr_f_X7_ask h40_3 h41] | (apply fr_f_X7_ask <;> assumption))

def f_X7_narrowed (S : gS) (i v : Int32) : Int32 := (if (rI S 43 i.toNatClampNeg) = 0 then (v &&& (f_X8_lowestBits ((rI S 42 i.toNatClampNeg)))) else (((v &&& (f_X8_lowestBits ((rI S 42 i.toNatClampNeg)))) <<< (((32 : Int32) - (rI S 42 i.toNatClampNeg)) &&& 31)) >>> (((32 : Int32) - (rI S 42 i.toNatClampNeg)) &&& 31)))
set_option maxRecDepth 100000 in
set_option maxHeartbeats 1000000 in
theorem ct_X7_narrowed (S : gS) (i v : Int32) (hi : vp_in i 24) : gF mX7_narrowed [.ref 40, .int i, .int v] S (some (.int (f_X7_narrowed S i v))) S := by
  refine go_enter [.ref 40, .int i, .int v] [(0, .ref 40), (1, .int i), (2, .int v)] (by decide +kernel) rfl rfl (Nat.le_of_ble_eq_true rfl) rfl ?_
  refine go_iload_n 1 dX7_narrowed_0 rfl rfl ?_
  refine go_aload_n 2 dX7_narrowed_1 rfl rfl ?_
  refine g_getR 5 dX7_narrowed_2 rfl fF_RX7_15 ly_40 rfl ?_
  refine go_iload_n 6 dX7_narrowed_5 rfl rfl ?_
  refine g_iald2 7 _ dX7_narrowed_6 rfl ly_42 hi rfl ?_
  refine g_callSN 10 [.int _] [.int _] dX7_narrowed_7 rfl (ct_X8_lowestBits _ _) rfl sV_X7_narrowed_62 rfl (Nat.le_of_ble_eq_true rfl) (Nat.le_of_ble_eq_true rfl) (Nat.le_of_ble_eq_true rfl) ?_
  refine go_iand 11 dX7_narrowed_10 rfl ?_
  refine go_istore_n 12 [(3, .int _), (0, .ref 40), (1, .int _), (2, .int _)] dX7_narrowed_11 rfl (Nat.le_of_ble_eq_true rfl) rfl ?_
  refine go_aload_n 13 dX7_narrowed_12 rfl rfl ?_
  refine g_getR 16 dX7_narrowed_13 rfl fF_RX7_18 ly_40 rfl ?_
  refine go_iload_n 17 dX7_narrowed_16 rfl rfl ?_
  refine g_zald2 18 _ dX7_narrowed_17 rfl ly_43 hi rfl ?_
  refine go_if_ne 21 23 dX7_narrowed_18 rfl (by decide) (fun hc1 => ?_) (fun hc1 => ?_)
  · refine go_bipush 25 (32) dX7_narrowed_23 rfl (by decide) ?_
    refine go_aload_n 26 dX7_narrowed_25 rfl rfl ?_
    refine g_getR 29 dX7_narrowed_26 rfl fF_RX7_15 ly_40 rfl ?_
    refine go_iload_n 30 dX7_narrowed_29 rfl rfl ?_
    refine g_iald2 31 _ dX7_narrowed_30 rfl ly_42 hi rfl ?_
    refine go_isub 32 dX7_narrowed_31 rfl ?_
    refine go_istore 34 [(4, .int _), (3, .int _), (0, .ref 40), (1, .int _), (2, .int _)] dX7_narrowed_32 rfl (Nat.le_of_ble_eq_true rfl) rfl ?_
    refine go_iload_n 35 dX7_narrowed_34 rfl rfl ?_
    refine go_iload 37 dX7_narrowed_35 rfl rfl ?_
    refine go_ishl 38 dX7_narrowed_37 rfl ?_
    refine go_iload 40 dX7_narrowed_38 rfl rfl ?_
    refine go_ishr 41 dX7_narrowed_40 rfl ?_
    refine go_ireturn dX7_narrowed_41 rfl (by first | rfl | exact bi_nar) (Nat.le_of_ble_eq_true rfl) (Nat.le_of_ble_eq_true rfl) ?_
    exact ⟨congrArg (fun z => some (Value.int z)) (by unfold f_X7_narrowed; simp only [if_neg hc1]; try first | rfl | contradiction), rfl⟩
  · refine go_iload_n 22 dX7_narrowed_21 rfl rfl ?_
    refine go_ireturn dX7_narrowed_22 rfl (by first | rfl | exact bi_nar) (Nat.le_of_ble_eq_true rfl) (Nat.le_of_ble_eq_true rfl) ?_
    exact ⟨congrArg (fun z => some (Value.int z)) (by unfold f_X7_narrowed; simp only [if_pos hc1]; try first | rfl | contradiction), rfl⟩

def f_X7_costIn (S : gS) (j : Nat) : Int32 := (if (rI S 2 j) = 11 then (if (rI S 42 j) = 0 then (f_X8_costFor ((rI S 2 j)) ((rI S 42 j))) else (f_X8_costFor 11 ((mxi ((rI S 42 ((rI S 3 j)).toNatClampNeg)) ((rI S 42 ((rI S 4 j)).toNatClampNeg)))))) else (f_X8_costFor ((rI S 2 j)) ((rI S 42 j))))
set_option maxRecDepth 100000 in
set_option maxHeartbeats 1000000 in
theorem ct_X7_costIn (S : gS) (j : Nat) (n : Nat) (ho : okC S n) (hj : j < n) : gF mX7_costIn [.ref 40, .ref 1, .int (nI j)] S (some (.int (f_X7_costIn S j))) S := by
  have h24 := ho.2.1
  have hcl := nI_c (n := j) (by omega)
  refine go_enter [.ref 40, .ref 1, .int (nI j)] [(0, .ref 40), (1, .ref 1), (2, .int (nI j))] (by decide +kernel) rfl rfl (Nat.le_of_ble_eq_true rfl) rfl ?_
  refine go_aload_n 1 dX7_costIn_0 rfl rfl ?_
  refine g_getR 4 dX7_costIn_1 rfl fF_RX7_71 ly_1 rfl ?_
  refine go_iload_n 5 dX7_costIn_4 rfl rfl ?_
  refine g_iald2 6 j dX7_costIn_5 rfl ly_2 (nI_i (by omega) (by omega)) hcl ?_
  refine go_bipush 8 (11) dX7_costIn_6 rfl (by decide) ?_
  refine go_icmp_ne 11 51 dX7_costIn_8 rfl (by decide) (fun hc1 => ?_) (fun hc1 => ?_)
  · refine go_aload_n 52 dX7_costIn_51 rfl rfl ?_
    refine g_getR 55 dX7_costIn_52 rfl fF_RX7_71 ly_1 rfl ?_
    refine go_iload_n 56 dX7_costIn_55 rfl rfl ?_
    refine g_iald2 57 j dX7_costIn_56 rfl ly_2 (nI_i (by omega) (by omega)) hcl ?_
    refine go_aload_n 58 dX7_costIn_57 rfl rfl ?_
    refine g_getR 61 dX7_costIn_58 rfl fF_RX7_15 ly_40 rfl ?_
    refine go_iload_n 62 dX7_costIn_61 rfl rfl ?_
    refine g_iald2 63 j dX7_costIn_62 rfl ly_42 (nI_i (by omega) (by omega)) hcl ?_
    refine g_callSN 66 [.int _, .int _] [] dX7_costIn_63 rfl (ct_X8_costFor _ _ _) rfl sV_X7_costIn_94 rfl (Nat.le_of_ble_eq_true rfl) (Nat.le_of_ble_eq_true rfl) (Nat.le_of_ble_eq_true rfl) ?_
    refine go_ireturn dX7_costIn_66 rfl (by first | rfl | exact bi_nar) (Nat.le_of_ble_eq_true rfl) (Nat.le_of_ble_eq_true rfl) ?_
    exact ⟨congrArg (fun z => some (Value.int z)) (by unfold f_X7_costIn; simp only [if_neg hc1]; try first | rfl | contradiction), rfl⟩
  · refine go_aload_n 12 dX7_costIn_11 rfl rfl ?_
    refine g_getR 15 dX7_costIn_12 rfl fF_RX7_15 ly_40 rfl ?_
    refine go_iload_n 16 dX7_costIn_15 rfl rfl ?_
    refine g_iald2 17 j dX7_costIn_16 rfl ly_42 (nI_i (by omega) (by omega)) hcl ?_
    refine go_if_eq 20 51 dX7_costIn_17 rfl (by decide) (fun hc2 => ?_) (fun hc2 => ?_)
    · refine go_aload_n 52 dX7_costIn_51 rfl rfl ?_
      refine g_getR 55 dX7_costIn_52 rfl fF_RX7_71 ly_1 rfl ?_
      refine go_iload_n 56 dX7_costIn_55 rfl rfl ?_
      refine g_iald2 57 j dX7_costIn_56 rfl ly_2 (nI_i (by omega) (by omega)) hcl ?_
      refine go_aload_n 58 dX7_costIn_57 rfl rfl ?_
      refine g_getR 61 dX7_costIn_58 rfl fF_RX7_15 ly_40 rfl ?_
      refine go_iload_n 62 dX7_costIn_61 rfl rfl ?_
      refine g_iald2 63 j dX7_costIn_62 rfl ly_42 (nI_i (by omega) (by omega)) hcl ?_
      refine g_callSN 66 [.int _, .int _] [] dX7_costIn_63 rfl (ct_X8_costFor _ _ _) rfl sV_X7_costIn_94 rfl (Nat.le_of_ble_eq_true rfl) (Nat.le_of_ble_eq_true rfl) (Nat.le_of_ble_eq_true rfl) ?_
      refine go_ireturn dX7_costIn_66 rfl (by first | rfl | exact bi_nar) (Nat.le_of_ble_eq_true rfl) (Nat.le_of_ble_eq_true rfl) ?_
      exact ⟨congrArg (fun z => some (Value.int z)) (by unfold f_X7_costIn; simp only [if_pos hc1, if_pos hc2]; try first | rfl | contradiction), rfl⟩
    · refine go_bipush 22 (11) dX7_costIn_20 rfl (by decide) ?_
      refine go_aload_n 23 dX7_costIn_22 rfl rfl ?_
      refine g_getR 26 dX7_costIn_23 rfl fF_RX7_15 ly_40 rfl ?_
      refine go_aload_n 27 dX7_costIn_26 rfl rfl ?_
      refine g_getR 30 dX7_costIn_27 rfl fF_RX7_65 ly_1 rfl ?_
      refine go_iload_n 31 dX7_costIn_30 rfl rfl ?_
      refine g_iald2 32 j dX7_costIn_31 rfl ly_3 (nI_i (by omega) (by omega)) hcl ?_
      refine g_iald2 33 _ dX7_costIn_32 rfl ly_42 (okC.a ho hj (by rw [hc1]; decide)) rfl ?_
      refine go_aload_n 34 dX7_costIn_33 rfl rfl ?_
      refine g_getR 37 dX7_costIn_34 rfl fF_RX7_15 ly_40 rfl ?_
      refine go_aload_n 38 dX7_costIn_37 rfl rfl ?_
      refine g_getR 41 dX7_costIn_38 rfl fF_RX7_68 ly_1 rfl ?_
      refine go_iload_n 42 dX7_costIn_41 rfl rfl ?_
      refine g_iald2 43 j dX7_costIn_42 rfl ly_4 (nI_i (by omega) (by omega)) hcl ?_
      refine g_iald2 44 _ dX7_costIn_43 rfl ly_42 (okC.b ho hj (by rw [hc1]; decide) (by rw [hc1]; decide) (by rw [hc1]; decide)) rfl ?_
      refine go_mmax 47 dX7_costIn_44 rfl wL_RX7_89 wT_mmax wI_Math wC_mmax (Nat.le_of_ble_eq_true rfl) (Nat.le_of_ble_eq_true rfl) (Nat.le_of_ble_eq_true rfl) (Nat.le_of_ble_eq_true rfl) ?_
      refine go_topi (mxi _ _) rfl ?_
      refine g_callSN 50 [.int _, .int _] [] dX7_costIn_47 rfl (ct_X8_costFor _ _ _) rfl sV_X7_costIn_94 rfl (Nat.le_of_ble_eq_true rfl) (Nat.le_of_ble_eq_true rfl) (Nat.le_of_ble_eq_true rfl) ?_
      refine go_ireturn dX7_costIn_50 rfl (by first | rfl | exact bi_nar) (Nat.le_of_ble_eq_true rfl) (Nat.le_of_ble_eq_true rfl) ?_
      exact ⟨congrArg (fun z => some (Value.int z)) (by unfold f_X7_costIn; simp only [if_pos hc1, if_neg hc2]; try first | rfl | contradiction), rfl⟩

def bd_cAll (S : gS) (i : Nat) (p : Int32) : Int32 := (p + (f_X7_costIn S i))
set_option maxRecDepth 100000 in
set_option maxHeartbeats 1000000 in
theorem lk_cAll {Q : go_Q} (S : gS)  (n : Nat) (s0 : Int32)  (hT : okC S n) (kx : Go mX7_costOfAll false Q 0 0 27 [(2, .int (itr (bd_cAll S) n s0)), (3, .int (nI n)), (0, .ref 40), (1, .ref 1)] [] (hp S)) : ∀ i, i ≤ n → Go mX7_costOfAll false Q 0 0 4 [(2, .int (itr (bd_cAll S) i s0)), (3, .int (nI i)), (0, .ref 40), (1, .ref 1)] [] (hp S) := by
  refine g_dn _ (n) (fun i hi ih => ?_)
  have ih2 : i < n → Go mX7_costOfAll false Q 0 0 4 [(2, .int ((bd_cAll S) i (itr (bd_cAll S) i s0))), (3, .int (nI (i + 1))), (0, .ref 40), (1, .ref 1)] [] (hp S) := ih
  have kx2 : i = n → Go mX7_costOfAll false Q 0 0 27 [(2, .int (itr (bd_cAll S) i s0)), (3, .int (nI i)), (0, .ref 40), (1, .ref 1)] [] (hp S) := by
    rintro rfl
    exact kx
  clear ih kx
  revert ih2 kx2
  generalize itr (bd_cAll S) i s0 = p
  intro ih2 kx2
  have h24 := hT.2.1
  refine go_iload_n 5 dX7_costOfAll_4 rfl rfl ?_
  refine go_aload_n 6 dX7_costOfAll_5 rfl rfl ?_
  refine g_getI 9 dX7_costOfAll_6 rfl fF_RX7_32 ly_1 rfl ?_
  refine go_icmp_ge 12 27 dX7_costOfAll_9 rfl (by decide) (fun hc1 => ?_) (fun hc1 => ?_)
  · have hv : i = n := by
      have h8 := hc1
      rw [hT.1, nI_le2 (by omega) (by omega)] at h8
      omega
    refine go_ls [(2, .int _), (3, .int _), (0, .ref 40), (1, .ref 1)] (List.forall_mem_cons.mpr ⟨rfl, List.forall_mem_cons.mpr ⟨rfl, List.forall_mem_cons.mpr ⟨rfl, List.forall_mem_cons.mpr ⟨rfl, fun _ h => absurd h List.not_mem_nil⟩⟩⟩⟩) ?_
    exact kx2 hv
  · have hv : i < n := by
      have h8 := hc1
      rw [hT.1, nI_le2 (by omega) (by omega)] at h8
      omega
    clear hc1
    have hcl := nI_c (n := i) (by omega)
    refine go_iload_n 13 dX7_costOfAll_12 rfl rfl ?_
    refine go_aload_n 14 dX7_costOfAll_13 rfl rfl ?_
    refine go_aload_n 15 dX7_costOfAll_14 rfl rfl ?_
    refine go_iload_n 16 dX7_costOfAll_15 rfl rfl ?_
    refine g_callV 19 [.ref 1, .int _] [.int _] dX7_costOfAll_16 rfl (ct_X7_costIn _ _ n hT hv) rfl sV_X7_costOfAll_97 rfl ly_40 rfl rfl (Nat.le_of_ble_eq_true rfl) (Nat.le_of_ble_eq_true rfl) (Nat.le_of_ble_eq_true rfl) ?_
    refine go_iadd 20 dX7_costOfAll_19 rfl ?_
    refine go_istore_n 21 [(2, .int _), (3, .int _), (0, .ref 40), (1, .ref 1)] dX7_costOfAll_20 rfl (Nat.le_of_ble_eq_true rfl) rfl ?_
    refine go_iinc 24 [(3, .int _), (2, .int _), (0, .ref 40), (1, .ref 1)] (nI (i + 1)) dX7_costOfAll_21 rfl (Nat.le_of_ble_eq_true rfl) rfl (nI_inc i) rfl ?_
    refine go_goto 4 dX7_costOfAll_24 (by decide) ?_
    refine go_ls [(2, .int _), (3, .int _), (0, .ref 40), (1, .ref 1)] (List.forall_mem_cons.mpr ⟨rfl, List.forall_mem_cons.mpr ⟨rfl, List.forall_mem_cons.mpr ⟨rfl, List.forall_mem_cons.mpr ⟨rfl, fun _ h => absurd h List.not_mem_nil⟩⟩⟩⟩) ?_
    refine g_l1 (a' := bd_cAll S i p) (by try rfl) ?_
    exact ih2 (by omega)

def f_X7_costOfAll (S : gS) (n : Nat) : Int32 := (itr (bd_cAll S) n 0)
set_option maxRecDepth 100000 in
set_option maxHeartbeats 1000000 in
theorem ct_X7_costOfAll (S : gS) (n : Nat) (ho : okC S n) : gF mX7_costOfAll [.ref 40, .ref 1] S (some (.int (f_X7_costOfAll S n))) S := by
  refine go_enter [.ref 40, .ref 1] [(0, .ref 40), (1, .ref 1)] (by decide +kernel) rfl rfl (Nat.le_of_ble_eq_true rfl) rfl ?_
  refine go_iconst 1 (0) dX7_costOfAll_0 rfl (by decide) ?_
  refine go_istore_n 2 [(2, .int _), (0, .ref 40), (1, .ref 1)] dX7_costOfAll_1 rfl (Nat.le_of_ble_eq_true rfl) rfl ?_
  refine go_iconst 3 (0) dX7_costOfAll_2 rfl (by decide) ?_
  refine go_istore_n 4 [(3, .int _), (2, .int _), (0, .ref 40), (1, .ref 1)] dX7_costOfAll_3 rfl (Nat.le_of_ble_eq_true rfl) rfl ?_
  refine go_ls [(2, .int _), (3, .int _), (0, .ref 40), (1, .ref 1)] (List.forall_mem_cons.mpr ⟨rfl, List.forall_mem_cons.mpr ⟨rfl, List.forall_mem_cons.mpr ⟨rfl, List.forall_mem_cons.mpr ⟨rfl, fun _ h => absurd h List.not_mem_nil⟩⟩⟩⟩) ?_
  refine lk_cAll S n _ ho ?_ 0 (Nat.zero_le _)
  refine go_iload_n 28 dX7_costOfAll_27 rfl rfl ?_
  refine go_ireturn dX7_costOfAll_28 rfl (by first | rfl | exact bi_nar) (Nat.le_of_ble_eq_true rfl) (Nat.le_of_ble_eq_true rfl) ?_
  exact ⟨congrArg (fun z => some (Value.int z)) rfl, rfl⟩

def bd_wSum (S : gS) (i : Nat) (p : Int32) : Int32 := (p + (rI S 42 i))
set_option maxRecDepth 100000 in
set_option maxHeartbeats 1000000 in
theorem lk_wSum {Q : go_Q} (S : gS)  (n : Nat) (s0 : Int32)  (hT : okC S n) (kx : Go mX7_sumIn false Q 0 0 27 [(2, .int (itr (bd_wSum S) n s0)), (3, .int (nI n)), (0, .ref 40), (1, .ref 1)] [] (hp S)) : ∀ i, i ≤ n → Go mX7_sumIn false Q 0 0 4 [(2, .int (itr (bd_wSum S) i s0)), (3, .int (nI i)), (0, .ref 40), (1, .ref 1)] [] (hp S) := by
  refine g_dn _ (n) (fun i hi ih => ?_)
  have ih2 : i < n → Go mX7_sumIn false Q 0 0 4 [(2, .int ((bd_wSum S) i (itr (bd_wSum S) i s0))), (3, .int (nI (i + 1))), (0, .ref 40), (1, .ref 1)] [] (hp S) := ih
  have kx2 : i = n → Go mX7_sumIn false Q 0 0 27 [(2, .int (itr (bd_wSum S) i s0)), (3, .int (nI i)), (0, .ref 40), (1, .ref 1)] [] (hp S) := by
    rintro rfl
    exact kx
  clear ih kx
  revert ih2 kx2
  generalize itr (bd_wSum S) i s0 = p
  intro ih2 kx2
  have h24 := hT.2.1
  refine go_iload_n 5 dX7_sumIn_4 rfl rfl ?_
  refine go_aload_n 6 dX7_sumIn_5 rfl rfl ?_
  refine g_getI 9 dX7_sumIn_6 rfl fF_RX7_32 ly_1 rfl ?_
  refine go_icmp_ge 12 27 dX7_sumIn_9 rfl (by decide) (fun hc1 => ?_) (fun hc1 => ?_)
  · have hv : i = n := by
      have h8 := hc1
      rw [hT.1, nI_le2 (by omega) (by omega)] at h8
      omega
    refine go_ls [(2, .int _), (3, .int _), (0, .ref 40), (1, .ref 1)] (List.forall_mem_cons.mpr ⟨rfl, List.forall_mem_cons.mpr ⟨rfl, List.forall_mem_cons.mpr ⟨rfl, List.forall_mem_cons.mpr ⟨rfl, fun _ h => absurd h List.not_mem_nil⟩⟩⟩⟩) ?_
    exact kx2 hv
  · have hv : i < n := by
      have h8 := hc1
      rw [hT.1, nI_le2 (by omega) (by omega)] at h8
      omega
    clear hc1
    have hcl := nI_c (n := i) (by omega)
    refine go_iload_n 13 dX7_sumIn_12 rfl rfl ?_
    refine go_aload_n 14 dX7_sumIn_13 rfl rfl ?_
    refine g_getR 17 dX7_sumIn_14 rfl fF_RX7_15 ly_40 rfl ?_
    refine go_iload_n 18 dX7_sumIn_17 rfl rfl ?_
    refine g_iald2 19 i dX7_sumIn_18 rfl ly_42 (nI_i (by have := hv; omega) (by omega)) hcl ?_
    refine go_iadd 20 dX7_sumIn_19 rfl ?_
    refine go_istore_n 21 [(2, .int _), (3, .int _), (0, .ref 40), (1, .ref 1)] dX7_sumIn_20 rfl (Nat.le_of_ble_eq_true rfl) rfl ?_
    refine go_iinc 24 [(3, .int _), (2, .int _), (0, .ref 40), (1, .ref 1)] (nI (i + 1)) dX7_sumIn_21 rfl (Nat.le_of_ble_eq_true rfl) rfl (nI_inc i) rfl ?_
    refine go_goto 4 dX7_sumIn_24 (by decide) ?_
    refine go_ls [(2, .int _), (3, .int _), (0, .ref 40), (1, .ref 1)] (List.forall_mem_cons.mpr ⟨rfl, List.forall_mem_cons.mpr ⟨rfl, List.forall_mem_cons.mpr ⟨rfl, List.forall_mem_cons.mpr ⟨rfl, fun _ h => absurd h List.not_mem_nil⟩⟩⟩⟩) ?_
    refine g_l1 (a' := bd_wSum S i p) (by try rfl) ?_
    exact ih2 (by omega)

def f_X7_sumIn (S : gS) (n : Nat) : Int32 := (itr (bd_wSum S) n 0)
set_option maxRecDepth 100000 in
set_option maxHeartbeats 1000000 in
theorem ct_X7_sumIn (S : gS) (n : Nat) (ho : okC S n) : gF mX7_sumIn [.ref 40, .ref 1] S (some (.int (f_X7_sumIn S n))) S := by
  refine go_enter [.ref 40, .ref 1] [(0, .ref 40), (1, .ref 1)] (by decide +kernel) rfl rfl (Nat.le_of_ble_eq_true rfl) rfl ?_
  refine go_iconst 1 (0) dX7_sumIn_0 rfl (by decide) ?_
  refine go_istore_n 2 [(2, .int _), (0, .ref 40), (1, .ref 1)] dX7_sumIn_1 rfl (Nat.le_of_ble_eq_true rfl) rfl ?_
  refine go_iconst 3 (0) dX7_sumIn_2 rfl (by decide) ?_
  refine go_istore_n 4 [(3, .int _), (2, .int _), (0, .ref 40), (1, .ref 1)] dX7_sumIn_3 rfl (Nat.le_of_ble_eq_true rfl) rfl ?_
  refine go_ls [(2, .int _), (3, .int _), (0, .ref 40), (1, .ref 1)] (List.forall_mem_cons.mpr ⟨rfl, List.forall_mem_cons.mpr ⟨rfl, List.forall_mem_cons.mpr ⟨rfl, List.forall_mem_cons.mpr ⟨rfl, fun _ h => absurd h List.not_mem_nil⟩⟩⟩⟩) ?_
  refine lk_wSum S n _ ho ?_ 0 (Nat.zero_le _)
  refine go_iload_n 28 dX7_sumIn_27 rfl rfl ?_
  refine go_ireturn dX7_sumIn_28 rfl (by first | rfl | exact bi_nar) (Nat.le_of_ble_eq_true rfl) (Nat.le_of_ble_eq_true rfl) ?_
  exact ⟨congrArg (fun z => some (Value.int z)) rfl, rfl⟩

def bd_wZer (S : gS) (i : Nat) (p : Int32) : Int32 := (if (rI S 42 i) = 0 then (p + Int32.ofInt (1)) else p)
set_option maxRecDepth 100000 in
set_option maxHeartbeats 1000000 in
theorem lk_wZer {Q : go_Q} (S : gS)  (n : Nat) (s0 : Int32)  (hT : okC S n) (kx : Go mX7_zeroesIn false Q 0 0 30 [(2, .int (itr (bd_wZer S) n s0)), (3, .int (nI n)), (0, .ref 40), (1, .ref 1)] [] (hp S)) : ∀ i, i ≤ n → Go mX7_zeroesIn false Q 0 0 4 [(2, .int (itr (bd_wZer S) i s0)), (3, .int (nI i)), (0, .ref 40), (1, .ref 1)] [] (hp S) := by
  refine g_dn _ (n) (fun i hi ih => ?_)
  have ih2 : i < n → Go mX7_zeroesIn false Q 0 0 4 [(2, .int ((bd_wZer S) i (itr (bd_wZer S) i s0))), (3, .int (nI (i + 1))), (0, .ref 40), (1, .ref 1)] [] (hp S) := ih
  have kx2 : i = n → Go mX7_zeroesIn false Q 0 0 30 [(2, .int (itr (bd_wZer S) i s0)), (3, .int (nI i)), (0, .ref 40), (1, .ref 1)] [] (hp S) := by
    rintro rfl
    exact kx
  clear ih kx
  revert ih2 kx2
  generalize itr (bd_wZer S) i s0 = p
  intro ih2 kx2
  have h24 := hT.2.1
  refine go_iload_n 5 dX7_zeroesIn_4 rfl rfl ?_
  refine go_aload_n 6 dX7_zeroesIn_5 rfl rfl ?_
  refine g_getI 9 dX7_zeroesIn_6 rfl fF_RX7_32 ly_1 rfl ?_
  refine go_icmp_ge 12 30 dX7_zeroesIn_9 rfl (by decide) (fun hc1 => ?_) (fun hc1 => ?_)
  · have hv : i = n := by
      have h8 := hc1
      rw [hT.1, nI_le2 (by omega) (by omega)] at h8
      omega
    refine go_ls [(2, .int _), (3, .int _), (0, .ref 40), (1, .ref 1)] (List.forall_mem_cons.mpr ⟨rfl, List.forall_mem_cons.mpr ⟨rfl, List.forall_mem_cons.mpr ⟨rfl, List.forall_mem_cons.mpr ⟨rfl, fun _ h => absurd h List.not_mem_nil⟩⟩⟩⟩) ?_
    exact kx2 hv
  · have hv : i < n := by
      have h8 := hc1
      rw [hT.1, nI_le2 (by omega) (by omega)] at h8
      omega
    clear hc1
    have hcl := nI_c (n := i) (by omega)
    refine go_aload_n 13 dX7_zeroesIn_12 rfl rfl ?_
    refine g_getR 16 dX7_zeroesIn_13 rfl fF_RX7_15 ly_40 rfl ?_
    refine go_iload_n 17 dX7_zeroesIn_16 rfl rfl ?_
    refine g_iald2 18 i dX7_zeroesIn_17 rfl ly_42 (nI_i (by have := hv; omega) (by omega)) hcl ?_
    refine go_if_ne 21 24 dX7_zeroesIn_18 rfl (by decide) (fun hc2 => ?_) (fun hc2 => ?_)
    · refine go_iinc 27 [(3, .int _), (2, .int _), (0, .ref 40), (1, .ref 1)] (nI (i + 1)) dX7_zeroesIn_24 rfl (Nat.le_of_ble_eq_true rfl) rfl (nI_inc i) rfl ?_
      refine go_goto 4 dX7_zeroesIn_27 (by decide) ?_
      refine go_ls [(2, .int _), (3, .int _), (0, .ref 40), (1, .ref 1)] (List.forall_mem_cons.mpr ⟨rfl, List.forall_mem_cons.mpr ⟨rfl, List.forall_mem_cons.mpr ⟨rfl, List.forall_mem_cons.mpr ⟨rfl, fun _ h => absurd h List.not_mem_nil⟩⟩⟩⟩) ?_
      refine g_l1 (a' := bd_wZer S i p) (by unfold bd_wZer; simp only [if_neg hc2]; try first | rfl | contradiction) ?_
      exact ih2 (by omega)
    · refine go_iinc 24 [(2, .int _), (3, .int _), (0, .ref 40), (1, .ref 1)] _ dX7_zeroesIn_21 rfl (Nat.le_of_ble_eq_true rfl) rfl rfl rfl ?_
      refine go_iinc 27 [(3, .int _), (2, .int _), (0, .ref 40), (1, .ref 1)] (nI (i + 1)) dX7_zeroesIn_24 rfl (Nat.le_of_ble_eq_true rfl) rfl (nI_inc i) rfl ?_
      refine go_goto 4 dX7_zeroesIn_27 (by decide) ?_
      refine go_ls [(2, .int _), (3, .int _), (0, .ref 40), (1, .ref 1)] (List.forall_mem_cons.mpr ⟨rfl, List.forall_mem_cons.mpr ⟨rfl, List.forall_mem_cons.mpr ⟨rfl, List.forall_mem_cons.mpr ⟨rfl, fun _ h => absurd h List.not_mem_nil⟩⟩⟩⟩) ?_
      refine g_l1 (a' := bd_wZer S i p) (by unfold bd_wZer; simp only [if_pos hc2]; try first | rfl | contradiction) ?_
      exact ih2 (by omega)

def f_X7_zeroesIn (S : gS) (n : Nat) : Int32 := (itr (bd_wZer S) n 0)
set_option maxRecDepth 100000 in
set_option maxHeartbeats 1000000 in
theorem ct_X7_zeroesIn (S : gS) (n : Nat) (ho : okC S n) : gF mX7_zeroesIn [.ref 40, .ref 1] S (some (.int (f_X7_zeroesIn S n))) S := by
  refine go_enter [.ref 40, .ref 1] [(0, .ref 40), (1, .ref 1)] (by decide +kernel) rfl rfl (Nat.le_of_ble_eq_true rfl) rfl ?_
  refine go_iconst 1 (0) dX7_zeroesIn_0 rfl (by decide) ?_
  refine go_istore_n 2 [(2, .int _), (0, .ref 40), (1, .ref 1)] dX7_zeroesIn_1 rfl (Nat.le_of_ble_eq_true rfl) rfl ?_
  refine go_iconst 3 (0) dX7_zeroesIn_2 rfl (by decide) ?_
  refine go_istore_n 4 [(3, .int _), (2, .int _), (0, .ref 40), (1, .ref 1)] dX7_zeroesIn_3 rfl (Nat.le_of_ble_eq_true rfl) rfl ?_
  refine go_ls [(2, .int _), (3, .int _), (0, .ref 40), (1, .ref 1)] (List.forall_mem_cons.mpr ⟨rfl, List.forall_mem_cons.mpr ⟨rfl, List.forall_mem_cons.mpr ⟨rfl, List.forall_mem_cons.mpr ⟨rfl, fun _ h => absurd h List.not_mem_nil⟩⟩⟩⟩) ?_
  refine lk_wZer S n _ ho ?_ 0 (Nat.zero_le _)
  refine go_iload_n 31 dX7_zeroesIn_30 rfl rfl ?_
  refine go_ireturn dX7_zeroesIn_31 rfl (by first | rfl | exact bi_nar) (Nat.le_of_ble_eq_true rfl) (Nat.le_of_ble_eq_true rfl) ?_
  exact ⟨congrArg (fun z => some (Value.int z)) rfl, rfl⟩

