-- needs 
def f_X1_forget (S : gS)  : gS := (wI S 112 0 0)
set_option maxRecDepth 100000 in
set_option maxHeartbeats 1000000 in
theorem ct_X1_forget (S : gS)   : gF mX1_forget [.ref 112] S none (f_X1_forget S) := by
  refine go_enter [.ref 112] [(0, .ref 112)] (by decide +kernel) rfl rfl (Nat.le_of_ble_eq_true rfl) rfl ?_
  refine go_aload_n 1 dX1_forget_0 rfl rfl ?_
  refine go_iconst 2 (0) dX1_forget_1 rfl (by decide) ?_
  refine g_putI 5 dX1_forget_2 rfl fF_RX1_9 ly_112 rfl (fun q hq => by cases hq; rfl) rfl rfl ?_
  refine go_return dX1_forget_5 rfl (Nat.le_of_ble_eq_true rfl) (Nat.le_of_ble_eq_true rfl) ?_
  exact ⟨rfl, congrArg hp rfl⟩
theorem fr_f_X1_forget {a0 c0 : Nat} (h112_0 : ¬ (a0 = 112 ∧ c0 = 0)) (S : gS)  : rI (f_X1_forget S) a0 c0 = rI S a0 c0 := by
  unfold f_X1_forget
  (repeat' split) <;> simp only [rI_wIc h112_0]

def f_X1_become (S : gS) (a b c : Int32) : gS := (wI (wI (wI (wI (wI S 113 0 1) 114 0 a) 113 1 b) 114 1 c) 112 0 2)
set_option maxRecDepth 100000 in
set_option maxHeartbeats 1000000 in
theorem ct_X1_become (S : gS) (a b c : Int32)  : gF mX1_become [.ref 112, .int a, .int b, .int c] S none (f_X1_become S a b c) := by
  refine go_enter [.ref 112, .int a, .int b, .int c] [(0, .ref 112), (1, .int a), (2, .int b), (3, .int c)] (by decide +kernel) rfl rfl (Nat.le_of_ble_eq_true rfl) rfl ?_
  refine go_aload_n 1 dX1_become_0 rfl rfl ?_
  refine g_getR 4 dX1_become_1 rfl fF_RX1_15 ly_112 rfl ?_
  refine go_iconst 5 (0) dX1_become_4 rfl (by decide) ?_
  refine go_iconst 6 (1) dX1_become_5 rfl (by decide) ?_
  refine g_iast2 7 0 dX1_become_6 rfl ly_113 (by unfold vp_in; decide) rfl ?_
  refine go_aload_n 8 dX1_become_7 rfl rfl ?_
  refine g_getR 11 dX1_become_8 rfl fF_RX1_19 ly_112 rfl ?_
  refine go_iconst 12 (0) dX1_become_11 rfl (by decide) ?_
  refine go_iload_n 13 dX1_become_12 rfl rfl ?_
  refine g_iast2 14 0 dX1_become_13 rfl ly_114 (by unfold vp_in; decide) rfl ?_
  refine go_aload_n 15 dX1_become_14 rfl rfl ?_
  refine g_getR 18 dX1_become_15 rfl fF_RX1_15 ly_112 rfl ?_
  refine go_iconst 19 (1) dX1_become_18 rfl (by decide) ?_
  refine go_iload_n 20 dX1_become_19 rfl rfl ?_
  refine g_iast2 21 1 dX1_become_20 rfl ly_113 (by unfold vp_in; decide) rfl ?_
  refine go_aload_n 22 dX1_become_21 rfl rfl ?_
  refine g_getR 25 dX1_become_22 rfl fF_RX1_19 ly_112 rfl ?_
  refine go_iconst 26 (1) dX1_become_25 rfl (by decide) ?_
  refine go_iload_n 27 dX1_become_26 rfl rfl ?_
  refine g_iast2 28 1 dX1_become_27 rfl ly_114 (by unfold vp_in; decide) rfl ?_
  refine go_aload_n 29 dX1_become_28 rfl rfl ?_
  refine go_iconst 30 (2) dX1_become_29 rfl (by decide) ?_
  refine g_putI 33 dX1_become_30 rfl fF_RX1_9 ly_112 rfl (fun q hq => by cases hq; rfl) rfl rfl ?_
  refine go_return dX1_become_33 rfl (Nat.le_of_ble_eq_true rfl) (Nat.le_of_ble_eq_true rfl) ?_
  exact ⟨rfl, congrArg hp rfl⟩
theorem fr_f_X1_become {a0 c0 : Nat} (h112_0 : ¬ (a0 = 112 ∧ c0 = 0)) (h113 : a0 ≠ 113) (h114 : a0 ≠ 114) (S : gS) (a b c : Int32) : rI (f_X1_become S a b c) a0 c0 = rI S a0 c0 := by
  unfold f_X1_become
  (repeat' split) <;> simp only [rI_wIc h112_0, rI_wIk h113, rI_wRk h113, rI_wIk h114, rI_wRk h114]

def f_X1_addCause (S : gS) (a b : Int32) : gS := (wI (wI (wI S 113 2 a) 114 2 b) 112 0 3)
set_option maxRecDepth 100000 in
set_option maxHeartbeats 1000000 in
theorem ct_X1_addCause (S : gS) (a b : Int32)  : gF mX1_addCause [.ref 112, .int a, .int b] S none (f_X1_addCause S a b) := by
  refine go_enter [.ref 112, .int a, .int b] [(0, .ref 112), (1, .int a), (2, .int b)] (by decide +kernel) rfl rfl (Nat.le_of_ble_eq_true rfl) rfl ?_
  refine go_aload_n 1 dX1_addCause_0 rfl rfl ?_
  refine g_getR 4 dX1_addCause_1 rfl fF_RX1_15 ly_112 rfl ?_
  refine go_iconst 5 (2) dX1_addCause_4 rfl (by decide) ?_
  refine go_iload_n 6 dX1_addCause_5 rfl rfl ?_
  refine g_iast2 7 2 dX1_addCause_6 rfl ly_113 (by unfold vp_in; decide) rfl ?_
  refine go_aload_n 8 dX1_addCause_7 rfl rfl ?_
  refine g_getR 11 dX1_addCause_8 rfl fF_RX1_19 ly_112 rfl ?_
  refine go_iconst 12 (2) dX1_addCause_11 rfl (by decide) ?_
  refine go_iload_n 13 dX1_addCause_12 rfl rfl ?_
  refine g_iast2 14 2 dX1_addCause_13 rfl ly_114 (by unfold vp_in; decide) rfl ?_
  refine go_aload_n 15 dX1_addCause_14 rfl rfl ?_
  refine go_iconst 16 (3) dX1_addCause_15 rfl (by decide) ?_
  refine g_putI 19 dX1_addCause_16 rfl fF_RX1_9 ly_112 rfl (fun q hq => by cases hq; rfl) rfl rfl ?_
  refine go_return dX1_addCause_19 rfl (Nat.le_of_ble_eq_true rfl) (Nat.le_of_ble_eq_true rfl) ?_
  exact ⟨rfl, congrArg hp rfl⟩
theorem fr_f_X1_addCause {a0 c0 : Nat} (h112_0 : ¬ (a0 = 112 ∧ c0 = 0)) (h113 : a0 ≠ 113) (h114 : a0 ≠ 114) (S : gS) (a b : Int32) : rI (f_X1_addCause S a b) a0 c0 = rI S a0 c0 := by
  unfold f_X1_addCause
  (repeat' split) <;> simp only [rI_wIc h112_0, rI_wIk h113, rI_wRk h113, rI_wIk h114, rI_wRk h114]

def f_nlz (v : Int32) : Int32 := (if (0 : Int32) < v then (if v < 65536 then (if v < 256 then (if v < 16 then (if v < 4 then ((31 : Int32) - (ushr v 1)) else ((29 : Int32) - (ushr ((ushr v 2)) 1))) else (if (ushr v 4) < 4 then ((27 : Int32) - (ushr ((ushr v 4)) 1)) else ((25 : Int32) - (ushr ((ushr ((ushr v 4)) 2)) 1)))) else (if (ushr v 8) < 16 then (if (ushr v 8) < 4 then ((23 : Int32) - (ushr ((ushr v 8)) 1)) else ((21 : Int32) - (ushr ((ushr ((ushr v 8)) 2)) 1))) else (if (ushr ((ushr v 8)) 4) < 4 then ((19 : Int32) - (ushr ((ushr ((ushr v 8)) 4)) 1)) else ((17 : Int32) - (ushr ((ushr ((ushr ((ushr v 8)) 4)) 2)) 1))))) else (if (ushr v 16) < 256 then (if (ushr v 16) < 16 then (if (ushr v 16) < 4 then ((15 : Int32) - (ushr ((ushr v 16)) 1)) else ((13 : Int32) - (ushr ((ushr ((ushr v 16)) 2)) 1))) else (if (ushr ((ushr v 16)) 4) < 4 then ((11 : Int32) - (ushr ((ushr ((ushr v 16)) 4)) 1)) else ((9 : Int32) - (ushr ((ushr ((ushr ((ushr v 16)) 4)) 2)) 1)))) else (if (ushr ((ushr v 16)) 8) < 16 then (if (ushr ((ushr v 16)) 8) < 4 then ((7 : Int32) - (ushr ((ushr ((ushr v 16)) 8)) 1)) else ((5 : Int32) - (ushr ((ushr ((ushr ((ushr v 16)) 8)) 2)) 1))) else (if (ushr ((ushr ((ushr v 16)) 8)) 4) < 4 then ((3 : Int32) - (ushr ((ushr ((ushr ((ushr v 16)) 8)) 4)) 1)) else ((1 : Int32) - (ushr ((ushr ((ushr ((ushr ((ushr v 16)) 8)) 4)) 2)) 1)))))) else (if v = 0 then 32 else 0))
set_option maxRecDepth 100000 in
set_option maxHeartbeats 1000000 in
theorem ct_J6_numberOfLeadingZeros_0f7a4 (S : gS) (v : Int32)  : gF mJ6_numberOfLeadingZeros_0f7a4 [.int v] S (some (.int (f_nlz v))) S := by
  refine go_enter [.int v] [(0, .int v)] (by decide +kernel) rfl rfl (Nat.le_of_ble_eq_true rfl) rfl ?_
  refine go_iload_n 1 dJ6_numberOfLeadingZeros_0f7a4_0 rfl rfl ?_
  refine go_if_gt 4 15 dJ6_numberOfLeadingZeros_0f7a4_1 rfl (by decide) (fun hc1 => ?_) (fun hc1 => ?_)
  · refine go_bipush 17 (31) dJ6_numberOfLeadingZeros_0f7a4_15 rfl (by decide) ?_
    refine go_istore_n 18 [(1, .int _), (0, .int _)] dJ6_numberOfLeadingZeros_0f7a4_17 rfl (Nat.le_of_ble_eq_true rfl) rfl ?_
    refine go_iload_n 19 dJ6_numberOfLeadingZeros_0f7a4_18 rfl rfl ?_
    refine go_ldc_w 22 (65536) dJ6_numberOfLeadingZeros_0f7a4_19 rfl wK_RJ6_264 ?_
    refine go_icmp_lt 25 33 dJ6_numberOfLeadingZeros_0f7a4_22 rfl (by decide) (fun hc2 => ?_) (fun hc2 => ?_)
    · refine go_iload_n 34 dJ6_numberOfLeadingZeros_0f7a4_33 rfl rfl ?_
      refine go_sipush 37 (256) dJ6_numberOfLeadingZeros_0f7a4_34 rfl (by decide) ?_
      refine go_icmp_lt 40 48 dJ6_numberOfLeadingZeros_0f7a4_37 rfl (by decide) (fun hc3 => ?_) (fun hc3 => ?_)
      · refine go_iload_n 49 dJ6_numberOfLeadingZeros_0f7a4_48 rfl rfl ?_
        refine go_bipush 51 (16) dJ6_numberOfLeadingZeros_0f7a4_49 rfl (by decide) ?_
        refine go_icmp_lt 54 61 dJ6_numberOfLeadingZeros_0f7a4_51 rfl (by decide) (fun hc4 => ?_) (fun hc4 => ?_)
        · refine go_iload_n 62 dJ6_numberOfLeadingZeros_0f7a4_61 rfl rfl ?_
          refine go_iconst 63 (4) dJ6_numberOfLeadingZeros_0f7a4_62 rfl (by decide) ?_
          refine go_icmp_lt 66 73 dJ6_numberOfLeadingZeros_0f7a4_63 rfl (by decide) (fun hc5 => ?_) (fun hc5 => ?_)
          · refine go_iload_n 74 dJ6_numberOfLeadingZeros_0f7a4_73 rfl rfl ?_
            refine go_iload_n 75 dJ6_numberOfLeadingZeros_0f7a4_74 rfl rfl ?_
            refine go_iconst 76 (1) dJ6_numberOfLeadingZeros_0f7a4_75 rfl (by decide) ?_
            refine go_iushr 77 dJ6_numberOfLeadingZeros_0f7a4_76 rfl ?_
            refine go_topi (ushr _ _) rfl ?_
            refine go_isub 78 dJ6_numberOfLeadingZeros_0f7a4_77 rfl ?_
            refine go_ireturn dJ6_numberOfLeadingZeros_0f7a4_78 rfl (by first | rfl | exact bi_nar) (Nat.le_of_ble_eq_true rfl) (Nat.le_of_ble_eq_true rfl) ?_
            exact ⟨congrArg (fun z => some (Value.int z)) (by unfold f_nlz; simp only [if_pos hc1, if_pos hc2, if_pos hc3, if_pos hc4, if_pos hc5]; try rfl), rfl⟩
          · refine go_iinc 69 [(1, .int _), (0, .int _)] (29) dJ6_numberOfLeadingZeros_0f7a4_66 rfl (Nat.le_of_ble_eq_true rfl) rfl (by decide) rfl ?_
            refine go_iload_n 70 dJ6_numberOfLeadingZeros_0f7a4_69 rfl rfl ?_
            refine go_iconst 71 (2) dJ6_numberOfLeadingZeros_0f7a4_70 rfl (by decide) ?_
            refine go_iushr 72 dJ6_numberOfLeadingZeros_0f7a4_71 rfl ?_
            refine go_topi (ushr _ _) rfl ?_
            refine go_istore_n 73 [(0, .int _), (1, .int _)] dJ6_numberOfLeadingZeros_0f7a4_72 rfl (Nat.le_of_ble_eq_true rfl) rfl ?_
            refine go_iload_n 74 dJ6_numberOfLeadingZeros_0f7a4_73 rfl rfl ?_
            refine go_iload_n 75 dJ6_numberOfLeadingZeros_0f7a4_74 rfl rfl ?_
            refine go_iconst 76 (1) dJ6_numberOfLeadingZeros_0f7a4_75 rfl (by decide) ?_
            refine go_iushr 77 dJ6_numberOfLeadingZeros_0f7a4_76 rfl ?_
            refine go_topi (ushr _ _) rfl ?_
            refine go_isub 78 dJ6_numberOfLeadingZeros_0f7a4_77 rfl ?_
            refine go_ireturn dJ6_numberOfLeadingZeros_0f7a4_78 rfl (by first | rfl | exact bi_nar) (Nat.le_of_ble_eq_true rfl) (Nat.le_of_ble_eq_true rfl) ?_
            exact ⟨congrArg (fun z => some (Value.int z)) (by unfold f_nlz; simp only [if_pos hc1, if_pos hc2, if_pos hc3, if_pos hc4, if_neg hc5]; try rfl), rfl⟩
        · refine go_iinc 57 [(1, .int _), (0, .int _)] (27) dJ6_numberOfLeadingZeros_0f7a4_54 rfl (Nat.le_of_ble_eq_true rfl) rfl (by decide) rfl ?_
          refine go_iload_n 58 dJ6_numberOfLeadingZeros_0f7a4_57 rfl rfl ?_
          refine go_iconst 59 (4) dJ6_numberOfLeadingZeros_0f7a4_58 rfl (by decide) ?_
          refine go_iushr 60 dJ6_numberOfLeadingZeros_0f7a4_59 rfl ?_
          refine go_topi (ushr _ _) rfl ?_
          refine go_istore_n 61 [(0, .int _), (1, .int _)] dJ6_numberOfLeadingZeros_0f7a4_60 rfl (Nat.le_of_ble_eq_true rfl) rfl ?_
          refine go_iload_n 62 dJ6_numberOfLeadingZeros_0f7a4_61 rfl rfl ?_
          refine go_iconst 63 (4) dJ6_numberOfLeadingZeros_0f7a4_62 rfl (by decide) ?_
          refine go_icmp_lt 66 73 dJ6_numberOfLeadingZeros_0f7a4_63 rfl (by decide) (fun hc6 => ?_) (fun hc6 => ?_)
          · refine go_iload_n 74 dJ6_numberOfLeadingZeros_0f7a4_73 rfl rfl ?_
            refine go_iload_n 75 dJ6_numberOfLeadingZeros_0f7a4_74 rfl rfl ?_
            refine go_iconst 76 (1) dJ6_numberOfLeadingZeros_0f7a4_75 rfl (by decide) ?_
            refine go_iushr 77 dJ6_numberOfLeadingZeros_0f7a4_76 rfl ?_
            refine go_topi (ushr _ _) rfl ?_
            refine go_isub 78 dJ6_numberOfLeadingZeros_0f7a4_77 rfl ?_
            refine go_ireturn dJ6_numberOfLeadingZeros_0f7a4_78 rfl (by first | rfl | exact bi_nar) (Nat.le_of_ble_eq_true rfl) (Nat.le_of_ble_eq_true rfl) ?_
            exact ⟨congrArg (fun z => some (Value.int z)) (by unfold f_nlz; simp only [if_pos hc1, if_pos hc2, if_pos hc3, if_neg hc4, if_pos hc6]; try rfl), rfl⟩
          · refine go_iinc 69 [(1, .int _), (0, .int _)] (25) dJ6_numberOfLeadingZeros_0f7a4_66 rfl (Nat.le_of_ble_eq_true rfl) rfl (by decide) rfl ?_
            refine go_iload_n 70 dJ6_numberOfLeadingZeros_0f7a4_69 rfl rfl ?_
            refine go_iconst 71 (2) dJ6_numberOfLeadingZeros_0f7a4_70 rfl (by decide) ?_
            refine go_iushr 72 dJ6_numberOfLeadingZeros_0f7a4_71 rfl ?_
            refine go_topi (ushr _ _) rfl ?_
            refine go_istore_n 73 [(0, .int _), (1, .int _)] dJ6_numberOfLeadingZeros_0f7a4_72 rfl (Nat.le_of_ble_eq_true rfl) rfl ?_
            refine go_iload_n 74 dJ6_numberOfLeadingZeros_0f7a4_73 rfl rfl ?_
            refine go_iload_n 75 dJ6_numberOfLeadingZeros_0f7a4_74 rfl rfl ?_
            refine go_iconst 76 (1) dJ6_numberOfLeadingZeros_0f7a4_75 rfl (by decide) ?_
            refine go_iushr 77 dJ6_numberOfLeadingZeros_0f7a4_76 rfl ?_
            refine go_topi (ushr _ _) rfl ?_
            refine go_isub 78 dJ6_numberOfLeadingZeros_0f7a4_77 rfl ?_
            refine go_ireturn dJ6_numberOfLeadingZeros_0f7a4_78 rfl (by first | rfl | exact bi_nar) (Nat.le_of_ble_eq_true rfl) (Nat.le_of_ble_eq_true rfl) ?_
            exact ⟨congrArg (fun z => some (Value.int z)) (by unfold f_nlz; simp only [if_pos hc1, if_pos hc2, if_pos hc3, if_neg hc4, if_neg hc6]; try rfl), rfl⟩
      · refine go_iinc 43 [(1, .int _), (0, .int _)] (23) dJ6_numberOfLeadingZeros_0f7a4_40 rfl (Nat.le_of_ble_eq_true rfl) rfl (by decide) rfl ?_
        refine go_iload_n 44 dJ6_numberOfLeadingZeros_0f7a4_43 rfl rfl ?_
        refine go_bipush 46 (8) dJ6_numberOfLeadingZeros_0f7a4_44 rfl (by decide) ?_
        refine go_iushr 47 dJ6_numberOfLeadingZeros_0f7a4_46 rfl ?_
        refine go_topi (ushr _ _) rfl ?_
        refine go_istore_n 48 [(0, .int _), (1, .int _)] dJ6_numberOfLeadingZeros_0f7a4_47 rfl (Nat.le_of_ble_eq_true rfl) rfl ?_
        refine go_iload_n 49 dJ6_numberOfLeadingZeros_0f7a4_48 rfl rfl ?_
        refine go_bipush 51 (16) dJ6_numberOfLeadingZeros_0f7a4_49 rfl (by decide) ?_
        refine go_icmp_lt 54 61 dJ6_numberOfLeadingZeros_0f7a4_51 rfl (by decide) (fun hc7 => ?_) (fun hc7 => ?_)
        · refine go_iload_n 62 dJ6_numberOfLeadingZeros_0f7a4_61 rfl rfl ?_
          refine go_iconst 63 (4) dJ6_numberOfLeadingZeros_0f7a4_62 rfl (by decide) ?_
          refine go_icmp_lt 66 73 dJ6_numberOfLeadingZeros_0f7a4_63 rfl (by decide) (fun hc8 => ?_) (fun hc8 => ?_)
          · refine go_iload_n 74 dJ6_numberOfLeadingZeros_0f7a4_73 rfl rfl ?_
            refine go_iload_n 75 dJ6_numberOfLeadingZeros_0f7a4_74 rfl rfl ?_
            refine go_iconst 76 (1) dJ6_numberOfLeadingZeros_0f7a4_75 rfl (by decide) ?_
            refine go_iushr 77 dJ6_numberOfLeadingZeros_0f7a4_76 rfl ?_
            refine go_topi (ushr _ _) rfl ?_
            refine go_isub 78 dJ6_numberOfLeadingZeros_0f7a4_77 rfl ?_
            refine go_ireturn dJ6_numberOfLeadingZeros_0f7a4_78 rfl (by first | rfl | exact bi_nar) (Nat.le_of_ble_eq_true rfl) (Nat.le_of_ble_eq_true rfl) ?_
            exact ⟨congrArg (fun z => some (Value.int z)) (by unfold f_nlz; simp only [if_pos hc1, if_pos hc2, if_neg hc3, if_pos hc7, if_pos hc8]; try rfl), rfl⟩
          · refine go_iinc 69 [(1, .int _), (0, .int _)] (21) dJ6_numberOfLeadingZeros_0f7a4_66 rfl (Nat.le_of_ble_eq_true rfl) rfl (by decide) rfl ?_
            refine go_iload_n 70 dJ6_numberOfLeadingZeros_0f7a4_69 rfl rfl ?_
            refine go_iconst 71 (2) dJ6_numberOfLeadingZeros_0f7a4_70 rfl (by decide) ?_
            refine go_iushr 72 dJ6_numberOfLeadingZeros_0f7a4_71 rfl ?_
            refine go_topi (ushr _ _) rfl ?_
            refine go_istore_n 73 [(0, .int _), (1, .int _)] dJ6_numberOfLeadingZeros_0f7a4_72 rfl (Nat.le_of_ble_eq_true rfl) rfl ?_
            refine go_iload_n 74 dJ6_numberOfLeadingZeros_0f7a4_73 rfl rfl ?_
            refine go_iload_n 75 dJ6_numberOfLeadingZeros_0f7a4_74 rfl rfl ?_
            refine go_iconst 76 (1) dJ6_numberOfLeadingZeros_0f7a4_75 rfl (by decide) ?_
            refine go_iushr 77 dJ6_numberOfLeadingZeros_0f7a4_76 rfl ?_
            refine go_topi (ushr _ _) rfl ?_
            refine go_isub 78 dJ6_numberOfLeadingZeros_0f7a4_77 rfl ?_
            refine go_ireturn dJ6_numberOfLeadingZeros_0f7a4_78 rfl (by first | rfl | exact bi_nar) (Nat.le_of_ble_eq_true rfl) (Nat.le_of_ble_eq_true rfl) ?_
            exact ⟨congrArg (fun z => some (Value.int z)) (by unfold f_nlz; simp only [if_pos hc1, if_pos hc2, if_neg hc3, if_pos hc7, if_neg hc8]; try rfl), rfl⟩
        · refine go_iinc 57 [(1, .int _), (0, .int _)] (19) dJ6_numberOfLeadingZeros_0f7a4_54 rfl (Nat.le_of_ble_eq_true rfl) rfl (by decide) rfl ?_
          refine go_iload_n 58 dJ6_numberOfLeadingZeros_0f7a4_57 rfl rfl ?_
          refine go_iconst 59 (4) dJ6_numberOfLeadingZeros_0f7a4_58 rfl (by decide) ?_
          refine go_iushr 60 dJ6_numberOfLeadingZeros_0f7a4_59 rfl ?_
          refine go_topi (ushr _ _) rfl ?_
          refine go_istore_n 61 [(0, .int _), (1, .int _)] dJ6_numberOfLeadingZeros_0f7a4_60 rfl (Nat.le_of_ble_eq_true rfl) rfl ?_
          refine go_iload_n 62 dJ6_numberOfLeadingZeros_0f7a4_61 rfl rfl ?_
          refine go_iconst 63 (4) dJ6_numberOfLeadingZeros_0f7a4_62 rfl (by decide) ?_
          refine go_icmp_lt 66 73 dJ6_numberOfLeadingZeros_0f7a4_63 rfl (by decide) (fun hc9 => ?_) (fun hc9 => ?_)
          · refine go_iload_n 74 dJ6_numberOfLeadingZeros_0f7a4_73 rfl rfl ?_
            refine go_iload_n 75 dJ6_numberOfLeadingZeros_0f7a4_74 rfl rfl ?_
            refine go_iconst 76 (1) dJ6_numberOfLeadingZeros_0f7a4_75 rfl (by decide) ?_
            refine go_iushr 77 dJ6_numberOfLeadingZeros_0f7a4_76 rfl ?_
            refine go_topi (ushr _ _) rfl ?_
            refine go_isub 78 dJ6_numberOfLeadingZeros_0f7a4_77 rfl ?_
            refine go_ireturn dJ6_numberOfLeadingZeros_0f7a4_78 rfl (by first | rfl | exact bi_nar) (Nat.le_of_ble_eq_true rfl) (Nat.le_of_ble_eq_true rfl) ?_
            exact ⟨congrArg (fun z => some (Value.int z)) (by unfold f_nlz; simp only [if_pos hc1, if_pos hc2, if_neg hc3, if_neg hc7, if_pos hc9]; try rfl), rfl⟩
          · refine go_iinc 69 [(1, .int _), (0, .int _)] (17) dJ6_numberOfLeadingZeros_0f7a4_66 rfl (Nat.le_of_ble_eq_true rfl) rfl (by decide) rfl ?_
            refine go_iload_n 70 dJ6_numberOfLeadingZeros_0f7a4_69 rfl rfl ?_
            refine go_iconst 71 (2) dJ6_numberOfLeadingZeros_0f7a4_70 rfl (by decide) ?_
            refine go_iushr 72 dJ6_numberOfLeadingZeros_0f7a4_71 rfl ?_
            refine go_topi (ushr _ _) rfl ?_
            refine go_istore_n 73 [(0, .int _), (1, .int _)] dJ6_numberOfLeadingZeros_0f7a4_72 rfl (Nat.le_of_ble_eq_true rfl) rfl ?_
            refine go_iload_n 74 dJ6_numberOfLeadingZeros_0f7a4_73 rfl rfl ?_
            refine go_iload_n 75 dJ6_numberOfLeadingZeros_0f7a4_74 rfl rfl ?_
            refine go_iconst 76 (1) dJ6_numberOfLeadingZeros_0f7a4_75 rfl (by decide) ?_
            refine go_iushr 77 dJ6_numberOfLeadingZeros_0f7a4_76 rfl ?_
            refine go_topi (ushr _ _) rfl ?_
            refine go_isub 78 dJ6_numberOfLeadingZeros_0f7a4_77 rfl ?_
            refine go_ireturn dJ6_numberOfLeadingZeros_0f7a4_78 rfl (by first | rfl | exact bi_nar) (Nat.le_of_ble_eq_true rfl) (Nat.le_of_ble_eq_true rfl) ?_
            exact ⟨congrArg (fun z => some (Value.int z)) (by unfold f_nlz; simp only [if_pos hc1, if_pos hc2, if_neg hc3, if_neg hc7, if_neg hc9]; try rfl), rfl⟩
    · refine go_iinc 28 [(1, .int _), (0, .int _)] (15) dJ6_numberOfLeadingZeros_0f7a4_25 rfl (Nat.le_of_ble_eq_true rfl) rfl (by decide) rfl ?_
      refine go_iload_n 29 dJ6_numberOfLeadingZeros_0f7a4_28 rfl rfl ?_
      refine go_bipush 31 (16) dJ6_numberOfLeadingZeros_0f7a4_29 rfl (by decide) ?_
      refine go_iushr 32 dJ6_numberOfLeadingZeros_0f7a4_31 rfl ?_
      refine go_topi (ushr _ _) rfl ?_
      refine go_istore_n 33 [(0, .int _), (1, .int _)] dJ6_numberOfLeadingZeros_0f7a4_32 rfl (Nat.le_of_ble_eq_true rfl) rfl ?_
      refine go_iload_n 34 dJ6_numberOfLeadingZeros_0f7a4_33 rfl rfl ?_
      refine go_sipush 37 (256) dJ6_numberOfLeadingZeros_0f7a4_34 rfl (by decide) ?_
      refine go_icmp_lt 40 48 dJ6_numberOfLeadingZeros_0f7a4_37 rfl (by decide) (fun hc10 => ?_) (fun hc10 => ?_)
      · refine go_iload_n 49 dJ6_numberOfLeadingZeros_0f7a4_48 rfl rfl ?_
        refine go_bipush 51 (16) dJ6_numberOfLeadingZeros_0f7a4_49 rfl (by decide) ?_
        refine go_icmp_lt 54 61 dJ6_numberOfLeadingZeros_0f7a4_51 rfl (by decide) (fun hc11 => ?_) (fun hc11 => ?_)
        · refine go_iload_n 62 dJ6_numberOfLeadingZeros_0f7a4_61 rfl rfl ?_
          refine go_iconst 63 (4) dJ6_numberOfLeadingZeros_0f7a4_62 rfl (by decide) ?_
          refine go_icmp_lt 66 73 dJ6_numberOfLeadingZeros_0f7a4_63 rfl (by decide) (fun hc12 => ?_) (fun hc12 => ?_)
          · refine go_iload_n 74 dJ6_numberOfLeadingZeros_0f7a4_73 rfl rfl ?_
            refine go_iload_n 75 dJ6_numberOfLeadingZeros_0f7a4_74 rfl rfl ?_
            refine go_iconst 76 (1) dJ6_numberOfLeadingZeros_0f7a4_75 rfl (by decide) ?_
            refine go_iushr 77 dJ6_numberOfLeadingZeros_0f7a4_76 rfl ?_
            refine go_topi (ushr _ _) rfl ?_
            refine go_isub 78 dJ6_numberOfLeadingZeros_0f7a4_77 rfl ?_
            refine go_ireturn dJ6_numberOfLeadingZeros_0f7a4_78 rfl (by first | rfl | exact bi_nar) (Nat.le_of_ble_eq_true rfl) (Nat.le_of_ble_eq_true rfl) ?_
            exact ⟨congrArg (fun z => some (Value.int z)) (by unfold f_nlz; simp only [if_pos hc1, if_neg hc2, if_pos hc10, if_pos hc11, if_pos hc12]; try rfl), rfl⟩
          · refine go_iinc 69 [(1, .int _), (0, .int _)] (13) dJ6_numberOfLeadingZeros_0f7a4_66 rfl (Nat.le_of_ble_eq_true rfl) rfl (by decide) rfl ?_
            refine go_iload_n 70 dJ6_numberOfLeadingZeros_0f7a4_69 rfl rfl ?_
            refine go_iconst 71 (2) dJ6_numberOfLeadingZeros_0f7a4_70 rfl (by decide) ?_
            refine go_iushr 72 dJ6_numberOfLeadingZeros_0f7a4_71 rfl ?_
            refine go_topi (ushr _ _) rfl ?_
            refine go_istore_n 73 [(0, .int _), (1, .int _)] dJ6_numberOfLeadingZeros_0f7a4_72 rfl (Nat.le_of_ble_eq_true rfl) rfl ?_
            refine go_iload_n 74 dJ6_numberOfLeadingZeros_0f7a4_73 rfl rfl ?_
            refine go_iload_n 75 dJ6_numberOfLeadingZeros_0f7a4_74 rfl rfl ?_
            refine go_iconst 76 (1) dJ6_numberOfLeadingZeros_0f7a4_75 rfl (by decide) ?_
            refine go_iushr 77 dJ6_numberOfLeadingZeros_0f7a4_76 rfl ?_
            refine go_topi (ushr _ _) rfl ?_
            refine go_isub 78 dJ6_numberOfLeadingZeros_0f7a4_77 rfl ?_
            refine go_ireturn dJ6_numberOfLeadingZeros_0f7a4_78 rfl (by first | rfl | exact bi_nar) (Nat.le_of_ble_eq_true rfl) (Nat.le_of_ble_eq_true rfl) ?_
            exact ⟨congrArg (fun z => some (Value.int z)) (by unfold f_nlz; simp only [if_pos hc1, if_neg hc2, if_pos hc10, if_pos hc11, if_neg hc12]; try rfl), rfl⟩
        · refine go_iinc 57 [(1, .int _), (0, .int _)] (11) dJ6_numberOfLeadingZeros_0f7a4_54 rfl (Nat.le_of_ble_eq_true rfl) rfl (by decide) rfl ?_
          refine go_iload_n 58 dJ6_numberOfLeadingZeros_0f7a4_57 rfl rfl ?_
          refine go_iconst 59 (4) dJ6_numberOfLeadingZeros_0f7a4_58 rfl (by decide) ?_
          refine go_iushr 60 dJ6_numberOfLeadingZeros_0f7a4_59 rfl ?_
          refine go_topi (ushr _ _) rfl ?_
          refine go_istore_n 61 [(0, .int _), (1, .int _)] dJ6_numberOfLeadingZeros_0f7a4_60 rfl (Nat.le_of_ble_eq_true rfl) rfl ?_
          refine go_iload_n 62 dJ6_numberOfLeadingZeros_0f7a4_61 rfl rfl ?_
          refine go_iconst 63 (4) dJ6_numberOfLeadingZeros_0f7a4_62 rfl (by decide) ?_
          refine go_icmp_lt 66 73 dJ6_numberOfLeadingZeros_0f7a4_63 rfl (by decide) (fun hc13 => ?_) (fun hc13 => ?_)
          · refine go_iload_n 74 dJ6_numberOfLeadingZeros_0f7a4_73 rfl rfl ?_
            refine go_iload_n 75 dJ6_numberOfLeadingZeros_0f7a4_74 rfl rfl ?_
            refine go_iconst 76 (1) dJ6_numberOfLeadingZeros_0f7a4_75 rfl (by decide) ?_
            refine go_iushr 77 dJ6_numberOfLeadingZeros_0f7a4_76 rfl ?_
            refine go_topi (ushr _ _) rfl ?_
            refine go_isub 78 dJ6_numberOfLeadingZeros_0f7a4_77 rfl ?_
            refine go_ireturn dJ6_numberOfLeadingZeros_0f7a4_78 rfl (by first | rfl | exact bi_nar) (Nat.le_of_ble_eq_true rfl) (Nat.le_of_ble_eq_true rfl) ?_
            exact ⟨congrArg (fun z => some (Value.int z)) (by unfold f_nlz; simp only [if_pos hc1, if_neg hc2, if_pos hc10, if_neg hc11, if_pos hc13]; try rfl), rfl⟩
          · refine go_iinc 69 [(1, .int _), (0, .int _)] (9) dJ6_numberOfLeadingZeros_0f7a4_66 rfl (Nat.le_of_ble_eq_true rfl) rfl (by decide) rfl ?_
            refine go_iload_n 70 dJ6_numberOfLeadingZeros_0f7a4_69 rfl rfl ?_
            refine go_iconst 71 (2) dJ6_numberOfLeadingZeros_0f7a4_70 rfl (by decide) ?_
            refine go_iushr 72 dJ6_numberOfLeadingZeros_0f7a4_71 rfl ?_
            refine go_topi (ushr _ _) rfl ?_
            refine go_istore_n 73 [(0, .int _), (1, .int _)] dJ6_numberOfLeadingZeros_0f7a4_72 rfl (Nat.le_of_ble_eq_true rfl) rfl ?_
            refine go_iload_n 74 dJ6_numberOfLeadingZeros_0f7a4_73 rfl rfl ?_
            refine go_iload_n 75 dJ6_numberOfLeadingZeros_0f7a4_74 rfl rfl ?_
            refine go_iconst 76 (1) dJ6_numberOfLeadingZeros_0f7a4_75 rfl (by decide) ?_
            refine go_iushr 77 dJ6_numberOfLeadingZeros_0f7a4_76 rfl ?_
            refine go_topi (ushr _ _) rfl ?_
            refine go_isub 78 dJ6_numberOfLeadingZeros_0f7a4_77 rfl ?_
            refine go_ireturn dJ6_numberOfLeadingZeros_0f7a4_78 rfl (by first | rfl | exact bi_nar) (Nat.le_of_ble_eq_true rfl) (Nat.le_of_ble_eq_true rfl) ?_
            exact ⟨congrArg (fun z => some (Value.int z)) (by unfold f_nlz; simp only [if_pos hc1, if_neg hc2, if_pos hc10, if_neg hc11, if_neg hc13]; try rfl), rfl⟩
      · refine go_iinc 43 [(1, .int _), (0, .int _)] (7) dJ6_numberOfLeadingZeros_0f7a4_40 rfl (Nat.le_of_ble_eq_true rfl) rfl (by decide) rfl ?_
        refine go_iload_n 44 dJ6_numberOfLeadingZeros_0f7a4_43 rfl rfl ?_
        refine go_bipush 46 (8) dJ6_numberOfLeadingZeros_0f7a4_44 rfl (by decide) ?_
        refine go_iushr 47 dJ6_numberOfLeadingZeros_0f7a4_46 rfl ?_
        refine go_topi (ushr _ _) rfl ?_
        refine go_istore_n 48 [(0, .int _), (1, .int _)] dJ6_numberOfLeadingZeros_0f7a4_47 rfl (Nat.le_of_ble_eq_true rfl) rfl ?_
        refine go_iload_n 49 dJ6_numberOfLeadingZeros_0f7a4_48 rfl rfl ?_
        refine go_bipush 51 (16) dJ6_numberOfLeadingZeros_0f7a4_49 rfl (by decide) ?_
        refine go_icmp_lt 54 61 dJ6_numberOfLeadingZeros_0f7a4_51 rfl (by decide) (fun hc14 => ?_) (fun hc14 => ?_)
        · refine go_iload_n 62 dJ6_numberOfLeadingZeros_0f7a4_61 rfl rfl ?_
          refine go_iconst 63 (4) dJ6_numberOfLeadingZeros_0f7a4_62 rfl (by decide) ?_
          refine go_icmp_lt 66 73 dJ6_numberOfLeadingZeros_0f7a4_63 rfl (by decide) (fun hc15 => ?_) (fun hc15 => ?_)
          · refine go_iload_n 74 dJ6_numberOfLeadingZeros_0f7a4_73 rfl rfl ?_
            refine go_iload_n 75 dJ6_numberOfLeadingZeros_0f7a4_74 rfl rfl ?_
            refine go_iconst 76 (1) dJ6_numberOfLeadingZeros_0f7a4_75 rfl (by decide) ?_
            refine go_iushr 77 dJ6_numberOfLeadingZeros_0f7a4_76 rfl ?_
            refine go_topi (ushr _ _) rfl ?_
            refine go_isub 78 dJ6_numberOfLeadingZeros_0f7a4_77 rfl ?_
            refine go_ireturn dJ6_numberOfLeadingZeros_0f7a4_78 rfl (by first | rfl | exact bi_nar) (Nat.le_of_ble_eq_true rfl) (Nat.le_of_ble_eq_true rfl) ?_
            exact ⟨congrArg (fun z => some (Value.int z)) (by unfold f_nlz; simp only [if_pos hc1, if_neg hc2, if_neg hc10, if_pos hc14, if_pos hc15]; try rfl), rfl⟩
          · refine go_iinc 69 [(1, .int _), (0, .int _)] (5) dJ6_numberOfLeadingZeros_0f7a4_66 rfl (Nat.le_of_ble_eq_true rfl) rfl (by decide) rfl ?_
            refine go_iload_n 70 dJ6_numberOfLeadingZeros_0f7a4_69 rfl rfl ?_
            refine go_iconst 71 (2) dJ6_numberOfLeadingZeros_0f7a4_70 rfl (by decide) ?_
            refine go_iushr 72 dJ6_numberOfLeadingZeros_0f7a4_71 rfl ?_
            refine go_topi (ushr _ _) rfl ?_
            refine go_istore_n 73 [(0, .int _), (1, .int _)] dJ6_numberOfLeadingZeros_0f7a4_72 rfl (Nat.le_of_ble_eq_true rfl) rfl ?_
            refine go_iload_n 74 dJ6_numberOfLeadingZeros_0f7a4_73 rfl rfl ?_
            refine go_iload_n 75 dJ6_numberOfLeadingZeros_0f7a4_74 rfl rfl ?_
            refine go_iconst 76 (1) dJ6_numberOfLeadingZeros_0f7a4_75 rfl (by decide) ?_
            refine go_iushr 77 dJ6_numberOfLeadingZeros_0f7a4_76 rfl ?_
            refine go_topi (ushr _ _) rfl ?_
            refine go_isub 78 dJ6_numberOfLeadingZeros_0f7a4_77 rfl ?_
            refine go_ireturn dJ6_numberOfLeadingZeros_0f7a4_78 rfl (by first | rfl | exact bi_nar) (Nat.le_of_ble_eq_true rfl) (Nat.le_of_ble_eq_true rfl) ?_
            exact ⟨congrArg (fun z => some (Value.int z)) (by unfold f_nlz; simp only [if_pos hc1, if_neg hc2, if_neg hc10, if_pos hc14, if_neg hc15]; try rfl), rfl⟩
        · refine go_iinc 57 [(1, .int _), (0, .int _)] (3) dJ6_numberOfLeadingZeros_0f7a4_54 rfl (Nat.le_of_ble_eq_true rfl) rfl (by decide) rfl ?_
          refine go_iload_n 58 dJ6_numberOfLeadingZeros_0f7a4_57 rfl rfl ?_
          refine go_iconst 59 (4) dJ6_numberOfLeadingZeros_0f7a4_58 rfl (by decide) ?_
          refine go_iushr 60 dJ6_numberOfLeadingZeros_0f7a4_59 rfl ?_
          refine go_topi (ushr _ _) rfl ?_
          refine go_istore_n 61 [(0, .int _), (1, .int _)] dJ6_numberOfLeadingZeros_0f7a4_60 rfl (Nat.le_of_ble_eq_true rfl) rfl ?_
          refine go_iload_n 62 dJ6_numberOfLeadingZeros_0f7a4_61 rfl rfl ?_
          refine go_iconst 63 (4) dJ6_numberOfLeadingZeros_0f7a4_62 rfl (by decide) ?_
          refine go_icmp_lt 66 73 dJ6_numberOfLeadingZeros_0f7a4_63 rfl (by decide) (fun hc16 => ?_) (fun hc16 => ?_)
          · refine go_iload_n 74 dJ6_numberOfLeadingZeros_0f7a4_73 rfl rfl ?_
            refine go_iload_n 75 dJ6_numberOfLeadingZeros_0f7a4_74 rfl rfl ?_
            refine go_iconst 76 (1) dJ6_numberOfLeadingZeros_0f7a4_75 rfl (by decide) ?_
            refine go_iushr 77 dJ6_numberOfLeadingZeros_0f7a4_76 rfl ?_
            refine go_topi (ushr _ _) rfl ?_
            refine go_isub 78 dJ6_numberOfLeadingZeros_0f7a4_77 rfl ?_
            refine go_ireturn dJ6_numberOfLeadingZeros_0f7a4_78 rfl (by first | rfl | exact bi_nar) (Nat.le_of_ble_eq_true rfl) (Nat.le_of_ble_eq_true rfl) ?_
            exact ⟨congrArg (fun z => some (Value.int z)) (by unfold f_nlz; simp only [if_pos hc1, if_neg hc2, if_neg hc10, if_neg hc14, if_pos hc16]; try rfl), rfl⟩
          · refine go_iinc 69 [(1, .int _), (0, .int _)] (1) dJ6_numberOfLeadingZeros_0f7a4_66 rfl (Nat.le_of_ble_eq_true rfl) rfl (by decide) rfl ?_
            refine go_iload_n 70 dJ6_numberOfLeadingZeros_0f7a4_69 rfl rfl ?_
            refine go_iconst 71 (2) dJ6_numberOfLeadingZeros_0f7a4_70 rfl (by decide) ?_
            refine go_iushr 72 dJ6_numberOfLeadingZeros_0f7a4_71 rfl ?_
            refine go_topi (ushr _ _) rfl ?_
            refine go_istore_n 73 [(0, .int _), (1, .int _)] dJ6_numberOfLeadingZeros_0f7a4_72 rfl (Nat.le_of_ble_eq_true rfl) rfl ?_
            refine go_iload_n 74 dJ6_numberOfLeadingZeros_0f7a4_73 rfl rfl ?_
            refine go_iload_n 75 dJ6_numberOfLeadingZeros_0f7a4_74 rfl rfl ?_
            refine go_iconst 76 (1) dJ6_numberOfLeadingZeros_0f7a4_75 rfl (by decide) ?_
            refine go_iushr 77 dJ6_numberOfLeadingZeros_0f7a4_76 rfl ?_
            refine go_topi (ushr _ _) rfl ?_
            refine go_isub 78 dJ6_numberOfLeadingZeros_0f7a4_77 rfl ?_
            refine go_ireturn dJ6_numberOfLeadingZeros_0f7a4_78 rfl (by first | rfl | exact bi_nar) (Nat.le_of_ble_eq_true rfl) (Nat.le_of_ble_eq_true rfl) ?_
            exact ⟨congrArg (fun z => some (Value.int z)) (by unfold f_nlz; simp only [if_pos hc1, if_neg hc2, if_neg hc10, if_neg hc14, if_neg hc16]; try rfl), rfl⟩
  · refine go_iload_n 5 dJ6_numberOfLeadingZeros_0f7a4_4 rfl rfl ?_
    refine go_if_ne 8 13 dJ6_numberOfLeadingZeros_0f7a4_5 rfl (by decide) (fun hc17 => ?_) (fun hc17 => ?_)
    · refine go_iconst 14 (0) dJ6_numberOfLeadingZeros_0f7a4_13 rfl (by decide) ?_
      refine go_ireturn dJ6_numberOfLeadingZeros_0f7a4_14 rfl (by first | rfl | exact bi_nar) (Nat.le_of_ble_eq_true rfl) (Nat.le_of_ble_eq_true rfl) ?_
      exact ⟨congrArg (fun z => some (Value.int z)) (by unfold f_nlz; simp only [if_neg hc1, if_neg hc17]; try rfl), rfl⟩
    · refine go_bipush 10 (32) dJ6_numberOfLeadingZeros_0f7a4_8 rfl (by decide) ?_
      refine go_goto 14 dJ6_numberOfLeadingZeros_0f7a4_10 (by decide) ?_
      refine go_ireturn dJ6_numberOfLeadingZeros_0f7a4_14 rfl (by first | rfl | exact bi_nar) (Nat.le_of_ble_eq_true rfl) (Nat.le_of_ble_eq_true rfl) ?_
      exact ⟨congrArg (fun z => some (Value.int z)) (by unfold f_nlz; simp only [if_neg hc1, if_pos hc17]; try rfl), rfl⟩

def f_X8_bitLength (v : Int32) : Int32 := ((32 : Int32) - (f_nlz v))
set_option maxRecDepth 100000 in
set_option maxHeartbeats 1000000 in
theorem ct_X8_bitLength (S : gS) (v : Int32)  : gF mX8_bitLength [.int v] S (some (.int (f_X8_bitLength v))) S := by
  refine go_enter [.int v] [(0, .int v)] (by decide +kernel) rfl rfl (Nat.le_of_ble_eq_true rfl) rfl ?_
  refine go_bipush 2 (32) dX8_bitLength_0 rfl (by decide) ?_
  refine go_iload_n 3 dX8_bitLength_2 rfl rfl ?_
  refine g_callS 6 [.int _] [.int _] dX8_bitLength_3 rfl (ct_J6_numberOfLeadingZeros_0f7a4 _ _) rfl sV_X8_bitLength_376 rfl (Nat.le_of_ble_eq_true rfl) (Nat.le_of_ble_eq_true rfl) (Nat.le_of_ble_eq_true rfl) ?_
  refine go_isub 7 dX8_bitLength_6 rfl ?_
  refine go_ireturn dX8_bitLength_7 rfl (by first | rfl | exact bi_nar) (Nat.le_of_ble_eq_true rfl) (Nat.le_of_ble_eq_true rfl) ?_
  exact ⟨congrArg (fun z => some (Value.int z)) rfl, rfl⟩

def f_X8_lowestBits (v : Int32) : Int32 := (if v < 32 then (((1 : Int32) <<< (v &&& 31)) - 1) else (-1))
set_option maxRecDepth 100000 in
set_option maxHeartbeats 1000000 in
theorem ct_X8_lowestBits (S : gS) (v : Int32)  : gF mX8_lowestBits [.int v] S (some (.int (f_X8_lowestBits v))) S := by
  refine go_enter [.int v] [(0, .int v)] (by decide +kernel) rfl rfl (Nat.le_of_ble_eq_true rfl) rfl ?_
  refine go_iload_n 1 dX8_lowestBits_0 rfl rfl ?_
  refine go_bipush 3 (32) dX8_lowestBits_1 rfl (by decide) ?_
  refine go_icmp_lt 6 10 dX8_lowestBits_3 rfl (by decide) (fun hc1 => ?_) (fun hc1 => ?_)
  · refine go_iconst 11 (1) dX8_lowestBits_10 rfl (by decide) ?_
    refine go_iload_n 12 dX8_lowestBits_11 rfl rfl ?_
    refine go_ishl 13 dX8_lowestBits_12 rfl ?_
    refine go_iconst 14 (1) dX8_lowestBits_13 rfl (by decide) ?_
    refine go_isub 15 dX8_lowestBits_14 rfl ?_
    refine go_ireturn dX8_lowestBits_15 rfl (by first | rfl | exact bi_nar) (Nat.le_of_ble_eq_true rfl) (Nat.le_of_ble_eq_true rfl) ?_
    exact ⟨congrArg (fun z => some (Value.int z)) (by unfold f_X8_lowestBits; simp only [if_pos hc1]; try rfl), rfl⟩
  · refine go_iconst 7 (-1) dX8_lowestBits_6 rfl (by decide) ?_
    refine go_goto 15 dX8_lowestBits_7 (by decide) ?_
    refine go_ireturn dX8_lowestBits_15 rfl (by first | rfl | exact bi_nar) (Nat.le_of_ble_eq_true rfl) (Nat.le_of_ble_eq_true rfl) ?_
    exact ⟨congrArg (fun z => some (Value.int z)) (by unfold f_X8_lowestBits; simp only [if_neg hc1]; try rfl), rfl⟩

def f_X8_costFor (kd w : Int32) : Int32 := (if kd = 2 then ((4 : Int32) * w) else (if kd = 3 then w else (if kd = 4 then w else (if kd = 5 then (w * w) else (if kd = 6 then w else (if kd = 7 then w else (if kd = 8 then w else (if kd = 9 then 0 else (if kd = 10 then 0 else (if kd = 11 then w else (if kd = 12 then ((2 : Int32) * w) else 0)))))))))))
set_option maxRecDepth 100000 in
set_option maxHeartbeats 1000000 in
theorem ct_X8_costFor (S : gS) (kd w : Int32)  : gF mX8_costFor [.int kd, .int w] S (some (.int (f_X8_costFor kd w))) S := by
  refine go_enter [.int kd, .int w] [(0, .int kd), (1, .int w)] (by decide +kernel) rfl rfl (Nat.le_of_ble_eq_true rfl) rfl ?_
  refine go_iload_n 1 dX8_costFor_0 rfl rfl ?_
  refine go_tableN 2 [(2, 60), (3, 72), (4, 72), (5, 64), (6, 72), (7, 72), (8, 72), (9, 74), (10, 74), (11, 72), (12, 68)] 74 dX8_costFor_1 rfl rfl (by decide) (by decide) rfl (by decide) (List.forall_mem_cons.mpr ⟨fun hc1 => ?_, List.forall_mem_cons.mpr ⟨fun hc1 => ?_, List.forall_mem_cons.mpr ⟨fun hc1 => ?_, List.forall_mem_cons.mpr ⟨fun hc1 => ?_, List.forall_mem_cons.mpr ⟨fun hc1 => ?_, List.forall_mem_cons.mpr ⟨fun hc1 => ?_, List.forall_mem_cons.mpr ⟨fun hc1 => ?_, List.forall_mem_cons.mpr ⟨fun hc1 => ?_, List.forall_mem_cons.mpr ⟨fun hc1 => ?_, List.forall_mem_cons.mpr ⟨fun hc1 => ?_, List.forall_mem_cons.mpr ⟨fun hc1 => ?_, fun _ h => absurd h List.not_mem_nil⟩⟩⟩⟩⟩⟩⟩⟩⟩⟩⟩) (fun hc1 => ?_)
  · have hc1 : kd = 2 := hc1
    refine go_iconst 61 (4) dX8_costFor_60 rfl (by decide) ?_
    refine go_iload_n 62 dX8_costFor_61 rfl rfl ?_
    refine go_imul 63 dX8_costFor_62 rfl ?_
    refine go_ireturn dX8_costFor_63 rfl (by first | rfl | exact bi_nar) (Nat.le_of_ble_eq_true rfl) (Nat.le_of_ble_eq_true rfl) ?_
    exact ⟨congrArg (fun z => some (Value.int z)) (by unfold f_X8_costFor; simp only [if_pos hc1]; try rfl), rfl⟩
  · have hc1 : kd = 3 := hc1
    have hc1_0 : ¬ kd = 2 := by rw [hc1]; decide
    refine go_iload_n 73 dX8_costFor_72 rfl rfl ?_
    refine go_ireturn dX8_costFor_73 rfl (by first | rfl | exact bi_nar) (Nat.le_of_ble_eq_true rfl) (Nat.le_of_ble_eq_true rfl) ?_
    exact ⟨congrArg (fun z => some (Value.int z)) (by unfold f_X8_costFor; simp only [if_neg hc1_0, if_pos hc1]; try rfl), rfl⟩
  · have hc1 : kd = 4 := hc1
    have hc1_0 : ¬ kd = 2 := by rw [hc1]; decide
    have hc1_1 : ¬ kd = 3 := by rw [hc1]; decide
    refine go_iload_n 73 dX8_costFor_72 rfl rfl ?_
    refine go_ireturn dX8_costFor_73 rfl (by first | rfl | exact bi_nar) (Nat.le_of_ble_eq_true rfl) (Nat.le_of_ble_eq_true rfl) ?_
    exact ⟨congrArg (fun z => some (Value.int z)) (by unfold f_X8_costFor; simp only [if_neg hc1_0, if_neg hc1_1, if_pos hc1]; try rfl), rfl⟩
  · have hc1 : kd = 5 := hc1
    have hc1_0 : ¬ kd = 2 := by rw [hc1]; decide
    have hc1_1 : ¬ kd = 3 := by rw [hc1]; decide
    have hc1_2 : ¬ kd = 4 := by rw [hc1]; decide
    refine go_iload_n 65 dX8_costFor_64 rfl rfl ?_
    refine go_iload_n 66 dX8_costFor_65 rfl rfl ?_
    refine go_imul 67 dX8_costFor_66 rfl ?_
    refine go_ireturn dX8_costFor_67 rfl (by first | rfl | exact bi_nar) (Nat.le_of_ble_eq_true rfl) (Nat.le_of_ble_eq_true rfl) ?_
    exact ⟨congrArg (fun z => some (Value.int z)) (by unfold f_X8_costFor; simp only [if_neg hc1_0, if_neg hc1_1, if_neg hc1_2, if_pos hc1]; try rfl), rfl⟩
  · have hc1 : kd = 6 := hc1
    have hc1_0 : ¬ kd = 2 := by rw [hc1]; decide
    have hc1_1 : ¬ kd = 3 := by rw [hc1]; decide
    have hc1_2 : ¬ kd = 4 := by rw [hc1]; decide
    have hc1_3 : ¬ kd = 5 := by rw [hc1]; decide
    refine go_iload_n 73 dX8_costFor_72 rfl rfl ?_
    refine go_ireturn dX8_costFor_73 rfl (by first | rfl | exact bi_nar) (Nat.le_of_ble_eq_true rfl) (Nat.le_of_ble_eq_true rfl) ?_
    exact ⟨congrArg (fun z => some (Value.int z)) (by unfold f_X8_costFor; simp only [if_neg hc1_0, if_neg hc1_1, if_neg hc1_2, if_neg hc1_3, if_pos hc1]; try rfl), rfl⟩
  · have hc1 : kd = 7 := hc1
    have hc1_0 : ¬ kd = 2 := by rw [hc1]; decide
    have hc1_1 : ¬ kd = 3 := by rw [hc1]; decide
    have hc1_2 : ¬ kd = 4 := by rw [hc1]; decide
    have hc1_3 : ¬ kd = 5 := by rw [hc1]; decide
    have hc1_4 : ¬ kd = 6 := by rw [hc1]; decide
    refine go_iload_n 73 dX8_costFor_72 rfl rfl ?_
    refine go_ireturn dX8_costFor_73 rfl (by first | rfl | exact bi_nar) (Nat.le_of_ble_eq_true rfl) (Nat.le_of_ble_eq_true rfl) ?_
    exact ⟨congrArg (fun z => some (Value.int z)) (by unfold f_X8_costFor; simp only [if_neg hc1_0, if_neg hc1_1, if_neg hc1_2, if_neg hc1_3, if_neg hc1_4, if_pos hc1]; try rfl), rfl⟩
  · have hc1 : kd = 8 := hc1
    have hc1_0 : ¬ kd = 2 := by rw [hc1]; decide
    have hc1_1 : ¬ kd = 3 := by rw [hc1]; decide
    have hc1_2 : ¬ kd = 4 := by rw [hc1]; decide
    have hc1_3 : ¬ kd = 5 := by rw [hc1]; decide
    have hc1_4 : ¬ kd = 6 := by rw [hc1]; decide
    have hc1_5 : ¬ kd = 7 := by rw [hc1]; decide
    refine go_iload_n 73 dX8_costFor_72 rfl rfl ?_
    refine go_ireturn dX8_costFor_73 rfl (by first | rfl | exact bi_nar) (Nat.le_of_ble_eq_true rfl) (Nat.le_of_ble_eq_true rfl) ?_
    exact ⟨congrArg (fun z => some (Value.int z)) (by unfold f_X8_costFor; simp only [if_neg hc1_0, if_neg hc1_1, if_neg hc1_2, if_neg hc1_3, if_neg hc1_4, if_neg hc1_5, if_pos hc1]; try rfl), rfl⟩
  · have hc1 : kd = 9 := hc1
    have hc1_0 : ¬ kd = 2 := by rw [hc1]; decide
    have hc1_1 : ¬ kd = 3 := by rw [hc1]; decide
    have hc1_2 : ¬ kd = 4 := by rw [hc1]; decide
    have hc1_3 : ¬ kd = 5 := by rw [hc1]; decide
    have hc1_4 : ¬ kd = 6 := by rw [hc1]; decide
    have hc1_5 : ¬ kd = 7 := by rw [hc1]; decide
    have hc1_6 : ¬ kd = 8 := by rw [hc1]; decide
    refine go_iconst 75 (0) dX8_costFor_74 rfl (by decide) ?_
    refine go_ireturn dX8_costFor_75 rfl (by first | rfl | exact bi_nar) (Nat.le_of_ble_eq_true rfl) (Nat.le_of_ble_eq_true rfl) ?_
    exact ⟨congrArg (fun z => some (Value.int z)) (by unfold f_X8_costFor; simp only [if_neg hc1_0, if_neg hc1_1, if_neg hc1_2, if_neg hc1_3, if_neg hc1_4, if_neg hc1_5, if_neg hc1_6, if_pos hc1]; try rfl), rfl⟩
  · have hc1 : kd = 10 := hc1
    have hc1_0 : ¬ kd = 2 := by rw [hc1]; decide
    have hc1_1 : ¬ kd = 3 := by rw [hc1]; decide
    have hc1_2 : ¬ kd = 4 := by rw [hc1]; decide
    have hc1_3 : ¬ kd = 5 := by rw [hc1]; decide
    have hc1_4 : ¬ kd = 6 := by rw [hc1]; decide
    have hc1_5 : ¬ kd = 7 := by rw [hc1]; decide
    have hc1_6 : ¬ kd = 8 := by rw [hc1]; decide
    have hc1_7 : ¬ kd = 9 := by rw [hc1]; decide
    refine go_iconst 75 (0) dX8_costFor_74 rfl (by decide) ?_
    refine go_ireturn dX8_costFor_75 rfl (by first | rfl | exact bi_nar) (Nat.le_of_ble_eq_true rfl) (Nat.le_of_ble_eq_true rfl) ?_
    exact ⟨congrArg (fun z => some (Value.int z)) (by unfold f_X8_costFor; simp only [if_neg hc1_0, if_neg hc1_1, if_neg hc1_2, if_neg hc1_3, if_neg hc1_4, if_neg hc1_5, if_neg hc1_6, if_neg hc1_7, if_pos hc1]; try rfl), rfl⟩
  · have hc1 : kd = 11 := hc1
    have hc1_0 : ¬ kd = 2 := by rw [hc1]; decide
    have hc1_1 : ¬ kd = 3 := by rw [hc1]; decide
    have hc1_2 : ¬ kd = 4 := by rw [hc1]; decide
    have hc1_3 : ¬ kd = 5 := by rw [hc1]; decide
    have hc1_4 : ¬ kd = 6 := by rw [hc1]; decide
    have hc1_5 : ¬ kd = 7 := by rw [hc1]; decide
    have hc1_6 : ¬ kd = 8 := by rw [hc1]; decide
    have hc1_7 : ¬ kd = 9 := by rw [hc1]; decide
    have hc1_8 : ¬ kd = 10 := by rw [hc1]; decide
    refine go_iload_n 73 dX8_costFor_72 rfl rfl ?_
    refine go_ireturn dX8_costFor_73 rfl (by first | rfl | exact bi_nar) (Nat.le_of_ble_eq_true rfl) (Nat.le_of_ble_eq_true rfl) ?_
    exact ⟨congrArg (fun z => some (Value.int z)) (by unfold f_X8_costFor; simp only [if_neg hc1_0, if_neg hc1_1, if_neg hc1_2, if_neg hc1_3, if_neg hc1_4, if_neg hc1_5, if_neg hc1_6, if_neg hc1_7, if_neg hc1_8, if_pos hc1]; try rfl), rfl⟩
  · have hc1 : kd = 12 := hc1
    have hc1_0 : ¬ kd = 2 := by rw [hc1]; decide
    have hc1_1 : ¬ kd = 3 := by rw [hc1]; decide
    have hc1_2 : ¬ kd = 4 := by rw [hc1]; decide
    have hc1_3 : ¬ kd = 5 := by rw [hc1]; decide
    have hc1_4 : ¬ kd = 6 := by rw [hc1]; decide
    have hc1_5 : ¬ kd = 7 := by rw [hc1]; decide
    have hc1_6 : ¬ kd = 8 := by rw [hc1]; decide
    have hc1_7 : ¬ kd = 9 := by rw [hc1]; decide
    have hc1_8 : ¬ kd = 10 := by rw [hc1]; decide
    have hc1_9 : ¬ kd = 11 := by rw [hc1]; decide
    refine go_iconst 69 (2) dX8_costFor_68 rfl (by decide) ?_
    refine go_iload_n 70 dX8_costFor_69 rfl rfl ?_
    refine go_imul 71 dX8_costFor_70 rfl ?_
    refine go_ireturn dX8_costFor_71 rfl (by first | rfl | exact bi_nar) (Nat.le_of_ble_eq_true rfl) (Nat.le_of_ble_eq_true rfl) ?_
    exact ⟨congrArg (fun z => some (Value.int z)) (by unfold f_X8_costFor; simp only [if_neg hc1_0, if_neg hc1_1, if_neg hc1_2, if_neg hc1_3, if_neg hc1_4, if_neg hc1_5, if_neg hc1_6, if_neg hc1_7, if_neg hc1_8, if_neg hc1_9, if_pos hc1]; try rfl), rfl⟩
  · have hc1_0 : ¬ kd = 2 := hc1 (2, 60) (List.mem_of_getElem? (i := 0) rfl)
    have hc1_1 : ¬ kd = 3 := hc1 (3, 72) (List.mem_of_getElem? (i := 1) rfl)
    have hc1_2 : ¬ kd = 4 := hc1 (4, 72) (List.mem_of_getElem? (i := 2) rfl)
    have hc1_3 : ¬ kd = 5 := hc1 (5, 64) (List.mem_of_getElem? (i := 3) rfl)
    have hc1_4 : ¬ kd = 6 := hc1 (6, 72) (List.mem_of_getElem? (i := 4) rfl)
    have hc1_5 : ¬ kd = 7 := hc1 (7, 72) (List.mem_of_getElem? (i := 5) rfl)
    have hc1_6 : ¬ kd = 8 := hc1 (8, 72) (List.mem_of_getElem? (i := 6) rfl)
    have hc1_7 : ¬ kd = 9 := hc1 (9, 74) (List.mem_of_getElem? (i := 7) rfl)
    have hc1_8 : ¬ kd = 10 := hc1 (10, 74) (List.mem_of_getElem? (i := 8) rfl)
    have hc1_9 : ¬ kd = 11 := hc1 (11, 72) (List.mem_of_getElem? (i := 9) rfl)
    have hc1_10 : ¬ kd = 12 := hc1 (12, 68) (List.mem_of_getElem? (i := 10) rfl)
    clear hc1
    refine go_iconst 75 (0) dX8_costFor_74 rfl (by decide) ?_
    refine go_ireturn dX8_costFor_75 rfl (by first | rfl | exact bi_nar) (Nat.le_of_ble_eq_true rfl) (Nat.le_of_ble_eq_true rfl) ?_
    exact ⟨congrArg (fun z => some (Value.int z)) (by unfold f_X8_costFor; simp only [if_neg hc1_0, if_neg hc1_1, if_neg hc1_2, if_neg hc1_3, if_neg hc1_4, if_neg hc1_5, if_neg hc1_6, if_neg hc1_7, if_neg hc1_8, if_neg hc1_9, if_neg hc1_10]; try rfl), rfl⟩

def bd_rewind (i : Nat) (p : gS) : gS := (wI (wI p 10 i ((rI p 3 i))) 11 i ((rI (wI p 10 i ((rI p 3 i))) 3 i)))
set_option maxRecDepth 100000 in
set_option maxHeartbeats 1000000 in
theorem lk_rewind {Q : go_Q}  (n : Nat) (s0 : gS)  (hI : ∀ i, i ≤ n → okC (itr (bd_rewind) i s0) n) (kx : Go mX0_rewind false Q 0 0 45 [(1, .int (nI n)), (0, .ref 1)] [] (hp (itr (bd_rewind) n s0))) : ∀ i, i ≤ n → Go mX0_rewind false Q 0 0 7 [(1, .int (nI i)), (0, .ref 1)] [] (hp (itr (bd_rewind) i s0)) := by
  refine g_dn _ (n) (fun i hi ih => ?_)
  have hT := hI i hi
  have ih2 : i < n → Go mX0_rewind false Q 0 0 7 [(1, .int (nI (i + 1))), (0, .ref 1)] [] (hp ((bd_rewind) i (itr (bd_rewind) i s0))) := ih
  have kx2 : i = n → Go mX0_rewind false Q 0 0 45 [(1, .int (nI i)), (0, .ref 1)] [] (hp (itr (bd_rewind) i s0)) := by
    rintro rfl
    exact kx
  clear ih kx hI
  revert hT ih2 kx2
  generalize itr (bd_rewind) i s0 = p
  intro hT ih2 kx2
  have h24 := hT.2.1
  refine go_iload_n 8 dX0_rewind_7 rfl rfl ?_
  refine go_aload_n 9 dX0_rewind_8 rfl rfl ?_
  refine g_getI 12 dX0_rewind_9 rfl fF_RX0_9 ly_1 rfl ?_
  refine go_icmp_ge 15 45 dX0_rewind_12 rfl (by decide) (fun hc1 => ?_) (fun hc1 => ?_)
  · have hv : i = n := by
      have h8 := hc1
      rw [hT.1, nI_le2 (by omega) (by omega)] at h8
      omega
    refine go_ls [(1, .int _), (0, .ref 1)] (List.forall_mem_cons.mpr ⟨rfl, List.forall_mem_cons.mpr ⟨rfl, fun _ h => absurd h List.not_mem_nil⟩⟩) ?_
    exact kx2 hv
  · have hv : i < n := by
      have h8 := hc1
      rw [hT.1, nI_le2 (by omega) (by omega)] at h8
      omega
    clear hc1
    have hcl := nI_c (n := i) (by omega)
    refine go_aload_n 16 dX0_rewind_15 rfl rfl ?_
    refine g_getR 19 dX0_rewind_16 rfl fF_RX0_44 ly_1 rfl ?_
    refine go_iload_n 20 dX0_rewind_19 rfl rfl ?_
    refine go_aload_n 21 dX0_rewind_20 rfl rfl ?_
    refine g_getR 24 dX0_rewind_21 rfl fF_RX0_22 ly_1 rfl ?_
    refine go_iload_n 25 dX0_rewind_24 rfl rfl ?_
    refine g_iald2 26 i dX0_rewind_25 rfl ly_3 (nI_i (by have := hv; omega) (by omega)) hcl ?_
    refine g_iast2 27 i dX0_rewind_26 rfl ly_10 (nI_i (by have := hv; omega) (by omega)) hcl ?_
    refine go_aload_n 28 dX0_rewind_27 rfl rfl ?_
    refine g_getR 31 dX0_rewind_28 rfl fF_RX0_47 ly_1 rfl ?_
    refine go_iload_n 32 dX0_rewind_31 rfl rfl ?_
    refine go_aload_n 33 dX0_rewind_32 rfl rfl ?_
    refine g_getR 36 dX0_rewind_33 rfl fF_RX0_22 ly_1 rfl ?_
    refine go_iload_n 37 dX0_rewind_36 rfl rfl ?_
    refine g_iald2 38 i dX0_rewind_37 rfl ly_3 (nI_i (by have := hv; omega) (by omega)) hcl ?_
    refine g_iast2 39 i dX0_rewind_38 rfl ly_11 (nI_i (by have := hv; omega) (by omega)) hcl ?_
    refine go_iinc 42 [(1, .int _), (0, .ref 1)] (nI (i + 1)) dX0_rewind_39 rfl (Nat.le_of_ble_eq_true rfl) rfl (nI_inc i) rfl ?_
    refine go_goto 7 dX0_rewind_42 (by decide) ?_
    refine go_ls [(1, .int _), (0, .ref 1)] (List.forall_mem_cons.mpr ⟨rfl, List.forall_mem_cons.mpr ⟨rfl, fun _ h => absurd h List.not_mem_nil⟩⟩) ?_
    refine g_st (T := bd_rewind i p) (by try rfl) (ih2 (by omega))
theorem fr_bd_rewind {a0 c0 : Nat} (h10 : a0 ≠ 10) (h11 : a0 ≠ 11) (i : Nat) (p : gS) : rI (bd_rewind i p) a0 c0 = rI p a0 c0 := by
  unfold bd_rewind
  (repeat' split) <;> simp only [rI_wIk h10, rI_wRk h10, rI_wIk h11, rI_wRk h11]
theorem fr_lp_rewind {a0 c0 : Nat} (h10 : a0 ≠ 10) (h11 : a0 ≠ 11)  (n : Nat) (p : gS) : rI (itr (bd_rewind) n p) a0 c0 = rI p a0 c0 := by
  induction n with
  | zero => rfl
  | succ n ih => exact (fr_bd_rewind h10 h11 _ _).trans ih

def f_X0_rewind (S : gS) (n : Nat) : gS := (itr (bd_rewind) n (wI S 1 1 0))
set_option maxRecDepth 100000 in
set_option maxHeartbeats 1000000 in
theorem ct_X0_rewind (S : gS) (n : Nat) (ho : okC S n) : gF mX0_rewind [.ref 1] S none (f_X0_rewind S n) := by
  refine go_enter [.ref 1] [(0, .ref 1)] (by decide +kernel) rfl rfl (Nat.le_of_ble_eq_true rfl) rfl ?_
  refine go_aload_n 1 dX0_rewind_0 rfl rfl ?_
  refine go_iconst 2 (0) dX0_rewind_1 rfl (by decide) ?_
  refine g_putI 5 dX0_rewind_2 rfl fF_RX0_15 ly_1 rfl (fun q hq => by cases hq; rfl) rfl rfl ?_
  refine go_iconst 6 (0) dX0_rewind_5 rfl (by decide) ?_
  refine go_istore_n 7 [(1, .int _), (0, .ref 1)] dX0_rewind_6 rfl (Nat.le_of_ble_eq_true rfl) rfl ?_
  refine go_ls [(1, .int _), (0, .ref 1)] (List.forall_mem_cons.mpr ⟨rfl, List.forall_mem_cons.mpr ⟨rfl, fun _ h => absurd h List.not_mem_nil⟩⟩) ?_
  refine lk_rewind n _ (fun i hi => okC.of ho (fun a c h => (fr_lp_rewind (by omega) (by omega) i _).trans (rI_wIc (by omega) _ _))) ?_ 0 (Nat.zero_le _)
  refine go_return dX0_rewind_45 rfl (Nat.le_of_ble_eq_true rfl) (Nat.le_of_ble_eq_true rfl) ?_
  exact ⟨rfl, congrArg hp rfl⟩
theorem fr_f_X0_rewind {a0 c0 : Nat} (h1_1 : ¬ (a0 = 1 ∧ c0 = 1)) (h10 : a0 ≠ 10) (h11 : a0 ≠ 11) (S : gS) (n : Nat) : rI (f_X0_rewind S n) a0 c0 = rI S a0 c0 := by
  unfold f_X0_rewind
  (repeat' split) <;> simp only [rI_wIc h1_1, rI_wIk h10, rI_wRk h10, rI_wIk h11, rI_wRk h11, fr_lp_rewind h10 h11]

def bd_dropLast (i : Nat) (p : gS) : gS := (if (rI p 6 i) = (rI p 1 0) then (wI p 6 i ((nI i))) else p)
set_option maxRecDepth 100000 in
set_option maxHeartbeats 1000000 in
theorem lk_dropLast {Q : go_Q}  (n : Nat) (s0 : gS)  (hI : ∀ i, i ≤ n → (rI (itr (bd_dropLast) i s0) 1 0 = nI n ∧ n ≤ 24)) (kx : Go mX0_dropLast false Q 0 0 46 [(1, .int (nI n)), (0, .ref 1)] [] (hp (itr (bd_dropLast) n s0))) : ∀ i, i ≤ n → Go mX0_dropLast false Q 0 0 12 [(1, .int (nI i)), (0, .ref 1)] [] (hp (itr (bd_dropLast) i s0)) := by
  refine g_dn _ (n) (fun i hi ih => ?_)
  have hT := hI i hi
  have ih2 : i < n → Go mX0_dropLast false Q 0 0 12 [(1, .int (nI (i + 1))), (0, .ref 1)] [] (hp ((bd_dropLast) i (itr (bd_dropLast) i s0))) := ih
  have kx2 : i = n → Go mX0_dropLast false Q 0 0 46 [(1, .int (nI i)), (0, .ref 1)] [] (hp (itr (bd_dropLast) i s0)) := by
    rintro rfl
    exact kx
  clear ih kx hI
  revert hT ih2 kx2
  generalize itr (bd_dropLast) i s0 = p
  intro hT ih2 kx2
  have h24 := hT.2
  refine go_iload_n 13 dX0_dropLast_12 rfl rfl ?_
  refine go_aload_n 14 dX0_dropLast_13 rfl rfl ?_
  refine g_getI 17 dX0_dropLast_14 rfl fF_RX0_9 ly_1 rfl ?_
  refine go_icmp_ge 20 46 dX0_dropLast_17 rfl (by decide) (fun hc1 => ?_) (fun hc1 => ?_)
  · have hv : i = n := by
      have h8 := hc1
      rw [hT.1, nI_le2 (by omega) (by omega)] at h8
      omega
    refine go_ls [(1, .int _), (0, .ref 1)] (List.forall_mem_cons.mpr ⟨rfl, List.forall_mem_cons.mpr ⟨rfl, fun _ h => absurd h List.not_mem_nil⟩⟩) ?_
    exact kx2 hv
  · have hv : i < n := by
      have h8 := hc1
      rw [hT.1, nI_le2 (by omega) (by omega)] at h8
      omega
    clear hc1
    have hcl := nI_c (n := i) (by omega)
    refine go_aload_n 21 dX0_dropLast_20 rfl rfl ?_
    refine g_getR 24 dX0_dropLast_21 rfl fF_RX0_31 ly_1 rfl ?_
    refine go_iload_n 25 dX0_dropLast_24 rfl rfl ?_
    refine g_iald2 26 i dX0_dropLast_25 rfl ly_6 (nI_i (by have := hv; omega) (by omega)) hcl ?_
    refine go_aload_n 27 dX0_dropLast_26 rfl rfl ?_
    refine g_getI 30 dX0_dropLast_27 rfl fF_RX0_9 ly_1 rfl ?_
    refine go_icmp_ne 33 40 dX0_dropLast_30 rfl (by decide) (fun hc2 => ?_) (fun hc2 => ?_)
    · refine go_iinc 43 [(1, .int _), (0, .ref 1)] (nI (i + 1)) dX0_dropLast_40 rfl (Nat.le_of_ble_eq_true rfl) rfl (nI_inc i) rfl ?_
      refine go_goto 12 dX0_dropLast_43 (by decide) ?_
      refine go_ls [(1, .int _), (0, .ref 1)] (List.forall_mem_cons.mpr ⟨rfl, List.forall_mem_cons.mpr ⟨rfl, fun _ h => absurd h List.not_mem_nil⟩⟩) ?_
      refine g_st (T := bd_dropLast i p) (by unfold bd_dropLast; simp only [if_neg hc2]; try rfl) (ih2 (by omega))
    · refine go_aload_n 34 dX0_dropLast_33 rfl rfl ?_
      refine g_getR 37 dX0_dropLast_34 rfl fF_RX0_31 ly_1 rfl ?_
      refine go_iload_n 38 dX0_dropLast_37 rfl rfl ?_
      refine go_iload_n 39 dX0_dropLast_38 rfl rfl ?_
      refine g_iast2 40 i dX0_dropLast_39 rfl ly_6 (nI_i (by have := hv; omega) (by omega)) hcl ?_
      refine go_iinc 43 [(1, .int _), (0, .ref 1)] (nI (i + 1)) dX0_dropLast_40 rfl (Nat.le_of_ble_eq_true rfl) rfl (nI_inc i) rfl ?_
      refine go_goto 12 dX0_dropLast_43 (by decide) ?_
      refine go_ls [(1, .int _), (0, .ref 1)] (List.forall_mem_cons.mpr ⟨rfl, List.forall_mem_cons.mpr ⟨rfl, fun _ h => absurd h List.not_mem_nil⟩⟩) ?_
      refine g_st (T := bd_dropLast i p) (by unfold bd_dropLast; simp only [if_pos hc2]; try rfl) (ih2 (by omega))
theorem fr_bd_dropLast {a0 c0 : Nat} (h6 : a0 ≠ 6) (i : Nat) (p : gS) : rI (bd_dropLast i p) a0 c0 = rI p a0 c0 := by
  unfold bd_dropLast
  (repeat' split) <;> simp only [rI_wIk h6, rI_wRk h6]
theorem fr_lp_dropLast {a0 c0 : Nat} (h6 : a0 ≠ 6)  (n : Nat) (p : gS) : rI (itr (bd_dropLast) n p) a0 c0 = rI p a0 c0 := by
  induction n with
  | zero => rfl
  | succ n ih => exact (fr_bd_dropLast h6 _ _).trans ih

def bd_takeF (i : Nat) (p : gS) : gS := (if (rI p 2 i) = 2 then (wI p 10 i ((rI p 52 ((rI p 6 i)).toNatClampNeg))) else p)
set_option maxRecDepth 100000 in
set_option maxHeartbeats 1000000 in
theorem lk_takeF {Q : go_Q}  (n : Nat) (s0 : gS)  (hI : ∀ i, i ≤ n → okC (itr (bd_takeF) i s0) n) (kx : Go mX0_takeOver false Q 0 0 37 [(3, .int (nI n)), (0, .ref 1), (1, .ref 10), (2, .ref 52)] [] (hp (itr (bd_takeF) n s0))) : ∀ i, i ≤ n → Go mX0_takeOver false Q 0 0 2 [(3, .int (nI i)), (0, .ref 1), (1, .ref 10), (2, .ref 52)] [] (hp (itr (bd_takeF) i s0)) := by
  refine g_dn _ (n) (fun i hi ih => ?_)
  have hT := hI i hi
  have ih2 : i < n → Go mX0_takeOver false Q 0 0 2 [(3, .int (nI (i + 1))), (0, .ref 1), (1, .ref 10), (2, .ref 52)] [] (hp ((bd_takeF) i (itr (bd_takeF) i s0))) := ih
  have kx2 : i = n → Go mX0_takeOver false Q 0 0 37 [(3, .int (nI i)), (0, .ref 1), (1, .ref 10), (2, .ref 52)] [] (hp (itr (bd_takeF) i s0)) := by
    rintro rfl
    exact kx
  clear ih kx hI
  revert hT ih2 kx2
  generalize itr (bd_takeF) i s0 = p
  intro hT ih2 kx2
  have h24 := hT.2.1
  refine go_iload_n 3 dX0_takeOver_2 rfl rfl ?_
  refine go_aload_n 4 dX0_takeOver_3 rfl rfl ?_
  refine g_getI 7 dX0_takeOver_4 rfl fF_RX0_9 ly_1 rfl ?_
  refine go_icmp_ge 10 37 dX0_takeOver_7 rfl (by decide) (fun hc1 => ?_) (fun hc1 => ?_)
  · have hv : i = n := by
      have h8 := hc1
      rw [hT.1, nI_le2 (by omega) (by omega)] at h8
      omega
    refine go_ls [(3, .int _), (0, .ref 1), (1, .ref 10), (2, .ref 52)] (List.forall_mem_cons.mpr ⟨rfl, List.forall_mem_cons.mpr ⟨rfl, List.forall_mem_cons.mpr ⟨rfl, List.forall_mem_cons.mpr ⟨rfl, fun _ h => absurd h List.not_mem_nil⟩⟩⟩⟩) ?_
    exact kx2 hv
  · have hv : i < n := by
      have h8 := hc1
      rw [hT.1, nI_le2 (by omega) (by omega)] at h8
      omega
    clear hc1
    have hcl := nI_c (n := i) (by omega)
    refine go_aload_n 11 dX0_takeOver_10 rfl rfl ?_
    refine g_getR 14 dX0_takeOver_11 rfl fF_RX0_18 ly_1 rfl ?_
    refine go_iload_n 15 dX0_takeOver_14 rfl rfl ?_
    refine g_iald2 16 i dX0_takeOver_15 rfl ly_2 (nI_i (by have := hv; omega) (by omega)) hcl ?_
    refine go_iconst 17 (2) dX0_takeOver_16 rfl (by decide) ?_
    refine go_icmp_ne 20 31 dX0_takeOver_17 rfl (by decide) (fun hc2 => ?_) (fun hc2 => ?_)
    · refine go_iinc 34 [(3, .int _), (0, .ref 1), (1, .ref 10), (2, .ref 52)] (nI (i + 1)) dX0_takeOver_31 rfl (Nat.le_of_ble_eq_true rfl) rfl (nI_inc i) rfl ?_
      refine go_goto 2 dX0_takeOver_34 (by decide) ?_
      refine go_ls [(3, .int _), (0, .ref 1), (1, .ref 10), (2, .ref 52)] (List.forall_mem_cons.mpr ⟨rfl, List.forall_mem_cons.mpr ⟨rfl, List.forall_mem_cons.mpr ⟨rfl, List.forall_mem_cons.mpr ⟨rfl, fun _ h => absurd h List.not_mem_nil⟩⟩⟩⟩) ?_
      refine g_st (T := bd_takeF i p) (by unfold bd_takeF; simp only [if_neg hc2]; try rfl) (ih2 (by omega))
    · refine go_aload_n 21 dX0_takeOver_20 rfl rfl ?_
      refine go_iload_n 22 dX0_takeOver_21 rfl rfl ?_
      refine go_aload_n 23 dX0_takeOver_22 rfl rfl ?_
      refine go_aload_n 24 dX0_takeOver_23 rfl rfl ?_
      refine g_getR 27 dX0_takeOver_24 rfl fF_RX0_31 ly_1 rfl ?_
      refine go_iload_n 28 dX0_takeOver_27 rfl rfl ?_
      refine g_iald2 29 i dX0_takeOver_28 rfl ly_6 (nI_i (by have := hv; omega) (by omega)) hcl ?_
      refine g_iald2 30 _ dX0_takeOver_29 rfl ly_52 (okC.nx hT hv) rfl ?_
      refine g_iast2 31 i dX0_takeOver_30 rfl ly_10 (nI_i (by have := hv; omega) (by omega)) hcl ?_
      refine go_iinc 34 [(3, .int _), (0, .ref 1), (1, .ref 10), (2, .ref 52)] (nI (i + 1)) dX0_takeOver_31 rfl (Nat.le_of_ble_eq_true rfl) rfl (nI_inc i) rfl ?_
      refine go_goto 2 dX0_takeOver_34 (by decide) ?_
      refine go_ls [(3, .int _), (0, .ref 1), (1, .ref 10), (2, .ref 52)] (List.forall_mem_cons.mpr ⟨rfl, List.forall_mem_cons.mpr ⟨rfl, List.forall_mem_cons.mpr ⟨rfl, List.forall_mem_cons.mpr ⟨rfl, fun _ h => absurd h List.not_mem_nil⟩⟩⟩⟩) ?_
      refine g_st (T := bd_takeF i p) (by unfold bd_takeF; simp only [if_pos hc2]; try rfl) (ih2 (by omega))
theorem fr_bd_takeF {a0 c0 : Nat} (h10 : a0 ≠ 10) (i : Nat) (p : gS) : rI (bd_takeF i p) a0 c0 = rI p a0 c0 := by
  unfold bd_takeF
  (repeat' split) <;> simp only [rI_wIk h10, rI_wRk h10]
theorem fr_lp_takeF {a0 c0 : Nat} (h10 : a0 ≠ 10)  (n : Nat) (p : gS) : rI (itr (bd_takeF) n p) a0 c0 = rI p a0 c0 := by
  induction n with
  | zero => rfl
  | succ n ih => exact (fr_bd_takeF h10 _ _).trans ih

def f_takeF (S : gS) (n : Nat) : gS := (itr (bd_takeF) n S)
set_option maxRecDepth 100000 in
set_option maxHeartbeats 1000000 in
theorem ct_takeF (S : gS) (n : Nat) (ho : okC S n) : gF mX0_takeOver [.ref 1, .ref 10, .ref 52] S none (f_takeF S n) := by
  refine go_enter [.ref 1, .ref 10, .ref 52] [(0, .ref 1), (1, .ref 10), (2, .ref 52)] (by decide +kernel) rfl rfl (Nat.le_of_ble_eq_true rfl) rfl ?_
  refine go_iconst 1 (0) dX0_takeOver_0 rfl (by decide) ?_
  refine go_istore_n 2 [(3, .int _), (0, .ref 1), (1, .ref 10), (2, .ref 52)] dX0_takeOver_1 rfl (Nat.le_of_ble_eq_true rfl) rfl ?_
  refine go_ls [(3, .int _), (0, .ref 1), (1, .ref 10), (2, .ref 52)] (List.forall_mem_cons.mpr ⟨rfl, List.forall_mem_cons.mpr ⟨rfl, List.forall_mem_cons.mpr ⟨rfl, List.forall_mem_cons.mpr ⟨rfl, fun _ h => absurd h List.not_mem_nil⟩⟩⟩⟩) ?_
  refine lk_takeF n _ (fun i hi => okC.of ho (fun a c h => fr_lp_takeF (by omega) i _)) ?_ 0 (Nat.zero_le _)
  refine go_return dX0_takeOver_37 rfl (Nat.le_of_ble_eq_true rfl) (Nat.le_of_ble_eq_true rfl) ?_
  exact ⟨rfl, congrArg hp rfl⟩
theorem fr_f_takeF {a0 c0 : Nat} (h10 : a0 ≠ 10) (S : gS) (n : Nat) : rI (f_takeF S n) a0 c0 = rI S a0 c0 := by
  unfold f_takeF
  (repeat' split) <;> simp only [rI_wIk h10, rI_wRk h10, fr_lp_takeF h10]

def bd_takeN (i : Nat) (p : gS) : gS := (if (rI p 2 i) = 2 then (wI p 11 i ((rI p 54 ((rI p 6 i)).toNatClampNeg))) else p)
set_option maxRecDepth 100000 in
set_option maxHeartbeats 1000000 in
theorem lk_takeN {Q : go_Q}  (n : Nat) (s0 : gS)  (hI : ∀ i, i ≤ n → okC (itr (bd_takeN) i s0) n) (kx : Go mX0_takeOver false Q 0 0 37 [(3, .int (nI n)), (0, .ref 1), (1, .ref 11), (2, .ref 54)] [] (hp (itr (bd_takeN) n s0))) : ∀ i, i ≤ n → Go mX0_takeOver false Q 0 0 2 [(3, .int (nI i)), (0, .ref 1), (1, .ref 11), (2, .ref 54)] [] (hp (itr (bd_takeN) i s0)) := by
  refine g_dn _ (n) (fun i hi ih => ?_)
  have hT := hI i hi
  have ih2 : i < n → Go mX0_takeOver false Q 0 0 2 [(3, .int (nI (i + 1))), (0, .ref 1), (1, .ref 11), (2, .ref 54)] [] (hp ((bd_takeN) i (itr (bd_takeN) i s0))) := ih
  have kx2 : i = n → Go mX0_takeOver false Q 0 0 37 [(3, .int (nI i)), (0, .ref 1), (1, .ref 11), (2, .ref 54)] [] (hp (itr (bd_takeN) i s0)) := by
    rintro rfl
    exact kx
  clear ih kx hI
  revert hT ih2 kx2
  generalize itr (bd_takeN) i s0 = p
  intro hT ih2 kx2
  have h24 := hT.2.1
  refine go_iload_n 3 dX0_takeOver_2 rfl rfl ?_
  refine go_aload_n 4 dX0_takeOver_3 rfl rfl ?_
  refine g_getI 7 dX0_takeOver_4 rfl fF_RX0_9 ly_1 rfl ?_
  refine go_icmp_ge 10 37 dX0_takeOver_7 rfl (by decide) (fun hc1 => ?_) (fun hc1 => ?_)
  · have hv : i = n := by
      have h8 := hc1
      rw [hT.1, nI_le2 (by omega) (by omega)] at h8
      omega
    refine go_ls [(3, .int _), (0, .ref 1), (1, .ref 11), (2, .ref 54)] (List.forall_mem_cons.mpr ⟨rfl, List.forall_mem_cons.mpr ⟨rfl, List.forall_mem_cons.mpr ⟨rfl, List.forall_mem_cons.mpr ⟨rfl, fun _ h => absurd h List.not_mem_nil⟩⟩⟩⟩) ?_
    exact kx2 hv
  · have hv : i < n := by
      have h8 := hc1
      rw [hT.1, nI_le2 (by omega) (by omega)] at h8
      omega
    clear hc1
    have hcl := nI_c (n := i) (by omega)
    refine go_aload_n 11 dX0_takeOver_10 rfl rfl ?_
    refine g_getR 14 dX0_takeOver_11 rfl fF_RX0_18 ly_1 rfl ?_
    refine go_iload_n 15 dX0_takeOver_14 rfl rfl ?_
    refine g_iald2 16 i dX0_takeOver_15 rfl ly_2 (nI_i (by have := hv; omega) (by omega)) hcl ?_
    refine go_iconst 17 (2) dX0_takeOver_16 rfl (by decide) ?_
    refine go_icmp_ne 20 31 dX0_takeOver_17 rfl (by decide) (fun hc2 => ?_) (fun hc2 => ?_)
    · refine go_iinc 34 [(3, .int _), (0, .ref 1), (1, .ref 11), (2, .ref 54)] (nI (i + 1)) dX0_takeOver_31 rfl (Nat.le_of_ble_eq_true rfl) rfl (nI_inc i) rfl ?_
      refine go_goto 2 dX0_takeOver_34 (by decide) ?_
      refine go_ls [(3, .int _), (0, .ref 1), (1, .ref 11), (2, .ref 54)] (List.forall_mem_cons.mpr ⟨rfl, List.forall_mem_cons.mpr ⟨rfl, List.forall_mem_cons.mpr ⟨rfl, List.forall_mem_cons.mpr ⟨rfl, fun _ h => absurd h List.not_mem_nil⟩⟩⟩⟩) ?_
      refine g_st (T := bd_takeN i p) (by unfold bd_takeN; simp only [if_neg hc2]; try rfl) (ih2 (by omega))
    · refine go_aload_n 21 dX0_takeOver_20 rfl rfl ?_
      refine go_iload_n 22 dX0_takeOver_21 rfl rfl ?_
      refine go_aload_n 23 dX0_takeOver_22 rfl rfl ?_
      refine go_aload_n 24 dX0_takeOver_23 rfl rfl ?_
      refine g_getR 27 dX0_takeOver_24 rfl fF_RX0_31 ly_1 rfl ?_
      refine go_iload_n 28 dX0_takeOver_27 rfl rfl ?_
      refine g_iald2 29 i dX0_takeOver_28 rfl ly_6 (nI_i (by have := hv; omega) (by omega)) hcl ?_
      refine g_iald2 30 _ dX0_takeOver_29 rfl ly_54 (okC.nx hT hv) rfl ?_
      refine g_iast2 31 i dX0_takeOver_30 rfl ly_11 (nI_i (by have := hv; omega) (by omega)) hcl ?_
      refine go_iinc 34 [(3, .int _), (0, .ref 1), (1, .ref 11), (2, .ref 54)] (nI (i + 1)) dX0_takeOver_31 rfl (Nat.le_of_ble_eq_true rfl) rfl (nI_inc i) rfl ?_
      refine go_goto 2 dX0_takeOver_34 (by decide) ?_
      refine go_ls [(3, .int _), (0, .ref 1), (1, .ref 11), (2, .ref 54)] (List.forall_mem_cons.mpr ⟨rfl, List.forall_mem_cons.mpr ⟨rfl, List.forall_mem_cons.mpr ⟨rfl, List.forall_mem_cons.mpr ⟨rfl, fun _ h => absurd h List.not_mem_nil⟩⟩⟩⟩) ?_
      refine g_st (T := bd_takeN i p) (by unfold bd_takeN; simp only [if_pos hc2]; try rfl) (ih2 (by omega))
theorem fr_bd_takeN {a0 c0 : Nat} (h11 : a0 ≠ 11) (i : Nat) (p : gS) : rI (bd_takeN i p) a0 c0 = rI p a0 c0 := by
  unfold bd_takeN
  (repeat' split) <;> simp only [rI_wIk h11, rI_wRk h11]
theorem fr_lp_takeN {a0 c0 : Nat} (h11 : a0 ≠ 11)  (n : Nat) (p : gS) : rI (itr (bd_takeN) n p) a0 c0 = rI p a0 c0 := by
  induction n with
  | zero => rfl
  | succ n ih => exact (fr_bd_takeN h11 _ _).trans ih

def f_takeN (S : gS) (n : Nat) : gS := (itr (bd_takeN) n S)
set_option maxRecDepth 100000 in
set_option maxHeartbeats 1000000 in
theorem ct_takeN (S : gS) (n : Nat) (ho : okC S n) : gF mX0_takeOver [.ref 1, .ref 11, .ref 54] S none (f_takeN S n) := by
  refine go_enter [.ref 1, .ref 11, .ref 54] [(0, .ref 1), (1, .ref 11), (2, .ref 54)] (by decide +kernel) rfl rfl (Nat.le_of_ble_eq_true rfl) rfl ?_
  refine go_iconst 1 (0) dX0_takeOver_0 rfl (by decide) ?_
  refine go_istore_n 2 [(3, .int _), (0, .ref 1), (1, .ref 11), (2, .ref 54)] dX0_takeOver_1 rfl (Nat.le_of_ble_eq_true rfl) rfl ?_
  refine go_ls [(3, .int _), (0, .ref 1), (1, .ref 11), (2, .ref 54)] (List.forall_mem_cons.mpr ⟨rfl, List.forall_mem_cons.mpr ⟨rfl, List.forall_mem_cons.mpr ⟨rfl, List.forall_mem_cons.mpr ⟨rfl, fun _ h => absurd h List.not_mem_nil⟩⟩⟩⟩) ?_
  refine lk_takeN n _ (fun i hi => okC.of ho (fun a c h => fr_lp_takeN (by omega) i _)) ?_ 0 (Nat.zero_le _)
  refine go_return dX0_takeOver_37 rfl (Nat.le_of_ble_eq_true rfl) (Nat.le_of_ble_eq_true rfl) ?_
  exact ⟨rfl, congrArg hp rfl⟩
theorem fr_f_takeN {a0 c0 : Nat} (h11 : a0 ≠ 11) (S : gS) (n : Nat) : rI (f_takeN S n) a0 c0 = rI S a0 c0 := by
  unfold f_takeN
  (repeat' split) <;> simp only [rI_wIk h11, rI_wRk h11, fr_lp_takeN h11]

def f_X0_copyRow (S : gS) (k0 k1 : Nat) : gS := (wR S k1 (fun j => if j < 24 then rI S k0 j else rI S k1 j))
set_option maxRecDepth 100000 in
set_option maxHeartbeats 1000000 in
theorem ct_X0_copyRow (S : gS) (k0 k1 : Nat) (h0 : ly[k0]? = some (.inl (.int, 24, .inl (fun _ => 0)))) (h1 : ly[k1]? = some (.inl (.int, 24, .inl (fun _ => 0)))) : gF mX0_copyRow [.ref k0, .ref k1] S none (f_X0_copyRow S k0 k1) := by
  refine go_enter [.ref k0, .ref k1] [(0, .ref k0), (1, .ref k1)] (by decide +kernel) rfl rfl (Nat.le_of_ble_eq_true rfl) rfl ?_
  refine go_aload_n 1 dX0_copyRow_0 rfl rfl ?_
  refine go_iconst 2 (0) dX0_copyRow_1 rfl (by decide) ?_
  refine go_aload_n 3 dX0_copyRow_2 rfl rfl ?_
  refine go_iconst 4 (0) dX0_copyRow_3 rfl (by decide) ?_
  refine go_bipush 6 (24) dX0_copyRow_4 rfl (by decide) ?_
  refine g_copy 9 dX0_copyRow_6 rfl wL_RX0_61 h0 h1 (by decide) (by decide) (Nat.le_of_ble_eq_true rfl) (Nat.le_of_ble_eq_true rfl) ?_
  refine go_return dX0_copyRow_9 rfl (Nat.le_of_ble_eq_true rfl) (Nat.le_of_ble_eq_true rfl) ?_
  exact ⟨rfl, congrArg hp rfl⟩

