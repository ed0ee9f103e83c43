-- needs 
def f_X5_parseOperation (S : gS) (k : Nat) : Int32 × gS := (if (f_X5_kindOf ((f_X5_peek S))) = (-1) then (0, S) else (if (f_X5_parseSignal (f_X2_become (wI S 55 1 (((rI S 55 1) + 1))) k ((f_X5_kindOf ((f_X5_peek S)))) ((rI (wI S 55 1 (((rI S 55 1) + 1))) (k + 1) 0)) 0 0) k 1).1 = 0 then (0, (f_X5_parseSignal (f_X2_become (wI S 55 1 (((rI S 55 1) + 1))) k ((f_X5_kindOf ((f_X5_peek S)))) ((rI (wI S 55 1 (((rI S 55 1) + 1))) (k + 1) 0)) 0 0) k 1).2) else (if (f_X5_kindOf ((f_X5_peek S))) = 12 then (if (f_X5_take (f_X5_parseSignal (f_X2_become (wI S 55 1 (((rI S 55 1) + 1))) k ((f_X5_kindOf ((f_X5_peek S)))) ((rI (wI S 55 1 (((rI S 55 1) + 1))) (k + 1) 0)) 0 0) k 1).2 58).1 = 0 then (0, (f_X5_take (f_X5_parseSignal (f_X2_become (wI S 55 1 (((rI S 55 1) + 1))) k ((f_X5_kindOf ((f_X5_peek S)))) ((rI (wI S 55 1 (((rI S 55 1) + 1))) (k + 1) 0)) 0 0) k 1).2 58).2) else (if (f_X5_parseSignal (f_X5_take (f_X5_parseSignal (f_X2_become (wI S 55 1 (((rI S 55 1) + 1))) k ((f_X5_kindOf ((f_X5_peek S)))) ((rI (wI S 55 1 (((rI S 55 1) + 1))) (k + 1) 0)) 0 0) k 1).2 58).2 k 2).1 = 0 then (0, (f_X5_parseSignal (f_X5_take (f_X5_parseSignal (f_X2_become (wI S 55 1 (((rI S 55 1) + 1))) k ((f_X5_kindOf ((f_X5_peek S)))) ((rI (wI S 55 1 (((rI S 55 1) + 1))) (k + 1) 0)) 0 0) k 1).2 58).2 k 2).2) else (1, (f_X5_parseSignal (f_X5_take (f_X5_parseSignal (f_X2_become (wI S 55 1 (((rI S 55 1) + 1))) k ((f_X5_kindOf ((f_X5_peek S)))) ((rI (wI S 55 1 (((rI S 55 1) + 1))) (k + 1) 0)) 0 0) k 1).2 58).2 k 2).2))) else (1, (f_X5_parseSignal (f_X2_become (wI S 55 1 (((rI S 55 1) + 1))) k ((f_X5_kindOf ((f_X5_peek S)))) ((rI (wI S 55 1 (((rI S 55 1) + 1))) (k + 1) 0)) 0 0) k 1).2))))
set_option maxRecDepth 100000 in
set_option maxHeartbeats 1000000 in
theorem ct_X5_parseOperation (S : gS) (k : Nat) (hk : itm k) (ht : okQ S) : gF mX5_parseOperation [.ref 55, .ref k] S (some (.int (f_X5_parseOperation S k).1)) (f_X5_parseOperation S k).2 := by
  refine go_enter [.ref 55, .ref k] [(0, .ref 55), (1, .ref k)] (by decide +kernel) rfl rfl (Nat.le_of_ble_eq_true rfl) rfl ?_
  refine go_aload_n 1 dX5_parseOperation_0 rfl rfl ?_
  refine g_callV 4 [] [] dX5_parseOperation_1 rfl (ct_X5_peek _ ht) rfl sV_X5_parseOperation_40 rfl ly_55 rfl rfl (Nat.le_of_ble_eq_true rfl) (Nat.le_of_ble_eq_true rfl) (Nat.le_of_ble_eq_true rfl) ?_
  refine g_callS 7 [.int _] [] dX5_parseOperation_4 rfl (ct_X5_kindOf _ _) rfl sV_X5_parseOperation_58 rfl (Nat.le_of_ble_eq_true rfl) (Nat.le_of_ble_eq_true rfl) (Nat.le_of_ble_eq_true rfl) ?_
  refine go_istore_n 8 [(2, .int _), (0, .ref 55), (1, .ref k)] dX5_parseOperation_7 rfl (Nat.le_of_ble_eq_true rfl) rfl ?_
  refine go_iload_n 9 dX5_parseOperation_8 rfl rfl ?_
  refine go_iconst 10 (-1) dX5_parseOperation_9 rfl (by decide) ?_
  refine go_icmp_ne 13 15 dX5_parseOperation_10 rfl (by decide) (fun hc1 => ?_) (fun hc1 => ?_)
  · have ht1 := okQ.op ht hc1
    refine go_aload_n 16 dX5_parseOperation_15 rfl rfl ?_
    refine go_dup 17 dX5_parseOperation_16 rfl rfl ?_
    refine g_getI 20 dX5_parseOperation_17 rfl fF_RX5_15 ly_55 rfl ?_
    refine go_iconst 21 (1) dX5_parseOperation_20 rfl (by decide) ?_
    refine go_iadd 22 dX5_parseOperation_21 rfl ?_
    refine g_putI 25 dX5_parseOperation_22 rfl fF_RX5_15 ly_55 rfl (fun q hq => by cases hq; rfl) rfl rfl ?_
    refine go_aload_n 26 dX5_parseOperation_25 rfl rfl ?_
    refine go_iload_n 27 dX5_parseOperation_26 rfl rfl ?_
    refine go_aload_n 28 dX5_parseOperation_27 rfl rfl ?_
    refine g_getR 31 dX5_parseOperation_28 rfl fF_RX5_62 hk.1 rfl ?_
    refine go_iconst 32 (0) dX5_parseOperation_31 rfl (by decide) ?_
    refine g_iald2 33 0 dX5_parseOperation_32 rfl hk.2 (by unfold vp_in; decide) rfl ?_
    refine go_iconst 34 (0) dX5_parseOperation_33 rfl (by decide) ?_
    refine go_iconst 35 (0) dX5_parseOperation_34 rfl (by decide) ?_
    refine g_callV0 38 [.int _, .int _, .int _, .int _] [] dX5_parseOperation_35 rfl (ct_X2_become _ _ _ _ _ _ hk) rfl sV_X5_parseOperation_44 rfl hk.1 rfl rfl (Nat.le_of_ble_eq_true rfl) (Nat.le_of_ble_eq_true rfl) (Nat.le_of_ble_eq_true rfl) ?_
    refine go_aload_n 39 dX5_parseOperation_38 rfl rfl ?_
    refine go_aload_n 40 dX5_parseOperation_39 rfl rfl ?_
    refine go_iconst 41 (1) dX5_parseOperation_40 rfl (by decide) ?_
    refine g_callV 44 [.ref k, .int _] [] dX5_parseOperation_41 rfl (ct_X5_parseSignal _ _ _ hk (by unfold vp_in; decide) (okQ.bec hk _ _ _ _ ht1)) rfl sV_X5_parseOperation_52 rfl ly_55 rfl rfl (Nat.le_of_ble_eq_true rfl) (Nat.le_of_ble_eq_true rfl) (Nat.le_of_ble_eq_true rfl) ?_
    refine go_if_ne 47 49 dX5_parseOperation_44 rfl (by decide) (fun hc2 => ?_) (fun hc2 => ?_)
    · refine go_iload_n 50 dX5_parseOperation_49 rfl rfl ?_
      refine go_bipush 52 (12) dX5_parseOperation_50 rfl (by decide) ?_
      refine go_icmp_ne 55 73 dX5_parseOperation_52 rfl (by decide) (fun hc3 => ?_) (fun hc3 => ?_)
      · refine go_iconst 74 (1) dX5_parseOperation_73 rfl (by decide) ?_
        refine go_goto 78 dX5_parseOperation_74 (by decide) ?_
        refine go_ireturn dX5_parseOperation_78 rfl (by first | rfl | exact bi_nar) (Nat.le_of_ble_eq_true rfl) (Nat.le_of_ble_eq_true rfl) ?_
        exact ⟨congrArg (fun z => some (Value.int z)) (by unfold f_X5_parseOperation; simp only [if_neg hc1, if_neg hc2, if_neg hc3]; try first | rfl | contradiction), congrArg hp (by unfold f_X5_parseOperation; simp only [if_neg hc1, if_neg hc2, if_neg hc3]; try first | rfl | contradiction)⟩
      · refine go_aload_n 56 dX5_parseOperation_55 rfl rfl ?_
        refine go_bipush 58 (58) dX5_parseOperation_56 rfl (by decide) ?_
        refine g_callV 61 [.int _] [] dX5_parseOperation_58 rfl (ct_X5_take _ _ (okQ.sig hk _ (okQ.bec hk _ _ _ _ ht1))) rfl sV_X5_parseOperation_36 rfl ly_55 rfl rfl (Nat.le_of_ble_eq_true rfl) (Nat.le_of_ble_eq_true rfl) (Nat.le_of_ble_eq_true rfl) ?_
        refine go_if_eq 64 77 dX5_parseOperation_61 rfl (by decide) (fun hc4 => ?_) (fun hc4 => ?_)
        · refine go_iconst 78 (0) dX5_parseOperation_77 rfl (by decide) ?_
          refine go_ireturn dX5_parseOperation_78 rfl (by first | rfl | exact bi_nar) (Nat.le_of_ble_eq_true rfl) (Nat.le_of_ble_eq_true rfl) ?_
          exact ⟨congrArg (fun z => some (Value.int z)) (by unfold f_X5_parseOperation; simp only [if_neg hc1, if_neg hc2, if_pos hc3, if_pos hc4]; try first | rfl | contradiction), congrArg hp (by unfold f_X5_parseOperation; simp only [if_neg hc1, if_neg hc2, if_pos hc3, if_pos hc4]; try first | rfl | contradiction)⟩
        · refine go_aload_n 65 dX5_parseOperation_64 rfl rfl ?_
          refine go_aload_n 66 dX5_parseOperation_65 rfl rfl ?_
          refine go_iconst 67 (2) dX5_parseOperation_66 rfl (by decide) ?_
          refine g_callV 70 [.ref k, .int _] [] dX5_parseOperation_67 rfl (ct_X5_parseSignal _ _ _ hk (by unfold vp_in; decide) (okQ.take (okQ.sig hk _ (okQ.bec hk _ _ _ _ ht1)) (by decide))) rfl sV_X5_parseOperation_52 rfl ly_55 rfl rfl (Nat.le_of_ble_eq_true rfl) (Nat.le_of_ble_eq_true rfl) (Nat.le_of_ble_eq_true rfl) ?_
          refine go_if_eq 73 77 dX5_parseOperation_70 rfl (by decide) (fun hc5 => ?_) (fun hc5 => ?_)
          · refine go_iconst 78 (0) dX5_parseOperation_77 rfl (by decide) ?_
            refine go_ireturn dX5_parseOperation_78 rfl (by first | rfl | exact bi_nar) (Nat.le_of_ble_eq_true rfl) (Nat.le_of_ble_eq_true rfl) ?_
            exact ⟨congrArg (fun z => some (Value.int z)) (by unfold f_X5_parseOperation; simp only [if_neg hc1, if_neg hc2, if_pos hc3, if_neg hc4, if_pos hc5]; try first | rfl | contradiction), congrArg hp (by unfold f_X5_parseOperation; simp only [if_neg hc1, if_neg hc2, if_pos hc3, if_neg hc4, if_pos hc5]; try first | rfl | contradiction)⟩
          · refine go_iconst 74 (1) dX5_parseOperation_73 rfl (by decide) ?_
            refine go_goto 78 dX5_parseOperation_74 (by decide) ?_
            refine go_ireturn dX5_parseOperation_78 rfl (by first | rfl | exact bi_nar) (Nat.le_of_ble_eq_true rfl) (Nat.le_of_ble_eq_true rfl) ?_
            exact ⟨congrArg (fun z => some (Value.int z)) (by unfold f_X5_parseOperation; simp only [if_neg hc1, if_neg hc2, if_pos hc3, if_neg hc4, if_neg hc5]; try first | rfl | contradiction), congrArg hp (by unfold f_X5_parseOperation; simp only [if_neg hc1, if_neg hc2, if_pos hc3, if_neg hc4, if_neg hc5]; try first | rfl | contradiction)⟩
    · refine go_iconst 48 (0) dX5_parseOperation_47 rfl (by decide) ?_
      refine go_ireturn dX5_parseOperation_48 rfl (by first | rfl | exact bi_nar) (Nat.le_of_ble_eq_true rfl) (Nat.le_of_ble_eq_true rfl) ?_
      exact ⟨congrArg (fun z => some (Value.int z)) (by unfold f_X5_parseOperation; simp only [if_neg hc1, if_pos hc2]; try first | rfl | contradiction), congrArg hp (by unfold f_X5_parseOperation; simp only [if_neg hc1, if_pos hc2]; try first | rfl | contradiction)⟩
  · refine go_iconst 14 (0) dX5_parseOperation_13 rfl (by decide) ?_
    refine go_ireturn dX5_parseOperation_14 rfl (by first | rfl | exact bi_nar) (Nat.le_of_ble_eq_true rfl) (Nat.le_of_ble_eq_true rfl) ?_
    exact ⟨congrArg (fun z => some (Value.int z)) (by unfold f_X5_parseOperation; simp only [if_pos hc1]; try first | rfl | contradiction), congrArg hp (by unfold f_X5_parseOperation; simp only [if_pos hc1]; try first | rfl | contradiction)⟩
theorem fr_f_X5_parseOperation {k : Nat} {a0 c0 : Nat} (h55_1 : ¬ (a0 = 55 ∧ c0 = 1)) (hk_0 : ¬ (a0 = k ∧ c0 = 0)) (hk1 : a0 ≠ (k + 1)) (S : gS)  : rI (f_X5_parseOperation S k).2 a0 c0 = rI S a0 c0 := by
  unfold f_X5_parseOperation
  first | (simp only [snd_ite, rI_ite, ite_self, rI_wIc h55_1, rI_wIc hk_0, rI_wIk hk1, rI_wRk hk1, fr_f_X2_become hk_0 hk1, fr_f_X5_parseSignal h55_1 hk1, fr_f_X5_take h55_1]; done) | ((repeat' split) <;> first | rfl | simp only [rI_wIc h55_1, rI_wIc hk_0, rI_wIk hk1, rI_wRk hk1, fr_f_X2_become hk_0 hk1, fr_f_X5_parseSignal h55_1 hk1, fr_f_X5_take h55_1] | (apply fr_f_X2_become <;> assumption) | (apply fr_f_X5_parseSignal <;> assumption) | (apply fr_f_X5_take <;> assumption))

