-- needs 
theorem rm_ok {S : gS} {n : Nat} (ho : okC S (n + 1) ∨ okC S 0) (h : ¬ rI S 1 0 = 0) : okC S (n + 1) := by
  rcases ho with q | q
  · exact q
  · exact absurd q.1 h
def f_X8_setNext (S : gS) (r t : Int32) (n : Nat) : Nat × Int32 × gS := (if (f_X0_has S r) = 0 then (2, 0, S) else (if (f_X0_has S t) = 0 then (2, 0, S) else (if (rI S 2 r.toNatClampNeg) = 2 then (0, (rI S 6 r.toNatClampNeg), (f_X8_beginAnew (wI S 6 r.toNatClampNeg t) n)) else (5, 0, S))))
set_option maxRecDepth 100000 in
set_option maxHeartbeats 1000000 in
theorem ct_X8_setNext (S : gS) (r t : Int32) (n : Nat) (ho : okC S n) : gO mX8_setNext [.ref 0, .int r, .int t] S (f_X8_setNext S r t n).1 (some (.int (f_X8_setNext S r t n).2.1)) (f_X8_setNext S r t n).2.2 := by
  refine go_enter [.ref 0, .int r, .int t] [(0, .ref 0), (1, .int r), (2, .int t)] (by decide +kernel) rfl rfl (Nat.le_of_ble_eq_true rfl) rfl ?_
  refine go_aload_n 1 dX8_setNext_0 rfl rfl ?_
  refine go_iload_n 2 dX8_setNext_1 rfl rfl ?_
  refine g_req 5 [] dX8_setNext_2 rfl sV_X8_setNext_135 rfl (Nat.le_of_ble_eq_true rfl) (Nat.le_of_ble_eq_true rfl) (Nat.le_of_ble_eq_true rfl) (fun hc1 => ?_) (fun hc1 => ?_)
  · exact ⟨(by unfold f_X8_setNext; simp only [if_pos hc1]; try decide), (by unfold f_X8_setNext; simp only [if_pos hc1]; try rfl), congrArg hp (by unfold f_X8_setNext; simp only [if_pos hc1]; try first | rfl | contradiction)⟩
  · refine go_aload_n 6 dX8_setNext_5 rfl rfl ?_
    refine go_iload_n 7 dX8_setNext_6 rfl rfl ?_
    refine g_req 10 [] dX8_setNext_7 rfl sV_X8_setNext_135 rfl (Nat.le_of_ble_eq_true rfl) (Nat.le_of_ble_eq_true rfl) (Nat.le_of_ble_eq_true rfl) (fun hc2 => ?_) (fun hc2 => ?_)
    · exact ⟨(by unfold f_X8_setNext; simp only [if_neg hc1, if_pos hc2]; try decide), (by unfold f_X8_setNext; simp only [if_neg hc1, if_pos hc2]; try rfl), congrArg hp (by unfold f_X8_setNext; simp only [if_neg hc1, if_pos hc2]; try first | rfl | contradiction)⟩
    · refine go_aload_n 11 dX8_setNext_10 rfl rfl ?_
      refine g_getR 14 dX8_setNext_11 rfl fF_RX8_10 ly_0 rfl ?_
      refine g_getR 17 dX8_setNext_14 rfl fF_RX8_139 ly_1 rfl ?_
      refine go_iload_n 18 dX8_setNext_17 rfl rfl ?_
      refine g_iald2 19 _ dX8_setNext_18 rfl ly_2 (has_in ho hc1) rfl ?_
      refine go_iconst 20 (2) dX8_setNext_19 rfl (by decide) ?_
      refine go_icmp_eq 23 33 dX8_setNext_20 rfl (by decide) (fun hc3 => ?_) (fun hc3 => ?_)
      · refine go_aload_n 34 dX8_setNext_33 rfl rfl ?_
        refine g_getR 37 dX8_setNext_34 rfl fF_RX8_10 ly_0 rfl ?_
        refine g_getR 40 dX8_setNext_37 rfl fF_RX8_148 ly_1 rfl ?_
        refine go_iload_n 41 dX8_setNext_40 rfl rfl ?_
        refine g_iald2 42 _ dX8_setNext_41 rfl ly_6 (has_in ho hc1) rfl ?_
        refine go_istore_n 43 [(3, .int _), (0, .ref 0), (1, .int _), (2, .int _)] dX8_setNext_42 rfl (Nat.le_of_ble_eq_true rfl) rfl ?_
        refine go_aload_n 44 dX8_setNext_43 rfl rfl ?_
        refine g_getR 47 dX8_setNext_44 rfl fF_RX8_10 ly_0 rfl ?_
        refine g_getR 50 dX8_setNext_47 rfl fF_RX8_148 ly_1 rfl ?_
        refine go_iload_n 51 dX8_setNext_50 rfl rfl ?_
        refine go_iload_n 52 dX8_setNext_51 rfl rfl ?_
        refine g_iast2 53 _ dX8_setNext_52 rfl ly_6 (has_in ho hc1) rfl ?_
        refine go_aload_n 54 dX8_setNext_53 rfl rfl ?_
        refine g_callV0 57 [] [] dX8_setNext_54 rfl (ct_X8_beginAnew _ _ (okC_next ho (has_in ho hc1) ((has_sgn ho.1).mp hc2))) rfl sV_X8_setNext_123 rfl ly_0 rfl rfl (Nat.le_of_ble_eq_true rfl) (Nat.le_of_ble_eq_true rfl) (Nat.le_of_ble_eq_true rfl) ?_
        refine go_iload_n 58 dX8_setNext_57 rfl rfl ?_
        refine go_ireturn dX8_setNext_58 rfl (by first | rfl | exact bi_nar) (Nat.le_of_ble_eq_true rfl) (Nat.le_of_ble_eq_true rfl) ?_
        exact ⟨(by unfold f_X8_setNext; simp only [if_neg hc1, if_neg hc2, if_pos hc3]; try first | rfl | contradiction), congrArg (fun z => some (Value.int z)) (by unfold f_X8_setNext; simp only [if_neg hc1, if_neg hc2, if_pos hc3]; try first | rfl | contradiction), congrArg hp (by unfold f_X8_setNext; simp only [if_neg hc1, if_neg hc2, if_pos hc3]; try first | rfl | contradiction)⟩
      · refine go_throw "java/lang/UnsupportedOperationException" "the signal is no register" dX8_setNext_23 dX8_setNext_26 dX8_setNext_27 dX8_setNext_29 dX8_setNext_32 rfl sT_RX8_143 (List.mem_of_getElem? (i := 6) rfl) (Nat.le_of_ble_eq_true rfl) (Nat.le_of_ble_eq_true rfl) (Nat.le_of_ble_eq_true rfl) (Nat.le_of_ble_eq_true rfl) ?_
        exact ⟨(by unfold f_X8_setNext; simp only [if_neg hc1, if_neg hc2, if_neg hc3]; try decide), (by unfold f_X8_setNext; simp only [if_neg hc1, if_neg hc2, if_neg hc3]; try rfl), congrArg hp (by unfold f_X8_setNext; simp only [if_neg hc1, if_neg hc2, if_neg hc3]; try first | rfl | contradiction)⟩

def f_X8_setOutput (S : gS) (r v : Int32) (n : Nat) : Nat × Int32 × gS := (if (f_X0_has S r) = 0 then (2, 0, S) else (0, (rI S 7 r.toNatClampNeg), (f_X8_beginAnew (wI S 7 r.toNatClampNeg ((vp_nar .boolean v))) n)))
set_option maxRecDepth 100000 in
set_option maxHeartbeats 1000000 in
theorem ct_X8_setOutput (S : gS) (r v : Int32) (n : Nat) (ho : okC S n) (hb : ∀ c, rI S 7 c = 0 ∨ rI S 7 c = 1) : gO mX8_setOutput [.ref 0, .int r, .int v] S (f_X8_setOutput S r v n).1 (some (.int (f_X8_setOutput S r v n).2.1)) (f_X8_setOutput S r v n).2.2 := by
  refine go_enter [.ref 0, .int r, .int v] [(0, .ref 0), (1, .int r), (2, .int v)] (by decide +kernel) rfl rfl (Nat.le_of_ble_eq_true rfl) rfl ?_
  refine go_aload_n 1 dX8_setOutput_0 rfl rfl ?_
  refine go_iload_n 2 dX8_setOutput_1 rfl rfl ?_
  refine g_req 5 [] dX8_setOutput_2 rfl sV_X8_setOutput_135 rfl (Nat.le_of_ble_eq_true rfl) (Nat.le_of_ble_eq_true rfl) (Nat.le_of_ble_eq_true rfl) (fun hc1 => ?_) (fun hc1 => ?_)
  · exact ⟨(by unfold f_X8_setOutput; simp only [if_pos hc1]; try decide), (by unfold f_X8_setOutput; simp only [if_pos hc1]; try rfl), congrArg hp (by unfold f_X8_setOutput; simp only [if_pos hc1]; try first | rfl | contradiction)⟩
  · refine go_aload_n 6 dX8_setOutput_5 rfl rfl ?_
    refine g_getR 9 dX8_setOutput_6 rfl fF_RX8_10 ly_0 rfl ?_
    refine g_getR 12 dX8_setOutput_9 rfl fF_RX8_151 ly_1 rfl ?_
    refine go_iload_n 13 dX8_setOutput_12 rfl rfl ?_
    refine g_zald2 14 _ dX8_setOutput_13 rfl ly_7 (has_in ho hc1) rfl ?_
    refine go_istore_n 15 [(3, .int _), (0, .ref 0), (1, .int _), (2, .int _)] dX8_setOutput_14 rfl (Nat.le_of_ble_eq_true rfl) rfl ?_
    refine go_aload_n 16 dX8_setOutput_15 rfl rfl ?_
    refine g_getR 19 dX8_setOutput_16 rfl fF_RX8_10 ly_0 rfl ?_
    refine g_getR 22 dX8_setOutput_19 rfl fF_RX8_151 ly_1 rfl ?_
    refine go_iload_n 23 dX8_setOutput_22 rfl rfl ?_
    refine go_iload_n 24 dX8_setOutput_23 rfl rfl ?_
    refine g_zast2 25 _ dX8_setOutput_24 rfl ly_7 (has_in ho hc1) rfl ?_
    refine go_aload_n 26 dX8_setOutput_25 rfl rfl ?_
    refine g_callV0 29 [] [] dX8_setOutput_26 rfl (ct_X8_beginAnew _ _ (okC.of ho (fun a c h => rI_wIk (by omega) _ _ _))) rfl sV_X8_setOutput_123 rfl ly_0 rfl rfl (Nat.le_of_ble_eq_true rfl) (Nat.le_of_ble_eq_true rfl) (Nat.le_of_ble_eq_true rfl) ?_
    refine go_iload_n 30 dX8_setOutput_29 rfl rfl ?_
    refine go_ireturn dX8_setOutput_30 rfl (nar01 (hb _)) (Nat.le_of_ble_eq_true rfl) (Nat.le_of_ble_eq_true rfl) ?_
    exact ⟨(by unfold f_X8_setOutput; simp only [if_neg hc1]; try first | rfl | contradiction), congrArg (fun z => some (Value.int z)) (by unfold f_X8_setOutput; simp only [if_neg hc1]; try first | rfl | contradiction), congrArg hp (by unfold f_X8_setOutput; simp only [if_neg hc1]; try first | rfl | contradiction)⟩

def f_X8_setPhase (S : gS) (r v : Int32) : Nat × Int32 × gS := (if (f_X0_has S r) = 0 then (2, 0, S) else (if v < 0 then (1, 0, S) else (if v ≤ 3 then (0, (rI S 8 r.toNatClampNeg), (wI (wI S 8 r.toNatClampNeg v) 0 12 0)) else (1, 0, S))))
set_option maxRecDepth 100000 in
set_option maxHeartbeats 1000000 in
theorem ct_X8_setPhase (S : gS) (r v : Int32) (n : Nat) (ho : okC S n) : gO mX8_setPhase [.ref 0, .int r, .int v] S (f_X8_setPhase S r v).1 (some (.int (f_X8_setPhase S r v).2.1)) (f_X8_setPhase S r v).2.2 := by
  refine go_enter [.ref 0, .int r, .int v] [(0, .ref 0), (1, .int r), (2, .int v)] (by decide +kernel) rfl rfl (Nat.le_of_ble_eq_true rfl) rfl ?_
  refine go_aload_n 1 dX8_setPhase_0 rfl rfl ?_
  refine go_iload_n 2 dX8_setPhase_1 rfl rfl ?_
  refine g_req 5 [] dX8_setPhase_2 rfl sV_X8_setPhase_135 rfl (Nat.le_of_ble_eq_true rfl) (Nat.le_of_ble_eq_true rfl) (Nat.le_of_ble_eq_true rfl) (fun hc1 => ?_) (fun hc1 => ?_)
  · exact ⟨(by unfold f_X8_setPhase; simp only [if_pos hc1]; try decide), (by unfold f_X8_setPhase; simp only [if_pos hc1]; try rfl), congrArg hp (by unfold f_X8_setPhase; simp only [if_pos hc1]; try first | rfl | contradiction)⟩
  · refine go_iload_n 6 dX8_setPhase_5 rfl rfl ?_
    refine go_if_lt 9 14 dX8_setPhase_6 rfl (by decide) (fun hc2 => ?_) (fun hc2 => ?_)
    · refine go_throw "java/lang/IllegalArgumentException" "the phase is not from 0 to 3" dX8_setPhase_14 dX8_setPhase_17 dX8_setPhase_18 dX8_setPhase_20 dX8_setPhase_23 rfl sT_RX8_81 (List.mem_of_getElem? (i := 7) rfl) (Nat.le_of_ble_eq_true rfl) (Nat.le_of_ble_eq_true rfl) (Nat.le_of_ble_eq_true rfl) (Nat.le_of_ble_eq_true rfl) ?_
      exact ⟨(by unfold f_X8_setPhase; simp only [if_neg hc1, if_pos hc2]; try decide), (by unfold f_X8_setPhase; simp only [if_neg hc1, if_pos hc2]; try rfl), congrArg hp (by unfold f_X8_setPhase; simp only [if_neg hc1, if_pos hc2]; try first | rfl | contradiction)⟩
    · refine go_iload_n 10 dX8_setPhase_9 rfl rfl ?_
      refine go_iconst 11 (3) dX8_setPhase_10 rfl (by decide) ?_
      refine go_icmp_le 14 24 dX8_setPhase_11 rfl (by decide) (fun hc3 => ?_) (fun hc3 => ?_)
      · refine go_aload_n 25 dX8_setPhase_24 rfl rfl ?_
        refine g_getR 28 dX8_setPhase_25 rfl fF_RX8_10 ly_0 rfl ?_
        refine g_getR 31 dX8_setPhase_28 rfl fF_RX8_157 ly_1 rfl ?_
        refine go_iload_n 32 dX8_setPhase_31 rfl rfl ?_
        refine g_iald2 33 _ dX8_setPhase_32 rfl ly_8 (has_in ho hc1) rfl ?_
        refine go_istore_n 34 [(3, .int _), (0, .ref 0), (1, .int _), (2, .int _)] dX8_setPhase_33 rfl (Nat.le_of_ble_eq_true rfl) rfl ?_
        refine go_aload_n 35 dX8_setPhase_34 rfl rfl ?_
        refine g_getR 38 dX8_setPhase_35 rfl fF_RX8_10 ly_0 rfl ?_
        refine g_getR 41 dX8_setPhase_38 rfl fF_RX8_157 ly_1 rfl ?_
        refine go_iload_n 42 dX8_setPhase_41 rfl rfl ?_
        refine go_iload_n 43 dX8_setPhase_42 rfl rfl ?_
        refine g_iast2 44 _ dX8_setPhase_43 rfl ly_8 (has_in ho hc1) rfl ?_
        refine go_aload_n 45 dX8_setPhase_44 rfl rfl ?_
        refine go_iconst 46 (0) dX8_setPhase_45 rfl (by decide) ?_
        refine g_putI 49 dX8_setPhase_46 rfl fF_RX8_78 ly_0 rfl (fun q hq => by cases hq; rfl) rfl rfl ?_
        refine go_iload_n 50 dX8_setPhase_49 rfl rfl ?_
        refine go_ireturn dX8_setPhase_50 rfl (by first | rfl | exact bi_nar) (Nat.le_of_ble_eq_true rfl) (Nat.le_of_ble_eq_true rfl) ?_
        exact ⟨(by unfold f_X8_setPhase; simp only [if_neg hc1, if_neg hc2, if_pos hc3]; try first | rfl | contradiction), congrArg (fun z => some (Value.int z)) (by unfold f_X8_setPhase; simp only [if_neg hc1, if_neg hc2, if_pos hc3]; try first | rfl | contradiction), congrArg hp (by unfold f_X8_setPhase; simp only [if_neg hc1, if_neg hc2, if_pos hc3]; try first | rfl | contradiction)⟩
      · refine go_throw "java/lang/IllegalArgumentException" "the phase is not from 0 to 3" dX8_setPhase_14 dX8_setPhase_17 dX8_setPhase_18 dX8_setPhase_20 dX8_setPhase_23 rfl sT_RX8_81 (List.mem_of_getElem? (i := 7) rfl) (Nat.le_of_ble_eq_true rfl) (Nat.le_of_ble_eq_true rfl) (Nat.le_of_ble_eq_true rfl) (Nat.le_of_ble_eq_true rfl) ?_
        exact ⟨(by unfold f_X8_setPhase; simp only [if_neg hc1, if_neg hc2, if_neg hc3]; try decide), (by unfold f_X8_setPhase; simp only [if_neg hc1, if_neg hc2, if_neg hc3]; try rfl), congrArg hp (by unfold f_X8_setPhase; simp only [if_neg hc1, if_neg hc2, if_neg hc3]; try first | rfl | contradiction)⟩

def f_X8_signal (S : gS) (r w : Int32) : Nat × Int32 × gS := (if (f_X0_has S r) = 0 then (2, 0, S) else (if w = 0 then (0, (rI S 2 r.toNatClampNeg), S) else (if w = 1 then (0, (rI S 3 r.toNatClampNeg), S) else (if w = 2 then (0, (rI S 4 r.toNatClampNeg), S) else (if w = 3 then (0, (rI S 5 r.toNatClampNeg), S) else (if w = 4 then (if (rI S 2 r.toNatClampNeg) = 2 then (0, (rI S 6 r.toNatClampNeg), S) else (0, (-1), S)) else (if w = 5 then (if (rI S 7 r.toNatClampNeg) = 0 then (0, 0, S) else (0, 1, S)) else (if w = 6 then (0, (rI S 8 r.toNatClampNeg), S) else (1, 0, S)))))))))
set_option maxRecDepth 100000 in
set_option maxHeartbeats 1000000 in
theorem ct_X8_signal (S : gS) (r w : Int32) (n : Nat) (ho : okC S n) : gO mX8_signal [.ref 0, .int r, .int w] S (f_X8_signal S r w).1 (some (.int (f_X8_signal S r w).2.1)) (f_X8_signal S r w).2.2 := by
  refine go_enter [.ref 0, .int r, .int w] [(0, .ref 0), (1, .int r), (2, .int w)] (by decide +kernel) rfl rfl (Nat.le_of_ble_eq_true rfl) rfl ?_
  refine go_aload_n 1 dX8_signal_0 rfl rfl ?_
  refine go_iload_n 2 dX8_signal_1 rfl rfl ?_
  refine g_req 5 [] dX8_signal_2 rfl sV_X8_signal_135 rfl (Nat.le_of_ble_eq_true rfl) (Nat.le_of_ble_eq_true rfl) (Nat.le_of_ble_eq_true rfl) (fun hc1 => ?_) (fun hc1 => ?_)
  · exact ⟨(by unfold f_X8_signal; simp only [if_pos hc1]; try decide), (by unfold f_X8_signal; simp only [if_pos hc1]; try rfl), congrArg hp (by unfold f_X8_signal; simp only [if_pos hc1]; try first | rfl | contradiction)⟩
  · refine go_iload_n 6 dX8_signal_5 rfl rfl ?_
    refine go_tableS [(0, 48), (1, 58), (2, 68), (3, 78), (4, 88), (5, 115), (6, 133)] 143 dX8_signal_6 rfl rfl (by decide) (by decide) rfl (by decide) (List.forall_mem_cons.mpr ⟨fun hc2 => ?_, List.forall_mem_cons.mpr ⟨fun hc2 => ?_, List.forall_mem_cons.mpr ⟨fun hc2 => ?_, List.forall_mem_cons.mpr ⟨fun hc2 => ?_, List.forall_mem_cons.mpr ⟨fun hc2 => ?_, List.forall_mem_cons.mpr ⟨fun hc2 => ?_, List.forall_mem_cons.mpr ⟨fun hc2 => ?_, fun _ h => absurd h List.not_mem_nil⟩⟩⟩⟩⟩⟩⟩) (fun hc2 => ?_)
    · have hc2 : w = 0 := hc2
      refine go_aload_n 49 dX8_signal_48 rfl rfl ?_
      refine g_getR 52 dX8_signal_49 rfl fF_RX8_10 ly_0 rfl ?_
      refine g_getR 55 dX8_signal_52 rfl fF_RX8_139 ly_1 rfl ?_
      refine go_iload_n 56 dX8_signal_55 rfl rfl ?_
      refine g_iald2 57 _ dX8_signal_56 rfl ly_2 (has_in ho hc1) rfl ?_
      refine go_ireturn dX8_signal_57 rfl (by first | rfl | exact bi_nar) (Nat.le_of_ble_eq_true rfl) (Nat.le_of_ble_eq_true rfl) ?_
      exact ⟨(by unfold f_X8_signal; simp only [if_neg hc1, if_pos hc2]; try first | rfl | contradiction), congrArg (fun z => some (Value.int z)) (by unfold f_X8_signal; simp only [if_neg hc1, if_pos hc2]; try first | rfl | contradiction), congrArg hp (by unfold f_X8_signal; simp only [if_neg hc1, if_pos hc2]; try first | rfl | contradiction)⟩
    · have hc2 : w = 1 := hc2
      have hc2_0 : ¬ w = 0 := by rw [hc2]; decide
      refine go_aload_n 59 dX8_signal_58 rfl rfl ?_
      refine g_getR 62 dX8_signal_59 rfl fF_RX8_10 ly_0 rfl ?_
      refine g_getR 65 dX8_signal_62 rfl fF_RX8_160 ly_1 rfl ?_
      refine go_iload_n 66 dX8_signal_65 rfl rfl ?_
      refine g_iald2 67 _ dX8_signal_66 rfl ly_3 (has_in ho hc1) rfl ?_
      refine go_ireturn dX8_signal_67 rfl (by first | rfl | exact bi_nar) (Nat.le_of_ble_eq_true rfl) (Nat.le_of_ble_eq_true rfl) ?_
      exact ⟨(by unfold f_X8_signal; simp only [if_neg hc1, if_neg hc2_0, if_pos hc2]; try first | rfl | contradiction), congrArg (fun z => some (Value.int z)) (by unfold f_X8_signal; simp only [if_neg hc1, if_neg hc2_0, if_pos hc2]; try first | rfl | contradiction), congrArg hp (by unfold f_X8_signal; simp only [if_neg hc1, if_neg hc2_0, if_pos hc2]; try first | rfl | contradiction)⟩
    · have hc2 : w = 2 := hc2
      have hc2_0 : ¬ w = 0 := by rw [hc2]; decide
      have hc2_1 : ¬ w = 1 := by rw [hc2]; decide
      refine go_aload_n 69 dX8_signal_68 rfl rfl ?_
      refine g_getR 72 dX8_signal_69 rfl fF_RX8_10 ly_0 rfl ?_
      refine g_getR 75 dX8_signal_72 rfl fF_RX8_163 ly_1 rfl ?_
      refine go_iload_n 76 dX8_signal_75 rfl rfl ?_
      refine g_iald2 77 _ dX8_signal_76 rfl ly_4 (has_in ho hc1) rfl ?_
      refine go_ireturn dX8_signal_77 rfl (by first | rfl | exact bi_nar) (Nat.le_of_ble_eq_true rfl) (Nat.le_of_ble_eq_true rfl) ?_
      exact ⟨(by unfold f_X8_signal; simp only [if_neg hc1, if_neg hc2_0, if_neg hc2_1, if_pos hc2]; try first | rfl | contradiction), congrArg (fun z => some (Value.int z)) (by unfold f_X8_signal; simp only [if_neg hc1, if_neg hc2_0, if_neg hc2_1, if_pos hc2]; try first | rfl | contradiction), congrArg hp (by unfold f_X8_signal; simp only [if_neg hc1, if_neg hc2_0, if_neg hc2_1, if_pos hc2]; try first | rfl | contradiction)⟩
    · have hc2 : w = 3 := hc2
      have hc2_0 : ¬ w = 0 := by rw [hc2]; decide
      have hc2_1 : ¬ w = 1 := by rw [hc2]; decide
      have hc2_2 : ¬ w = 2 := by rw [hc2]; decide
      refine go_aload_n 79 dX8_signal_78 rfl rfl ?_
      refine g_getR 82 dX8_signal_79 rfl fF_RX8_10 ly_0 rfl ?_
      refine g_getR 85 dX8_signal_82 rfl fF_RX8_166 ly_1 rfl ?_
      refine go_iload_n 86 dX8_signal_85 rfl rfl ?_
      refine g_iald2 87 _ dX8_signal_86 rfl ly_5 (has_in ho hc1) rfl ?_
      refine go_ireturn dX8_signal_87 rfl (by first | rfl | exact bi_nar) (Nat.le_of_ble_eq_true rfl) (Nat.le_of_ble_eq_true rfl) ?_
      exact ⟨(by unfold f_X8_signal; simp only [if_neg hc1, if_neg hc2_0, if_neg hc2_1, if_neg hc2_2, if_pos hc2]; try first | rfl | contradiction), congrArg (fun z => some (Value.int z)) (by unfold f_X8_signal; simp only [if_neg hc1, if_neg hc2_0, if_neg hc2_1, if_neg hc2_2, if_pos hc2]; try first | rfl | contradiction), congrArg hp (by unfold f_X8_signal; simp only [if_neg hc1, if_neg hc2_0, if_neg hc2_1, if_neg hc2_2, if_pos hc2]; try first | rfl | contradiction)⟩
    · have hc2 : w = 4 := hc2
      have hc2_0 : ¬ w = 0 := by rw [hc2]; decide
      have hc2_1 : ¬ w = 1 := by rw [hc2]; decide
      have hc2_2 : ¬ w = 2 := by rw [hc2]; decide
      have hc2_3 : ¬ w = 3 := by rw [hc2]; decide
      refine go_aload_n 89 dX8_signal_88 rfl rfl ?_
      refine g_getR 92 dX8_signal_89 rfl fF_RX8_10 ly_0 rfl ?_
      refine g_getR 95 dX8_signal_92 rfl fF_RX8_139 ly_1 rfl ?_
      refine go_iload_n 96 dX8_signal_95 rfl rfl ?_
      refine g_iald2 97 _ dX8_signal_96 rfl ly_2 (has_in ho hc1) rfl ?_
      refine go_iconst 98 (2) dX8_signal_97 rfl (by decide) ?_
      refine go_icmp_ne 101 113 dX8_signal_98 rfl (by decide) (fun hc3 => ?_) (fun hc3 => ?_)
      · refine go_iconst 114 (-1) dX8_signal_113 rfl (by decide) ?_
        refine go_ireturn dX8_signal_114 rfl (by first | rfl | exact bi_nar) (Nat.le_of_ble_eq_true rfl) (Nat.le_of_ble_eq_true rfl) ?_
        exact ⟨(by unfold f_X8_signal; simp only [if_neg hc1, if_neg hc2_0, if_neg hc2_1, if_neg hc2_2, if_neg hc2_3, if_pos hc2, if_neg hc3]; try first | rfl | contradiction), congrArg (fun z => some (Value.int z)) (by unfold f_X8_signal; simp only [if_neg hc1, if_neg hc2_0, if_neg hc2_1, if_neg hc2_2, if_neg hc2_3, if_pos hc2, if_neg hc3]; try first | rfl | contradiction), congrArg hp (by unfold f_X8_signal; simp only [if_neg hc1, if_neg hc2_0, if_neg hc2_1, if_neg hc2_2, if_neg hc2_3, if_pos hc2, if_neg hc3]; try first | rfl | contradiction)⟩
      · refine go_aload_n 102 dX8_signal_101 rfl rfl ?_
        refine g_getR 105 dX8_signal_102 rfl fF_RX8_10 ly_0 rfl ?_
        refine g_getR 108 dX8_signal_105 rfl fF_RX8_148 ly_1 rfl ?_
        refine go_iload_n 109 dX8_signal_108 rfl rfl ?_
        refine g_iald2 110 _ dX8_signal_109 rfl ly_6 (has_in ho hc1) rfl ?_
        refine go_goto 114 dX8_signal_110 (by decide) ?_
        refine go_ireturn dX8_signal_114 rfl (by first | rfl | exact bi_nar) (Nat.le_of_ble_eq_true rfl) (Nat.le_of_ble_eq_true rfl) ?_
        exact ⟨(by unfold f_X8_signal; simp only [if_neg hc1, if_neg hc2_0, if_neg hc2_1, if_neg hc2_2, if_neg hc2_3, if_pos hc2, if_pos hc3]; try first | rfl | contradiction), congrArg (fun z => some (Value.int z)) (by unfold f_X8_signal; simp only [if_neg hc1, if_neg hc2_0, if_neg hc2_1, if_neg hc2_2, if_neg hc2_3, if_pos hc2, if_pos hc3]; try first | rfl | contradiction), congrArg hp (by unfold f_X8_signal; simp only [if_neg hc1, if_neg hc2_0, if_neg hc2_1, if_neg hc2_2, if_neg hc2_3, if_pos hc2, if_pos hc3]; try first | rfl | contradiction)⟩
    · have hc2 : w = 5 := hc2
      have hc2_0 : ¬ w = 0 := by rw [hc2]; decide
      have hc2_1 : ¬ w = 1 := by rw [hc2]; decide
      have hc2_2 : ¬ w = 2 := by rw [hc2]; decide
      have hc2_3 : ¬ w = 3 := by rw [hc2]; decide
      have hc2_4 : ¬ w = 4 := by rw [hc2]; decide
      refine go_aload_n 116 dX8_signal_115 rfl rfl ?_
      refine g_getR 119 dX8_signal_116 rfl fF_RX8_10 ly_0 rfl ?_
      refine g_getR 122 dX8_signal_119 rfl fF_RX8_151 ly_1 rfl ?_
      refine go_iload_n 123 dX8_signal_122 rfl rfl ?_
      refine g_zald2 124 _ dX8_signal_123 rfl ly_7 (has_in ho hc1) rfl ?_
      refine go_if_eq 127 131 dX8_signal_124 rfl (by decide) (fun hc4 => ?_) (fun hc4 => ?_)
      · refine go_iconst 132 (0) dX8_signal_131 rfl (by decide) ?_
        refine go_ireturn dX8_signal_132 rfl (by first | rfl | exact bi_nar) (Nat.le_of_ble_eq_true rfl) (Nat.le_of_ble_eq_true rfl) ?_
        exact ⟨(by unfold f_X8_signal; simp only [if_neg hc1, if_neg hc2_0, if_neg hc2_1, if_neg hc2_2, if_neg hc2_3, if_neg hc2_4, if_pos hc2, if_pos hc4]; try first | rfl | contradiction), congrArg (fun z => some (Value.int z)) (by unfold f_X8_signal; simp only [if_neg hc1, if_neg hc2_0, if_neg hc2_1, if_neg hc2_2, if_neg hc2_3, if_neg hc2_4, if_pos hc2, if_pos hc4]; try first | rfl | contradiction), congrArg hp (by unfold f_X8_signal; simp only [if_neg hc1, if_neg hc2_0, if_neg hc2_1, if_neg hc2_2, if_neg hc2_3, if_neg hc2_4, if_pos hc2, if_pos hc4]; try first | rfl | contradiction)⟩
      · refine go_iconst 128 (1) dX8_signal_127 rfl (by decide) ?_
        refine go_goto 132 dX8_signal_128 (by decide) ?_
        refine go_ireturn dX8_signal_132 rfl (by first | rfl | exact bi_nar) (Nat.le_of_ble_eq_true rfl) (Nat.le_of_ble_eq_true rfl) ?_
        exact ⟨(by unfold f_X8_signal; simp only [if_neg hc1, if_neg hc2_0, if_neg hc2_1, if_neg hc2_2, if_neg hc2_3, if_neg hc2_4, if_pos hc2, if_neg hc4]; try first | rfl | contradiction), congrArg (fun z => some (Value.int z)) (by unfold f_X8_signal; simp only [if_neg hc1, if_neg hc2_0, if_neg hc2_1, if_neg hc2_2, if_neg hc2_3, if_neg hc2_4, if_pos hc2, if_neg hc4]; try first | rfl | contradiction), congrArg hp (by unfold f_X8_signal; simp only [if_neg hc1, if_neg hc2_0, if_neg hc2_1, if_neg hc2_2, if_neg hc2_3, if_neg hc2_4, if_pos hc2, if_neg hc4]; try first | rfl | contradiction)⟩
    · have hc2 : w = 6 := hc2
      have hc2_0 : ¬ w = 0 := by rw [hc2]; decide
      have hc2_1 : ¬ w = 1 := by rw [hc2]; decide
      have hc2_2 : ¬ w = 2 := by rw [hc2]; decide
      have hc2_3 : ¬ w = 3 := by rw [hc2]; decide
      have hc2_4 : ¬ w = 4 := by rw [hc2]; decide
      have hc2_5 : ¬ w = 5 := by rw [hc2]; decide
      refine go_aload_n 134 dX8_signal_133 rfl rfl ?_
      refine g_getR 137 dX8_signal_134 rfl fF_RX8_10 ly_0 rfl ?_
      refine g_getR 140 dX8_signal_137 rfl fF_RX8_157 ly_1 rfl ?_
      refine go_iload_n 141 dX8_signal_140 rfl rfl ?_
      refine g_iald2 142 _ dX8_signal_141 rfl ly_8 (has_in ho hc1) rfl ?_
      refine go_ireturn dX8_signal_142 rfl (by first | rfl | exact bi_nar) (Nat.le_of_ble_eq_true rfl) (Nat.le_of_ble_eq_true rfl) ?_
      exact ⟨(by unfold f_X8_signal; simp only [if_neg hc1, if_neg hc2_0, if_neg hc2_1, if_neg hc2_2, if_neg hc2_3, if_neg hc2_4, if_neg hc2_5, if_pos hc2]; try first | rfl | contradiction), congrArg (fun z => some (Value.int z)) (by unfold f_X8_signal; simp only [if_neg hc1, if_neg hc2_0, if_neg hc2_1, if_neg hc2_2, if_neg hc2_3, if_neg hc2_4, if_neg hc2_5, if_pos hc2]; try first | rfl | contradiction), congrArg hp (by unfold f_X8_signal; simp only [if_neg hc1, if_neg hc2_0, if_neg hc2_1, if_neg hc2_2, if_neg hc2_3, if_neg hc2_4, if_neg hc2_5, if_pos hc2]; try first | rfl | contradiction)⟩
    · have hc2_0 : ¬ w = 0 := hc2 (0, 48) (List.mem_of_getElem? (i := 0) rfl)
      have hc2_1 : ¬ w = 1 := hc2 (1, 58) (List.mem_of_getElem? (i := 1) rfl)
      have hc2_2 : ¬ w = 2 := hc2 (2, 68) (List.mem_of_getElem? (i := 2) rfl)
      have hc2_3 : ¬ w = 3 := hc2 (3, 78) (List.mem_of_getElem? (i := 3) rfl)
      have hc2_4 : ¬ w = 4 := hc2 (4, 88) (List.mem_of_getElem? (i := 4) rfl)
      have hc2_5 : ¬ w = 5 := hc2 (5, 115) (List.mem_of_getElem? (i := 5) rfl)
      have hc2_6 : ¬ w = 6 := hc2 (6, 133) (List.mem_of_getElem? (i := 6) rfl)
      clear hc2
      refine go_throw "java/lang/IllegalArgumentException" "no such property of a signal" dX8_signal_143 dX8_signal_146 dX8_signal_147 dX8_signal_149 dX8_signal_152 rfl sT_RX8_81 (List.mem_of_getElem? (i := 8) rfl) (Nat.le_of_ble_eq_true rfl) (Nat.le_of_ble_eq_true rfl) (Nat.le_of_ble_eq_true rfl) (Nat.le_of_ble_eq_true rfl) ?_
      exact ⟨(by unfold f_X8_signal; simp only [if_neg hc1, if_neg hc2_0, if_neg hc2_1, if_neg hc2_2, if_neg hc2_3, if_neg hc2_4, if_neg hc2_5, if_neg hc2_6]; try decide), (by unfold f_X8_signal; simp only [if_neg hc1, if_neg hc2_0, if_neg hc2_1, if_neg hc2_2, if_neg hc2_3, if_neg hc2_4, if_neg hc2_5, if_neg hc2_6]; try rfl), congrArg hp (by unfold f_X8_signal; simp only [if_neg hc1, if_neg hc2_0, if_neg hc2_1, if_neg hc2_2, if_neg hc2_3, if_neg hc2_4, if_neg hc2_5, if_neg hc2_6]; try first | rfl | contradiction)⟩

def f_X8_setInput (S : gS) (r v : Int32) : Nat × Int32 × gS := (if (f_X0_has S r) = 0 then (2, 0, S) else (if (rI S 2 r.toNatClampNeg) = 0 then (if v < (rI S 3 r.toNatClampNeg) then (1, 0, S) else (if v ≤ (rI S 4 r.toNatClampNeg) then (0, (rI S 9 r.toNatClampNeg), (wI S 9 r.toNatClampNeg v)) else (1, 0, S))) else (5, 0, S)))
set_option maxRecDepth 100000 in
set_option maxHeartbeats 1000000 in
theorem ct_X8_setInput (S : gS) (r v : Int32) (n : Nat) (ho : okC S n) : gO mX8_setInput [.ref 0, .int r, .int v] S (f_X8_setInput S r v).1 (some (.int (f_X8_setInput S r v).2.1)) (f_X8_setInput S r v).2.2 := by
  refine go_enter [.ref 0, .int r, .int v] [(0, .ref 0), (1, .int r), (2, .int v)] (by decide +kernel) rfl rfl (Nat.le_of_ble_eq_true rfl) rfl ?_
  refine go_aload_n 1 dX8_setInput_0 rfl rfl ?_
  refine go_iload_n 2 dX8_setInput_1 rfl rfl ?_
  refine g_req 5 [] dX8_setInput_2 rfl sV_X8_setInput_135 rfl (Nat.le_of_ble_eq_true rfl) (Nat.le_of_ble_eq_true rfl) (Nat.le_of_ble_eq_true rfl) (fun hc1 => ?_) (fun hc1 => ?_)
  · exact ⟨(by unfold f_X8_setInput; simp only [if_pos hc1]; try decide), (by unfold f_X8_setInput; simp only [if_pos hc1]; try rfl), congrArg hp (by unfold f_X8_setInput; simp only [if_pos hc1]; try first | rfl | contradiction)⟩
  · refine go_aload_n 6 dX8_setInput_5 rfl rfl ?_
    refine g_getR 9 dX8_setInput_6 rfl fF_RX8_10 ly_0 rfl ?_
    refine g_getR 12 dX8_setInput_9 rfl fF_RX8_139 ly_1 rfl ?_
    refine go_iload_n 13 dX8_setInput_12 rfl rfl ?_
    refine g_iald2 14 _ dX8_setInput_13 rfl ly_2 (has_in ho hc1) rfl ?_
    refine go_if_eq 17 27 dX8_setInput_14 rfl (by decide) (fun hc2 => ?_) (fun hc2 => ?_)
    · refine go_iload_n 28 dX8_setInput_27 rfl rfl ?_
      refine go_aload_n 29 dX8_setInput_28 rfl rfl ?_
      refine g_getR 32 dX8_setInput_29 rfl fF_RX8_10 ly_0 rfl ?_
      refine g_getR 35 dX8_setInput_32 rfl fF_RX8_160 ly_1 rfl ?_
      refine go_iload_n 36 dX8_setInput_35 rfl rfl ?_
      refine g_iald2 37 _ dX8_setInput_36 rfl ly_3 (has_in ho hc1) rfl ?_
      refine go_icmp_lt 40 53 dX8_setInput_37 rfl (by decide) (fun hc3 => ?_) (fun hc3 => ?_)
      · refine go_throw "java/lang/IllegalArgumentException" "the value is not in the range of the input" dX8_setInput_53 dX8_setInput_56 dX8_setInput_57 dX8_setInput_59 dX8_setInput_62 rfl sT_RX8_81 (List.mem_of_getElem? (i := 15) rfl) (Nat.le_of_ble_eq_true rfl) (Nat.le_of_ble_eq_true rfl) (Nat.le_of_ble_eq_true rfl) (Nat.le_of_ble_eq_true rfl) ?_
        exact ⟨(by unfold f_X8_setInput; simp only [if_neg hc1, if_pos hc2, if_pos hc3]; try decide), (by unfold f_X8_setInput; simp only [if_neg hc1, if_pos hc2, if_pos hc3]; try rfl), congrArg hp (by unfold f_X8_setInput; simp only [if_neg hc1, if_pos hc2, if_pos hc3]; try first | rfl | contradiction)⟩
      · refine go_iload_n 41 dX8_setInput_40 rfl rfl ?_
        refine go_aload_n 42 dX8_setInput_41 rfl rfl ?_
        refine g_getR 45 dX8_setInput_42 rfl fF_RX8_10 ly_0 rfl ?_
        refine g_getR 48 dX8_setInput_45 rfl fF_RX8_163 ly_1 rfl ?_
        refine go_iload_n 49 dX8_setInput_48 rfl rfl ?_
        refine g_iald2 50 _ dX8_setInput_49 rfl ly_4 (has_in ho hc1) rfl ?_
        refine go_icmp_le 53 63 dX8_setInput_50 rfl (by decide) (fun hc4 => ?_) (fun hc4 => ?_)
        · refine go_aload_n 64 dX8_setInput_63 rfl rfl ?_
          refine g_getR 67 dX8_setInput_64 rfl fF_RX8_10 ly_0 rfl ?_
          refine g_getR 70 dX8_setInput_67 rfl fF_RX8_250 ly_1 rfl ?_
          refine go_iload_n 71 dX8_setInput_70 rfl rfl ?_
          refine g_iald2 72 _ dX8_setInput_71 rfl ly_9 (has_in ho hc1) rfl ?_
          refine go_istore_n 73 [(3, .int _), (0, .ref 0), (1, .int _), (2, .int _)] dX8_setInput_72 rfl (Nat.le_of_ble_eq_true rfl) rfl ?_
          refine go_aload_n 74 dX8_setInput_73 rfl rfl ?_
          refine g_getR 77 dX8_setInput_74 rfl fF_RX8_10 ly_0 rfl ?_
          refine g_getR 80 dX8_setInput_77 rfl fF_RX8_250 ly_1 rfl ?_
          refine go_iload_n 81 dX8_setInput_80 rfl rfl ?_
          refine go_iload_n 82 dX8_setInput_81 rfl rfl ?_
          refine g_iast2 83 _ dX8_setInput_82 rfl ly_9 (has_in ho hc1) rfl ?_
          refine go_iload_n 84 dX8_setInput_83 rfl rfl ?_
          refine go_ireturn dX8_setInput_84 rfl (by first | rfl | exact bi_nar) (Nat.le_of_ble_eq_true rfl) (Nat.le_of_ble_eq_true rfl) ?_
          exact ⟨(by unfold f_X8_setInput; simp only [if_neg hc1, if_pos hc2, if_neg hc3, if_pos hc4]; try first | rfl | contradiction), congrArg (fun z => some (Value.int z)) (by unfold f_X8_setInput; simp only [if_neg hc1, if_pos hc2, if_neg hc3, if_pos hc4]; try first | rfl | contradiction), congrArg hp (by unfold f_X8_setInput; simp only [if_neg hc1, if_pos hc2, if_neg hc3, if_pos hc4]; try first | rfl | contradiction)⟩
        · refine go_throw "java/lang/IllegalArgumentException" "the value is not in the range of the input" dX8_setInput_53 dX8_setInput_56 dX8_setInput_57 dX8_setInput_59 dX8_setInput_62 rfl sT_RX8_81 (List.mem_of_getElem? (i := 15) rfl) (Nat.le_of_ble_eq_true rfl) (Nat.le_of_ble_eq_true rfl) (Nat.le_of_ble_eq_true rfl) (Nat.le_of_ble_eq_true rfl) ?_
          exact ⟨(by unfold f_X8_setInput; simp only [if_neg hc1, if_pos hc2, if_neg hc3, if_neg hc4]; try decide), (by unfold f_X8_setInput; simp only [if_neg hc1, if_pos hc2, if_neg hc3, if_neg hc4]; try rfl), congrArg hp (by unfold f_X8_setInput; simp only [if_neg hc1, if_pos hc2, if_neg hc3, if_neg hc4]; try first | rfl | contradiction)⟩
    · refine go_throw "java/lang/UnsupportedOperationException" "the signal is no input" dX8_setInput_17 dX8_setInput_20 dX8_setInput_21 dX8_setInput_23 dX8_setInput_26 rfl sT_RX8_143 (List.mem_of_getElem? (i := 14) rfl) (Nat.le_of_ble_eq_true rfl) (Nat.le_of_ble_eq_true rfl) (Nat.le_of_ble_eq_true rfl) (Nat.le_of_ble_eq_true rfl) ?_
      exact ⟨(by unfold f_X8_setInput; simp only [if_neg hc1, if_neg hc2]; try decide), (by unfold f_X8_setInput; simp only [if_neg hc1, if_neg hc2]; try rfl), congrArg hp (by unfold f_X8_setInput; simp only [if_neg hc1, if_neg hc2]; try first | rfl | contradiction)⟩

def f_X8_removeLast (S : gS) (n : Nat) : Nat × Int32 × gS := (if (rI S 1 0) = 0 then (4, 0, S) else (0, (f_X0_dropLast S n).1, (f_X8_beginAnew (f_X0_dropLast S n).2 n)))
set_option maxRecDepth 100000 in
set_option maxHeartbeats 1000000 in
theorem ct_X8_removeLast (S : gS) (n : Nat) (ho : okC S (n + 1) ∨ okC S 0) : gO mX8_removeLast [.ref 0] S (f_X8_removeLast S n).1 (some (.int (f_X8_removeLast S n).2.1)) (f_X8_removeLast S n).2.2 := by
  refine go_enter [.ref 0] [(0, .ref 0)] (by decide +kernel) rfl rfl (Nat.le_of_ble_eq_true rfl) rfl ?_
  refine go_aload_n 1 dX8_removeLast_0 rfl rfl ?_
  refine g_getR 4 dX8_removeLast_1 rfl fF_RX8_10 ly_0 rfl ?_
  refine g_getI 7 dX8_removeLast_4 rfl fF_RX8_98 ly_1 rfl ?_
  refine go_if_ne 10 20 dX8_removeLast_7 rfl (by decide) (fun hc1 => ?_) (fun hc1 => ?_)
  · refine go_aload_n 21 dX8_removeLast_20 rfl rfl ?_
    refine g_getR 24 dX8_removeLast_21 rfl fF_RX8_10 ly_0 rfl ?_
    refine g_callV 27 [] [] dX8_removeLast_24 rfl (ct_X0_dropLast _ _ (rm_ok ho hc1).1 (by have := (rm_ok ho hc1).2.1; omega)) rfl sV_X8_removeLast_131 rfl ly_1 rfl rfl (Nat.le_of_ble_eq_true rfl) (Nat.le_of_ble_eq_true rfl) (Nat.le_of_ble_eq_true rfl) ?_
    refine go_istore_n 28 [(1, .int _), (0, .ref 0)] dX8_removeLast_27 rfl (Nat.le_of_ble_eq_true rfl) rfl ?_
    refine go_aload_n 29 dX8_removeLast_28 rfl rfl ?_
    refine g_callV0 32 [] [] dX8_removeLast_29 rfl (ct_X8_beginAnew _ _ (okC_drop (rm_ok ho hc1))) rfl sV_X8_removeLast_123 rfl ly_0 rfl rfl (Nat.le_of_ble_eq_true rfl) (Nat.le_of_ble_eq_true rfl) (Nat.le_of_ble_eq_true rfl) ?_
    refine go_iload_n 33 dX8_removeLast_32 rfl rfl ?_
    refine go_ireturn dX8_removeLast_33 rfl (by first | rfl | exact bi_nar) (Nat.le_of_ble_eq_true rfl) (Nat.le_of_ble_eq_true rfl) ?_
    exact ⟨(by unfold f_X8_removeLast; simp only [if_neg hc1]; try first | rfl | contradiction), congrArg (fun z => some (Value.int z)) (by unfold f_X8_removeLast; simp only [if_neg hc1]; try first | rfl | contradiction), congrArg hp (by unfold f_X8_removeLast; simp only [if_neg hc1]; try first | rfl | contradiction)⟩
  · refine go_throwN "there are no signals" dX8_removeLast_10 dX8_removeLast_13 dX8_removeLast_14 dX8_removeLast_16 dX8_removeLast_19 rfl sT_RX8_126 (List.mem_of_getElem? (i := 4) rfl) (Nat.le_of_ble_eq_true rfl) (Nat.le_of_ble_eq_true rfl) (Nat.le_of_ble_eq_true rfl) (Nat.le_of_ble_eq_true rfl) ?_
    exact ⟨(by unfold f_X8_removeLast; simp only [if_pos hc1]; try decide), (by unfold f_X8_removeLast; simp only [if_pos hc1]; try rfl), congrArg hp (by unfold f_X8_removeLast; simp only [if_pos hc1]; try first | rfl | contradiction)⟩

def f_X8_fault (S : gS) (l w : Int32) : Nat × Int32 × gS := (if l < 0 then (1, 0, S) else (if w < 0 then (1, 0, S) else (if w ≤ 1 then (if l < (rI S 112 0) then (if w = 0 then (0, (rI S 113 l.toNatClampNeg), S) else (0, (rI S 114 l.toNatClampNeg), S)) else (4, 0, S)) else (1, 0, S))))
set_option maxRecDepth 100000 in
set_option maxHeartbeats 1000000 in
theorem ct_X8_fault (S : gS) (l w : Int32) (hf : ∀ l : Int32, ¬ l < 0 → l < rI S 112 0 → vp_in l 3) : gO mX8_fault [.ref 0, .int l, .int w] S (f_X8_fault S l w).1 (some (.int (f_X8_fault S l w).2.1)) (f_X8_fault S l w).2.2 := by
  refine go_enter [.ref 0, .int l, .int w] [(0, .ref 0), (1, .int l), (2, .int w)] (by decide +kernel) rfl rfl (Nat.le_of_ble_eq_true rfl) rfl ?_
  refine go_iload_n 1 dX8_fault_0 rfl rfl ?_
  refine go_if_lt 4 13 dX8_fault_1 rfl (by decide) (fun hc1 => ?_) (fun hc1 => ?_)
  · refine go_throwW "java/lang/IllegalArgumentException" "no such level or property of a fault" dX8_fault_13 dX8_fault_16 dX8_fault_17 dX8_fault_20 dX8_fault_23 rfl sT_RX8_81 (List.mem_of_getElem? (i := 18) rfl) (Nat.le_of_ble_eq_true rfl) (Nat.le_of_ble_eq_true rfl) (Nat.le_of_ble_eq_true rfl) (Nat.le_of_ble_eq_true rfl) ?_
    exact ⟨(by unfold f_X8_fault; simp only [if_pos hc1]; try decide), (by unfold f_X8_fault; simp only [if_pos hc1]; try rfl), congrArg hp (by unfold f_X8_fault; simp only [if_pos hc1]; try first | rfl | contradiction)⟩
  · refine go_iload_n 5 dX8_fault_4 rfl rfl ?_
    refine go_if_lt 8 13 dX8_fault_5 rfl (by decide) (fun hc2 => ?_) (fun hc2 => ?_)
    · refine go_throwW "java/lang/IllegalArgumentException" "no such level or property of a fault" dX8_fault_13 dX8_fault_16 dX8_fault_17 dX8_fault_20 dX8_fault_23 rfl sT_RX8_81 (List.mem_of_getElem? (i := 18) rfl) (Nat.le_of_ble_eq_true rfl) (Nat.le_of_ble_eq_true rfl) (Nat.le_of_ble_eq_true rfl) (Nat.le_of_ble_eq_true rfl) ?_
      exact ⟨(by unfold f_X8_fault; simp only [if_neg hc1, if_pos hc2]; try decide), (by unfold f_X8_fault; simp only [if_neg hc1, if_pos hc2]; try rfl), congrArg hp (by unfold f_X8_fault; simp only [if_neg hc1, if_pos hc2]; try first | rfl | contradiction)⟩
    · refine go_iload_n 9 dX8_fault_8 rfl rfl ?_
      refine go_iconst 10 (1) dX8_fault_9 rfl (by decide) ?_
      refine go_icmp_le 13 24 dX8_fault_10 rfl (by decide) (fun hc3 => ?_) (fun hc3 => ?_)
      · refine go_iload_n 25 dX8_fault_24 rfl rfl ?_
        refine go_aload_n 26 dX8_fault_25 rfl rfl ?_
        refine g_getR 29 dX8_fault_26 rfl fF_RX8_70 ly_0 rfl ?_
        refine g_getI 32 dX8_fault_29 rfl fF_RX8_317 ly_112 rfl ?_
        refine go_icmp_lt 35 46 dX8_fault_32 rfl (by decide) (fun hc4 => ?_) (fun hc4 => ?_)
        · refine go_iload_n 47 dX8_fault_46 rfl rfl ?_
          refine go_if_ne 50 62 dX8_fault_47 rfl (by decide) (fun hc5 => ?_) (fun hc5 => ?_)
          · refine go_aload_n 63 dX8_fault_62 rfl rfl ?_
            refine g_getR 66 dX8_fault_63 rfl fF_RX8_70 ly_0 rfl ?_
            refine g_getR 69 dX8_fault_66 rfl fF_RX8_323 ly_112 rfl ?_
            refine go_iload_n 70 dX8_fault_69 rfl rfl ?_
            refine g_iald2 71 _ dX8_fault_70 rfl ly_114 (hf l (by assumption) (by assumption)) rfl ?_
            refine go_ireturn dX8_fault_71 rfl (by first | rfl | exact bi_nar) (Nat.le_of_ble_eq_true rfl) (Nat.le_of_ble_eq_true rfl) ?_
            exact ⟨(by unfold f_X8_fault; simp only [if_neg hc1, if_neg hc2, if_pos hc3, if_pos hc4, if_neg hc5]; try first | rfl | contradiction), congrArg (fun z => some (Value.int z)) (by unfold f_X8_fault; simp only [if_neg hc1, if_neg hc2, if_pos hc3, if_pos hc4, if_neg hc5]; try first | rfl | contradiction), congrArg hp (by unfold f_X8_fault; simp only [if_neg hc1, if_neg hc2, if_pos hc3, if_pos hc4, if_neg hc5]; try first | rfl | contradiction)⟩
          · refine go_aload_n 51 dX8_fault_50 rfl rfl ?_
            refine g_getR 54 dX8_fault_51 rfl fF_RX8_70 ly_0 rfl ?_
            refine g_getR 57 dX8_fault_54 rfl fF_RX8_322 ly_112 rfl ?_
            refine go_iload_n 58 dX8_fault_57 rfl rfl ?_
            refine g_iald2 59 _ dX8_fault_58 rfl ly_113 (hf l (by assumption) (by assumption)) rfl ?_
            refine go_goto 71 dX8_fault_59 (by decide) ?_
            refine go_ireturn dX8_fault_71 rfl (by first | rfl | exact bi_nar) (Nat.le_of_ble_eq_true rfl) (Nat.le_of_ble_eq_true rfl) ?_
            exact ⟨(by unfold f_X8_fault; simp only [if_neg hc1, if_neg hc2, if_pos hc3, if_pos hc4, if_pos hc5]; try first | rfl | contradiction), congrArg (fun z => some (Value.int z)) (by unfold f_X8_fault; simp only [if_neg hc1, if_neg hc2, if_pos hc3, if_pos hc4, if_pos hc5]; try first | rfl | contradiction), congrArg hp (by unfold f_X8_fault; simp only [if_neg hc1, if_neg hc2, if_pos hc3, if_pos hc4, if_pos hc5]; try first | rfl | contradiction)⟩
        · refine go_throwNW "there is no fault of this level" dX8_fault_35 dX8_fault_38 dX8_fault_39 dX8_fault_42 dX8_fault_45 rfl sT_RX8_126 (List.mem_of_getElem? (i := 19) rfl) (Nat.le_of_ble_eq_true rfl) (Nat.le_of_ble_eq_true rfl) (Nat.le_of_ble_eq_true rfl) (Nat.le_of_ble_eq_true rfl) ?_
          exact ⟨(by unfold f_X8_fault; simp only [if_neg hc1, if_neg hc2, if_pos hc3, if_neg hc4]; try decide), (by unfold f_X8_fault; simp only [if_neg hc1, if_neg hc2, if_pos hc3, if_neg hc4]; try rfl), congrArg hp (by unfold f_X8_fault; simp only [if_neg hc1, if_neg hc2, if_pos hc3, if_neg hc4]; try first | rfl | contradiction)⟩
      · refine go_throwW "java/lang/IllegalArgumentException" "no such level or property of a fault" dX8_fault_13 dX8_fault_16 dX8_fault_17 dX8_fault_20 dX8_fault_23 rfl sT_RX8_81 (List.mem_of_getElem? (i := 18) rfl) (Nat.le_of_ble_eq_true rfl) (Nat.le_of_ble_eq_true rfl) (Nat.le_of_ble_eq_true rfl) (Nat.le_of_ble_eq_true rfl) ?_
        exact ⟨(by unfold f_X8_fault; simp only [if_neg hc1, if_neg hc2, if_neg hc3]; try decide), (by unfold f_X8_fault; simp only [if_neg hc1, if_neg hc2, if_neg hc3]; try rfl), congrArg hp (by unfold f_X8_fault; simp only [if_neg hc1, if_neg hc2, if_neg hc3]; try first | rfl | contradiction)⟩

def f_X8_feed (S : gS) (c : Int32) : Nat × Int32 × gS := (if (rI S 55 0) < 80 then (0, (f_X5_append S c).1, (f_X5_append S c).2) else (3, 0, S))
set_option maxRecDepth 100000 in
set_option maxHeartbeats 1000000 in
theorem ct_X8_feed (S : gS) (c : Int32) (hl : rI S 55 0 < 80 → vp_in (rI S 55 0) 80) : gO mX8_feed [.ref 0, .int c] S (f_X8_feed S c).1 (some (.int (f_X8_feed S c).2.1)) (f_X8_feed S c).2.2 := by
  refine go_enter [.ref 0, .int c] [(0, .ref 0), (1, .int c)] (by decide +kernel) rfl rfl (Nat.le_of_ble_eq_true rfl) rfl ?_
  refine go_aload_n 1 dX8_feed_0 rfl rfl ?_
  refine g_getR 4 dX8_feed_1 rfl fF_RX8_63 ly_0 rfl ?_
  refine g_getI 7 dX8_feed_4 rfl fF_RX8_280 ly_55 rfl ?_
  refine go_bipush 9 (80) dX8_feed_7 rfl (by decide) ?_
  refine go_icmp_lt 12 23 dX8_feed_9 rfl (by decide) (fun hc1 => ?_) (fun hc1 => ?_)
  · refine go_aload_n 24 dX8_feed_23 rfl rfl ?_
    refine g_getR 27 dX8_feed_24 rfl fF_RX8_63 ly_0 rfl ?_
    refine go_iload_n 28 dX8_feed_27 rfl rfl ?_
    refine g_callV 31 [.int _] [] dX8_feed_28 rfl (ct_X5_append _ _ (hl hc1)) rfl sV_X8_feed_285 rfl ly_55 rfl rfl (Nat.le_of_ble_eq_true rfl) (Nat.le_of_ble_eq_true rfl) (Nat.le_of_ble_eq_true rfl) ?_
    refine go_ireturn dX8_feed_31 rfl (by first | rfl | exact bi_nar) (Nat.le_of_ble_eq_true rfl) (Nat.le_of_ble_eq_true rfl) ?_
    exact ⟨(by unfold f_X8_feed; simp only [if_pos hc1]; try first | rfl | contradiction), congrArg (fun z => some (Value.int z)) (by unfold f_X8_feed; simp only [if_pos hc1]; try first | rfl | contradiction), congrArg hp (by unfold f_X8_feed; simp only [if_pos hc1]; try first | rfl | contradiction)⟩
  · refine go_throwW "java/lang/IllegalStateException" "the input has 80 characters" dX8_feed_12 dX8_feed_15 dX8_feed_16 dX8_feed_19 dX8_feed_22 rfl sT_RX8_114 (List.mem_of_getElem? (i := 17) rfl) (Nat.le_of_ble_eq_true rfl) (Nat.le_of_ble_eq_true rfl) (Nat.le_of_ble_eq_true rfl) (Nat.le_of_ble_eq_true rfl) ?_
    exact ⟨(by unfold f_X8_feed; simp only [if_neg hc1]; try decide), (by unfold f_X8_feed; simp only [if_neg hc1]; try rfl), congrArg hp (by unfold f_X8_feed; simp only [if_neg hc1]; try first | rfl | contradiction)⟩

def f_X8_restoreSnapshot (S : gS)  : Nat × Int32 × gS := (if (rI S 0 11) = 0 then (3, 0, S) else (0, (rI (f_copy1_12 S) 1 0), (wI (f_copy1_12 S) 0 12 0)))
set_option maxRecDepth 100000 in
set_option maxHeartbeats 1000000 in
theorem ct_X8_restoreSnapshot (S : gS)   : gO mX8_restoreSnapshot [.ref 0] S (f_X8_restoreSnapshot S).1 (some (.int (f_X8_restoreSnapshot S).2.1)) (f_X8_restoreSnapshot S).2.2 := by
  refine go_enter [.ref 0] [(0, .ref 0)] (by decide +kernel) rfl rfl (Nat.le_of_ble_eq_true rfl) rfl ?_
  refine go_aload_n 1 dX8_restoreSnapshot_0 rfl rfl ?_
  refine g_getI 4 dX8_restoreSnapshot_1 rfl fF_RX8_74 ly_0 rfl ?_
  refine go_if_ne 7 18 dX8_restoreSnapshot_4 rfl (by decide) (fun hc1 => ?_) (fun hc1 => ?_)
  · refine go_aload_n 19 dX8_restoreSnapshot_18 rfl rfl ?_
    refine g_getR 22 dX8_restoreSnapshot_19 rfl fF_RX8_10 ly_0 rfl ?_
    refine go_aload_n 23 dX8_restoreSnapshot_22 rfl rfl ?_
    refine g_getR 26 dX8_restoreSnapshot_23 rfl fF_RX8_16 ly_0 rfl ?_
    refine g_callV0 29 [.ref 12] [] dX8_restoreSnapshot_26 rfl (ct_copy1_12 _) rfl sV_X8_restoreSnapshot_303 rfl ly_1 rfl rfl (Nat.le_of_ble_eq_true rfl) (Nat.le_of_ble_eq_true rfl) (Nat.le_of_ble_eq_true rfl) ?_
    refine go_aload_n 30 dX8_restoreSnapshot_29 rfl rfl ?_
    refine go_iconst 31 (0) dX8_restoreSnapshot_30 rfl (by decide) ?_
    refine g_putI 34 dX8_restoreSnapshot_31 rfl fF_RX8_78 ly_0 rfl (fun q hq => by cases hq; rfl) rfl rfl ?_
    refine go_aload_n 35 dX8_restoreSnapshot_34 rfl rfl ?_
    refine g_getR 38 dX8_restoreSnapshot_35 rfl fF_RX8_10 ly_0 rfl ?_
    refine g_getI 41 dX8_restoreSnapshot_38 rfl fF_RX8_98 ly_1 rfl ?_
    refine go_topi (rI (f_copy1_12 S) 1 0) (rI_wIk (by decide) _ _ _) ?_
    refine go_ireturn dX8_restoreSnapshot_41 rfl (by first | rfl | exact bi_nar) (Nat.le_of_ble_eq_true rfl) (Nat.le_of_ble_eq_true rfl) ?_
    exact ⟨(by unfold f_X8_restoreSnapshot; simp only [if_neg hc1]; try first | rfl | contradiction), congrArg (fun z => some (Value.int z)) (by unfold f_X8_restoreSnapshot; simp only [if_neg hc1]; try first | rfl | contradiction), congrArg hp (by unfold f_X8_restoreSnapshot; simp only [if_neg hc1]; try first | rfl | contradiction)⟩
  · refine go_throwW "java/lang/IllegalStateException" "no snapshot was saved" dX8_restoreSnapshot_7 dX8_restoreSnapshot_10 dX8_restoreSnapshot_11 dX8_restoreSnapshot_14 dX8_restoreSnapshot_17 rfl sT_RX8_114 (List.mem_of_getElem? (i := 20) rfl) (Nat.le_of_ble_eq_true rfl) (Nat.le_of_ble_eq_true rfl) (Nat.le_of_ble_eq_true rfl) (Nat.le_of_ble_eq_true rfl) ?_
    exact ⟨(by unfold f_X8_restoreSnapshot; simp only [if_pos hc1]; try decide), (by unfold f_X8_restoreSnapshot; simp only [if_pos hc1]; try rfl), congrArg hp (by unfold f_X8_restoreSnapshot; simp only [if_pos hc1]; try first | rfl | contradiction)⟩

