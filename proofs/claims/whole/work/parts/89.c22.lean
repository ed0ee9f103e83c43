-- needs 
def f_X8_analyse (S : gS) (n K G : Nat) : gS := (if (rI S 0 12) = 0 then (wI (f_X6_assign (f_X7_find (f_X4_find S n K) n G) n) 0 12 1) else S)
set_option maxRecDepth 100000 in
set_option maxHeartbeats 1000000 in
theorem ct_X8_analyse (S : gS) (n K G : Nat) (ho : okC S n) (hK : rI S 0 12 = 0 → rcEnd (wI (itr (bd_rini) n S) 36 3 0) n K) (hG : rI S 0 12 = 0 → wpEnd (wI (itr (bd_wout) n (f_fill (f_X4_find S n K) 0)) 40 3 1) n G) : gF mX8_analyse [.ref 0] S none (f_X8_analyse S n K G) := by
  refine go_enter [.ref 0] [(0, .ref 0)] (by decide +kernel) rfl rfl (Nat.le_of_ble_eq_true rfl) rfl ?_
  refine go_aload_n 1 dX8_analyse_0 rfl rfl ?_
  refine g_getI 4 dX8_analyse_1 rfl fF_RX8_78 ly_0 rfl ?_
  refine go_if_eq 7 8 dX8_analyse_4 rfl (by decide) (fun hc1 => ?_) (fun hc1 => ?_)
  · refine go_aload_n 9 dX8_analyse_8 rfl rfl ?_
    refine g_getR 12 dX8_analyse_9 rfl fF_RX8_32 ly_0 rfl ?_
    refine go_aload_n 13 dX8_analyse_12 rfl rfl ?_
    refine g_getR 16 dX8_analyse_13 rfl fF_RX8_10 ly_0 rfl ?_
    refine g_callV0 19 [.ref 1] [] dX8_analyse_16 rfl (ct_X4_find _ _ _ ho (hK hc1)) rfl sV_X8_analyse_333 rfl ly_36 rfl rfl (Nat.le_of_ble_eq_true rfl) (Nat.le_of_ble_eq_true rfl) (Nat.le_of_ble_eq_true rfl) ?_
    refine go_aload_n 20 dX8_analyse_19 rfl rfl ?_
    refine g_getR 23 dX8_analyse_20 rfl fF_RX8_39 ly_0 rfl ?_
    refine go_aload_n 24 dX8_analyse_23 rfl rfl ?_
    refine g_getR 27 dX8_analyse_24 rfl fF_RX8_10 ly_0 rfl ?_
    refine go_aload_n 28 dX8_analyse_27 rfl rfl ?_
    refine g_getR 31 dX8_analyse_28 rfl fF_RX8_32 ly_0 rfl ?_
    refine g_callV0 34 [.ref 1, .ref 36] [] dX8_analyse_31 rfl (ct_X7_find _ _ _ (okC.of ho (fun a c h => fr_f_X4_find (by omega) (by omega) (by omega) (by omega) _ _ _)) (hG hc1)) rfl sV_X8_analyse_336 rfl ly_40 rfl rfl (Nat.le_of_ble_eq_true rfl) (Nat.le_of_ble_eq_true rfl) (Nat.le_of_ble_eq_true rfl) ?_
    refine go_aload_n 35 dX8_analyse_34 rfl rfl ?_
    refine g_getR 38 dX8_analyse_35 rfl fF_RX8_46 ly_0 rfl ?_
    refine go_aload_n 39 dX8_analyse_38 rfl rfl ?_
    refine g_getR 42 dX8_analyse_39 rfl fF_RX8_10 ly_0 rfl ?_
    refine go_aload_n 43 dX8_analyse_42 rfl rfl ?_
    refine g_getR 46 dX8_analyse_43 rfl fF_RX8_39 ly_0 rfl ?_
    refine g_callV0 49 [.ref 1, .ref 40] [] dX8_analyse_46 rfl (ct_X6_assign _ _ (okC.of ho (fun a c h => (fr_f_X7_find (by omega) (by omega) (by omega) (by omega) _ _ _).trans (fr_f_X4_find (by omega) (by omega) (by omega) (by omega) _ _ _)))) rfl sV_X8_analyse_339 rfl ly_44 rfl rfl (Nat.le_of_ble_eq_true rfl) (Nat.le_of_ble_eq_true rfl) (Nat.le_of_ble_eq_true rfl) ?_
    refine go_aload_n 50 dX8_analyse_49 rfl rfl ?_
    refine go_iconst 51 (1) dX8_analyse_50 rfl (by decide) ?_
    refine g_putI 54 dX8_analyse_51 rfl fF_RX8_78 ly_0 rfl (fun q hq => by cases hq; rfl) rfl rfl ?_
    refine go_return dX8_analyse_54 rfl (Nat.le_of_ble_eq_true rfl) (Nat.le_of_ble_eq_true rfl) ?_
    exact ⟨rfl, congrArg hp (by unfold f_X8_analyse; simp only [if_pos hc1]; try first | rfl | contradiction)⟩
  · refine go_return dX8_analyse_7 rfl (Nat.le_of_ble_eq_true rfl) (Nat.le_of_ble_eq_true rfl) ?_
    exact ⟨rfl, congrArg hp (by unfold f_X8_analyse; simp only [if_neg hc1]; try first | rfl | contradiction)⟩
theorem fr_f_X8_analyse {a0 c0 : Nat} (h0_12 : ¬ (a0 = 0 ∧ c0 = 12)) (h36_3 : ¬ (a0 = 36 ∧ c0 = 3)) (h40_3 : ¬ (a0 = 40 ∧ c0 = 3)) (h44_0 : ¬ (a0 = 44 ∧ c0 = 0)) (h37 : a0 ≠ 37) (h38 : a0 ≠ 38) (h39 : a0 ≠ 39) (h41 : a0 ≠ 41) (h42 : a0 ≠ 42) (h43 : a0 ≠ 43) (h45 : a0 ≠ 45) (h46 : a0 ≠ 46) (h47 : a0 ≠ 47) (h48 : a0 ≠ 48) (h49 : a0 ≠ 49) (h50 : a0 ≠ 50) (S : gS) (n K G : Nat) : rI (f_X8_analyse S n K G) a0 c0 = rI S a0 c0 := by
  unfold f_X8_analyse
  first | (simp only [snd_ite, rI_ite, ite_self, rI_wIc h0_12, rI_wIc h36_3, rI_wIc h40_3, rI_wIc h44_0, rI_wIk h37, rI_wRk h37, rI_wIk h38, rI_wRk h38, rI_wIk h39, rI_wRk h39, rI_wIk h41, rI_wRk h41, rI_wIk h42, rI_wRk h42, rI_wIk h43, rI_wRk h43, rI_wIk h45, rI_wRk h45, rI_wIk h46, rI_wRk h46, rI_wIk h47, rI_wRk h47, rI_wIk h48, rI_wRk h48, rI_wIk h49, rI_wRk h49, rI_wIk h50, rI_wRk h50, fr_f_X4_find h36_3 h37 h38 h39, fr_f_X6_assign h44_0 h45 h46 h47 h48 h49 h50, fr_f_X7_find h40_3 h41 h42 h43]; done) | ((repeat' split) <;> first | rfl | simp only [rI_wIc h0_12, rI_wIc h36_3, rI_wIc h40_3, rI_wIc h44_0, rI_wIk h37, rI_wRk h37, rI_wIk h38, rI_wRk h38, rI_wIk h39, rI_wRk h39, rI_wIk h41, rI_wRk h41, rI_wIk h42, rI_wRk h42, rI_wIk h43, rI_wRk h43, rI_wIk h45, rI_wRk h45, rI_wIk h46, rI_wRk h46, rI_wIk h47, rI_wRk h47, rI_wIk h48, rI_wRk h48, rI_wIk h49, rI_wRk h49, rI_wIk h50, rI_wRk h50, fr_f_X4_find h36_3 h37 h38 h39, fr_f_X6_assign h44_0 h45 h46 h47 h48 h49 h50, fr_f_X7_find h40_3 h41 h42 h43] | (apply fr_f_X4_find <;> assumption) | (apply fr_f_X6_assign <;> assumption) | (apply fr_f_X7_find <;> assumption))

def f_X8_range (S : gS) (r g : Int32) (T : gS) : Nat × Int32 × gS := (if (f_X0_has S r) = 0 then (2, 0, S) else (if g = 0 then (0, (rI T 37 r.toNatClampNeg), T) else (0, (rI T 38 r.toNatClampNeg), T)))
set_option maxRecDepth 100000 in
set_option maxHeartbeats 1000000 in
theorem ct_X8_range (S : gS) (r g : Int32) (T : gS) (n : Nat) (ho : okC S n) (hA : gF mX8_analyse [.ref 0] S none T) : gO mX8_range [.ref 0, .int r, .int g] S (f_X8_range S r g T).1 (some (.int (f_X8_range S r g T).2.1)) (f_X8_range S r g T).2.2 := by
  refine go_enter [.ref 0, .int r, .int g] [(0, .ref 0), (1, .int r), (2, .int g)] (by decide +kernel) rfl rfl (Nat.le_of_ble_eq_true rfl) rfl ?_
  refine go_aload_n 1 dX8_range_0 rfl rfl ?_
  refine go_iload_n 2 dX8_range_1 rfl rfl ?_
  refine g_req 5 [] dX8_range_2 rfl sV_X8_range_135 rfl (Nat.le_of_ble_eq_true rfl) (Nat.le_of_ble_eq_true rfl) (Nat.le_of_ble_eq_true rfl) (fun hc1 => ?_) (fun hc1 => ?_)
  · exact ⟨(by unfold f_X8_range; simp only [if_pos hc1]; try decide), (by unfold f_X8_range; simp only [if_pos hc1]; try rfl), congrArg hp (by unfold f_X8_range; simp only [if_pos hc1]; try first | rfl | contradiction)⟩
  · refine go_aload_n 6 dX8_range_5 rfl rfl ?_
    refine g_callV0 9 [] [] dX8_range_6 rfl hA rfl sV_X8_range_171 rfl ly_0 rfl rfl (Nat.le_of_ble_eq_true rfl) (Nat.le_of_ble_eq_true rfl) (Nat.le_of_ble_eq_true rfl) ?_
    refine go_iload_n 10 dX8_range_9 rfl rfl ?_
    refine go_if_eq 13 25 dX8_range_10 rfl (by decide) (fun hc2 => ?_) (fun hc2 => ?_)
    · refine go_aload_n 26 dX8_range_25 rfl rfl ?_
      refine g_getR 29 dX8_range_26 rfl fF_RX8_32 ly_0 rfl ?_
      refine g_getR 32 dX8_range_29 rfl fF_RX8_177 ly_36 rfl ?_
      refine go_iload_n 33 dX8_range_32 rfl rfl ?_
      refine g_iald2 34 _ dX8_range_33 rfl ly_37 (has_in ho hc1) rfl ?_
      refine go_ireturn dX8_range_34 rfl (by first | rfl | exact bi_nar) (Nat.le_of_ble_eq_true rfl) (Nat.le_of_ble_eq_true rfl) ?_
      exact ⟨(by unfold f_X8_range; simp only [if_neg hc1, if_pos hc2]; try first | rfl | contradiction), congrArg (fun z => some (Value.int z)) (by unfold f_X8_range; simp only [if_neg hc1, if_pos hc2]; try first | rfl | contradiction), congrArg hp (by unfold f_X8_range; simp only [if_neg hc1, if_pos hc2]; try first | rfl | contradiction)⟩
    · refine go_aload_n 14 dX8_range_13 rfl rfl ?_
      refine g_getR 17 dX8_range_14 rfl fF_RX8_32 ly_0 rfl ?_
      refine g_getR 20 dX8_range_17 rfl fF_RX8_174 ly_36 rfl ?_
      refine go_iload_n 21 dX8_range_20 rfl rfl ?_
      refine g_iald2 22 _ dX8_range_21 rfl ly_38 (has_in ho hc1) rfl ?_
      refine go_goto 34 dX8_range_22 (by decide) ?_
      refine go_ireturn dX8_range_34 rfl (by first | rfl | exact bi_nar) (Nat.le_of_ble_eq_true rfl) (Nat.le_of_ble_eq_true rfl) ?_
      exact ⟨(by unfold f_X8_range; simp only [if_neg hc1, if_neg hc2]; try first | rfl | contradiction), congrArg (fun z => some (Value.int z)) (by unfold f_X8_range; simp only [if_neg hc1, if_neg hc2]; try first | rfl | contradiction), congrArg hp (by unfold f_X8_range; simp only [if_neg hc1, if_neg hc2]; try first | rfl | contradiction)⟩

def f_X8_demanded (S : gS) (r : Int32) (T : gS) : Nat × Int32 × gS := (if (f_X0_has S r) = 0 then (2, 0, S) else (0, (rI T 41 r.toNatClampNeg), T))
set_option maxRecDepth 100000 in
set_option maxHeartbeats 1000000 in
theorem ct_X8_demanded (S : gS) (r : Int32) (T : gS) (n : Nat) (ho : okC S n) (hA : gF mX8_analyse [.ref 0] S none T) : gO mX8_demanded [.ref 0, .int r] S (f_X8_demanded S r T).1 (some (.int (f_X8_demanded S r T).2.1)) (f_X8_demanded S r T).2.2 := by
  refine go_enter [.ref 0, .int r] [(0, .ref 0), (1, .int r)] (by decide +kernel) rfl rfl (Nat.le_of_ble_eq_true rfl) rfl ?_
  refine go_aload_n 1 dX8_demanded_0 rfl rfl ?_
  refine go_iload_n 2 dX8_demanded_1 rfl rfl ?_
  refine g_req 5 [] dX8_demanded_2 rfl sV_X8_demanded_135 rfl (Nat.le_of_ble_eq_true rfl) (Nat.le_of_ble_eq_true rfl) (Nat.le_of_ble_eq_true rfl) (fun hc1 => ?_) (fun hc1 => ?_)
  · exact ⟨(by unfold f_X8_demanded; simp only [if_pos hc1]; try decide), (by unfold f_X8_demanded; simp only [if_pos hc1]; try rfl), congrArg hp (by unfold f_X8_demanded; simp only [if_pos hc1]; try first | rfl | contradiction)⟩
  · refine go_aload_n 6 dX8_demanded_5 rfl rfl ?_
    refine g_callV0 9 [] [] dX8_demanded_6 rfl hA rfl sV_X8_demanded_171 rfl ly_0 rfl rfl (Nat.le_of_ble_eq_true rfl) (Nat.le_of_ble_eq_true rfl) (Nat.le_of_ble_eq_true rfl) ?_
    refine go_aload_n 10 dX8_demanded_9 rfl rfl ?_
    refine g_getR 13 dX8_demanded_10 rfl fF_RX8_39 ly_0 rfl ?_
    refine g_getR 16 dX8_demanded_13 rfl fF_RX8_183 ly_40 rfl ?_
    refine go_iload_n 17 dX8_demanded_16 rfl rfl ?_
    refine g_iald2 18 _ dX8_demanded_17 rfl ly_41 (has_in ho hc1) rfl ?_
    refine go_ireturn dX8_demanded_18 rfl (by first | rfl | exact bi_nar) (Nat.le_of_ble_eq_true rfl) (Nat.le_of_ble_eq_true rfl) ?_
    exact ⟨(by unfold f_X8_demanded; simp only [if_neg hc1]; try first | rfl | contradiction), congrArg (fun z => some (Value.int z)) (by unfold f_X8_demanded; simp only [if_neg hc1]; try first | rfl | contradiction), congrArg hp (by unfold f_X8_demanded; simp only [if_neg hc1]; try first | rfl | contradiction)⟩

def f_X8_width (S : gS) (r g : Int32) (T : gS) : Nat × Int32 × gS := (if (f_X0_has S r) = 0 then (2, 0, S) else (if g = 0 then (0, (rI T 42 r.toNatClampNeg), T) else (0, (rI T 39 r.toNatClampNeg), T)))
set_option maxRecDepth 100000 in
set_option maxHeartbeats 1000000 in
theorem ct_X8_width (S : gS) (r g : Int32) (T : gS) (n : Nat) (ho : okC S n) (hA : gF mX8_analyse [.ref 0] S none T) : gO mX8_width [.ref 0, .int r, .int g] S (f_X8_width S r g T).1 (some (.int (f_X8_width S r g T).2.1)) (f_X8_width S r g T).2.2 := by
  refine go_enter [.ref 0, .int r, .int g] [(0, .ref 0), (1, .int r), (2, .int g)] (by decide +kernel) rfl rfl (Nat.le_of_ble_eq_true rfl) rfl ?_
  refine go_aload_n 1 dX8_width_0 rfl rfl ?_
  refine go_iload_n 2 dX8_width_1 rfl rfl ?_
  refine g_req 5 [] dX8_width_2 rfl sV_X8_width_135 rfl (Nat.le_of_ble_eq_true rfl) (Nat.le_of_ble_eq_true rfl) (Nat.le_of_ble_eq_true rfl) (fun hc1 => ?_) (fun hc1 => ?_)
  · exact ⟨(by unfold f_X8_width; simp only [if_pos hc1]; try decide), (by unfold f_X8_width; simp only [if_pos hc1]; try rfl), congrArg hp (by unfold f_X8_width; simp only [if_pos hc1]; try first | rfl | contradiction)⟩
  · refine go_aload_n 6 dX8_width_5 rfl rfl ?_
    refine g_callV0 9 [] [] dX8_width_6 rfl hA rfl sV_X8_width_171 rfl ly_0 rfl rfl (Nat.le_of_ble_eq_true rfl) (Nat.le_of_ble_eq_true rfl) (Nat.le_of_ble_eq_true rfl) ?_
    refine go_iload_n 10 dX8_width_9 rfl rfl ?_
    refine go_if_eq 13 25 dX8_width_10 rfl (by decide) (fun hc2 => ?_) (fun hc2 => ?_)
    · refine go_aload_n 26 dX8_width_25 rfl rfl ?_
      refine g_getR 29 dX8_width_26 rfl fF_RX8_39 ly_0 rfl ?_
      refine g_getR 32 dX8_width_29 rfl fF_RX8_189 ly_40 rfl ?_
      refine go_iload_n 33 dX8_width_32 rfl rfl ?_
      refine g_iald2 34 _ dX8_width_33 rfl ly_42 (has_in ho hc1) rfl ?_
      refine go_ireturn dX8_width_34 rfl (by first | rfl | exact bi_nar) (Nat.le_of_ble_eq_true rfl) (Nat.le_of_ble_eq_true rfl) ?_
      exact ⟨(by unfold f_X8_width; simp only [if_neg hc1, if_pos hc2]; try first | rfl | contradiction), congrArg (fun z => some (Value.int z)) (by unfold f_X8_width; simp only [if_neg hc1, if_pos hc2]; try first | rfl | contradiction), congrArg hp (by unfold f_X8_width; simp only [if_neg hc1, if_pos hc2]; try first | rfl | contradiction)⟩
    · refine go_aload_n 14 dX8_width_13 rfl rfl ?_
      refine g_getR 17 dX8_width_14 rfl fF_RX8_32 ly_0 rfl ?_
      refine g_getR 20 dX8_width_17 rfl fF_RX8_186 ly_36 rfl ?_
      refine go_iload_n 21 dX8_width_20 rfl rfl ?_
      refine g_iald2 22 _ dX8_width_21 rfl ly_39 (has_in ho hc1) rfl ?_
      refine go_goto 34 dX8_width_22 (by decide) ?_
      refine go_ireturn dX8_width_34 rfl (by first | rfl | exact bi_nar) (Nat.le_of_ble_eq_true rfl) (Nat.le_of_ble_eq_true rfl) ?_
      exact ⟨(by unfold f_X8_width; simp only [if_neg hc1, if_neg hc2]; try first | rfl | contradiction), congrArg (fun z => some (Value.int z)) (by unfold f_X8_width; simp only [if_neg hc1, if_neg hc2]; try first | rfl | contradiction), congrArg hp (by unfold f_X8_width; simp only [if_neg hc1, if_neg hc2]; try first | rfl | contradiction)⟩

def f_X8_isSigned (S : gS) (r : Int32) (T : gS) : Nat × Int32 × gS := (if (f_X0_has S r) = 0 then (2, 0, S) else (0, (rI T 43 r.toNatClampNeg), T))
set_option maxRecDepth 100000 in
set_option maxHeartbeats 1000000 in
theorem ct_X8_isSigned (S : gS) (r : Int32) (T : gS) (n : Nat) (ho : okC S n) (hA : gF mX8_analyse [.ref 0] S none T) (hb : ∀ c, rI T 43 c = 0 ∨ rI T 43 c = 1) : gO mX8_isSigned [.ref 0, .int r] S (f_X8_isSigned S r T).1 (some (.int (f_X8_isSigned S r T).2.1)) (f_X8_isSigned S r T).2.2 := by
  refine go_enter [.ref 0, .int r] [(0, .ref 0), (1, .int r)] (by decide +kernel) rfl rfl (Nat.le_of_ble_eq_true rfl) rfl ?_
  refine go_aload_n 1 dX8_isSigned_0 rfl rfl ?_
  refine go_iload_n 2 dX8_isSigned_1 rfl rfl ?_
  refine g_req 5 [] dX8_isSigned_2 rfl sV_X8_isSigned_135 rfl (Nat.le_of_ble_eq_true rfl) (Nat.le_of_ble_eq_true rfl) (Nat.le_of_ble_eq_true rfl) (fun hc1 => ?_) (fun hc1 => ?_)
  · exact ⟨(by unfold f_X8_isSigned; simp only [if_pos hc1]; try decide), (by unfold f_X8_isSigned; simp only [if_pos hc1]; try rfl), congrArg hp (by unfold f_X8_isSigned; simp only [if_pos hc1]; try first | rfl | contradiction)⟩
  · refine go_aload_n 6 dX8_isSigned_5 rfl rfl ?_
    refine g_callV0 9 [] [] dX8_isSigned_6 rfl hA rfl sV_X8_isSigned_171 rfl ly_0 rfl rfl (Nat.le_of_ble_eq_true rfl) (Nat.le_of_ble_eq_true rfl) (Nat.le_of_ble_eq_true rfl) ?_
    refine go_aload_n 10 dX8_isSigned_9 rfl rfl ?_
    refine g_getR 13 dX8_isSigned_10 rfl fF_RX8_39 ly_0 rfl ?_
    refine g_getR 16 dX8_isSigned_13 rfl fF_RX8_192 ly_40 rfl ?_
    refine go_iload_n 17 dX8_isSigned_16 rfl rfl ?_
    refine g_zald2 18 _ dX8_isSigned_17 rfl ly_43 (has_in ho hc1) rfl ?_
    refine go_ireturn dX8_isSigned_18 rfl (nar01 (hb _)) (Nat.le_of_ble_eq_true rfl) (Nat.le_of_ble_eq_true rfl) ?_
    exact ⟨(by unfold f_X8_isSigned; simp only [if_neg hc1]; try first | rfl | contradiction), congrArg (fun z => some (Value.int z)) (by unfold f_X8_isSigned; simp only [if_neg hc1]; try first | rfl | contradiction), congrArg hp (by unfold f_X8_isSigned; simp only [if_neg hc1]; try first | rfl | contradiction)⟩

def f_X8_rounds (S : gS) (T : gS) : Int32 × gS := ((rI T 36 3), T)
set_option maxRecDepth 100000 in
set_option maxHeartbeats 1000000 in
theorem ct_X8_rounds (S : gS) (T : gS) (hA : gF mX8_analyse [.ref 0] S none T) : gF mX8_rounds [.ref 0] S (some (.int (f_X8_rounds S T).1)) (f_X8_rounds S T).2 := by
  refine go_enter [.ref 0] [(0, .ref 0)] (by decide +kernel) rfl rfl (Nat.le_of_ble_eq_true rfl) rfl ?_
  refine go_aload_n 1 dX8_rounds_0 rfl rfl ?_
  refine g_callV0 4 [] [] dX8_rounds_1 rfl hA rfl sV_X8_rounds_171 rfl ly_0 rfl rfl (Nat.le_of_ble_eq_true rfl) (Nat.le_of_ble_eq_true rfl) (Nat.le_of_ble_eq_true rfl) ?_
  refine go_aload_n 5 dX8_rounds_4 rfl rfl ?_
  refine g_getR 8 dX8_rounds_5 rfl fF_RX8_32 ly_0 rfl ?_
  refine g_getI 11 dX8_rounds_8 rfl fF_RX8_180 ly_36 rfl ?_
  refine go_ireturn dX8_rounds_11 rfl (by first | rfl | exact bi_nar) (Nat.le_of_ble_eq_true rfl) (Nat.le_of_ble_eq_true rfl) ?_
  exact ⟨congrArg (fun z => some (Value.int z)) (by unfold f_X8_rounds; first | done | (dsimp only; done) | rfl), congrArg hp (by unfold f_X8_rounds; first | done | (dsimp only; done) | rfl)⟩

def f_X8_units (S : gS) (T : gS) : Int32 × gS := ((rI T 44 0), T)
set_option maxRecDepth 100000 in
set_option maxHeartbeats 1000000 in
theorem ct_X8_units (S : gS) (T : gS) (hA : gF mX8_analyse [.ref 0] S none T) : gF mX8_units [.ref 0] S (some (.int (f_X8_units S T).1)) (f_X8_units S T).2 := by
  refine go_enter [.ref 0] [(0, .ref 0)] (by decide +kernel) rfl rfl (Nat.le_of_ble_eq_true rfl) rfl ?_
  refine go_aload_n 1 dX8_units_0 rfl rfl ?_
  refine g_callV0 4 [] [] dX8_units_1 rfl hA rfl sV_X8_units_171 rfl ly_0 rfl rfl (Nat.le_of_ble_eq_true rfl) (Nat.le_of_ble_eq_true rfl) (Nat.le_of_ble_eq_true rfl) ?_
  refine go_aload_n 5 dX8_units_4 rfl rfl ?_
  refine g_getR 8 dX8_units_5 rfl fF_RX8_46 ly_0 rfl ?_
  refine g_getI 11 dX8_units_8 rfl fF_RX8_222 ly_44 rfl ?_
  refine go_ireturn dX8_units_11 rfl (by first | rfl | exact bi_nar) (Nat.le_of_ble_eq_true rfl) (Nat.le_of_ble_eq_true rfl) ?_
  exact ⟨congrArg (fun z => some (Value.int z)) (by unfold f_X8_units; first | done | (dsimp only; done) | rfl), congrArg hp (by unfold f_X8_units; first | done | (dsimp only; done) | rfl)⟩

theorem sgn_nI {n : Nat} {r : Int32} (h24 : n ≤ 24) (h : sgn (nI n) r) : ∃ j, j < n ∧ r = nI j := by
  obtain ⟨h1, h2⟩ := h
  rw [ile] at h1
  rw [il, nI_toInt (by omega)] at h2
  have h0 : (0 : Int32).toInt = 0 := rfl
  refine ⟨r.toInt.toNat, by omega, ?_⟩
  rw [ieq, nI_toInt (by omega)]
  omega
theorem ct_costIn2 (S : gS) (r : Int32) {n : Nat} (ho : okC S n) (hr : sgn (nI n) r) : gF mX7_costIn [.ref 40, .ref 1, .int r] S (some (.int (f_X7_costIn S r.toNatClampNeg))) S := by
  have h24 := ho.2.1
  obtain ⟨j, hj, rfl⟩ := sgn_nI h24 hr
  rw [nI_c (by omega)]
  exact ct_X7_costIn S j n ho hj
def f_X8_cost (S : gS) (r : Int32) (T : gS) : Nat × Int32 × gS := (if (f_X0_has S r) = 0 then (2, 0, S) else (0, (f_X7_costIn T r.toNatClampNeg), T))
set_option maxRecDepth 100000 in
set_option maxHeartbeats 1000000 in
theorem ct_X8_cost (S : gS) (r : Int32) (T : gS) (n : Nat) (ho : okC S n) (hA : gF mX8_analyse [.ref 0] S none T) (hoT : okC T n) : gO mX8_cost [.ref 0, .int r] S (f_X8_cost S r T).1 (some (.int (f_X8_cost S r T).2.1)) (f_X8_cost S r T).2.2 := by
  refine go_enter [.ref 0, .int r] [(0, .ref 0), (1, .int r)] (by decide +kernel) rfl rfl (Nat.le_of_ble_eq_true rfl) rfl ?_
  refine go_aload_n 1 dX8_cost_0 rfl rfl ?_
  refine go_iload_n 2 dX8_cost_1 rfl rfl ?_
  refine g_req 5 [] dX8_cost_2 rfl sV_X8_cost_135 rfl (Nat.le_of_ble_eq_true rfl) (Nat.le_of_ble_eq_true rfl) (Nat.le_of_ble_eq_true rfl) (fun hc1 => ?_) (fun hc1 => ?_)
  · exact ⟨(by unfold f_X8_cost; simp only [if_pos hc1]; try decide), (by unfold f_X8_cost; simp only [if_pos hc1]; try rfl), congrArg hp (by unfold f_X8_cost; simp only [if_pos hc1]; try first | rfl | contradiction)⟩
  · refine go_aload_n 6 dX8_cost_5 rfl rfl ?_
    refine g_callV0 9 [] [] dX8_cost_6 rfl hA rfl sV_X8_cost_171 rfl ly_0 rfl rfl (Nat.le_of_ble_eq_true rfl) (Nat.le_of_ble_eq_true rfl) (Nat.le_of_ble_eq_true rfl) ?_
    refine go_aload_n 10 dX8_cost_9 rfl rfl ?_
    refine g_getR 13 dX8_cost_10 rfl fF_RX8_39 ly_0 rfl ?_
    refine go_aload_n 14 dX8_cost_13 rfl rfl ?_
    refine g_getR 17 dX8_cost_14 rfl fF_RX8_10 ly_0 rfl ?_
    refine go_iload_n 18 dX8_cost_17 rfl rfl ?_
    refine g_callV 21 [.ref 1, .int _] [] dX8_cost_18 rfl (ct_costIn2 T r hoT ((has_sgn ho.1).mp hc1)) rfl sV_X8_cost_195 rfl ly_40 rfl rfl (Nat.le_of_ble_eq_true rfl) (Nat.le_of_ble_eq_true rfl) (Nat.le_of_ble_eq_true rfl) ?_
    refine go_ireturn dX8_cost_21 rfl (by first | rfl | exact bi_nar) (Nat.le_of_ble_eq_true rfl) (Nat.le_of_ble_eq_true rfl) ?_
    exact ⟨(by unfold f_X8_cost; simp only [if_neg hc1]; try first | rfl | contradiction), congrArg (fun z => some (Value.int z)) (by unfold f_X8_cost; simp only [if_neg hc1]; try first | rfl | contradiction), congrArg hp (by unfold f_X8_cost; simp only [if_neg hc1]; try first | rfl | contradiction)⟩

def f_X8_total (S : gS) (w : Int32) (T : gS) (n : Nat) : Nat × Int32 × gS := (if w = 0 then (0, (f_X7_costOfAll T n), T) else (if w = 1 then (0, (f_X8_fullCost T n), T) else (if w = 2 then (0, (f_X8_sharedCost T n), T) else (if w = 3 then (0, (f_X7_sumIn T n), T) else (if w = 4 then (0, (f_X7_zeroesIn T n), T) else (1, 0, T))))))
set_option maxRecDepth 100000 in
set_option maxHeartbeats 1000000 in
theorem ct_X8_total (S : gS) (w : Int32) (T : gS) (n : Nat) (hoT : okC T n) (hA : gF mX8_analyse [.ref 0] S none T) (m : Nat) (hm : rI T 44 0 = nI m ∧ m ≤ 24) : gO mX8_total [.ref 0, .int w] S (f_X8_total S w T n).1 (some (.int (f_X8_total S w T n).2.1)) (f_X8_total S w T n).2.2 := by
  refine go_enter [.ref 0, .int w] [(0, .ref 0), (1, .int w)] (by decide +kernel) rfl rfl (Nat.le_of_ble_eq_true rfl) rfl ?_
  refine go_aload_n 1 dX8_total_0 rfl rfl ?_
  refine g_callV0 4 [] [] dX8_total_1 rfl hA rfl sV_X8_total_171 rfl ly_0 rfl rfl (Nat.le_of_ble_eq_true rfl) (Nat.le_of_ble_eq_true rfl) (Nat.le_of_ble_eq_true rfl) ?_
  refine go_iload_n 5 dX8_total_4 rfl rfl ?_
  refine go_tableS [(0, 40), (1, 52), (2, 57), (3, 62), (4, 74)] 86 dX8_total_5 rfl rfl (by decide) (by decide) rfl (by decide) (List.forall_mem_cons.mpr ⟨fun hc1 => ?_, List.forall_mem_cons.mpr ⟨fun hc1 => ?_, List.forall_mem_cons.mpr ⟨fun hc1 => ?_, List.forall_mem_cons.mpr ⟨fun hc1 => ?_, List.forall_mem_cons.mpr ⟨fun hc1 => ?_, fun _ h => absurd h List.not_mem_nil⟩⟩⟩⟩⟩) (fun hc1 => ?_)
  · have hc1 : w = 0 := hc1
    refine go_aload_n 41 dX8_total_40 rfl rfl ?_
    refine g_getR 44 dX8_total_41 rfl fF_RX8_39 ly_0 rfl ?_
    refine go_aload_n 45 dX8_total_44 rfl rfl ?_
    refine g_getR 48 dX8_total_45 rfl fF_RX8_10 ly_0 rfl ?_
    refine g_callV 51 [.ref 1] [] dX8_total_48 rfl (ct_X7_costOfAll _ _ hoT) rfl sV_X8_total_199 rfl ly_40 rfl rfl (Nat.le_of_ble_eq_true rfl) (Nat.le_of_ble_eq_true rfl) (Nat.le_of_ble_eq_true rfl) ?_
    refine go_ireturn dX8_total_51 rfl (by first | rfl | exact bi_nar) (Nat.le_of_ble_eq_true rfl) (Nat.le_of_ble_eq_true rfl) ?_
    exact ⟨(by unfold f_X8_total; simp only [if_pos hc1]; try first | rfl | contradiction), congrArg (fun z => some (Value.int z)) (by unfold f_X8_total; simp only [if_pos hc1]; try first | rfl | contradiction), congrArg hp (by unfold f_X8_total; simp only [if_pos hc1]; try first | rfl | contradiction)⟩
  · have hc1 : w = 1 := hc1
    have hc1_0 : ¬ w = 0 := by rw [hc1]; decide
    refine go_aload_n 53 dX8_total_52 rfl rfl ?_
    refine g_callV 56 [] [] dX8_total_53 rfl (ct_X8_fullCost _ _ hoT) rfl sV_X8_total_203 rfl ly_0 rfl rfl (Nat.le_of_ble_eq_true rfl) (Nat.le_of_ble_eq_true rfl) (Nat.le_of_ble_eq_true rfl) ?_
    refine go_ireturn dX8_total_56 rfl (by first | rfl | exact bi_nar) (Nat.le_of_ble_eq_true rfl) (Nat.le_of_ble_eq_true rfl) ?_
    exact ⟨(by unfold f_X8_total; simp only [if_neg hc1_0, if_pos hc1]; try first | rfl | contradiction), congrArg (fun z => some (Value.int z)) (by unfold f_X8_total; simp only [if_neg hc1_0, if_pos hc1]; try first | rfl | contradiction), congrArg hp (by unfold f_X8_total; simp only [if_neg hc1_0, if_pos hc1]; try first | rfl | contradiction)⟩
  · have hc1 : w = 2 := hc1
    have hc1_0 : ¬ w = 0 := by rw [hc1]; decide
    have hc1_1 : ¬ w = 1 := by rw [hc1]; decide
    refine go_aload_n 58 dX8_total_57 rfl rfl ?_
    refine g_callV 61 [] [] dX8_total_58 rfl (ct_X8_sharedCost _ _ hoT m hm) rfl sV_X8_total_206 rfl ly_0 rfl rfl (Nat.le_of_ble_eq_true rfl) (Nat.le_of_ble_eq_true rfl) (Nat.le_of_ble_eq_true rfl) ?_
    refine go_ireturn dX8_total_61 rfl (by first | rfl | exact bi_nar) (Nat.le_of_ble_eq_true rfl) (Nat.le_of_ble_eq_true rfl) ?_
    exact ⟨(by unfold f_X8_total; simp only [if_neg hc1_0, if_neg hc1_1, if_pos hc1]; try first | rfl | contradiction), congrArg (fun z => some (Value.int z)) (by unfold f_X8_total; simp only [if_neg hc1_0, if_neg hc1_1, if_pos hc1]; try first | rfl | contradiction), congrArg hp (by unfold f_X8_total; simp only [if_neg hc1_0, if_neg hc1_1, if_pos hc1]; try first | rfl | contradiction)⟩
  · have hc1 : w = 3 := hc1
    have hc1_0 : ¬ w = 0 := by rw [hc1]; decide
    have hc1_1 : ¬ w = 1 := by rw [hc1]; decide
    have hc1_2 : ¬ w = 2 := by rw [hc1]; decide
    refine go_aload_n 63 dX8_total_62 rfl rfl ?_
    refine g_getR 66 dX8_total_63 rfl fF_RX8_39 ly_0 rfl ?_
    refine go_aload_n 67 dX8_total_66 rfl rfl ?_
    refine g_getR 70 dX8_total_67 rfl fF_RX8_10 ly_0 rfl ?_
    refine g_callV 73 [.ref 1] [] dX8_total_70 rfl (ct_X7_sumIn _ _ hoT) rfl sV_X8_total_209 rfl ly_40 rfl rfl (Nat.le_of_ble_eq_true rfl) (Nat.le_of_ble_eq_true rfl) (Nat.le_of_ble_eq_true rfl) ?_
    refine go_ireturn dX8_total_73 rfl (by first | rfl | exact bi_nar) (Nat.le_of_ble_eq_true rfl) (Nat.le_of_ble_eq_true rfl) ?_
    exact ⟨(by unfold f_X8_total; simp only [if_neg hc1_0, if_neg hc1_1, if_neg hc1_2, if_pos hc1]; try first | rfl | contradiction), congrArg (fun z => some (Value.int z)) (by unfold f_X8_total; simp only [if_neg hc1_0, if_neg hc1_1, if_neg hc1_2, if_pos hc1]; try first | rfl | contradiction), congrArg hp (by unfold f_X8_total; simp only [if_neg hc1_0, if_neg hc1_1, if_neg hc1_2, if_pos hc1]; try first | rfl | contradiction)⟩
  · have hc1 : w = 4 := hc1
    have hc1_0 : ¬ w = 0 := by rw [hc1]; decide
    have hc1_1 : ¬ w = 1 := by rw [hc1]; decide
    have hc1_2 : ¬ w = 2 := by rw [hc1]; decide
    have hc1_3 : ¬ w = 3 := by rw [hc1]; decide
    refine go_aload_n 75 dX8_total_74 rfl rfl ?_
    refine g_getR 78 dX8_total_75 rfl fF_RX8_39 ly_0 rfl ?_
    refine go_aload_n 79 dX8_total_78 rfl rfl ?_
    refine g_getR 82 dX8_total_79 rfl fF_RX8_10 ly_0 rfl ?_
    refine g_callV 85 [.ref 1] [] dX8_total_82 rfl (ct_X7_zeroesIn _ _ hoT) rfl sV_X8_total_212 rfl ly_40 rfl rfl (Nat.le_of_ble_eq_true rfl) (Nat.le_of_ble_eq_true rfl) (Nat.le_of_ble_eq_true rfl) ?_
    refine go_ireturn dX8_total_85 rfl (by first | rfl | exact bi_nar) (Nat.le_of_ble_eq_true rfl) (Nat.le_of_ble_eq_true rfl) ?_
    exact ⟨(by unfold f_X8_total; simp only [if_neg hc1_0, if_neg hc1_1, if_neg hc1_2, if_neg hc1_3, if_pos hc1]; try first | rfl | contradiction), congrArg (fun z => some (Value.int z)) (by unfold f_X8_total; simp only [if_neg hc1_0, if_neg hc1_1, if_neg hc1_2, if_neg hc1_3, if_pos hc1]; try first | rfl | contradiction), congrArg hp (by unfold f_X8_total; simp only [if_neg hc1_0, if_neg hc1_1, if_neg hc1_2, if_neg hc1_3, if_pos hc1]; try first | rfl | contradiction)⟩
  · have hc1_0 : ¬ w = 0 := hc1 (0, 40) (List.mem_of_getElem? (i := 0) rfl)
    have hc1_1 : ¬ w = 1 := hc1 (1, 52) (List.mem_of_getElem? (i := 1) rfl)
    have hc1_2 : ¬ w = 2 := hc1 (2, 57) (List.mem_of_getElem? (i := 2) rfl)
    have hc1_3 : ¬ w = 3 := hc1 (3, 62) (List.mem_of_getElem? (i := 3) rfl)
    have hc1_4 : ¬ w = 4 := hc1 (4, 74) (List.mem_of_getElem? (i := 4) rfl)
    clear hc1
    refine go_throw "java/lang/IllegalArgumentException" "no such number about the circuit" dX8_total_86 dX8_total_89 dX8_total_90 dX8_total_92 dX8_total_95 rfl sT_RX8_81 (List.mem_of_getElem? (i := 9) rfl) (Nat.le_of_ble_eq_true rfl) (Nat.le_of_ble_eq_true rfl) (Nat.le_of_ble_eq_true rfl) (Nat.le_of_ble_eq_true rfl) ?_
    exact ⟨(by unfold f_X8_total; simp only [if_neg hc1_0, if_neg hc1_1, if_neg hc1_2, if_neg hc1_3, if_neg hc1_4]; try decide), (by unfold f_X8_total; simp only [if_neg hc1_0, if_neg hc1_1, if_neg hc1_2, if_neg hc1_3, if_neg hc1_4]; try rfl), congrArg hp (by unfold f_X8_total; simp only [if_neg hc1_0, if_neg hc1_1, if_neg hc1_2, if_neg hc1_3, if_neg hc1_4]; try first | rfl | contradiction)⟩

def f_X8_share (S : gS) (T : gS) (n : Nat) : Nat × UInt64 × gS := (if (f_X8_fullCost T n) = 0 then (6, 0, T) else (0, (FP.ddiv (FP.i2d ((f_X7_costOfAll T n))) (FP.i2d ((f_X8_fullCost T n)))), T))
set_option maxRecDepth 100000 in
set_option maxHeartbeats 1000000 in
theorem ct_X8_share (S : gS) (T : gS) (n : Nat) (hoT : okC T n) (hA : gF mX8_analyse [.ref 0] S none T) (hne : ¬ f_X8_fullCost T n = 0 → vf_n64 (FP.ddiv (FP.i2d (f_X7_costOfAll T n)) (FP.i2d (f_X8_fullCost T n)))) : gO mX8_share [.ref 0] S (f_X8_share S T n).1 (some (.double (f_X8_share S T n).2.1)) (f_X8_share S T n).2.2 := by
  refine go_enter [.ref 0] [(0, .ref 0)] (by decide +kernel) rfl rfl (Nat.le_of_ble_eq_true rfl) rfl ?_
  refine go_aload_n 1 dX8_share_0 rfl rfl ?_
  refine g_callV0 4 [] [] dX8_share_1 rfl hA rfl sV_X8_share_171 rfl ly_0 rfl rfl (Nat.le_of_ble_eq_true rfl) (Nat.le_of_ble_eq_true rfl) (Nat.le_of_ble_eq_true rfl) ?_
  refine go_aload_n 5 dX8_share_4 rfl rfl ?_
  refine g_callV 8 [] [] dX8_share_5 rfl (ct_X8_fullCost _ _ hoT) rfl sV_X8_share_203 rfl ly_0 rfl rfl (Nat.le_of_ble_eq_true rfl) (Nat.le_of_ble_eq_true rfl) (Nat.le_of_ble_eq_true rfl) ?_
  refine go_istore_n 9 [(1, .int _), (0, .ref 0)] dX8_share_8 rfl (Nat.le_of_ble_eq_true rfl) rfl ?_
  refine go_iload_n 10 dX8_share_9 rfl rfl ?_
  refine go_if_ne 13 23 dX8_share_10 rfl (by decide) (fun hc1 => ?_) (fun hc1 => ?_)
  · refine go_aload_n 24 dX8_share_23 rfl rfl ?_
    refine g_getR 27 dX8_share_24 rfl fF_RX8_39 ly_0 rfl ?_
    refine go_aload_n 28 dX8_share_27 rfl rfl ?_
    refine g_getR 31 dX8_share_28 rfl fF_RX8_10 ly_0 rfl ?_
    refine g_callV 34 [.ref 1] [] dX8_share_31 rfl (ct_X7_costOfAll _ _ hoT) rfl sV_X8_share_199 rfl ly_40 rfl rfl (Nat.le_of_ble_eq_true rfl) (Nat.le_of_ble_eq_true rfl) (Nat.le_of_ble_eq_true rfl) ?_
    refine go_i2d 35 dX8_share_34 rfl ?_
    refine go_iload_n 36 dX8_share_35 rfl rfl ?_
    refine go_i2d 37 dX8_share_36 rfl ?_
    refine go_ddiv 38 dX8_share_37 rfl (hne hc1) ?_
    refine go_dreturn dX8_share_38 rfl (Nat.le_of_ble_eq_true rfl) (Nat.le_of_ble_eq_true rfl) ?_
    exact ⟨(by unfold f_X8_share; simp only [if_neg hc1]; try first | rfl | contradiction), congrArg (fun z => some (Value.double z)) (by unfold f_X8_share; simp only [if_neg hc1]; try first | rfl | contradiction), congrArg hp (by unfold f_X8_share; simp only [if_neg hc1]; try first | rfl | contradiction)⟩
  · refine go_throw "java/lang/ArithmeticException" "the circuit with full signals costs nothing" dX8_share_13 dX8_share_16 dX8_share_17 dX8_share_19 dX8_share_22 rfl sT_RX8_217 (List.mem_of_getElem? (i := 10) rfl) (Nat.le_of_ble_eq_true rfl) (Nat.le_of_ble_eq_true rfl) (Nat.le_of_ble_eq_true rfl) (Nat.le_of_ble_eq_true rfl) ?_
    exact ⟨(by unfold f_X8_share; simp only [if_pos hc1]; try decide), (by unfold f_X8_share; simp only [if_pos hc1]; try rfl), congrArg hp (by unfold f_X8_share; simp only [if_pos hc1]; try first | rfl | contradiction)⟩

theorem u_in {T : gS} {m : Nat} {u : Int32} (hm : rI T 44 0 = nI m ∧ m ≤ 24) (h1 : ¬ u < 0) (h2 : u < rI T 44 0) : vp_in u 24 := by
  rw [hm.1] at h2
  exact vin_of ⟨Int32.not_lt.mp h1, h2⟩ hm.2
def f_X8_unit (S : gS) (u w : Int32) (T : gS) : Nat × Int32 × gS := (if u < 0 then (2, 0, T) else (if u < (rI T 44 0) then (if w = 0 then (0, (rI T 45 u.toNatClampNeg), T) else (if w = 1 then (0, (rI T 46 u.toNatClampNeg), T) else (if w = 2 then (0, (f_X6_costOf T u), T) else (if w = 3 then (0, (rI T 47 u.toNatClampNeg), T) else (if w = 4 then (0, (rI T 48 u.toNatClampNeg), T) else (1, 0, T)))))) else (2, 0, T)))
set_option maxRecDepth 100000 in
set_option maxHeartbeats 1000000 in
theorem ct_X8_unit (S : gS) (u w : Int32) (T : gS) (hA : gF mX8_analyse [.ref 0] S none T) (m : Nat) (hm : rI T 44 0 = nI m ∧ m ≤ 24) : gO mX8_unit [.ref 0, .int u, .int w] S (f_X8_unit S u w T).1 (some (.int (f_X8_unit S u w T).2.1)) (f_X8_unit S u w T).2.2 := by
  refine go_enter [.ref 0, .int u, .int w] [(0, .ref 0), (1, .int u), (2, .int w)] (by decide +kernel) rfl rfl (Nat.le_of_ble_eq_true rfl) rfl ?_
  refine go_aload_n 1 dX8_unit_0 rfl rfl ?_
  refine g_callV0 4 [] [] dX8_unit_1 rfl hA rfl sV_X8_unit_171 rfl ly_0 rfl rfl (Nat.le_of_ble_eq_true rfl) (Nat.le_of_ble_eq_true rfl) (Nat.le_of_ble_eq_true rfl) ?_
  refine go_iload_n 5 dX8_unit_4 rfl rfl ?_
  refine go_if_lt 8 19 dX8_unit_5 rfl (by decide) (fun hc1 => ?_) (fun hc1 => ?_)
  · refine go_throw "java/lang/IndexOutOfBoundsException" "there is no such unit" dX8_unit_19 dX8_unit_22 dX8_unit_23 dX8_unit_25 dX8_unit_28 rfl sT_RX8_106 (List.mem_of_getElem? (i := 11) rfl) (Nat.le_of_ble_eq_true rfl) (Nat.le_of_ble_eq_true rfl) (Nat.le_of_ble_eq_true rfl) (Nat.le_of_ble_eq_true rfl) ?_
    exact ⟨(by unfold f_X8_unit; simp only [if_pos hc1]; try decide), (by unfold f_X8_unit; simp only [if_pos hc1]; try rfl), congrArg hp (by unfold f_X8_unit; simp only [if_pos hc1]; try first | rfl | contradiction)⟩
  · refine go_iload_n 9 dX8_unit_8 rfl rfl ?_
    refine go_aload_n 10 dX8_unit_9 rfl rfl ?_
    refine g_getR 13 dX8_unit_10 rfl fF_RX8_46 ly_0 rfl ?_
    refine g_getI 16 dX8_unit_13 rfl fF_RX8_222 ly_44 rfl ?_
    refine go_icmp_lt 19 29 dX8_unit_16 rfl (by decide) (fun hc2 => ?_) (fun hc2 => ?_)
    · refine go_iload_n 30 dX8_unit_29 rfl rfl ?_
      refine go_tableS [(0, 64), (1, 74), (2, 84), (3, 93), (4, 103)] 113 dX8_unit_30 rfl rfl (by decide) (by decide) rfl (by decide) (List.forall_mem_cons.mpr ⟨fun hc3 => ?_, List.forall_mem_cons.mpr ⟨fun hc3 => ?_, List.forall_mem_cons.mpr ⟨fun hc3 => ?_, List.forall_mem_cons.mpr ⟨fun hc3 => ?_, List.forall_mem_cons.mpr ⟨fun hc3 => ?_, fun _ h => absurd h List.not_mem_nil⟩⟩⟩⟩⟩) (fun hc3 => ?_)
      · have hc3 : w = 0 := hc3
        refine go_aload_n 65 dX8_unit_64 rfl rfl ?_
        refine g_getR 68 dX8_unit_65 rfl fF_RX8_46 ly_0 rfl ?_
        refine g_getR 71 dX8_unit_68 rfl fF_RX8_225 ly_44 rfl ?_
        refine go_iload_n 72 dX8_unit_71 rfl rfl ?_
        refine g_iald2 73 _ dX8_unit_72 rfl ly_45 (u_in hm hc1 hc2) rfl ?_
        refine go_ireturn dX8_unit_73 rfl (by first | rfl | exact bi_nar) (Nat.le_of_ble_eq_true rfl) (Nat.le_of_ble_eq_true rfl) ?_
        exact ⟨(by unfold f_X8_unit; simp only [if_neg hc1, if_pos hc2, if_pos hc3]; try first | rfl | contradiction), congrArg (fun z => some (Value.int z)) (by unfold f_X8_unit; simp only [if_neg hc1, if_pos hc2, if_pos hc3]; try first | rfl | contradiction), congrArg hp (by unfold f_X8_unit; simp only [if_neg hc1, if_pos hc2, if_pos hc3]; try first | rfl | contradiction)⟩
      · have hc3 : w = 1 := hc3
        have hc3_0 : ¬ w = 0 := by rw [hc3]; decide
        refine go_aload_n 75 dX8_unit_74 rfl rfl ?_
        refine g_getR 78 dX8_unit_75 rfl fF_RX8_46 ly_0 rfl ?_
        refine g_getR 81 dX8_unit_78 rfl fF_RX8_226 ly_44 rfl ?_
        refine go_iload_n 82 dX8_unit_81 rfl rfl ?_
        refine g_iald2 83 _ dX8_unit_82 rfl ly_46 (u_in hm hc1 hc2) rfl ?_
        refine go_ireturn dX8_unit_83 rfl (by first | rfl | exact bi_nar) (Nat.le_of_ble_eq_true rfl) (Nat.le_of_ble_eq_true rfl) ?_
        exact ⟨(by unfold f_X8_unit; simp only [if_neg hc1, if_pos hc2, if_neg hc3_0, if_pos hc3]; try first | rfl | contradiction), congrArg (fun z => some (Value.int z)) (by unfold f_X8_unit; simp only [if_neg hc1, if_pos hc2, if_neg hc3_0, if_pos hc3]; try first | rfl | contradiction), congrArg hp (by unfold f_X8_unit; simp only [if_neg hc1, if_pos hc2, if_neg hc3_0, if_pos hc3]; try first | rfl | contradiction)⟩
      · have hc3 : w = 2 := hc3
        have hc3_0 : ¬ w = 0 := by rw [hc3]; decide
        have hc3_1 : ¬ w = 1 := by rw [hc3]; decide
        refine go_aload_n 85 dX8_unit_84 rfl rfl ?_
        refine g_getR 88 dX8_unit_85 rfl fF_RX8_46 ly_0 rfl ?_
        refine go_iload_n 89 dX8_unit_88 rfl rfl ?_
        refine g_callV 92 [.int _] [] dX8_unit_89 rfl (ct_X6_costOf _ _ (u_in hm hc1 hc2)) rfl sV_X8_unit_229 rfl ly_44 rfl rfl (Nat.le_of_ble_eq_true rfl) (Nat.le_of_ble_eq_true rfl) (Nat.le_of_ble_eq_true rfl) ?_
        refine go_ireturn dX8_unit_92 rfl (by first | rfl | exact bi_nar) (Nat.le_of_ble_eq_true rfl) (Nat.le_of_ble_eq_true rfl) ?_
        exact ⟨(by unfold f_X8_unit; simp only [if_neg hc1, if_pos hc2, if_neg hc3_0, if_neg hc3_1, if_pos hc3]; try first | rfl | contradiction), congrArg (fun z => some (Value.int z)) (by unfold f_X8_unit; simp only [if_neg hc1, if_pos hc2, if_neg hc3_0, if_neg hc3_1, if_pos hc3]; try first | rfl | contradiction), congrArg hp (by unfold f_X8_unit; simp only [if_neg hc1, if_pos hc2, if_neg hc3_0, if_neg hc3_1, if_pos hc3]; try first | rfl | contradiction)⟩
      · have hc3 : w = 3 := hc3
        have hc3_0 : ¬ w = 0 := by rw [hc3]; decide
        have hc3_1 : ¬ w = 1 := by rw [hc3]; decide
        have hc3_2 : ¬ w = 2 := by rw [hc3]; decide
        refine go_aload_n 94 dX8_unit_93 rfl rfl ?_
        refine g_getR 97 dX8_unit_94 rfl fF_RX8_46 ly_0 rfl ?_
        refine g_getR 100 dX8_unit_97 rfl fF_RX8_233 ly_44 rfl ?_
        refine go_iload_n 101 dX8_unit_100 rfl rfl ?_
        refine g_iald2 102 _ dX8_unit_101 rfl ly_47 (u_in hm hc1 hc2) rfl ?_
        refine go_ireturn dX8_unit_102 rfl (by first | rfl | exact bi_nar) (Nat.le_of_ble_eq_true rfl) (Nat.le_of_ble_eq_true rfl) ?_
        exact ⟨(by unfold f_X8_unit; simp only [if_neg hc1, if_pos hc2, if_neg hc3_0, if_neg hc3_1, if_neg hc3_2, if_pos hc3]; try first | rfl | contradiction), congrArg (fun z => some (Value.int z)) (by unfold f_X8_unit; simp only [if_neg hc1, if_pos hc2, if_neg hc3_0, if_neg hc3_1, if_neg hc3_2, if_pos hc3]; try first | rfl | contradiction), congrArg hp (by unfold f_X8_unit; simp only [if_neg hc1, if_pos hc2, if_neg hc3_0, if_neg hc3_1, if_neg hc3_2, if_pos hc3]; try first | rfl | contradiction)⟩
      · have hc3 : w = 4 := hc3
        have hc3_0 : ¬ w = 0 := by rw [hc3]; decide
        have hc3_1 : ¬ w = 1 := by rw [hc3]; decide
        have hc3_2 : ¬ w = 2 := by rw [hc3]; decide
        have hc3_3 : ¬ w = 3 := by rw [hc3]; decide
        refine go_aload_n 104 dX8_unit_103 rfl rfl ?_
        refine g_getR 107 dX8_unit_104 rfl fF_RX8_46 ly_0 rfl ?_
        refine g_getR 110 dX8_unit_107 rfl fF_RX8_236 ly_44 rfl ?_
        refine go_iload_n 111 dX8_unit_110 rfl rfl ?_
        refine g_iald2 112 _ dX8_unit_111 rfl ly_48 (u_in hm hc1 hc2) rfl ?_
        refine go_ireturn dX8_unit_112 rfl (by first | rfl | exact bi_nar) (Nat.le_of_ble_eq_true rfl) (Nat.le_of_ble_eq_true rfl) ?_
        exact ⟨(by unfold f_X8_unit; simp only [if_neg hc1, if_pos hc2, if_neg hc3_0, if_neg hc3_1, if_neg hc3_2, if_neg hc3_3, if_pos hc3]; try first | rfl | contradiction), congrArg (fun z => some (Value.int z)) (by unfold f_X8_unit; simp only [if_neg hc1, if_pos hc2, if_neg hc3_0, if_neg hc3_1, if_neg hc3_2, if_neg hc3_3, if_pos hc3]; try first | rfl | contradiction), congrArg hp (by unfold f_X8_unit; simp only [if_neg hc1, if_pos hc2, if_neg hc3_0, if_neg hc3_1, if_neg hc3_2, if_neg hc3_3, if_pos hc3]; try first | rfl | contradiction)⟩
      · have hc3_0 : ¬ w = 0 := hc3 (0, 64) (List.mem_of_getElem? (i := 0) rfl)
        have hc3_1 : ¬ w = 1 := hc3 (1, 74) (List.mem_of_getElem? (i := 1) rfl)
        have hc3_2 : ¬ w = 2 := hc3 (2, 84) (List.mem_of_getElem? (i := 2) rfl)
        have hc3_3 : ¬ w = 3 := hc3 (3, 93) (List.mem_of_getElem? (i := 3) rfl)
        have hc3_4 : ¬ w = 4 := hc3 (4, 103) (List.mem_of_getElem? (i := 4) rfl)
        clear hc3
        refine go_throw "java/lang/IllegalArgumentException" "no such property of a unit" dX8_unit_113 dX8_unit_116 dX8_unit_117 dX8_unit_119 dX8_unit_122 rfl sT_RX8_81 (List.mem_of_getElem? (i := 12) rfl) (Nat.le_of_ble_eq_true rfl) (Nat.le_of_ble_eq_true rfl) (Nat.le_of_ble_eq_true rfl) (Nat.le_of_ble_eq_true rfl) ?_
        exact ⟨(by unfold f_X8_unit; simp only [if_neg hc1, if_pos hc2, if_neg hc3_0, if_neg hc3_1, if_neg hc3_2, if_neg hc3_3, if_neg hc3_4]; try decide), (by unfold f_X8_unit; simp only [if_neg hc1, if_pos hc2, if_neg hc3_0, if_neg hc3_1, if_neg hc3_2, if_neg hc3_3, if_neg hc3_4]; try rfl), congrArg hp (by unfold f_X8_unit; simp only [if_neg hc1, if_pos hc2, if_neg hc3_0, if_neg hc3_1, if_neg hc3_2, if_neg hc3_3, if_neg hc3_4]; try first | rfl | contradiction)⟩
    · refine go_throw "java/lang/IndexOutOfBoundsException" "there is no such unit" dX8_unit_19 dX8_unit_22 dX8_unit_23 dX8_unit_25 dX8_unit_28 rfl sT_RX8_106 (List.mem_of_getElem? (i := 11) rfl) (Nat.le_of_ble_eq_true rfl) (Nat.le_of_ble_eq_true rfl) (Nat.le_of_ble_eq_true rfl) (Nat.le_of_ble_eq_true rfl) ?_
      exact ⟨(by unfold f_X8_unit; simp only [if_neg hc1, if_neg hc2]; try decide), (by unfold f_X8_unit; simp only [if_neg hc1, if_neg hc2]; try rfl), congrArg hp (by unfold f_X8_unit; simp only [if_neg hc1, if_neg hc2]; try first | rfl | contradiction)⟩

def f_X8_unitOf (S : gS) (r : Int32) (T : gS) : Nat × Int32 × gS := (if (f_X0_has S r) = 0 then (2, 0, S) else (if (0 : Int32) ≤ (rI T 50 r.toNatClampNeg) then (0, (rI T 50 r.toNatClampNeg), T) else (4, 0, T)))
set_option maxRecDepth 100000 in
set_option maxHeartbeats 1000000 in
theorem ct_X8_unitOf (S : gS) (r : Int32) (T : gS) (n : Nat) (ho : okC S n) (hA : gF mX8_analyse [.ref 0] S none T) : gO mX8_unitOf [.ref 0, .int r] S (f_X8_unitOf S r T).1 (some (.int (f_X8_unitOf S r T).2.1)) (f_X8_unitOf S r T).2.2 := by
  refine go_enter [.ref 0, .int r] [(0, .ref 0), (1, .int r)] (by decide +kernel) rfl rfl (Nat.le_of_ble_eq_true rfl) rfl ?_
  refine go_aload_n 1 dX8_unitOf_0 rfl rfl ?_
  refine go_iload_n 2 dX8_unitOf_1 rfl rfl ?_
  refine g_req 5 [] dX8_unitOf_2 rfl sV_X8_unitOf_135 rfl (Nat.le_of_ble_eq_true rfl) (Nat.le_of_ble_eq_true rfl) (Nat.le_of_ble_eq_true rfl) (fun hc1 => ?_) (fun hc1 => ?_)
  · exact ⟨(by unfold f_X8_unitOf; simp only [if_pos hc1]; try decide), (by unfold f_X8_unitOf; simp only [if_pos hc1]; try rfl), congrArg hp (by unfold f_X8_unitOf; simp only [if_pos hc1]; try first | rfl | contradiction)⟩
  · refine go_aload_n 6 dX8_unitOf_5 rfl rfl ?_
    refine g_callV0 9 [] [] dX8_unitOf_6 rfl hA rfl sV_X8_unitOf_171 rfl ly_0 rfl rfl (Nat.le_of_ble_eq_true rfl) (Nat.le_of_ble_eq_true rfl) (Nat.le_of_ble_eq_true rfl) ?_
    refine go_aload_n 10 dX8_unitOf_9 rfl rfl ?_
    refine g_getR 13 dX8_unitOf_10 rfl fF_RX8_46 ly_0 rfl ?_
    refine g_getR 16 dX8_unitOf_13 rfl fF_RX8_241 ly_44 rfl ?_
    refine go_iload_n 17 dX8_unitOf_16 rfl rfl ?_
    refine g_iald2 18 _ dX8_unitOf_17 rfl ly_50 (has_in ho hc1) rfl ?_
    refine go_if_ge 21 31 dX8_unitOf_18 rfl (by decide) (fun hc2 => ?_) (fun hc2 => ?_)
    · refine go_aload_n 32 dX8_unitOf_31 rfl rfl ?_
      refine g_getR 35 dX8_unitOf_32 rfl fF_RX8_46 ly_0 rfl ?_
      refine g_getR 38 dX8_unitOf_35 rfl fF_RX8_241 ly_44 rfl ?_
      refine go_iload_n 39 dX8_unitOf_38 rfl rfl ?_
      refine g_iald2 40 _ dX8_unitOf_39 rfl ly_50 (has_in ho hc1) rfl ?_
      refine go_ireturn dX8_unitOf_40 rfl (by first | rfl | exact bi_nar) (Nat.le_of_ble_eq_true rfl) (Nat.le_of_ble_eq_true rfl) ?_
      exact ⟨(by unfold f_X8_unitOf; simp only [if_neg hc1, if_pos hc2]; try first | rfl | contradiction), congrArg (fun z => some (Value.int z)) (by unfold f_X8_unitOf; simp only [if_neg hc1, if_pos hc2]; try first | rfl | contradiction), congrArg hp (by unfold f_X8_unitOf; simp only [if_neg hc1, if_pos hc2]; try first | rfl | contradiction)⟩
    · refine go_throwN "no unit carries out the signal" dX8_unitOf_21 dX8_unitOf_24 dX8_unitOf_25 dX8_unitOf_27 dX8_unitOf_30 rfl sT_RX8_126 (List.mem_of_getElem? (i := 13) rfl) (Nat.le_of_ble_eq_true rfl) (Nat.le_of_ble_eq_true rfl) (Nat.le_of_ble_eq_true rfl) (Nat.le_of_ble_eq_true rfl) ?_
      exact ⟨(by unfold f_X8_unitOf; simp only [if_neg hc1, if_neg hc2]; try decide), (by unfold f_X8_unitOf; simp only [if_neg hc1, if_neg hc2]; try rfl), congrArg hp (by unfold f_X8_unitOf; simp only [if_neg hc1, if_neg hc2]; try first | rfl | contradiction)⟩

def f_X8_value (S : gS) (r b : Int32) (T : gS) (n : Nat) : Nat × Int32 × gS := (if (f_X0_has S r) = 0 then (2, 0, S) else (if b = 0 then (0, (rI (f_X8_settleBoth T n) 52 r.toNatClampNeg), (f_X8_settleBoth T n)) else (0, (rI (f_X8_settleBoth T n) 54 r.toNatClampNeg), (f_X8_settleBoth T n))))
set_option maxRecDepth 100000 in
set_option maxHeartbeats 1000000 in
theorem ct_X8_value (S : gS) (r b : Int32) (T : gS) (n : Nat) (ho : okC S n) (hA : gF mX8_analyse [.ref 0] S none T) (hoT : okC T n) : gO mX8_value [.ref 0, .int r, .int b] S (f_X8_value S r b T n).1 (some (.int (f_X8_value S r b T n).2.1)) (f_X8_value S r b T n).2.2 := by
  refine go_enter [.ref 0, .int r, .int b] [(0, .ref 0), (1, .int r), (2, .int b)] (by decide +kernel) rfl rfl (Nat.le_of_ble_eq_true rfl) rfl ?_
  refine go_aload_n 1 dX8_value_0 rfl rfl ?_
  refine go_iload_n 2 dX8_value_1 rfl rfl ?_
  refine g_req 5 [] dX8_value_2 rfl sV_X8_value_135 rfl (Nat.le_of_ble_eq_true rfl) (Nat.le_of_ble_eq_true rfl) (Nat.le_of_ble_eq_true rfl) (fun hc1 => ?_) (fun hc1 => ?_)
  · exact ⟨(by unfold f_X8_value; simp only [if_pos hc1]; try decide), (by unfold f_X8_value; simp only [if_pos hc1]; try rfl), congrArg hp (by unfold f_X8_value; simp only [if_pos hc1]; try first | rfl | contradiction)⟩
  · refine go_aload_n 6 dX8_value_5 rfl rfl ?_
    refine g_callV0 9 [] [] dX8_value_6 rfl hA rfl sV_X8_value_171 rfl ly_0 rfl rfl (Nat.le_of_ble_eq_true rfl) (Nat.le_of_ble_eq_true rfl) (Nat.le_of_ble_eq_true rfl) ?_
    refine go_aload_n 10 dX8_value_9 rfl rfl ?_
    refine g_callV0 13 [] [] dX8_value_10 rfl (ct_X8_settleBoth _ _ hoT) rfl sV_X8_value_255 rfl ly_0 rfl rfl (Nat.le_of_ble_eq_true rfl) (Nat.le_of_ble_eq_true rfl) (Nat.le_of_ble_eq_true rfl) ?_
    refine go_iload_n 14 dX8_value_13 rfl rfl ?_
    refine go_if_eq 17 29 dX8_value_14 rfl (by decide) (fun hc2 => ?_) (fun hc2 => ?_)
    · refine go_aload_n 30 dX8_value_29 rfl rfl ?_
      refine g_getR 33 dX8_value_30 rfl fF_RX8_53 ly_0 rfl ?_
      refine g_getR 36 dX8_value_33 rfl fF_RX8_261 ly_51 rfl ?_
      refine go_iload_n 37 dX8_value_36 rfl rfl ?_
      refine g_iald2 38 _ dX8_value_37 rfl ly_52 (has_in ho hc1) rfl ?_
      refine go_ireturn dX8_value_38 rfl (by first | rfl | exact bi_nar) (Nat.le_of_ble_eq_true rfl) (Nat.le_of_ble_eq_true rfl) ?_
      exact ⟨(by unfold f_X8_value; simp only [if_neg hc1, if_pos hc2]; try first | rfl | contradiction), congrArg (fun z => some (Value.int z)) (by unfold f_X8_value; simp only [if_neg hc1, if_pos hc2]; try first | rfl | contradiction), congrArg hp (by unfold f_X8_value; simp only [if_neg hc1, if_pos hc2]; try first | rfl | contradiction)⟩
    · refine go_aload_n 18 dX8_value_17 rfl rfl ?_
      refine g_getR 21 dX8_value_18 rfl fF_RX8_57 ly_0 rfl ?_
      refine g_getR 24 dX8_value_21 rfl fF_RX8_261 ly_53 rfl ?_
      refine go_iload_n 25 dX8_value_24 rfl rfl ?_
      refine g_iald2 26 _ dX8_value_25 rfl ly_54 (has_in ho hc1) rfl ?_
      refine go_goto 38 dX8_value_26 (by decide) ?_
      refine go_ireturn dX8_value_38 rfl (by first | rfl | exact bi_nar) (Nat.le_of_ble_eq_true rfl) (Nat.le_of_ble_eq_true rfl) ?_
      exact ⟨(by unfold f_X8_value; simp only [if_neg hc1, if_neg hc2]; try first | rfl | contradiction), congrArg (fun z => some (Value.int z)) (by unfold f_X8_value; simp only [if_neg hc1, if_neg hc2]; try first | rfl | contradiction), congrArg hp (by unfold f_X8_value; simp only [if_neg hc1, if_neg hc2]; try first | rfl | contradiction)⟩

