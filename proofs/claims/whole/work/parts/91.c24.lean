-- needs 
theorem okC_zero {S : gS} (h : rI S 1 0 = 0) : okC S 0 := ⟨h, by decide, fun i hi => absurd hi (Nat.not_lt_zero i)⟩
theorem full_lt {S : gS} {n : Nat} (hn : rI S 1 0 = nI n) (h24 : n ≤ 24) (h : f_X0_isFull S = 0) : n < 24 := by
  unfold f_X0_isFull at h
  by_cases q : rI S 1 0 < 24
  · rw [hn, il, nI_toInt (by omega)] at q
    have e : (24 : Int32).toInt = 24 := rfl
    omega
  · rw [if_neg q] at h
    exact absurd h (by decide)
theorem full_in {S : gS} {n : Nat} (hn : rI S 1 0 = nI n) (h24 : n ≤ 24) (h : f_X0_isFull S = 0) : vp_in (rI S 1 0) 24 := by
  rw [hn]
  exact nI_i (full_lt hn h24 h) (by omega)
theorem bec_rd (S : gS) (kd a b c : Int32) : rI (f_X2_become S 34 kd a b c) 34 0 = kd := by
  unfold f_X2_become
  (repeat' split) <;> simp [rI_wI]
theorem bec_fr (S : gS) (kd a b c : Int32) (x y : Nat) (h : x < 34) : rI (f_X2_become S 34 kd a b c) x y = rI S x y := fr_f_X2_become (by omega) (by omega) _ _ _ _ _
theorem bec_ok {S : gS} {n : Nat} (ho : okC S n) (kd a b c : Int32) : okC (f_X2_become S 34 kd a b c) n := okC.of ho (fun x y h => bec_fr S kd a b c x y (by omega))
def f_X8_saveSnapshot (S : gS)  : Int32 × gS := ((rI (f_copy12_1 S) 1 0), (wI (f_copy12_1 S) 0 11 1))
set_option maxRecDepth 100000 in
set_option maxHeartbeats 1000000 in
theorem ct_X8_saveSnapshot (S : gS)   : gF mX8_saveSnapshot [.ref 0] S (some (.int (f_X8_saveSnapshot S).1)) (f_X8_saveSnapshot S).2 := by
  refine go_enter [.ref 0] [(0, .ref 0)] (by decide +kernel) rfl rfl (Nat.le_of_ble_eq_true rfl) rfl ?_
  refine go_aload_n 1 dX8_saveSnapshot_0 rfl rfl ?_
  refine g_getR 4 dX8_saveSnapshot_1 rfl fF_RX8_16 ly_0 rfl ?_
  refine go_aload_n 5 dX8_saveSnapshot_4 rfl rfl ?_
  refine g_getR 8 dX8_saveSnapshot_5 rfl fF_RX8_10 ly_0 rfl ?_
  refine g_callV0 11 [.ref 1] [] dX8_saveSnapshot_8 rfl (ct_copy12_1 _) rfl sV_X8_saveSnapshot_303 rfl ly_12 rfl rfl (Nat.le_of_ble_eq_true rfl) (Nat.le_of_ble_eq_true rfl) (Nat.le_of_ble_eq_true rfl) ?_
  refine go_aload_n 12 dX8_saveSnapshot_11 rfl rfl ?_
  refine go_iconst 13 (1) dX8_saveSnapshot_12 rfl (by decide) ?_
  refine g_putI 16 dX8_saveSnapshot_13 rfl fF_RX8_74 ly_0 rfl (fun q hq => by cases hq; rfl) rfl rfl ?_
  refine go_aload_n 17 dX8_saveSnapshot_16 rfl rfl ?_
  refine g_getR 20 dX8_saveSnapshot_17 rfl fF_RX8_10 ly_0 rfl ?_
  refine g_getI 23 dX8_saveSnapshot_20 rfl fF_RX8_98 ly_1 rfl ?_
  refine go_topi (rI (f_copy12_1 S) 1 0) (rI_wIk (by decide) _ _ _) ?_
  refine go_ireturn dX8_saveSnapshot_23 rfl (by first | rfl | exact bi_nar) (Nat.le_of_ble_eq_true rfl) (Nat.le_of_ble_eq_true rfl) ?_
  exact ⟨congrArg (fun z => some (Value.int z)) (by unfold f_X8_saveSnapshot; first | done | (dsimp only; done) | rfl), congrArg hp (by unfold f_X8_saveSnapshot; first | done | (dsimp only; done) | rfl)⟩

def f_X8_clear (S : gS) (n : Nat) : Int32 × gS := ((rI S 1 0), (f_X8_beginAnew (wI S 1 0 0) 0))
set_option maxRecDepth 100000 in
set_option maxHeartbeats 1000000 in
theorem ct_X8_clear (S : gS) (n : Nat) (ho : okC S n) : gF mX8_clear [.ref 0] S (some (.int (f_X8_clear S n).1)) (f_X8_clear S n).2 := by
  refine go_enter [.ref 0] [(0, .ref 0)] (by decide +kernel) rfl rfl (Nat.le_of_ble_eq_true rfl) rfl ?_
  refine go_aload_n 1 dX8_clear_0 rfl rfl ?_
  refine g_getR 4 dX8_clear_1 rfl fF_RX8_10 ly_0 rfl ?_
  refine g_getI 7 dX8_clear_4 rfl fF_RX8_98 ly_1 rfl ?_
  refine go_istore_n 8 [(1, .int _), (0, .ref 0)] dX8_clear_7 rfl (Nat.le_of_ble_eq_true rfl) rfl ?_
  refine go_aload_n 9 dX8_clear_8 rfl rfl ?_
  refine g_getR 12 dX8_clear_9 rfl fF_RX8_10 ly_0 rfl ?_
  refine go_iconst 13 (0) dX8_clear_12 rfl (by decide) ?_
  refine g_putI 16 dX8_clear_13 rfl fF_RX8_98 ly_1 rfl (fun q hq => by cases hq; rfl) rfl rfl ?_
  refine go_aload_n 17 dX8_clear_16 rfl rfl ?_
  refine g_callV0 20 [] [] dX8_clear_17 rfl (ct_X8_beginAnew _ _ (okC_zero (by rw [rI_wI, if_pos ⟨rfl, rfl⟩]))) rfl sV_X8_clear_123 rfl ly_0 rfl rfl (Nat.le_of_ble_eq_true rfl) (Nat.le_of_ble_eq_true rfl) (Nat.le_of_ble_eq_true rfl) ?_
  refine go_iload_n 21 dX8_clear_20 rfl rfl ?_
  refine go_ireturn dX8_clear_21 rfl (by first | rfl | exact bi_nar) (Nat.le_of_ble_eq_true rfl) (Nat.le_of_ble_eq_true rfl) ?_
  exact ⟨congrArg (fun z => some (Value.int z)) (by unfold f_X8_clear; first | done | (dsimp only; done) | rfl), congrArg hp (by unfold f_X8_clear; first | done | (dsimp only; done) | rfl)⟩

def f_X8_add (S : gS) (kd a b c : Int32) (n : Nat) : Nat × Int32 × gS := (if kd < 0 then (1, 0, S) else (if kd ≤ 12 then (if (f_X2_hasWrongConstant (f_X2_become S 34 kd a b c) 34) = 0 then (if (f_X2_lacksSignal (f_X2_become S 34 kd a b c) 34 ((rI (f_X2_become S 34 kd a b c) 1 0))) = 0 then (if (f_X0_isFull (f_X2_become S 34 kd a b c)) = 0 then (0, ((rI (f_X8_beginAnew (f_X0_append (f_X2_become S 34 kd a b c) 34) ((n + 1))) 1 0) - 1), (f_X8_beginAnew (f_X0_append (f_X2_become S 34 kd a b c) 34) ((n + 1)))) else (3, 0, (f_X2_become S 34 kd a b c))) else (2, 0, (f_X2_become S 34 kd a b c))) else (1, 0, (f_X2_become S 34 kd a b c))) else (1, 0, S)))
set_option maxRecDepth 100000 in
set_option maxHeartbeats 1000000 in
theorem ct_X8_add (S : gS) (kd a b c : Int32) (n : Nat) (ho : okC S n) : gO mX8_add [.ref 0, .int kd, .int a, .int b, .int c] S (f_X8_add S kd a b c n).1 (some (.int (f_X8_add S kd a b c n).2.1)) (f_X8_add S kd a b c n).2.2 := by
  refine go_enter [.ref 0, .int kd, .int a, .int b, .int c] [(0, .ref 0), (1, .int kd), (2, .int a), (3, .int b), (4, .int c)] (by decide +kernel) rfl rfl (Nat.le_of_ble_eq_true rfl) rfl ?_
  refine go_iload_n 1 dX8_add_0 rfl rfl ?_
  refine go_if_lt 4 10 dX8_add_1 rfl (by decide) (fun hc1 => ?_) (fun hc1 => ?_)
  · refine go_throw "java/lang/IllegalArgumentException" "no such kind" dX8_add_10 dX8_add_13 dX8_add_14 dX8_add_16 dX8_add_19 rfl sT_RX8_81 (List.mem_of_getElem? (i := 0) rfl) (Nat.le_of_ble_eq_true rfl) (Nat.le_of_ble_eq_true rfl) (Nat.le_of_ble_eq_true rfl) (Nat.le_of_ble_eq_true rfl) ?_
    exact ⟨(by unfold f_X8_add; simp only [if_pos hc1]; try decide), (by unfold f_X8_add; simp only [if_pos hc1]; try rfl), congrArg hp (by unfold f_X8_add; simp only [if_pos hc1]; try first | rfl | contradiction)⟩
  · refine go_iload_n 5 dX8_add_4 rfl rfl ?_
    refine go_bipush 7 (12) dX8_add_5 rfl (by decide) ?_
    refine go_icmp_le 10 20 dX8_add_7 rfl (by decide) (fun hc2 => ?_) (fun hc2 => ?_)
    · have hk0 : 0 ≤ kd := Int32.not_lt.mp hc1
      have hk1 : kd ≤ 12 := by assumption
      refine go_aload_n 21 dX8_add_20 rfl rfl ?_
      refine g_getR 24 dX8_add_21 rfl fF_RX8_25 ly_0 rfl ?_
      refine go_iload_n 25 dX8_add_24 rfl rfl ?_
      refine go_iload_n 26 dX8_add_25 rfl rfl ?_
      refine go_iload_n 27 dX8_add_26 rfl rfl ?_
      refine go_iload 29 dX8_add_27 rfl rfl ?_
      refine g_callV0 32 [.int _, .int _, .int _, .int _] [] dX8_add_29 rfl (ct_X2_become _ _ _ _ _ _ itm_34) rfl sV_X8_add_88 rfl ly_34 rfl rfl (Nat.le_of_ble_eq_true rfl) (Nat.le_of_ble_eq_true rfl) (Nat.le_of_ble_eq_true rfl) ?_
      refine go_aload_n 33 dX8_add_32 rfl rfl ?_
      refine g_getR 36 dX8_add_33 rfl fF_RX8_25 ly_0 rfl ?_
      refine g_callV 39 [] [] dX8_add_36 rfl (ct_X2_hasWrongConstant _ _ itm_34) rfl sV_X8_add_92 rfl ly_34 rfl rfl (Nat.le_of_ble_eq_true rfl) (Nat.le_of_ble_eq_true rfl) (Nat.le_of_ble_eq_true rfl) ?_
      refine go_if_eq 42 52 dX8_add_39 rfl (by decide) (fun hc3 => ?_) (fun hc3 => ?_)
      · refine go_aload_n 53 dX8_add_52 rfl rfl ?_
        refine g_getR 56 dX8_add_53 rfl fF_RX8_25 ly_0 rfl ?_
        refine go_aload_n 57 dX8_add_56 rfl rfl ?_
        refine g_getR 60 dX8_add_57 rfl fF_RX8_10 ly_0 rfl ?_
        refine g_getI 63 dX8_add_60 rfl fF_RX8_98 ly_1 rfl ?_
        refine g_callV 66 [.int _] [] dX8_add_63 rfl (ct_X2_lacksSignal _ _ _ itm_34) rfl sV_X8_add_102 rfl ly_34 rfl rfl (Nat.le_of_ble_eq_true rfl) (Nat.le_of_ble_eq_true rfl) (Nat.le_of_ble_eq_true rfl) ?_
        refine go_if_eq 69 79 dX8_add_66 rfl (by decide) (fun hc4 => ?_) (fun hc4 => ?_)
        · have hls : f_X2_lacksSignal (f_X2_become S 34 kd a b c) 34 (nI n) = 0 := by
            have h8 := hc4
            rw [(bec_fr S kd a b c 1 0 (by decide)).trans ho.1] at h8
            exact h8
          refine go_aload_n 80 dX8_add_79 rfl rfl ?_
          refine g_getR 83 dX8_add_80 rfl fF_RX8_10 ly_0 rfl ?_
          refine g_callV 86 [] [] dX8_add_83 rfl (ct_X0_isFull _) rfl sV_X8_add_111 rfl ly_1 rfl rfl (Nat.le_of_ble_eq_true rfl) (Nat.le_of_ble_eq_true rfl) (Nat.le_of_ble_eq_true rfl) ?_
          refine go_if_eq 89 99 dX8_add_86 rfl (by decide) (fun hc5 => ?_) (fun hc5 => ?_)
          · have hfu := hc5
            refine go_aload_n 100 dX8_add_99 rfl rfl ?_
            refine g_getR 103 dX8_add_100 rfl fF_RX8_10 ly_0 rfl ?_
            refine go_aload_n 104 dX8_add_103 rfl rfl ?_
            refine g_getR 107 dX8_add_104 rfl fF_RX8_25 ly_0 rfl ?_
            refine g_callV0 110 [.ref 34] [] dX8_add_107 rfl (ct_X0_append _ _ itm_34 (full_in (bec_ok ho kd a b c).1 ho.2.1 hfu)) rfl sV_X8_add_119 rfl ly_1 rfl rfl (Nat.le_of_ble_eq_true rfl) (Nat.le_of_ble_eq_true rfl) (Nat.le_of_ble_eq_true rfl) ?_
            refine go_aload_n 111 dX8_add_110 rfl rfl ?_
            refine g_callV0 114 [] [] dX8_add_111 rfl (ct_X8_beginAnew _ _ (okC_app itm_34 (bec_ok ho kd a b c) (full_lt (bec_ok ho kd a b c).1 ho.2.1 hfu) ⟨by rw [bec_rd]; exact hk0, by rw [bec_rd]; exact hk1⟩ hls)) rfl sV_X8_add_123 rfl ly_0 rfl rfl (Nat.le_of_ble_eq_true rfl) (Nat.le_of_ble_eq_true rfl) (Nat.le_of_ble_eq_true rfl) ?_
            refine go_aload_n 115 dX8_add_114 rfl rfl ?_
            refine g_getR 118 dX8_add_115 rfl fF_RX8_10 ly_0 rfl ?_
            refine g_getI 121 dX8_add_118 rfl fF_RX8_98 ly_1 rfl ?_
            refine go_iconst 122 (1) dX8_add_121 rfl (by decide) ?_
            refine go_isub 123 dX8_add_122 rfl ?_
            refine go_ireturn dX8_add_123 rfl (by first | rfl | exact bi_nar) (Nat.le_of_ble_eq_true rfl) (Nat.le_of_ble_eq_true rfl) ?_
            exact ⟨(by unfold f_X8_add; simp only [if_neg hc1, if_pos hc2, if_pos hc3, if_pos hc4, if_pos hc5]; try first | rfl | contradiction), congrArg (fun z => some (Value.int z)) (by unfold f_X8_add; simp only [if_neg hc1, if_pos hc2, if_pos hc3, if_pos hc4, if_pos hc5]; try first | rfl | contradiction), congrArg hp (by unfold f_X8_add; simp only [if_neg hc1, if_pos hc2, if_pos hc3, if_pos hc4, if_pos hc5]; try first | rfl | contradiction)⟩
          · refine go_throw "java/lang/IllegalStateException" "there are 24 signals" dX8_add_89 dX8_add_92 dX8_add_93 dX8_add_95 dX8_add_98 rfl sT_RX8_114 (List.mem_of_getElem? (i := 3) rfl) (Nat.le_of_ble_eq_true rfl) (Nat.le_of_ble_eq_true rfl) (Nat.le_of_ble_eq_true rfl) (Nat.le_of_ble_eq_true rfl) ?_
            exact ⟨(by unfold f_X8_add; simp only [if_neg hc1, if_pos hc2, if_pos hc3, if_pos hc4, if_neg hc5]; try decide), (by unfold f_X8_add; simp only [if_neg hc1, if_pos hc2, if_pos hc3, if_pos hc4, if_neg hc5]; try rfl), congrArg hp (by unfold f_X8_add; simp only [if_neg hc1, if_pos hc2, if_pos hc3, if_pos hc4, if_neg hc5]; try first | rfl | contradiction)⟩
        · refine go_throw "java/lang/IndexOutOfBoundsException" "an operand does not exist" dX8_add_69 dX8_add_72 dX8_add_73 dX8_add_75 dX8_add_78 rfl sT_RX8_106 (List.mem_of_getElem? (i := 2) rfl) (Nat.le_of_ble_eq_true rfl) (Nat.le_of_ble_eq_true rfl) (Nat.le_of_ble_eq_true rfl) (Nat.le_of_ble_eq_true rfl) ?_
          exact ⟨(by unfold f_X8_add; simp only [if_neg hc1, if_pos hc2, if_pos hc3, if_neg hc4]; try decide), (by unfold f_X8_add; simp only [if_neg hc1, if_pos hc2, if_pos hc3, if_neg hc4]; try rfl), congrArg hp (by unfold f_X8_add; simp only [if_neg hc1, if_pos hc2, if_pos hc3, if_neg hc4]; try first | rfl | contradiction)⟩
      · refine go_throw "java/lang/IllegalArgumentException" "a constant operand is out of range" dX8_add_42 dX8_add_45 dX8_add_46 dX8_add_48 dX8_add_51 rfl sT_RX8_81 (List.mem_of_getElem? (i := 1) rfl) (Nat.le_of_ble_eq_true rfl) (Nat.le_of_ble_eq_true rfl) (Nat.le_of_ble_eq_true rfl) (Nat.le_of_ble_eq_true rfl) ?_
        exact ⟨(by unfold f_X8_add; simp only [if_neg hc1, if_pos hc2, if_neg hc3]; try decide), (by unfold f_X8_add; simp only [if_neg hc1, if_pos hc2, if_neg hc3]; try rfl), congrArg hp (by unfold f_X8_add; simp only [if_neg hc1, if_pos hc2, if_neg hc3]; try first | rfl | contradiction)⟩
    · refine go_throw "java/lang/IllegalArgumentException" "no such kind" dX8_add_10 dX8_add_13 dX8_add_14 dX8_add_16 dX8_add_19 rfl sT_RX8_81 (List.mem_of_getElem? (i := 0) rfl) (Nat.le_of_ble_eq_true rfl) (Nat.le_of_ble_eq_true rfl) (Nat.le_of_ble_eq_true rfl) (Nat.le_of_ble_eq_true rfl) ?_
      exact ⟨(by unfold f_X8_add; simp only [if_neg hc1, if_neg hc2]; try decide), (by unfold f_X8_add; simp only [if_neg hc1, if_neg hc2]; try rfl), congrArg hp (by unfold f_X8_add; simp only [if_neg hc1, if_neg hc2]; try first | rfl | contradiction)⟩

