-- needs 50.units 51.m10
set_option maxRecDepth 100000 in
set_option maxHeartbeats 4000000 in
theorem ct_X9_range (S : gS) (r g : Int32) (n : Nat) (hn : rI S 115 10 = nI n) (h24 : n ≤ 24) (T : gS) (hR : gF mX9_refreshes [.ref 115] (wI S 115 0 0) none T) : gF mX9_range [.ref 115, .int r, .int g] S (some (.int (if sgn (nI n) r then (if g = 0 then (rL T 125 r.toNatClampNeg).toInt32 else (rL T 126 r.toNatClampNeg).toInt32) else 0))) (if sgn (nI n) r then T else wI S 115 0 1) := by
  refine go_enter [.ref 115, .int r, .int g] [(0, .ref 115), (1, .int r), (2, .int g)] (by decide +kernel) rfl rfl (Nat.le_of_ble_eq_true rfl) rfl ?_
  refine go_aload_n 1 dX9_range_0 rfl rfl ?_
  refine go_iload_n 2 dX9_range_1 rfl rfl ?_
  refine g_callV 5 [.int _] [] dX9_range_2 rfl (ct_X9_isSignal _ _) rfl sV_X9_range_123 rfl ly_115 rfl rfl (Nat.le_of_ble_eq_true rfl) (Nat.le_of_ble_eq_true rfl) (Nat.le_of_ble_eq_true rfl) ?_
  refine go_if_ne 8 14 dX9_range_5 rfl (by decide) (fun hc1 => ?_) (fun hc1 => ?_)
  · have hs : sgn (nI n) r := by
      simp only [bi0, bi1, Classical.not_not] at *
      rw [hn] at hc1
      exact hc1
    have hr : vp_in r 24 := vin_of hs h24
    rw [if_pos hs, if_pos hs]
    refine go_aload_n 15 dX9_range_14 rfl rfl ?_
    refine go_iconst 16 (0) dX9_range_15 rfl (by decide) ?_
    refine g_putI 19 dX9_range_16 rfl fF_RX9_98 ly_115 rfl (fun q hq => by cases hq; rfl) rfl rfl ?_
    refine go_aload_n 20 dX9_range_19 rfl rfl ?_
    refine g_callV0 23 [] [] dX9_range_20 rfl hR rfl sV_X9_range_243 rfl ly_115 rfl rfl (Nat.le_of_ble_eq_true rfl) (Nat.le_of_ble_eq_true rfl) (Nat.le_of_ble_eq_true rfl) ?_
    refine go_iload_n 24 dX9_range_23 rfl rfl ?_
    refine go_if_eq 27 36 dX9_range_24 rfl (by decide) (fun hc2 => ?_) (fun hc2 => ?_)
    · refine go_aload_n 37 dX9_range_36 rfl rfl ?_
      refine g_getR 40 dX9_range_37 rfl fF_RX9_37 ly_115 rfl ?_
      refine go_iload_n 41 dX9_range_40 rfl rfl ?_
      refine g_lald 42 dX9_range_41 rfl ly_125 hr ?_
      refine go_l2i 43 dX9_range_42 rfl ?_
      refine go_ireturn dX9_range_43 rfl (by first | rfl | exact bi_nar) (Nat.le_of_ble_eq_true rfl) (Nat.le_of_ble_eq_true rfl) ?_
      refine ⟨?_, rfl⟩
      first | rw [if_pos hc2] | rw [if_neg hc2]
    · refine go_aload_n 28 dX9_range_27 rfl rfl ?_
      refine g_getR 31 dX9_range_28 rfl fF_RX9_41 ly_115 rfl ?_
      refine go_iload_n 32 dX9_range_31 rfl rfl ?_
      refine g_lald 33 dX9_range_32 rfl ly_126 hr ?_
      refine go_goto 42 dX9_range_33 (by decide) ?_
      refine go_l2i 43 dX9_range_42 rfl ?_
      refine go_ireturn dX9_range_43 rfl (by first | rfl | exact bi_nar) (Nat.le_of_ble_eq_true rfl) (Nat.le_of_ble_eq_true rfl) ?_
      refine ⟨?_, rfl⟩
      first | rw [if_pos hc2] | rw [if_neg hc2]
  · refine go_aload_n 9 dX9_range_8 rfl rfl ?_
    refine go_iconst 10 (1) dX9_range_9 rfl (by decide) ?_
    refine g_callV 13 [.int _] [] dX9_range_10 rfl (ct_X9_fails _ _) rfl sV_X9_range_132 rfl ly_115 rfl rfl (Nat.le_of_ble_eq_true rfl) (Nat.le_of_ble_eq_true rfl) (Nat.le_of_ble_eq_true rfl) ?_
    refine go_ireturn dX9_range_13 rfl (by first | rfl | exact bi_nar) (Nat.le_of_ble_eq_true rfl) (Nat.le_of_ble_eq_true rfl) ?_
    have hs : ¬ sgn (nI n) r := by
      simp only [bi0, bi1, Classical.not_not] at *
      rw [hn] at hc1
      exact hc1
    rw [if_neg hs, if_neg hs]
    exact ⟨rfl, rfl⟩

set_option maxRecDepth 100000 in
set_option maxHeartbeats 4000000 in
theorem ct_X9_rounds (S : gS) (T : gS) (hR : gF mX9_refreshes [.ref 115] (wI S 115 0 0) none T) : gF mX9_rounds [.ref 115] S (some (.int (rI T 115 14))) T := by
  refine go_enter [.ref 115] [(0, .ref 115)] (by decide +kernel) rfl rfl (Nat.le_of_ble_eq_true rfl) rfl ?_
  refine go_aload_n 1 dX9_rounds_0 rfl rfl ?_
  refine go_iconst 2 (0) dX9_rounds_1 rfl (by decide) ?_
  refine g_putI 5 dX9_rounds_2 rfl fF_RX9_98 ly_115 rfl (fun q hq => by cases hq; rfl) rfl rfl ?_
  refine go_aload_n 6 dX9_rounds_5 rfl rfl ?_
  refine g_callV0 9 [] [] dX9_rounds_6 rfl hR rfl sV_X9_rounds_243 rfl ly_115 rfl rfl (Nat.le_of_ble_eq_true rfl) (Nat.le_of_ble_eq_true rfl) (Nat.le_of_ble_eq_true rfl) ?_
  refine go_aload_n 10 dX9_rounds_9 rfl rfl ?_
  refine g_getI 13 dX9_rounds_10 rfl fF_RX9_204 ly_115 rfl ?_
  refine go_ireturn dX9_rounds_13 rfl (by first | rfl | exact bi_nar) (Nat.le_of_ble_eq_true rfl) (Nat.le_of_ble_eq_true rfl) ?_
  exact ⟨rfl, rfl⟩

set_option maxRecDepth 100000 in
set_option maxHeartbeats 4000000 in
theorem ct_X9_demanded (S : gS) (r : Int32) (n : Nat) (hn : rI S 115 10 = nI n) (h24 : n ≤ 24) (T : gS) (hR : gF mX9_refreshes [.ref 115] (wI S 115 0 0) none T) : gF mX9_demanded [.ref 115, .int r] S (some (.int (if sgn (nI n) r then (rI T 128 r.toNatClampNeg) else 0))) (if sgn (nI n) r then T else wI S 115 0 1) := by
  refine go_enter [.ref 115, .int r] [(0, .ref 115), (1, .int r)] (by decide +kernel) rfl rfl (Nat.le_of_ble_eq_true rfl) rfl ?_
  refine go_aload_n 1 dX9_demanded_0 rfl rfl ?_
  refine go_iload_n 2 dX9_demanded_1 rfl rfl ?_
  refine g_callV 5 [.int _] [] dX9_demanded_2 rfl (ct_X9_isSignal _ _) rfl sV_X9_demanded_123 rfl ly_115 rfl rfl (Nat.le_of_ble_eq_true rfl) (Nat.le_of_ble_eq_true rfl) (Nat.le_of_ble_eq_true rfl) ?_
  refine go_if_ne 8 14 dX9_demanded_5 rfl (by decide) (fun hc1 => ?_) (fun hc1 => ?_)
  · have hs : sgn (nI n) r := by
      simp only [bi0, bi1, Classical.not_not] at *
      rw [hn] at hc1
      exact hc1
    have hr : vp_in r 24 := vin_of hs h24
    rw [if_pos hs, if_pos hs]
    refine go_aload_n 15 dX9_demanded_14 rfl rfl ?_
    refine go_iconst 16 (0) dX9_demanded_15 rfl (by decide) ?_
    refine g_putI 19 dX9_demanded_16 rfl fF_RX9_98 ly_115 rfl (fun q hq => by cases hq; rfl) rfl rfl ?_
    refine go_aload_n 20 dX9_demanded_19 rfl rfl ?_
    refine g_callV0 23 [] [] dX9_demanded_20 rfl hR rfl sV_X9_demanded_243 rfl ly_115 rfl rfl (Nat.le_of_ble_eq_true rfl) (Nat.le_of_ble_eq_true rfl) (Nat.le_of_ble_eq_true rfl) ?_
    refine go_aload_n 24 dX9_demanded_23 rfl rfl ?_
    refine g_getR 27 dX9_demanded_24 rfl fF_RX9_47 ly_115 rfl ?_
    refine go_iload_n 28 dX9_demanded_27 rfl rfl ?_
    refine g_iald 29 dX9_demanded_28 rfl ly_128 hr ?_
    refine go_ireturn dX9_demanded_29 rfl (by first | rfl | exact bi_nar) (Nat.le_of_ble_eq_true rfl) (Nat.le_of_ble_eq_true rfl) ?_
    exact ⟨rfl, rfl⟩
  · refine go_aload_n 9 dX9_demanded_8 rfl rfl ?_
    refine go_iconst 10 (1) dX9_demanded_9 rfl (by decide) ?_
    refine g_callV 13 [.int _] [] dX9_demanded_10 rfl (ct_X9_fails _ _) rfl sV_X9_demanded_132 rfl ly_115 rfl rfl (Nat.le_of_ble_eq_true rfl) (Nat.le_of_ble_eq_true rfl) (Nat.le_of_ble_eq_true rfl) ?_
    refine go_ireturn dX9_demanded_13 rfl (by first | rfl | exact bi_nar) (Nat.le_of_ble_eq_true rfl) (Nat.le_of_ble_eq_true rfl) ?_
    have hs : ¬ sgn (nI n) r := by
      simp only [bi0, bi1, Classical.not_not] at *
      rw [hn] at hc1
      exact hc1
    rw [if_neg hs, if_neg hs]
    exact ⟨rfl, rfl⟩

set_option maxRecDepth 100000 in
set_option maxHeartbeats 4000000 in
theorem ct_X9_width (S : gS) (r g : Int32) (n : Nat) (hn : rI S 115 10 = nI n) (h24 : n ≤ 24) (T : gS) (hR : gF mX9_refreshes [.ref 115] (wI S 115 0 0) none T) : gF mX9_width [.ref 115, .int r, .int g] S (some (.int (if sgn (nI n) r then (if g = 0 then woF T r.toNatClampNeg else rI T 127 r.toNatClampNeg) else 0))) (if sgn (nI n) r then T else wI S 115 0 1) := by
  refine go_enter [.ref 115, .int r, .int g] [(0, .ref 115), (1, .int r), (2, .int g)] (by decide +kernel) rfl rfl (Nat.le_of_ble_eq_true rfl) rfl ?_
  refine go_aload_n 1 dX9_width_0 rfl rfl ?_
  refine go_iload_n 2 dX9_width_1 rfl rfl ?_
  refine g_callV 5 [.int _] [] dX9_width_2 rfl (ct_X9_isSignal _ _) rfl sV_X9_width_123 rfl ly_115 rfl rfl (Nat.le_of_ble_eq_true rfl) (Nat.le_of_ble_eq_true rfl) (Nat.le_of_ble_eq_true rfl) ?_
  refine go_if_ne 8 14 dX9_width_5 rfl (by decide) (fun hc1 => ?_) (fun hc1 => ?_)
  · have hs : sgn (nI n) r := by
      simp only [bi0, bi1, Classical.not_not] at *
      rw [hn] at hc1
      exact hc1
    have hr : vp_in r 24 := vin_of hs h24
    rw [if_pos hs, if_pos hs]
    refine go_aload_n 15 dX9_width_14 rfl rfl ?_
    refine go_iconst 16 (0) dX9_width_15 rfl (by decide) ?_
    refine g_putI 19 dX9_width_16 rfl fF_RX9_98 ly_115 rfl (fun q hq => by cases hq; rfl) rfl rfl ?_
    refine go_aload_n 20 dX9_width_19 rfl rfl ?_
    refine g_callV0 23 [] [] dX9_width_20 rfl hR rfl sV_X9_width_243 rfl ly_115 rfl rfl (Nat.le_of_ble_eq_true rfl) (Nat.le_of_ble_eq_true rfl) (Nat.le_of_ble_eq_true rfl) ?_
    refine go_iload_n 24 dX9_width_23 rfl rfl ?_
    refine go_if_eq 27 36 dX9_width_24 rfl (by decide) (fun hc2 => ?_) (fun hc2 => ?_)
    · refine go_aload_n 37 dX9_width_36 rfl rfl ?_
      refine go_iload_n 38 dX9_width_37 rfl rfl ?_
      refine g_callV 41 [.int _] [] dX9_width_38 rfl (ct_X9_widthOf _ _ hr) rfl sV_X9_width_240 rfl ly_115 rfl rfl (Nat.le_of_ble_eq_true rfl) (Nat.le_of_ble_eq_true rfl) (Nat.le_of_ble_eq_true rfl) ?_
      refine go_ireturn dX9_width_41 rfl (by first | rfl | exact bi_nar) (Nat.le_of_ble_eq_true rfl) (Nat.le_of_ble_eq_true rfl) ?_
      refine ⟨?_, rfl⟩
      first | rw [if_pos hc2] | rw [if_neg hc2]
    · refine go_aload_n 28 dX9_width_27 rfl rfl ?_
      refine g_getR 31 dX9_width_28 rfl fF_RX9_44 ly_115 rfl ?_
      refine go_iload_n 32 dX9_width_31 rfl rfl ?_
      refine g_iald 33 dX9_width_32 rfl ly_127 hr ?_
      refine go_goto 41 dX9_width_33 (by decide) ?_
      refine go_ireturn dX9_width_41 rfl (by first | rfl | exact bi_nar) (Nat.le_of_ble_eq_true rfl) (Nat.le_of_ble_eq_true rfl) ?_
      refine ⟨?_, rfl⟩
      first | rw [if_pos hc2] | rw [if_neg hc2]
  · refine go_aload_n 9 dX9_width_8 rfl rfl ?_
    refine go_iconst 10 (1) dX9_width_9 rfl (by decide) ?_
    refine g_callV 13 [.int _] [] dX9_width_10 rfl (ct_X9_fails _ _) rfl sV_X9_width_132 rfl ly_115 rfl rfl (Nat.le_of_ble_eq_true rfl) (Nat.le_of_ble_eq_true rfl) (Nat.le_of_ble_eq_true rfl) ?_
    refine go_ireturn dX9_width_13 rfl (by first | rfl | exact bi_nar) (Nat.le_of_ble_eq_true rfl) (Nat.le_of_ble_eq_true rfl) ?_
    have hs : ¬ sgn (nI n) r := by
      simp only [bi0, bi1, Classical.not_not] at *
      rw [hn] at hc1
      exact hc1
    rw [if_neg hs, if_neg hs]
    exact ⟨rfl, rfl⟩

set_option maxRecDepth 100000 in
set_option maxHeartbeats 4000000 in
theorem ct_X9_isSigned (S : gS) (r : Int32) (n : Nat) (hn : rI S 115 10 = nI n) (h24 : n ≤ 24) (T : gS) (hR : gF mX9_refreshes [.ref 115] (wI S 115 0 0) none T) : gF mX9_isSigned [.ref 115, .int r] S (some (.int (if sgn (nI n) r then (bi (nsP T r.toNatClampNeg)) else 0))) (if sgn (nI n) r then T else wI S 115 0 1) := by
  refine go_enter [.ref 115, .int r] [(0, .ref 115), (1, .int r)] (by decide +kernel) rfl rfl (Nat.le_of_ble_eq_true rfl) rfl ?_
  refine go_aload_n 1 dX9_isSigned_0 rfl rfl ?_
  refine go_iload_n 2 dX9_isSigned_1 rfl rfl ?_
  refine g_callV 5 [.int _] [] dX9_isSigned_2 rfl (ct_X9_isSignal _ _) rfl sV_X9_isSigned_123 rfl ly_115 rfl rfl (Nat.le_of_ble_eq_true rfl) (Nat.le_of_ble_eq_true rfl) (Nat.le_of_ble_eq_true rfl) ?_
  refine go_if_ne 8 14 dX9_isSigned_5 rfl (by decide) (fun hc1 => ?_) (fun hc1 => ?_)
  · have hs : sgn (nI n) r := by
      simp only [bi0, bi1, Classical.not_not] at *
      rw [hn] at hc1
      exact hc1
    have hr : vp_in r 24 := vin_of hs h24
    rw [if_pos hs, if_pos hs]
    refine go_aload_n 15 dX9_isSigned_14 rfl rfl ?_
    refine go_iconst 16 (0) dX9_isSigned_15 rfl (by decide) ?_
    refine g_putI 19 dX9_isSigned_16 rfl fF_RX9_98 ly_115 rfl (fun q hq => by cases hq; rfl) rfl rfl ?_
    refine go_aload_n 20 dX9_isSigned_19 rfl rfl ?_
    refine g_callV0 23 [] [] dX9_isSigned_20 rfl hR rfl sV_X9_isSigned_243 rfl ly_115 rfl rfl (Nat.le_of_ble_eq_true rfl) (Nat.le_of_ble_eq_true rfl) (Nat.le_of_ble_eq_true rfl) ?_
    refine go_aload_n 24 dX9_isSigned_23 rfl rfl ?_
    refine go_iload_n 25 dX9_isSigned_24 rfl rfl ?_
    refine g_callV 28 [.int _] [] dX9_isSigned_25 rfl (ct_X9_isNarrowedSigned _ _ hr) rfl sV_X9_isSigned_246 rfl ly_115 rfl rfl (Nat.le_of_ble_eq_true rfl) (Nat.le_of_ble_eq_true rfl) (Nat.le_of_ble_eq_true rfl) ?_
    refine go_ireturn dX9_isSigned_28 rfl (by first | rfl | exact bi_nar) (Nat.le_of_ble_eq_true rfl) (Nat.le_of_ble_eq_true rfl) ?_
    exact ⟨rfl, rfl⟩
  · refine go_aload_n 9 dX9_isSigned_8 rfl rfl ?_
    refine go_iconst 10 (1) dX9_isSigned_9 rfl (by decide) ?_
    refine g_callV 13 [.int _] [] dX9_isSigned_10 rfl (ct_X9_refuses _ _) rfl sV_X9_isSigned_147 rfl ly_115 rfl rfl (Nat.le_of_ble_eq_true rfl) (Nat.le_of_ble_eq_true rfl) (Nat.le_of_ble_eq_true rfl) ?_
    refine go_ireturn dX9_isSigned_13 rfl (by first | rfl | exact bi_nar) (Nat.le_of_ble_eq_true rfl) (Nat.le_of_ble_eq_true rfl) ?_
    have hs : ¬ sgn (nI n) r := by
      simp only [bi0, bi1, Classical.not_not] at *
      rw [hn] at hc1
      exact hc1
    rw [if_neg hs, if_neg hs]
    exact ⟨rfl, rfl⟩

set_option maxRecDepth 100000 in
set_option maxHeartbeats 4000000 in
theorem ct_X9_cost (S : gS) (r : Int32) (n : Nat) (hn : rI S 115 10 = nI n) (h24 : n ≤ 24) (T : gS) (hR : gF mX9_refreshes [.ref 115] (wI S 115 0 0) none T) (hc : sgn (nI n) r → rI T 116 r.toNatClampNeg = 11 → vp_in (rI T 117 r.toNatClampNeg) 24 ∧ vp_in (rI T 118 r.toNatClampNeg) 24) : gF mX9_cost [.ref 115, .int r] S (some (.int (if sgn (nI n) r then (coF T r.toNatClampNeg) else 0))) (if sgn (nI n) r then T else wI S 115 0 1) := by
  refine go_enter [.ref 115, .int r] [(0, .ref 115), (1, .int r)] (by decide +kernel) rfl rfl (Nat.le_of_ble_eq_true rfl) rfl ?_
  refine go_aload_n 1 dX9_cost_0 rfl rfl ?_
  refine go_iload_n 2 dX9_cost_1 rfl rfl ?_
  refine g_callV 5 [.int _] [] dX9_cost_2 rfl (ct_X9_isSignal _ _) rfl sV_X9_cost_123 rfl ly_115 rfl rfl (Nat.le_of_ble_eq_true rfl) (Nat.le_of_ble_eq_true rfl) (Nat.le_of_ble_eq_true rfl) ?_
  refine go_if_ne 8 14 dX9_cost_5 rfl (by decide) (fun hc1 => ?_) (fun hc1 => ?_)
  · have hs : sgn (nI n) r := by
      simp only [bi0, bi1, Classical.not_not] at *
      rw [hn] at hc1
      exact hc1
    have hr : vp_in r 24 := vin_of hs h24
    rw [if_pos hs, if_pos hs]
    refine go_aload_n 15 dX9_cost_14 rfl rfl ?_
    refine go_iconst 16 (0) dX9_cost_15 rfl (by decide) ?_
    refine g_putI 19 dX9_cost_16 rfl fF_RX9_98 ly_115 rfl (fun q hq => by cases hq; rfl) rfl rfl ?_
    refine go_aload_n 20 dX9_cost_19 rfl rfl ?_
    refine g_callV0 23 [] [] dX9_cost_20 rfl hR rfl sV_X9_cost_243 rfl ly_115 rfl rfl (Nat.le_of_ble_eq_true rfl) (Nat.le_of_ble_eq_true rfl) (Nat.le_of_ble_eq_true rfl) ?_
    refine go_aload_n 24 dX9_cost_23 rfl rfl ?_
    refine go_iload_n 25 dX9_cost_24 rfl rfl ?_
    refine g_callV 28 [.int _] [] dX9_cost_25 rfl (ct_X9_costOf _ _ hr (hc hs)) rfl sV_X9_cost_253 rfl ly_115 rfl rfl (Nat.le_of_ble_eq_true rfl) (Nat.le_of_ble_eq_true rfl) (Nat.le_of_ble_eq_true rfl) ?_
    refine go_ireturn dX9_cost_28 rfl (by first | rfl | exact bi_nar) (Nat.le_of_ble_eq_true rfl) (Nat.le_of_ble_eq_true rfl) ?_
    exact ⟨rfl, rfl⟩
  · refine go_aload_n 9 dX9_cost_8 rfl rfl ?_
    refine go_iconst 10 (1) dX9_cost_9 rfl (by decide) ?_
    refine g_callV 13 [.int _] [] dX9_cost_10 rfl (ct_X9_fails _ _) rfl sV_X9_cost_132 rfl ly_115 rfl rfl (Nat.le_of_ble_eq_true rfl) (Nat.le_of_ble_eq_true rfl) (Nat.le_of_ble_eq_true rfl) ?_
    refine go_ireturn dX9_cost_13 rfl (by first | rfl | exact bi_nar) (Nat.le_of_ble_eq_true rfl) (Nat.le_of_ble_eq_true rfl) ?_
    have hs : ¬ sgn (nI n) r := by
      simp only [bi0, bi1, Classical.not_not] at *
      rw [hn] at hc1
      exact hc1
    rw [if_neg hs, if_neg hs]
    exact ⟨rfl, rfl⟩

abbrev b06 (p : Int32) : Prop := (0 : Int64) ≤ p.toInt64 ∧ p.toInt64 ≤ 6
theorem b06_6 {w : Int32} (h : b06 w) {tg : List (Int32 × Nat)} (htg : tg.map (fun q => q.1) = [0, 1, 2, 3, 4, 5]) (hd : ∀ q ∈ tg, w ≠ q.1) : w = 6 := by
  have hd2 : ∀ x ∈ tg.map (fun q => q.1), w ≠ x := by
    intro x hx
    obtain ⟨q, hq, rfl⟩ := List.mem_map.mp hx
    exact hd q hq
  rw [htg] at hd2
  simp only [List.mem_cons, List.not_mem_nil, or_false, forall_eq_or_imp, forall_eq] at hd2
  obtain ⟨h1, h2⟩ := h
  rw [show (0 : Int64) = (0 : Int32).toInt64 from rfl, w_le] at h1
  rw [show (6 : Int64) = (6 : Int32).toInt64 from rfl, w_le] at h2
  simp only [ne_eq, ieq, ile] at *
  simp at *
  omega
set_option maxRecDepth 100000 in
set_option maxHeartbeats 4000000 in
theorem ct_X9_signal (S : gS) (r w : Int32) (n : Nat) (hn : rI S 115 10 = nI n) (h24 : n ≤ 24) : gF mX9_signal [.ref 115, .int r, .int w] S (some (.int (if sgn (nI n) r ∧ b06 w then rI S (116 + w.toNatClampNeg) r.toNatClampNeg else 0))) (if ¬ sgn (nI n) r then wI S 115 0 1 else if ¬ b06 w then wI S 115 0 2 else wI S 115 0 0) := by
  refine go_enter [.ref 115, .int r, .int w] [(0, .ref 115), (1, .int r), (2, .int w)] (by decide +kernel) rfl rfl (Nat.le_of_ble_eq_true rfl) rfl ?_
  refine go_aload_n 1 dX9_signal_0 rfl rfl ?_
  refine go_iload_n 2 dX9_signal_1 rfl rfl ?_
  refine g_callV 5 [.int _] [] dX9_signal_2 rfl (ct_X9_isSignal _ _) rfl sV_X9_signal_123 rfl ly_115 rfl rfl (Nat.le_of_ble_eq_true rfl) (Nat.le_of_ble_eq_true rfl) (Nat.le_of_ble_eq_true rfl) ?_
  refine go_if_ne 8 14 dX9_signal_5 rfl (by decide) (fun hc1 => ?_) (fun hc1 => ?_)
  · refine go_iload_n 15 dX9_signal_14 rfl rfl ?_
    refine go_i2l 16 dX9_signal_15 rfl ?_
    refine go_lconst 17 (0) dX9_signal_16 rfl (by decide) ?_
    refine go_ldc2 20 (6) dX9_signal_17 rfl wK_RX9_152 ?_
    refine g_callS 23 [.long _, .long _, .long _] [] dX9_signal_20 rfl (ct_X9_isBetween _ _ _ _) rfl sV_X9_signal_109 rfl (Nat.le_of_ble_eq_true rfl) (Nat.le_of_ble_eq_true rfl) (Nat.le_of_ble_eq_true rfl) ?_
    refine go_if_ne 26 32 dX9_signal_23 rfl (by decide) (fun hc2 => ?_) (fun hc2 => ?_)
    · have hs : sgn (nI n) r := by
        have h8 := bi1.mp hc1
        rw [hn] at h8
        exact h8
      have hb : b06 w := bi1.mp hc2
      have hr : vp_in r 24 := vin_of hs h24
      rw [if_pos (⟨hs, hb⟩ : sgn (nI n) r ∧ b06 w), if_neg (Classical.not_not.mpr hs), if_neg (Classical.not_not.mpr hb)]
      clear hc1 hc2
      refine go_aload_n 33 dX9_signal_32 rfl rfl ?_
      refine go_iconst 34 (0) dX9_signal_33 rfl (by decide) ?_
      refine g_putI 37 dX9_signal_34 rfl fF_RX9_98 ly_115 rfl (fun q hq => by cases hq; rfl) rfl rfl ?_
      refine go_iload_n 38 dX9_signal_37 rfl rfl ?_
      refine go_tableS [(0, 76), (1, 83), (2, 90), (3, 97), (4, 104), (5, 111)] 118 dX9_signal_38 rfl rfl (by decide) (by decide) rfl (by decide) (List.forall_mem_cons.mpr ⟨fun hc3 => ?_, List.forall_mem_cons.mpr ⟨fun hc3 => ?_, List.forall_mem_cons.mpr ⟨fun hc3 => ?_, List.forall_mem_cons.mpr ⟨fun hc3 => ?_, List.forall_mem_cons.mpr ⟨fun hc3 => ?_, List.forall_mem_cons.mpr ⟨fun hc3 => ?_, fun _ h => absurd h List.not_mem_nil⟩⟩⟩⟩⟩⟩) (fun hc3 => ?_)
      · refine go_aload_n 77 dX9_signal_76 rfl rfl ?_
        refine g_getR 80 dX9_signal_77 rfl fF_RX9_7 ly_115 rfl ?_
        refine go_iload_n 81 dX9_signal_80 rfl rfl ?_
        refine g_iald 82 dX9_signal_81 rfl ly_116 hr ?_
        refine go_ireturn dX9_signal_82 rfl (by first | rfl | exact bi_nar) (Nat.le_of_ble_eq_true rfl) (Nat.le_of_ble_eq_true rfl) ?_
        rw [hc3]
        exact ⟨rfl, rfl⟩
      · refine go_aload_n 84 dX9_signal_83 rfl rfl ?_
        refine g_getR 87 dX9_signal_84 rfl fF_RX9_13 ly_115 rfl ?_
        refine go_iload_n 88 dX9_signal_87 rfl rfl ?_
        refine g_iald 89 dX9_signal_88 rfl ly_117 hr ?_
        refine go_ireturn dX9_signal_89 rfl (by first | rfl | exact bi_nar) (Nat.le_of_ble_eq_true rfl) (Nat.le_of_ble_eq_true rfl) ?_
        rw [hc3]
        exact ⟨rfl, rfl⟩
      · refine go_aload_n 91 dX9_signal_90 rfl rfl ?_
        refine g_getR 94 dX9_signal_91 rfl fF_RX9_16 ly_115 rfl ?_
        refine go_iload_n 95 dX9_signal_94 rfl rfl ?_
        refine g_iald 96 dX9_signal_95 rfl ly_118 hr ?_
        refine go_ireturn dX9_signal_96 rfl (by first | rfl | exact bi_nar) (Nat.le_of_ble_eq_true rfl) (Nat.le_of_ble_eq_true rfl) ?_
        rw [hc3]
        exact ⟨rfl, rfl⟩
      · refine go_aload_n 98 dX9_signal_97 rfl rfl ?_
        refine g_getR 101 dX9_signal_98 rfl fF_RX9_19 ly_115 rfl ?_
        refine go_iload_n 102 dX9_signal_101 rfl rfl ?_
        refine g_iald 103 dX9_signal_102 rfl ly_119 hr ?_
        refine go_ireturn dX9_signal_103 rfl (by first | rfl | exact bi_nar) (Nat.le_of_ble_eq_true rfl) (Nat.le_of_ble_eq_true rfl) ?_
        rw [hc3]
        exact ⟨rfl, rfl⟩
      · refine go_aload_n 105 dX9_signal_104 rfl rfl ?_
        refine g_getR 108 dX9_signal_105 rfl fF_RX9_22 ly_115 rfl ?_
        refine go_iload_n 109 dX9_signal_108 rfl rfl ?_
        refine g_iald 110 dX9_signal_109 rfl ly_120 hr ?_
        refine go_ireturn dX9_signal_110 rfl (by first | rfl | exact bi_nar) (Nat.le_of_ble_eq_true rfl) (Nat.le_of_ble_eq_true rfl) ?_
        rw [hc3]
        exact ⟨rfl, rfl⟩
      · refine go_aload_n 112 dX9_signal_111 rfl rfl ?_
        refine g_getR 115 dX9_signal_112 rfl fF_RX9_25 ly_115 rfl ?_
        refine go_iload_n 116 dX9_signal_115 rfl rfl ?_
        refine g_iald 117 dX9_signal_116 rfl ly_121 hr ?_
        refine go_ireturn dX9_signal_117 rfl (by first | rfl | exact bi_nar) (Nat.le_of_ble_eq_true rfl) (Nat.le_of_ble_eq_true rfl) ?_
        rw [hc3]
        exact ⟨rfl, rfl⟩
      · have hc3 : w = 6 := b06_6 hb rfl hc3
        refine go_aload_n 119 dX9_signal_118 rfl rfl ?_
        refine g_getR 122 dX9_signal_119 rfl fF_RX9_28 ly_115 rfl ?_
        refine go_iload_n 123 dX9_signal_122 rfl rfl ?_
        refine g_iald 124 dX9_signal_123 rfl ly_122 hr ?_
        refine go_ireturn dX9_signal_124 rfl (by first | rfl | exact bi_nar) (Nat.le_of_ble_eq_true rfl) (Nat.le_of_ble_eq_true rfl) ?_
        rw [hc3]
        exact ⟨rfl, rfl⟩
    · refine go_aload_n 27 dX9_signal_26 rfl rfl ?_
      refine go_iconst 28 (2) dX9_signal_27 rfl (by decide) ?_
      refine g_callV 31 [.int _] [] dX9_signal_28 rfl (ct_X9_fails _ _) rfl sV_X9_signal_132 rfl ly_115 rfl rfl (Nat.le_of_ble_eq_true rfl) (Nat.le_of_ble_eq_true rfl) (Nat.le_of_ble_eq_true rfl) ?_
      refine go_ireturn dX9_signal_31 rfl (by first | rfl | exact bi_nar) (Nat.le_of_ble_eq_true rfl) (Nat.le_of_ble_eq_true rfl) ?_
      have hs : sgn (nI n) r := by
        have h8 := bi1.mp hc1
        rw [hn] at h8
        exact h8
      have hb : ¬ b06 w := bi0.mp hc2
      rw [if_neg (Classical.not_not.mpr hs), if_pos hb, if_neg (fun q => hb q.2)]
      exact ⟨rfl, rfl⟩
  · refine go_aload_n 9 dX9_signal_8 rfl rfl ?_
    refine go_iconst 10 (1) dX9_signal_9 rfl (by decide) ?_
    refine g_callV 13 [.int _] [] dX9_signal_10 rfl (ct_X9_fails _ _) rfl sV_X9_signal_132 rfl ly_115 rfl rfl (Nat.le_of_ble_eq_true rfl) (Nat.le_of_ble_eq_true rfl) (Nat.le_of_ble_eq_true rfl) ?_
    refine go_ireturn dX9_signal_13 rfl (by first | rfl | exact bi_nar) (Nat.le_of_ble_eq_true rfl) (Nat.le_of_ble_eq_true rfl) ?_
    have hs : ¬ sgn (nI n) r := by
      have h8 := bi0.mp hc1
      rw [hn] at h8
      exact h8
    rw [if_pos hs, if_neg (fun q => hs q.1)]
    exact ⟨rfl, rfl⟩

