-- needs 50.units
set_option maxRecDepth 100000 in
set_option maxHeartbeats 4000000 in
theorem ct_X9_widthOf (S : gS) (s : Int32) (hs : vp_in s 24) : gF mX9_widthOf [.ref 115, .int s] S (some (.int (woF S s.toNatClampNeg))) S := by
  refine go_enter [.ref 115, .int s] [(0, .ref 115), (1, .int s)] (by decide +kernel) rfl rfl (Nat.le_of_ble_eq_true rfl) rfl ?_
  refine go_aload_n 1 dX9_widthOf_0 rfl rfl ?_
  refine g_getR 4 dX9_widthOf_1 rfl fF_RX9_47 ly_115 rfl ?_
  refine go_iload_n 5 dX9_widthOf_4 rfl rfl ?_
  refine g_iald 6 dX9_widthOf_5 rfl ly_128 hs ?_
  refine go_if_ne 9 13 dX9_widthOf_6 rfl (by decide) (fun hc1 => ?_) (fun hc1 => ?_)
  · refine go_aload_n 14 dX9_widthOf_13 rfl rfl ?_
    refine g_getR 17 dX9_widthOf_14 rfl fF_RX9_47 ly_115 rfl ?_
    refine go_iload_n 18 dX9_widthOf_17 rfl rfl ?_
    refine g_iald 19 dX9_widthOf_18 rfl ly_128 hs ?_
    refine g_callS 22 [.int _] [] dX9_widthOf_19 rfl (ct_X9_highest _ _) rfl sV_X9_widthOf_220 rfl (Nat.le_of_ble_eq_true rfl) (Nat.le_of_ble_eq_true rfl) (Nat.le_of_ble_eq_true rfl) ?_
    refine go_iconst 23 (1) dX9_widthOf_22 rfl (by decide) ?_
    refine go_iadd 24 dX9_widthOf_23 rfl ?_
    refine go_ireturn dX9_widthOf_24 rfl (by first | rfl | exact bi_nar) (Nat.le_of_ble_eq_true rfl) (Nat.le_of_ble_eq_true rfl) ?_
    refine ⟨?_, rfl⟩
    unfold woF
    (try simp only [bi0, bi1, Classical.not_not] at *)
    simp_all [bi, -Int32.not_le, -Int32.not_lt, -Int64.not_le, -Int64.not_lt]
  · refine go_iconst 10 (0) dX9_widthOf_9 rfl (by decide) ?_
    refine go_goto 24 dX9_widthOf_10 (by decide) ?_
    refine go_ireturn dX9_widthOf_24 rfl (by first | rfl | exact bi_nar) (Nat.le_of_ble_eq_true rfl) (Nat.le_of_ble_eq_true rfl) ?_
    refine ⟨?_, rfl⟩
    unfold woF
    (try simp only [bi0, bi1, Classical.not_not] at *)
    simp_all [bi, -Int32.not_le, -Int32.not_lt, -Int64.not_le, -Int64.not_lt]

set_option maxRecDepth 100000 in
set_option maxHeartbeats 4000000 in
theorem ct_X9_isNarrowedSigned (S : gS) (s : Int32) (hs : vp_in s 24) : gF mX9_isNarrowedSigned [.ref 115, .int s] S (some (.int (bi (nsP S s.toNatClampNeg)))) S := by
  refine go_enter [.ref 115, .int s] [(0, .ref 115), (1, .int s)] (by decide +kernel) rfl rfl (Nat.le_of_ble_eq_true rfl) rfl ?_
  refine go_aload_n 1 dX9_isNarrowedSigned_0 rfl rfl ?_
  refine go_iload_n 2 dX9_isNarrowedSigned_1 rfl rfl ?_
  refine g_callV 5 [.int _] [] dX9_isNarrowedSigned_2 rfl (ct_X9_isRangeSigned _ _ hs) rfl sV_X9_isNarrowedSigned_214 rfl ly_115 rfl rfl (Nat.le_of_ble_eq_true rfl) (Nat.le_of_ble_eq_true rfl) (Nat.le_of_ble_eq_true rfl) ?_
  refine go_if_eq 8 26 dX9_isNarrowedSigned_5 rfl (by decide) (fun hc1 => ?_) (fun hc1 => ?_)
  · refine go_iconst 27 (0) dX9_isNarrowedSigned_26 rfl (by decide) ?_
    refine go_ireturn dX9_isNarrowedSigned_27 rfl (by first | rfl | exact bi_nar) (Nat.le_of_ble_eq_true rfl) (Nat.le_of_ble_eq_true rfl) ?_
    refine ⟨?_, rfl⟩
    (try simp only [bi0, bi1, Classical.not_not] at *)
    simp_all [bi, -Int32.not_le, -Int32.not_lt, -Int64.not_le, -Int64.not_lt]
  · refine go_aload_n 9 dX9_isNarrowedSigned_8 rfl rfl ?_
    refine go_iload_n 10 dX9_isNarrowedSigned_9 rfl rfl ?_
    refine g_callV 13 [.int _] [] dX9_isNarrowedSigned_10 rfl (ct_X9_widthOf _ _ hs) rfl sV_X9_isNarrowedSigned_240 rfl ly_115 rfl rfl (Nat.le_of_ble_eq_true rfl) (Nat.le_of_ble_eq_true rfl) (Nat.le_of_ble_eq_true rfl) ?_
    refine go_aload_n 14 dX9_isNarrowedSigned_13 rfl rfl ?_
    refine g_getR 17 dX9_isNarrowedSigned_14 rfl fF_RX9_44 ly_115 rfl ?_
    refine go_iload_n 18 dX9_isNarrowedSigned_17 rfl rfl ?_
    refine g_iald 19 dX9_isNarrowedSigned_18 rfl ly_127 hs ?_
    refine go_icmp_ne 22 26 dX9_isNarrowedSigned_19 rfl (by decide) (fun hc2 => ?_) (fun hc2 => ?_)
    · refine go_iconst 27 (0) dX9_isNarrowedSigned_26 rfl (by decide) ?_
      refine go_ireturn dX9_isNarrowedSigned_27 rfl (by first | rfl | exact bi_nar) (Nat.le_of_ble_eq_true rfl) (Nat.le_of_ble_eq_true rfl) ?_
      refine ⟨?_, rfl⟩
      (try simp only [bi0, bi1, Classical.not_not] at *)
      simp_all [bi, -Int32.not_le, -Int32.not_lt, -Int64.not_le, -Int64.not_lt]
    · refine go_iconst 23 (1) dX9_isNarrowedSigned_22 rfl (by decide) ?_
      refine go_goto 27 dX9_isNarrowedSigned_23 (by decide) ?_
      refine go_ireturn dX9_isNarrowedSigned_27 rfl (by first | rfl | exact bi_nar) (Nat.le_of_ble_eq_true rfl) (Nat.le_of_ble_eq_true rfl) ?_
      refine ⟨?_, rfl⟩
      (try simp only [bi0, bi1, Classical.not_not] at *)
      simp_all [bi, -Int32.not_le, -Int32.not_lt, -Int64.not_le, -Int64.not_lt]

set_option maxRecDepth 100000 in
set_option maxHeartbeats 4000000 in
theorem ct_X9_costBy (S : gS) (k w : Int32) : gF mX9_costBy [.int k, .int w] S (some (.int (cbF k w))) S := by
  refine go_enter [.int k, .int w] [(0, .int k), (1, .int w)] (by decide +kernel) rfl rfl (Nat.le_of_ble_eq_true rfl) rfl ?_
  refine go_iload_n 1 dX9_costBy_0 rfl rfl ?_
  refine go_iconst 2 (2) dX9_costBy_1 rfl (by decide) ?_
  refine go_icmp_ne 5 9 dX9_costBy_2 rfl (by decide) (fun hc1 => ?_) (fun hc1 => ?_)
  · refine go_iload_n 10 dX9_costBy_9 rfl rfl ?_
    refine go_iconst 11 (5) dX9_costBy_10 rfl (by decide) ?_
    refine go_icmp_ne 14 18 dX9_costBy_11 rfl (by decide) (fun hc2 => ?_) (fun hc2 => ?_)
    · refine go_iload_n 19 dX9_costBy_18 rfl rfl ?_
      refine go_bipush 21 (12) dX9_costBy_19 rfl (by decide) ?_
      refine go_icmp_ne 24 28 dX9_costBy_21 rfl (by decide) (fun hc3 => ?_) (fun hc3 => ?_)
      · refine go_iload_n 29 dX9_costBy_28 rfl rfl ?_
        refine go_iconst 30 (3) dX9_costBy_29 rfl (by decide) ?_
        refine go_icmp_lt 33 43 dX9_costBy_30 rfl (by decide) (fun hc4 => ?_) (fun hc4 => ?_)
        · refine go_iconst 44 (0) dX9_costBy_43 rfl (by decide) ?_
          refine go_ireturn dX9_costBy_44 rfl (by first | rfl | exact bi_nar) (Nat.le_of_ble_eq_true rfl) (Nat.le_of_ble_eq_true rfl) ?_
          refine ⟨?_, rfl⟩
          unfold cbF
          (try simp only [bi0, bi1, Classical.not_not] at *)
          simp_all [bi, -Int32.not_le, -Int32.not_lt, -Int64.not_le, -Int64.not_lt]
        · refine go_iload_n 34 dX9_costBy_33 rfl rfl ?_
          refine go_bipush 36 (8) dX9_costBy_34 rfl (by decide) ?_
          refine go_icmp_gt 39 43 dX9_costBy_36 rfl (by decide) (fun hc5 => ?_) (fun hc5 => ?_)
          · refine go_iconst 44 (0) dX9_costBy_43 rfl (by decide) ?_
            refine go_ireturn dX9_costBy_44 rfl (by first | rfl | exact bi_nar) (Nat.le_of_ble_eq_true rfl) (Nat.le_of_ble_eq_true rfl) ?_
            refine ⟨?_, rfl⟩
            unfold cbF
            (try simp only [bi0, bi1, Classical.not_not] at *)
            simp_all [bi, -Int32.not_le, -Int32.not_lt, -Int64.not_le, -Int64.not_lt]
          · refine go_iload_n 40 dX9_costBy_39 rfl rfl ?_
            refine go_goto 44 dX9_costBy_40 (by decide) ?_
            refine go_ireturn dX9_costBy_44 rfl (by first | rfl | exact bi_nar) (Nat.le_of_ble_eq_true rfl) (Nat.le_of_ble_eq_true rfl) ?_
            refine ⟨?_, rfl⟩
            unfold cbF
            (try simp only [bi0, bi1, Classical.not_not] at *)
            simp_all [bi, -Int32.not_le, -Int32.not_lt, -Int64.not_le, -Int64.not_lt]
      · refine go_iconst 25 (2) dX9_costBy_24 rfl (by decide) ?_
        refine go_iload_n 26 dX9_costBy_25 rfl rfl ?_
        refine go_imul 27 dX9_costBy_26 rfl ?_
        refine go_ireturn dX9_costBy_27 rfl (by first | rfl | exact bi_nar) (Nat.le_of_ble_eq_true rfl) (Nat.le_of_ble_eq_true rfl) ?_
        refine ⟨?_, rfl⟩
        unfold cbF
        (try simp only [bi0, bi1, Classical.not_not] at *)
        simp_all [bi, -Int32.not_le, -Int32.not_lt, -Int64.not_le, -Int64.not_lt]
    · refine go_iload_n 15 dX9_costBy_14 rfl rfl ?_
      refine go_iload_n 16 dX9_costBy_15 rfl rfl ?_
      refine go_imul 17 dX9_costBy_16 rfl ?_
      refine go_ireturn dX9_costBy_17 rfl (by first | rfl | exact bi_nar) (Nat.le_of_ble_eq_true rfl) (Nat.le_of_ble_eq_true rfl) ?_
      refine ⟨?_, rfl⟩
      unfold cbF
      (try simp only [bi0, bi1, Classical.not_not] at *)
      simp_all [bi, -Int32.not_le, -Int32.not_lt, -Int64.not_le, -Int64.not_lt]
  · refine go_iconst 6 (4) dX9_costBy_5 rfl (by decide) ?_
    refine go_iload_n 7 dX9_costBy_6 rfl rfl ?_
    refine go_imul 8 dX9_costBy_7 rfl ?_
    refine go_ireturn dX9_costBy_8 rfl (by first | rfl | exact bi_nar) (Nat.le_of_ble_eq_true rfl) (Nat.le_of_ble_eq_true rfl) ?_
    refine ⟨?_, rfl⟩
    unfold cbF
    (try simp only [bi0, bi1, Classical.not_not] at *)
    simp_all [bi, -Int32.not_le, -Int32.not_lt, -Int64.not_le, -Int64.not_lt]

set_option maxRecDepth 100000 in
set_option maxHeartbeats 4000000 in
theorem ct_X9_costOf (S : gS) (s : Int32) (hs : vp_in s 24) (ha : rI S 116 s.toNatClampNeg = 11 → vp_in (rI S 117 s.toNatClampNeg) 24 ∧ vp_in (rI S 118 s.toNatClampNeg) 24) : gF mX9_costOf [.ref 115, .int s] S (some (.int (coF S s.toNatClampNeg))) S := by
  refine go_enter [.ref 115, .int s] [(0, .ref 115), (1, .int s)] (by decide +kernel) rfl rfl (Nat.le_of_ble_eq_true rfl) rfl ?_
  refine go_aload_n 1 dX9_costOf_0 rfl rfl ?_
  refine g_getR 4 dX9_costOf_1 rfl fF_RX9_7 ly_115 rfl ?_
  refine go_iload_n 5 dX9_costOf_4 rfl rfl ?_
  refine g_iald 6 dX9_costOf_5 rfl ly_116 hs ?_
  refine go_bipush 8 (11) dX9_costOf_6 rfl (by decide) ?_
  refine go_icmp_eq 11 26 dX9_costOf_8 rfl (by decide) (fun hc1 => ?_) (fun hc1 => ?_)
  · refine go_aload_n 27 dX9_costOf_26 rfl rfl ?_
    refine go_aload_n 28 dX9_costOf_27 rfl rfl ?_
    refine g_getR 31 dX9_costOf_28 rfl fF_RX9_13 ly_115 rfl ?_
    refine go_iload_n 32 dX9_costOf_31 rfl rfl ?_
    refine g_iald 33 dX9_costOf_32 rfl ly_117 hs ?_
    refine g_callV 36 [.int _] [] dX9_costOf_33 rfl (ct_X9_widthOf _ _ (ha hc1).1) rfl sV_X9_costOf_240 rfl ly_115 rfl rfl (Nat.le_of_ble_eq_true rfl) (Nat.le_of_ble_eq_true rfl) (Nat.le_of_ble_eq_true rfl) ?_
    refine go_istore_n 37 [(2, .int _), (0, .ref 115), (1, .int _)] dX9_costOf_36 rfl (Nat.le_of_ble_eq_true rfl) rfl ?_
    refine go_aload_n 38 dX9_costOf_37 rfl rfl ?_
    refine go_aload_n 39 dX9_costOf_38 rfl rfl ?_
    refine g_getR 42 dX9_costOf_39 rfl fF_RX9_16 ly_115 rfl ?_
    refine go_iload_n 43 dX9_costOf_42 rfl rfl ?_
    refine g_iald 44 dX9_costOf_43 rfl ly_118 hs ?_
    refine g_callV 47 [.int _] [] dX9_costOf_44 rfl (ct_X9_widthOf _ _ (ha hc1).2) rfl sV_X9_costOf_240 rfl ly_115 rfl rfl (Nat.le_of_ble_eq_true rfl) (Nat.le_of_ble_eq_true rfl) (Nat.le_of_ble_eq_true rfl) ?_
    refine go_istore_n 48 [(3, .int _), (2, .int _), (0, .ref 115), (1, .int _)] dX9_costOf_47 rfl (Nat.le_of_ble_eq_true rfl) rfl ?_
    refine go_aload_n 49 dX9_costOf_48 rfl rfl ?_
    refine go_iload_n 50 dX9_costOf_49 rfl rfl ?_
    refine g_callV 53 [.int _] [] dX9_costOf_50 rfl (ct_X9_widthOf _ _ hs) rfl sV_X9_costOf_240 rfl ly_115 rfl rfl (Nat.le_of_ble_eq_true rfl) (Nat.le_of_ble_eq_true rfl) (Nat.le_of_ble_eq_true rfl) ?_
    refine go_if_ne 56 60 dX9_costOf_53 rfl (by decide) (fun hc2 => ?_) (fun hc2 => ?_)
    · refine go_iload_n 61 dX9_costOf_60 rfl rfl ?_
      refine go_iload_n 62 dX9_costOf_61 rfl rfl ?_
      refine go_icmp_le 65 69 dX9_costOf_62 rfl (by decide) (fun hc3 => ?_) (fun hc3 => ?_)
      · refine go_iload_n 70 dX9_costOf_69 rfl rfl ?_
        refine go_ireturn dX9_costOf_70 rfl (by first | rfl | exact bi_nar) (Nat.le_of_ble_eq_true rfl) (Nat.le_of_ble_eq_true rfl) ?_
        refine ⟨?_, rfl⟩
        unfold coF
        (try simp only [bi0, bi1, Classical.not_not] at *)
        simp_all [bi, -Int32.not_le, -Int32.not_lt, -Int64.not_le, -Int64.not_lt]
      · refine go_iload_n 66 dX9_costOf_65 rfl rfl ?_
        refine go_goto 70 dX9_costOf_66 (by decide) ?_
        refine go_ireturn dX9_costOf_70 rfl (by first | rfl | exact bi_nar) (Nat.le_of_ble_eq_true rfl) (Nat.le_of_ble_eq_true rfl) ?_
        refine ⟨?_, rfl⟩
        unfold coF
        (try simp only [bi0, bi1, Classical.not_not] at *)
        simp_all [bi, -Int32.not_le, -Int32.not_lt, -Int64.not_le, -Int64.not_lt]
    · refine go_iconst 57 (0) dX9_costOf_56 rfl (by decide) ?_
      refine go_goto 70 dX9_costOf_57 (by decide) ?_
      refine go_ireturn dX9_costOf_70 rfl (by first | rfl | exact bi_nar) (Nat.le_of_ble_eq_true rfl) (Nat.le_of_ble_eq_true rfl) ?_
      refine ⟨?_, rfl⟩
      unfold coF
      (try simp only [bi0, bi1, Classical.not_not] at *)
      simp_all [bi, -Int32.not_le, -Int32.not_lt, -Int64.not_le, -Int64.not_lt]
  · refine go_aload_n 12 dX9_costOf_11 rfl rfl ?_
    refine g_getR 15 dX9_costOf_12 rfl fF_RX9_7 ly_115 rfl ?_
    refine go_iload_n 16 dX9_costOf_15 rfl rfl ?_
    refine g_iald 17 dX9_costOf_16 rfl ly_116 hs ?_
    refine go_aload_n 18 dX9_costOf_17 rfl rfl ?_
    refine go_iload_n 19 dX9_costOf_18 rfl rfl ?_
    refine g_callV 22 [.int _] [.int _] dX9_costOf_19 rfl (ct_X9_widthOf _ _ hs) rfl sV_X9_costOf_240 rfl ly_115 rfl rfl (Nat.le_of_ble_eq_true rfl) (Nat.le_of_ble_eq_true rfl) (Nat.le_of_ble_eq_true rfl) ?_
    refine g_callS 25 [.int _, .int _] [] dX9_costOf_22 rfl (ct_X9_costBy _ _ _) rfl sV_X9_costOf_249 rfl (Nat.le_of_ble_eq_true rfl) (Nat.le_of_ble_eq_true rfl) (Nat.le_of_ble_eq_true rfl) ?_
    refine go_ireturn dX9_costOf_25 rfl (by first | rfl | exact bi_nar) (Nat.le_of_ble_eq_true rfl) (Nat.le_of_ble_eq_true rfl) ?_
    refine ⟨?_, rfl⟩
    unfold coF
    (try simp only [bi0, bi1, Classical.not_not] at *)
    simp_all [bi, -Int32.not_le, -Int32.not_lt, -Int64.not_le, -Int64.not_lt]

set_option maxRecDepth 100000 in
set_option maxHeartbeats 4000000 in
theorem ct_X9_unitCost (S : gS) (k w n : Int32) : gF mX9_unitCost [.int k, .int w, .int n] S (some (.int (ucF k w n))) S := by
  refine go_enter [.int k, .int w, .int n] [(0, .int k), (1, .int w), (2, .int n)] (by decide +kernel) rfl rfl (Nat.le_of_ble_eq_true rfl) rfl ?_
  refine go_iload_n 1 dX9_unitCost_0 rfl rfl ?_
  refine go_iload_n 2 dX9_unitCost_1 rfl rfl ?_
  refine g_callS 5 [.int _, .int _] [] dX9_unitCost_2 rfl (ct_X9_costBy _ _ _) rfl sV_X9_unitCost_249 rfl (Nat.le_of_ble_eq_true rfl) (Nat.le_of_ble_eq_true rfl) (Nat.le_of_ble_eq_true rfl) ?_
  refine go_iload_n 6 dX9_unitCost_5 rfl rfl ?_
  refine go_iload_n 7 dX9_unitCost_6 rfl rfl ?_
  refine go_iconst 8 (1) dX9_unitCost_7 rfl (by decide) ?_
  refine go_isub 9 dX9_unitCost_8 rfl ?_
  refine go_imul 10 dX9_unitCost_9 rfl ?_
  refine go_iadd 11 dX9_unitCost_10 rfl ?_
  refine go_ireturn dX9_unitCost_11 rfl (by first | rfl | exact bi_nar) (Nat.le_of_ble_eq_true rfl) (Nat.le_of_ble_eq_true rfl) ?_
  exact ⟨rfl, rfl⟩

set_option maxRecDepth 100000 in
set_option maxHeartbeats 4000000 in
theorem ct_X9_growth (S : gS) (u s : Int32) (hu : vp_in u 24) (hs : vp_in s 24) : gF mX9_growth [.ref 115, .int u, .int s] S (some (.int (grF S u.toNatClampNeg s.toNatClampNeg))) S := by
  refine go_enter [.ref 115, .int u, .int s] [(0, .ref 115), (1, .int u), (2, .int s)] (by decide +kernel) rfl rfl (Nat.le_of_ble_eq_true rfl) rfl ?_
  refine go_aload_n 1 dX9_growth_0 rfl rfl ?_
  refine go_iload_n 2 dX9_growth_1 rfl rfl ?_
  refine g_callV 5 [.int _] [] dX9_growth_2 rfl (ct_X9_widthOf _ _ hs) rfl sV_X9_growth_240 rfl ly_115 rfl rfl (Nat.le_of_ble_eq_true rfl) (Nat.le_of_ble_eq_true rfl) (Nat.le_of_ble_eq_true rfl) ?_
  refine go_aload_n 6 dX9_growth_5 rfl rfl ?_
  refine g_getR 9 dX9_growth_6 rfl fF_RX9_53 ly_115 rfl ?_
  refine go_iload_n 10 dX9_growth_9 rfl rfl ?_
  refine g_iald 11 dX9_growth_10 rfl ly_130 hu ?_
  refine go_icmp_le 14 22 dX9_growth_11 rfl (by decide) (fun hc1 => ?_) (fun hc1 => ?_)
  · refine go_aload_n 23 dX9_growth_22 rfl rfl ?_
    refine g_getR 26 dX9_growth_23 rfl fF_RX9_53 ly_115 rfl ?_
    refine go_iload_n 27 dX9_growth_26 rfl rfl ?_
    refine g_iald 28 dX9_growth_27 rfl ly_130 hu ?_
    refine go_istore_n 29 [(3, .int _), (0, .ref 115), (1, .int _), (2, .int _)] dX9_growth_28 rfl (Nat.le_of_ble_eq_true rfl) rfl ?_
    refine go_aload_n 30 dX9_growth_29 rfl rfl ?_
    refine g_getR 33 dX9_growth_30 rfl fF_RX9_50 ly_115 rfl ?_
    refine go_iload_n 34 dX9_growth_33 rfl rfl ?_
    refine g_iald 35 dX9_growth_34 rfl ly_129 hu ?_
    refine go_iload_n 36 dX9_growth_35 rfl rfl ?_
    refine go_aload_n 37 dX9_growth_36 rfl rfl ?_
    refine g_getR 40 dX9_growth_37 rfl fF_RX9_56 ly_115 rfl ?_
    refine go_iload_n 41 dX9_growth_40 rfl rfl ?_
    refine g_iald 42 dX9_growth_41 rfl ly_131 hu ?_
    refine go_iconst 43 (1) dX9_growth_42 rfl (by decide) ?_
    refine go_iadd 44 dX9_growth_43 rfl ?_
    refine g_callS 47 [.int _, .int _, .int _] [] dX9_growth_44 rfl (ct_X9_unitCost _ _ _ _) rfl sV_X9_growth_256 rfl (Nat.le_of_ble_eq_true rfl) (Nat.le_of_ble_eq_true rfl) (Nat.le_of_ble_eq_true rfl) ?_
    refine go_aload_n 48 dX9_growth_47 rfl rfl ?_
    refine g_getR 51 dX9_growth_48 rfl fF_RX9_50 ly_115 rfl ?_
    refine go_iload_n 52 dX9_growth_51 rfl rfl ?_
    refine g_iald 53 dX9_growth_52 rfl ly_129 hu ?_
    refine go_aload_n 54 dX9_growth_53 rfl rfl ?_
    refine g_getR 57 dX9_growth_54 rfl fF_RX9_53 ly_115 rfl ?_
    refine go_iload_n 58 dX9_growth_57 rfl rfl ?_
    refine g_iald 59 dX9_growth_58 rfl ly_130 hu ?_
    refine go_aload_n 60 dX9_growth_59 rfl rfl ?_
    refine g_getR 63 dX9_growth_60 rfl fF_RX9_56 ly_115 rfl ?_
    refine go_iload_n 64 dX9_growth_63 rfl rfl ?_
    refine g_iald 65 dX9_growth_64 rfl ly_131 hu ?_
    refine g_callS 68 [.int _, .int _, .int _] [.int _] dX9_growth_65 rfl (ct_X9_unitCost _ _ _ _) rfl sV_X9_growth_256 rfl (Nat.le_of_ble_eq_true rfl) (Nat.le_of_ble_eq_true rfl) (Nat.le_of_ble_eq_true rfl) ?_
    refine go_isub 69 dX9_growth_68 rfl ?_
    refine go_ireturn dX9_growth_69 rfl (by first | rfl | exact bi_nar) (Nat.le_of_ble_eq_true rfl) (Nat.le_of_ble_eq_true rfl) ?_
    refine ⟨?_, rfl⟩
    unfold grF gwF
    first | (rw [if_pos hc1]; done) | (rw [if_neg hc1]; done)
  · refine go_aload_n 15 dX9_growth_14 rfl rfl ?_
    refine go_iload_n 16 dX9_growth_15 rfl rfl ?_
    refine g_callV 19 [.int _] [] dX9_growth_16 rfl (ct_X9_widthOf _ _ hs) rfl sV_X9_growth_240 rfl ly_115 rfl rfl (Nat.le_of_ble_eq_true rfl) (Nat.le_of_ble_eq_true rfl) (Nat.le_of_ble_eq_true rfl) ?_
    refine go_goto 28 dX9_growth_19 (by decide) ?_
    refine go_istore_n 29 [(3, .int _), (0, .ref 115), (1, .int _), (2, .int _)] dX9_growth_28 rfl (Nat.le_of_ble_eq_true rfl) rfl ?_
    refine go_aload_n 30 dX9_growth_29 rfl rfl ?_
    refine g_getR 33 dX9_growth_30 rfl fF_RX9_50 ly_115 rfl ?_
    refine go_iload_n 34 dX9_growth_33 rfl rfl ?_
    refine g_iald 35 dX9_growth_34 rfl ly_129 hu ?_
    refine go_iload_n 36 dX9_growth_35 rfl rfl ?_
    refine go_aload_n 37 dX9_growth_36 rfl rfl ?_
    refine g_getR 40 dX9_growth_37 rfl fF_RX9_56 ly_115 rfl ?_
    refine go_iload_n 41 dX9_growth_40 rfl rfl ?_
    refine g_iald 42 dX9_growth_41 rfl ly_131 hu ?_
    refine go_iconst 43 (1) dX9_growth_42 rfl (by decide) ?_
    refine go_iadd 44 dX9_growth_43 rfl ?_
    refine g_callS 47 [.int _, .int _, .int _] [] dX9_growth_44 rfl (ct_X9_unitCost _ _ _ _) rfl sV_X9_growth_256 rfl (Nat.le_of_ble_eq_true rfl) (Nat.le_of_ble_eq_true rfl) (Nat.le_of_ble_eq_true rfl) ?_
    refine go_aload_n 48 dX9_growth_47 rfl rfl ?_
    refine g_getR 51 dX9_growth_48 rfl fF_RX9_50 ly_115 rfl ?_
    refine go_iload_n 52 dX9_growth_51 rfl rfl ?_
    refine g_iald 53 dX9_growth_52 rfl ly_129 hu ?_
    refine go_aload_n 54 dX9_growth_53 rfl rfl ?_
    refine g_getR 57 dX9_growth_54 rfl fF_RX9_53 ly_115 rfl ?_
    refine go_iload_n 58 dX9_growth_57 rfl rfl ?_
    refine g_iald 59 dX9_growth_58 rfl ly_130 hu ?_
    refine go_aload_n 60 dX9_growth_59 rfl rfl ?_
    refine g_getR 63 dX9_growth_60 rfl fF_RX9_56 ly_115 rfl ?_
    refine go_iload_n 64 dX9_growth_63 rfl rfl ?_
    refine g_iald 65 dX9_growth_64 rfl ly_131 hu ?_
    refine g_callS 68 [.int _, .int _, .int _] [.int _] dX9_growth_65 rfl (ct_X9_unitCost _ _ _ _) rfl sV_X9_growth_256 rfl (Nat.le_of_ble_eq_true rfl) (Nat.le_of_ble_eq_true rfl) (Nat.le_of_ble_eq_true rfl) ?_
    refine go_isub 69 dX9_growth_68 rfl ?_
    refine go_ireturn dX9_growth_69 rfl (by first | rfl | exact bi_nar) (Nat.le_of_ble_eq_true rfl) (Nat.le_of_ble_eq_true rfl) ?_
    refine ⟨?_, rfl⟩
    unfold grF gwF
    first | (rw [if_pos hc1]; done) | (rw [if_neg hc1]; done)

set_option maxRecDepth 100000 in
set_option maxHeartbeats 4000000 in
theorem ct_X9_joins (S : gS) (u s : Int32) (hu : vp_in u 24) (hs : vp_in s 24) : gF mX9_joins [.ref 115, .int u, .int s] S none (jnF S u.toNatClampNeg s.toNatClampNeg u) := by
  refine go_enter [.ref 115, .int u, .int s] [(0, .ref 115), (1, .int u), (2, .int s)] (by decide +kernel) rfl rfl (Nat.le_of_ble_eq_true rfl) rfl ?_
  refine go_aload_n 1 dX9_joins_0 rfl rfl ?_
  refine g_getR 4 dX9_joins_1 rfl fF_RX9_53 ly_115 rfl ?_
  refine go_iload_n 5 dX9_joins_4 rfl rfl ?_
  refine go_aload_n 6 dX9_joins_5 rfl rfl ?_
  refine go_iload_n 7 dX9_joins_6 rfl rfl ?_
  refine g_callV 10 [.int _] [.int _, .ref 130] dX9_joins_7 rfl (ct_X9_widthOf _ _ hs) rfl sV_X9_joins_240 rfl ly_115 rfl rfl (Nat.le_of_ble_eq_true rfl) (Nat.le_of_ble_eq_true rfl) (Nat.le_of_ble_eq_true rfl) ?_
  refine go_aload_n 11 dX9_joins_10 rfl rfl ?_
  refine g_getR 14 dX9_joins_11 rfl fF_RX9_53 ly_115 rfl ?_
  refine go_iload_n 15 dX9_joins_14 rfl rfl ?_
  refine g_iald 16 dX9_joins_15 rfl ly_130 hu ?_
  refine go_icmp_le 19 27 dX9_joins_16 rfl (by decide) (fun hc1 => ?_) (fun hc1 => ?_)
  · refine go_aload_n 28 dX9_joins_27 rfl rfl ?_
    refine g_getR 31 dX9_joins_28 rfl fF_RX9_53 ly_115 rfl ?_
    refine go_iload_n 32 dX9_joins_31 rfl rfl ?_
    refine g_iald 33 dX9_joins_32 rfl ly_130 hu ?_
    refine g_iast 34 dX9_joins_33 rfl ly_130 hu ?_
    refine go_aload_n 35 dX9_joins_34 rfl rfl ?_
    refine g_getR 38 dX9_joins_35 rfl fF_RX9_56 ly_115 rfl ?_
    refine go_iload_n 39 dX9_joins_38 rfl rfl ?_
    refine go_dup2 40 dX9_joins_39 rfl rfl rfl ?_
    refine g_iald 41 dX9_joins_40 rfl ly_131 hu ?_
    refine go_iconst 42 (1) dX9_joins_41 rfl (by decide) ?_
    refine go_iadd 43 dX9_joins_42 rfl ?_
    refine g_iast 44 dX9_joins_43 rfl ly_131 hu ?_
    refine go_aload_n 45 dX9_joins_44 rfl rfl ?_
    refine g_getR 48 dX9_joins_45 rfl fF_RX9_62 ly_115 rfl ?_
    refine go_iload_n 49 dX9_joins_48 rfl rfl ?_
    refine go_dup2 50 dX9_joins_49 rfl rfl rfl ?_
    refine g_iald 51 dX9_joins_50 rfl ly_133 hu ?_
    refine go_iconst 52 (1) dX9_joins_51 rfl (by decide) ?_
    refine go_aload_n 53 dX9_joins_52 rfl rfl ?_
    refine g_getR 56 dX9_joins_53 rfl fF_RX9_28 ly_115 rfl ?_
    refine go_iload_n 57 dX9_joins_56 rfl rfl ?_
    refine g_iald 58 dX9_joins_57 rfl ly_122 hs ?_
    refine go_ishl 59 dX9_joins_58 rfl ?_
    refine go_ior 60 dX9_joins_59 rfl ?_
    refine g_iast 61 dX9_joins_60 rfl ly_133 hu ?_
    refine go_aload_n 62 dX9_joins_61 rfl rfl ?_
    refine g_getR 65 dX9_joins_62 rfl fF_RX9_65 ly_115 rfl ?_
    refine go_iload_n 66 dX9_joins_65 rfl rfl ?_
    refine go_iload_n 67 dX9_joins_66 rfl rfl ?_
    refine g_iast 68 dX9_joins_67 rfl ly_134 hs ?_
    refine go_return dX9_joins_68 rfl (Nat.le_of_ble_eq_true rfl) (Nat.le_of_ble_eq_true rfl) ?_
    refine ⟨rfl, congrArg hp ?_⟩
    unfold jnF gwF
    first | (rw [if_pos hc1]; rfl) | (rw [if_neg hc1]; rfl)
  · refine go_aload_n 20 dX9_joins_19 rfl rfl ?_
    refine go_iload_n 21 dX9_joins_20 rfl rfl ?_
    refine g_callV 24 [.int _] [.int _, .ref 130] dX9_joins_21 rfl (ct_X9_widthOf _ _ hs) rfl sV_X9_joins_240 rfl ly_115 rfl rfl (Nat.le_of_ble_eq_true rfl) (Nat.le_of_ble_eq_true rfl) (Nat.le_of_ble_eq_true rfl) ?_
    refine go_goto 33 dX9_joins_24 (by decide) ?_
    refine g_iast 34 dX9_joins_33 rfl ly_130 hu ?_
    refine go_aload_n 35 dX9_joins_34 rfl rfl ?_
    refine g_getR 38 dX9_joins_35 rfl fF_RX9_56 ly_115 rfl ?_
    refine go_iload_n 39 dX9_joins_38 rfl rfl ?_
    refine go_dup2 40 dX9_joins_39 rfl rfl rfl ?_
    refine g_iald 41 dX9_joins_40 rfl ly_131 hu ?_
    refine go_iconst 42 (1) dX9_joins_41 rfl (by decide) ?_
    refine go_iadd 43 dX9_joins_42 rfl ?_
    refine g_iast 44 dX9_joins_43 rfl ly_131 hu ?_
    refine go_aload_n 45 dX9_joins_44 rfl rfl ?_
    refine g_getR 48 dX9_joins_45 rfl fF_RX9_62 ly_115 rfl ?_
    refine go_iload_n 49 dX9_joins_48 rfl rfl ?_
    refine go_dup2 50 dX9_joins_49 rfl rfl rfl ?_
    refine g_iald 51 dX9_joins_50 rfl ly_133 hu ?_
    refine go_iconst 52 (1) dX9_joins_51 rfl (by decide) ?_
    refine go_aload_n 53 dX9_joins_52 rfl rfl ?_
    refine g_getR 56 dX9_joins_53 rfl fF_RX9_28 ly_115 rfl ?_
    refine go_iload_n 57 dX9_joins_56 rfl rfl ?_
    refine g_iald 58 dX9_joins_57 rfl ly_122 hs ?_
    refine go_ishl 59 dX9_joins_58 rfl ?_
    refine go_ior 60 dX9_joins_59 rfl ?_
    refine g_iast 61 dX9_joins_60 rfl ly_133 hu ?_
    refine go_aload_n 62 dX9_joins_61 rfl rfl ?_
    refine g_getR 65 dX9_joins_62 rfl fF_RX9_65 ly_115 rfl ?_
    refine go_iload_n 66 dX9_joins_65 rfl rfl ?_
    refine go_iload_n 67 dX9_joins_66 rfl rfl ?_
    refine g_iast 68 dX9_joins_67 rfl ly_134 hs ?_
    refine go_return dX9_joins_68 rfl (Nat.le_of_ble_eq_true rfl) (Nat.le_of_ble_eq_true rfl) ?_
    refine ⟨rfl, congrArg hp ?_⟩
    unfold jnF gwF
    first | (rw [if_pos hc1]; rfl) | (rw [if_neg hc1]; rfl)
