-- needs 38.math6
set_option maxRecDepth 100000 in
set_option maxHeartbeats 4000000 in
theorem lp_wr10 (S : gS) (s : Int32) (hs : vp_in s 24) (hl : lg (-(rL S 125 s.toNatClampNeg).toInt - 1) ≤ 40) (hh : lg (rL S 126 s.toNatClampNeg).toInt ≤ 40) (hs0 : (rL S 125 s.toNatClampNeg) < 0) : ∀ i, i ≤ max (lg (-(rL S 125 s.toNatClampNeg).toInt - 1)) (lg (rL S 126 s.toNatClampNeg).toInt) → Go mX9_widthOfRange false (go_Qm mX9_widthOfRange false (fun v9 h9 => v9 = (some (.int (nI (wrN (rL S 125 s.toNatClampNeg) (rL S 126 s.toNatClampNeg))))) ∧ h9 = hp S) go_no) 0 0 10 [(2, .int (nI (i + 1))), (1, .int s), (0, .ref 115)] [] (hp ((fun _ => S) i)) := by
  refine g_dn _ (max (lg (-(rL S 125 s.toNatClampNeg).toInt - 1)) (lg (rL S 126 s.toNatClampNeg).toInt)) (fun i hi ih => ?_)
  have hi9 : i ≤ 40 := by omega
  refine go_aload_n 11 dX9_widthOfRange_10 rfl rfl ?_
  refine g_getR 14 dX9_widthOfRange_11 rfl fF_RX9_37 ly_115 rfl ?_
  refine go_iload_n 15 dX9_widthOfRange_14 rfl rfl ?_
  refine g_lald 16 dX9_widthOfRange_15 rfl ly_125 hs ?_
  refine go_lconst 17 (1) dX9_widthOfRange_16 rfl (by decide) ?_
  refine go_iload_n 18 dX9_widthOfRange_17 rfl rfl ?_
  refine go_iconst 19 (1) dX9_widthOfRange_18 rfl (by decide) ?_
  refine go_isub 20 dX9_widthOfRange_19 rfl ?_
  refine go_topi (nI i) (nI_pred i) ?_
  refine go_lshl 21 dX9_widthOfRange_20 rfl ?_
  refine go_lneg 22 dX9_widthOfRange_21 rfl ?_
  refine go_topl (mnL i) (shl1n i (by omega)) ?_
  refine go_lcmp 23 dX9_widthOfRange_22 rfl ?_
  refine go_if_lt 26 43 dX9_widthOfRange_23 rfl (by decide) (fun hc1 => ?_) (fun hc1 => ?_)
  · have hv : i < max (lg (-(rL S 125 s.toNatClampNeg).toInt - 1)) (lg (rL S 126 s.toNatClampNeg).toInt) := by
      first
        | (have h7 := hc1; simp only [cmp_lt] at h7; rw [mnL_g (by omega)] at h7; omega)
        | (have h7 := hc2; simp only [cmp_le, Int64.not_le] at h7; rw [onL_g (by omega)] at h7; omega)
    refine go_iinc 46 [(2, .int _), (1, .int _), (0, .ref 115)] (nI (i + 1 + 1)) dX9_widthOfRange_43 rfl (Nat.le_of_ble_eq_true rfl) rfl (nI_inc (i + 1)) rfl ?_
    refine go_goto 10 dX9_widthOfRange_46 (by decide) ?_
    exact ih (by omega)
  · refine go_aload_n 27 dX9_widthOfRange_26 rfl rfl ?_
    refine g_getR 30 dX9_widthOfRange_27 rfl fF_RX9_41 ly_115 rfl ?_
    refine go_iload_n 31 dX9_widthOfRange_30 rfl rfl ?_
    refine g_lald 32 dX9_widthOfRange_31 rfl ly_126 hs ?_
    refine go_lconst 33 (1) dX9_widthOfRange_32 rfl (by decide) ?_
    refine go_iload_n 34 dX9_widthOfRange_33 rfl rfl ?_
    refine go_iconst 35 (1) dX9_widthOfRange_34 rfl (by decide) ?_
    refine go_isub 36 dX9_widthOfRange_35 rfl ?_
    refine go_topi (nI i) (nI_pred i) ?_
    refine go_lshl 37 dX9_widthOfRange_36 rfl ?_
    refine go_lconst 38 (1) dX9_widthOfRange_37 rfl (by decide) ?_
    refine go_lsub 39 dX9_widthOfRange_38 rfl ?_
    refine go_topl (onL i) (shl1m i (by omega)) ?_
    refine go_lcmp 40 dX9_widthOfRange_39 rfl ?_
    refine go_if_le 43 68 dX9_widthOfRange_40 rfl (by decide) (fun hc2 => ?_) (fun hc2 => ?_)
    · refine go_iload_n 69 dX9_widthOfRange_68 rfl rfl ?_
      refine go_ireturn dX9_widthOfRange_69 rfl (by first | rfl | exact bi_nar) (Nat.le_of_ble_eq_true rfl) (Nat.le_of_ble_eq_true rfl) ?_
      have hv : i = max (lg (-(rL S 125 s.toNatClampNeg).toInt - 1)) (lg (rL S 126 s.toNatClampNeg).toInt) := by
        have h7 := hc1
        have h8 := hc2
        simp only [cmp_lt] at h7
        simp only [cmp_le] at h8
        rw [mnL_g (by omega)] at h7
        rw [← Int64.not_lt, onL_g (by omega)] at h8
        omega
      refine ⟨?_, rfl⟩
      unfold wrN
      rw [if_pos hs0, ← hv]
    · have hv : i < max (lg (-(rL S 125 s.toNatClampNeg).toInt - 1)) (lg (rL S 126 s.toNatClampNeg).toInt) := by
        first
          | (have h7 := hc1; simp only [cmp_lt] at h7; rw [mnL_g (by omega)] at h7; omega)
          | (have h7 := hc2; simp only [cmp_le, Int64.not_le] at h7; rw [onL_g (by omega)] at h7; omega)
      refine go_iinc 46 [(2, .int _), (1, .int _), (0, .ref 115)] (nI (i + 1 + 1)) dX9_widthOfRange_43 rfl (Nat.le_of_ble_eq_true rfl) rfl (nI_inc (i + 1)) rfl ?_
      refine go_goto 10 dX9_widthOfRange_46 (by decide) ?_
      exact ih (by omega)

set_option maxRecDepth 100000 in
set_option maxHeartbeats 4000000 in
theorem lp_wr49 (S : gS) (s : Int32) (hs : vp_in s 24) (hl : lg (-(rL S 125 s.toNatClampNeg).toInt - 1) ≤ 40) (hh : lg (rL S 126 s.toNatClampNeg).toInt ≤ 40) (hs0 : ¬ (rL S 125 s.toNatClampNeg) < 0) : ∀ i, i ≤ max 1 (lg (rL S 126 s.toNatClampNeg).toInt) - 1 → Go mX9_widthOfRange false (go_Qm mX9_widthOfRange false (fun v9 h9 => v9 = (some (.int (nI (wrN (rL S 125 s.toNatClampNeg) (rL S 126 s.toNatClampNeg))))) ∧ h9 = hp S) go_no) 0 0 49 [(2, .int (nI (i + 1))), (1, .int s), (0, .ref 115)] [] (hp ((fun _ => S) i)) := by
  refine g_dn _ (max 1 (lg (rL S 126 s.toNatClampNeg).toInt) - 1) (fun i hi ih => ?_)
  have hi9 : i ≤ 40 := by omega
  refine go_aload_n 50 dX9_widthOfRange_49 rfl rfl ?_
  refine g_getR 53 dX9_widthOfRange_50 rfl fF_RX9_41 ly_115 rfl ?_
  refine go_iload_n 54 dX9_widthOfRange_53 rfl rfl ?_
  refine g_lald 55 dX9_widthOfRange_54 rfl ly_126 hs ?_
  refine go_lconst 56 (1) dX9_widthOfRange_55 rfl (by decide) ?_
  refine go_iload_n 57 dX9_widthOfRange_56 rfl rfl ?_
  refine go_lshl 58 dX9_widthOfRange_57 rfl ?_
  refine go_lcmp 59 dX9_widthOfRange_58 rfl ?_
  refine go_if_lt 62 68 dX9_widthOfRange_59 rfl (by decide) (fun hc1 => ?_) (fun hc1 => ?_)
  · refine go_iload_n 69 dX9_widthOfRange_68 rfl rfl ?_
    refine go_ireturn dX9_widthOfRange_69 rfl (by first | rfl | exact bi_nar) (Nat.le_of_ble_eq_true rfl) (Nat.le_of_ble_eq_true rfl) ?_
    have hv : i + 1 = max 1 (lg (rL S 126 s.toNatClampNeg).toInt) := by
      have h7 := hc1
      simp only [cmp_lt] at h7
      rw [shl_g (by omega)] at h7
      omega
    refine ⟨?_, rfl⟩
    unfold wrN
    rw [if_neg hs0, ← hv]
  · have hv : i < max 1 (lg (rL S 126 s.toNatClampNeg).toInt) - 1 := by
      have h7 := hc1
      simp only [cmp_lt] at h7
      rw [shl_g (by omega)] at h7
      omega
    refine go_iinc 65 [(2, .int _), (1, .int _), (0, .ref 115)] (nI (i + 1 + 1)) dX9_widthOfRange_62 rfl (Nat.le_of_ble_eq_true rfl) rfl (nI_inc (i + 1)) rfl ?_
    refine go_goto 49 dX9_widthOfRange_65 (by decide) ?_
    exact ih (by omega)

set_option maxRecDepth 100000 in
set_option maxHeartbeats 4000000 in
theorem ct_X9_widthOfRange (S : gS) (s : Int32) (hs : vp_in s 24) (hl : lg (-(rL S 125 s.toNatClampNeg).toInt - 1) ≤ 40) (hh : lg (rL S 126 s.toNatClampNeg).toInt ≤ 40) : gF mX9_widthOfRange [.ref 115, .int s] S (some (.int (nI (wrN (rL S 125 s.toNatClampNeg) (rL S 126 s.toNatClampNeg))))) S := by
  refine go_enter [.ref 115, .int s] [(0, .ref 115), (1, .int s)] (by decide +kernel) rfl rfl (Nat.le_of_ble_eq_true rfl) rfl ?_
  refine go_iconst 1 (1) dX9_widthOfRange_0 rfl (by decide) ?_
  refine go_istore_n 2 [(2, .int _), (0, .ref 115), (1, .int _)] dX9_widthOfRange_1 rfl (Nat.le_of_ble_eq_true rfl) rfl ?_
  refine go_aload_n 3 dX9_widthOfRange_2 rfl rfl ?_
  refine go_iload_n 4 dX9_widthOfRange_3 rfl rfl ?_
  refine g_callV 7 [.int _] [] dX9_widthOfRange_4 rfl (ct_X9_isRangeSigned _ _ hs) rfl sV_X9_widthOfRange_214 rfl ly_115 rfl rfl (Nat.le_of_ble_eq_true rfl) (Nat.le_of_ble_eq_true rfl) (Nat.le_of_ble_eq_true rfl) ?_
  refine go_if_eq 10 49 dX9_widthOfRange_7 rfl (by decide) (fun hc1 => ?_) (fun hc1 => ?_)
  · refine go_ls [(2, .int _), (1, .int s), (0, .ref 115)] (List.forall_mem_cons.mpr ⟨rfl, List.forall_mem_cons.mpr ⟨rfl, List.forall_mem_cons.mpr ⟨rfl, fun _ h => absurd h List.not_mem_nil⟩⟩⟩) ?_
    exact lp_wr49 S s hs hl hh (bi0.mp hc1) 0 (Nat.zero_le _)
  · refine go_ls [(2, .int _), (1, .int s), (0, .ref 115)] (List.forall_mem_cons.mpr ⟨rfl, List.forall_mem_cons.mpr ⟨rfl, List.forall_mem_cons.mpr ⟨rfl, fun _ h => absurd h List.not_mem_nil⟩⟩⟩) ?_
    exact lp_wr10 S s hs hl hh (bi1.mp hc1) 0 (Nat.zero_le _)

set_option maxRecDepth 100000 in
set_option maxHeartbeats 4000000 in
theorem ct_X9_asksLogic (S : gS) (s bits : Int32) (hs : vp_in s 24) (ha : vp_in (rI S 117 s.toNatClampNeg) 24) (hb : vp_in (rI S 118 s.toNatClampNeg) 24) : gF mX9_asksLogic [.ref 115, .int s, .int bits] S (some (.int (alF S s.toNatClampNeg bits).1)) (alF S s.toNatClampNeg bits).2 := by
  refine go_enter [.ref 115, .int s, .int bits] [(0, .ref 115), (1, .int s), (2, .int bits)] (by decide +kernel) rfl rfl (Nat.le_of_ble_eq_true rfl) rfl ?_
  refine go_aload_n 1 dX9_asksLogic_0 rfl rfl ?_
  refine g_getR 4 dX9_asksLogic_1 rfl fF_RX9_13 ly_115 rfl ?_
  refine go_iload_n 5 dX9_asksLogic_4 rfl rfl ?_
  refine g_iald 6 dX9_asksLogic_5 rfl ly_117 hs ?_
  refine go_istore_n 7 [(3, .int _), (0, .ref 115), (1, .int _), (2, .int _)] dX9_asksLogic_6 rfl (Nat.le_of_ble_eq_true rfl) rfl ?_
  refine go_aload_n 8 dX9_asksLogic_7 rfl rfl ?_
  refine g_getR 11 dX9_asksLogic_8 rfl fF_RX9_16 ly_115 rfl ?_
  refine go_iload_n 12 dX9_asksLogic_11 rfl rfl ?_
  refine g_iald 13 dX9_asksLogic_12 rfl ly_118 hs ?_
  refine go_istore 15 [(4, .int _), (3, .int _), (0, .ref 115), (1, .int _), (2, .int _)] dX9_asksLogic_13 rfl (Nat.le_of_ble_eq_true rfl) rfl ?_
  refine go_aload_n 16 dX9_asksLogic_15 rfl rfl ?_
  refine g_getR 19 dX9_asksLogic_16 rfl fF_RX9_7 ly_115 rfl ?_
  refine go_iload_n 20 dX9_asksLogic_19 rfl rfl ?_
  refine g_iald 21 dX9_asksLogic_20 rfl ly_116 hs ?_
  refine go_bipush 23 (6) dX9_asksLogic_21 rfl (by decide) ?_
  refine go_icmp_ne 26 49 dX9_asksLogic_23 rfl (by decide) (fun hc1 => ?_) (fun hc1 => ?_)
  · refine go_iload_n 50 dX9_asksLogic_49 rfl rfl ?_
    refine go_istore 52 [(5, .int _), (4, .int _), (3, .int _), (0, .ref 115), (1, .int _), (2, .int _)] dX9_asksLogic_50 rfl (Nat.le_of_ble_eq_true rfl) rfl ?_
    refine go_aload_n 53 dX9_asksLogic_52 rfl rfl ?_
    refine g_getR 56 dX9_asksLogic_53 rfl fF_RX9_7 ly_115 rfl ?_
    refine go_iload_n 57 dX9_asksLogic_56 rfl rfl ?_
    refine g_iald 58 dX9_asksLogic_57 rfl ly_116 hs ?_
    refine go_bipush 60 (6) dX9_asksLogic_58 rfl (by decide) ?_
    refine go_icmp_ne 63 84 dX9_asksLogic_60 rfl (by decide) (fun hc2 => ?_) (fun hc2 => ?_)
    · refine go_iload_n 85 dX9_asksLogic_84 rfl rfl ?_
      refine go_istore 87 [(6, .int _), (5, .int _), (4, .int _), (3, .int _), (0, .ref 115), (1, .int _), (2, .int _)] dX9_asksLogic_85 rfl (Nat.le_of_ble_eq_true rfl) rfl ?_
      refine go_aload_n 88 dX9_asksLogic_87 rfl rfl ?_
      refine go_iload_n 89 dX9_asksLogic_88 rfl rfl ?_
      refine go_iload 91 dX9_asksLogic_89 rfl rfl ?_
      refine g_callV 94 [.int _, .int _] [] dX9_asksLogic_91 rfl (ct_X9_asks _ _ _ ha) rfl sV_X9_asksLogic_217 rfl ly_115 rfl rfl (Nat.le_of_ble_eq_true rfl) (Nat.le_of_ble_eq_true rfl) (Nat.le_of_ble_eq_true rfl) ?_
      refine go_aload_n 95 dX9_asksLogic_94 rfl rfl ?_
      refine go_iload 97 dX9_asksLogic_95 rfl rfl ?_
      refine go_iload 99 dX9_asksLogic_97 rfl rfl ?_
      refine g_callV 102 [.int _, .int _] [.int _] dX9_asksLogic_99 rfl (ct_X9_asks _ _ _ hb) rfl sV_X9_asksLogic_217 rfl ly_115 rfl rfl (Nat.le_of_ble_eq_true rfl) (Nat.le_of_ble_eq_true rfl) (Nat.le_of_ble_eq_true rfl) ?_
      refine go_ior 103 dX9_asksLogic_102 rfl ?_
      refine go_ireturn dX9_asksLogic_103 rfl (by first | rfl | exact b01 ak01 | exact b01 (or01 ak01 ak01) | exact b01 (or01 (or01 ak01 ak01) ak01) | exact b01 ak02) (Nat.le_of_ble_eq_true rfl) (Nat.le_of_ble_eq_true rfl) ?_
      rw [alF_e]
      first | rw [lgA_t (by assumption) (by assumption)] | rw [lgA_n (by assumption)] | rw [lgA_m (by assumption)]
      first | rw [lgB_t (by assumption) (by assumption)] | rw [lgB_n (by assumption)] | rw [lgB_m (by assumption)]
      exact ⟨rfl, rfl⟩
    · refine go_aload_n 64 dX9_asksLogic_63 rfl rfl ?_
      refine g_getR 67 dX9_asksLogic_64 rfl fF_RX9_7 ly_115 rfl ?_
      refine go_iload_n 68 dX9_asksLogic_67 rfl rfl ?_
      refine g_iald 69 dX9_asksLogic_68 rfl ly_116 ha ?_
      refine go_iconst 70 (1) dX9_asksLogic_69 rfl (by decide) ?_
      refine go_icmp_ne 73 84 dX9_asksLogic_70 rfl (by decide) (fun hc3 => ?_) (fun hc3 => ?_)
      · refine go_iload_n 85 dX9_asksLogic_84 rfl rfl ?_
        refine go_istore 87 [(6, .int _), (5, .int _), (4, .int _), (3, .int _), (0, .ref 115), (1, .int _), (2, .int _)] dX9_asksLogic_85 rfl (Nat.le_of_ble_eq_true rfl) rfl ?_
        refine go_aload_n 88 dX9_asksLogic_87 rfl rfl ?_
        refine go_iload_n 89 dX9_asksLogic_88 rfl rfl ?_
        refine go_iload 91 dX9_asksLogic_89 rfl rfl ?_
        refine g_callV 94 [.int _, .int _] [] dX9_asksLogic_91 rfl (ct_X9_asks _ _ _ ha) rfl sV_X9_asksLogic_217 rfl ly_115 rfl rfl (Nat.le_of_ble_eq_true rfl) (Nat.le_of_ble_eq_true rfl) (Nat.le_of_ble_eq_true rfl) ?_
        refine go_aload_n 95 dX9_asksLogic_94 rfl rfl ?_
        refine go_iload 97 dX9_asksLogic_95 rfl rfl ?_
        refine go_iload 99 dX9_asksLogic_97 rfl rfl ?_
        refine g_callV 102 [.int _, .int _] [.int _] dX9_asksLogic_99 rfl (ct_X9_asks _ _ _ hb) rfl sV_X9_asksLogic_217 rfl ly_115 rfl rfl (Nat.le_of_ble_eq_true rfl) (Nat.le_of_ble_eq_true rfl) (Nat.le_of_ble_eq_true rfl) ?_
        refine go_ior 103 dX9_asksLogic_102 rfl ?_
        refine go_ireturn dX9_asksLogic_103 rfl (by first | rfl | exact b01 ak01 | exact b01 (or01 ak01 ak01) | exact b01 (or01 (or01 ak01 ak01) ak01) | exact b01 ak02) (Nat.le_of_ble_eq_true rfl) (Nat.le_of_ble_eq_true rfl) ?_
        rw [alF_e]
        first | rw [lgA_t (by assumption) (by assumption)] | rw [lgA_n (by assumption)] | rw [lgA_m (by assumption)]
        first | rw [lgB_t (by assumption) (by assumption)] | rw [lgB_n (by assumption)] | rw [lgB_m (by assumption)]
        exact ⟨rfl, rfl⟩
      · refine go_iload_n 74 dX9_asksLogic_73 rfl rfl ?_
        refine go_aload_n 75 dX9_asksLogic_74 rfl rfl ?_
        refine g_getR 78 dX9_asksLogic_75 rfl fF_RX9_13 ly_115 rfl ?_
        refine go_iload_n 79 dX9_asksLogic_78 rfl rfl ?_
        refine g_iald 80 dX9_asksLogic_79 rfl ly_117 ha ?_
        refine go_iand 81 dX9_asksLogic_80 rfl ?_
        refine go_goto 85 dX9_asksLogic_81 (by decide) ?_
        refine go_istore 87 [(6, .int _), (5, .int _), (4, .int _), (3, .int _), (0, .ref 115), (1, .int _), (2, .int _)] dX9_asksLogic_85 rfl (Nat.le_of_ble_eq_true rfl) rfl ?_
        refine go_aload_n 88 dX9_asksLogic_87 rfl rfl ?_
        refine go_iload_n 89 dX9_asksLogic_88 rfl rfl ?_
        refine go_iload 91 dX9_asksLogic_89 rfl rfl ?_
        refine g_callV 94 [.int _, .int _] [] dX9_asksLogic_91 rfl (ct_X9_asks _ _ _ ha) rfl sV_X9_asksLogic_217 rfl ly_115 rfl rfl (Nat.le_of_ble_eq_true rfl) (Nat.le_of_ble_eq_true rfl) (Nat.le_of_ble_eq_true rfl) ?_
        refine go_aload_n 95 dX9_asksLogic_94 rfl rfl ?_
        refine go_iload 97 dX9_asksLogic_95 rfl rfl ?_
        refine go_iload 99 dX9_asksLogic_97 rfl rfl ?_
        refine g_callV 102 [.int _, .int _] [.int _] dX9_asksLogic_99 rfl (ct_X9_asks _ _ _ hb) rfl sV_X9_asksLogic_217 rfl ly_115 rfl rfl (Nat.le_of_ble_eq_true rfl) (Nat.le_of_ble_eq_true rfl) (Nat.le_of_ble_eq_true rfl) ?_
        refine go_ior 103 dX9_asksLogic_102 rfl ?_
        refine go_ireturn dX9_asksLogic_103 rfl (by first | rfl | exact b01 ak01 | exact b01 (or01 ak01 ak01) | exact b01 (or01 (or01 ak01 ak01) ak01) | exact b01 ak02) (Nat.le_of_ble_eq_true rfl) (Nat.le_of_ble_eq_true rfl) ?_
        rw [alF_e]
        first | rw [lgA_t (by assumption) (by assumption)] | rw [lgA_n (by assumption)] | rw [lgA_m (by assumption)]
        first | rw [lgB_t (by assumption) (by assumption)] | rw [lgB_n (by assumption)] | rw [lgB_m (by assumption)]
        exact ⟨rfl, rfl⟩
  · refine go_aload_n 27 dX9_asksLogic_26 rfl rfl ?_
    refine g_getR 30 dX9_asksLogic_27 rfl fF_RX9_7 ly_115 rfl ?_
    refine go_iload 32 dX9_asksLogic_30 rfl rfl ?_
    refine g_iald 33 dX9_asksLogic_32 rfl ly_116 hb ?_
    refine go_iconst 34 (1) dX9_asksLogic_33 rfl (by decide) ?_
    refine go_icmp_ne 37 49 dX9_asksLogic_34 rfl (by decide) (fun hc4 => ?_) (fun hc4 => ?_)
    · refine go_iload_n 50 dX9_asksLogic_49 rfl rfl ?_
      refine go_istore 52 [(5, .int _), (4, .int _), (3, .int _), (0, .ref 115), (1, .int _), (2, .int _)] dX9_asksLogic_50 rfl (Nat.le_of_ble_eq_true rfl) rfl ?_
      refine go_aload_n 53 dX9_asksLogic_52 rfl rfl ?_
      refine g_getR 56 dX9_asksLogic_53 rfl fF_RX9_7 ly_115 rfl ?_
      refine go_iload_n 57 dX9_asksLogic_56 rfl rfl ?_
      refine g_iald 58 dX9_asksLogic_57 rfl ly_116 hs ?_
      refine go_bipush 60 (6) dX9_asksLogic_58 rfl (by decide) ?_
      refine go_icmp_ne 63 84 dX9_asksLogic_60 rfl (by decide) (fun hc5 => ?_) (fun hc5 => ?_)
      · refine go_iload_n 85 dX9_asksLogic_84 rfl rfl ?_
        refine go_istore 87 [(6, .int _), (5, .int _), (4, .int _), (3, .int _), (0, .ref 115), (1, .int _), (2, .int _)] dX9_asksLogic_85 rfl (Nat.le_of_ble_eq_true rfl) rfl ?_
        refine go_aload_n 88 dX9_asksLogic_87 rfl rfl ?_
        refine go_iload_n 89 dX9_asksLogic_88 rfl rfl ?_
        refine go_iload 91 dX9_asksLogic_89 rfl rfl ?_
        refine g_callV 94 [.int _, .int _] [] dX9_asksLogic_91 rfl (ct_X9_asks _ _ _ ha) rfl sV_X9_asksLogic_217 rfl ly_115 rfl rfl (Nat.le_of_ble_eq_true rfl) (Nat.le_of_ble_eq_true rfl) (Nat.le_of_ble_eq_true rfl) ?_
        refine go_aload_n 95 dX9_asksLogic_94 rfl rfl ?_
        refine go_iload 97 dX9_asksLogic_95 rfl rfl ?_
        refine go_iload 99 dX9_asksLogic_97 rfl rfl ?_
        refine g_callV 102 [.int _, .int _] [.int _] dX9_asksLogic_99 rfl (ct_X9_asks _ _ _ hb) rfl sV_X9_asksLogic_217 rfl ly_115 rfl rfl (Nat.le_of_ble_eq_true rfl) (Nat.le_of_ble_eq_true rfl) (Nat.le_of_ble_eq_true rfl) ?_
        refine go_ior 103 dX9_asksLogic_102 rfl ?_
        refine go_ireturn dX9_asksLogic_103 rfl (by first | rfl | exact b01 ak01 | exact b01 (or01 ak01 ak01) | exact b01 (or01 (or01 ak01 ak01) ak01) | exact b01 ak02) (Nat.le_of_ble_eq_true rfl) (Nat.le_of_ble_eq_true rfl) ?_
        rw [alF_e]
        first | rw [lgA_t (by assumption) (by assumption)] | rw [lgA_n (by assumption)] | rw [lgA_m (by assumption)]
        first | rw [lgB_t (by assumption) (by assumption)] | rw [lgB_n (by assumption)] | rw [lgB_m (by assumption)]
        exact ⟨rfl, rfl⟩
      · refine go_aload_n 64 dX9_asksLogic_63 rfl rfl ?_
        refine g_getR 67 dX9_asksLogic_64 rfl fF_RX9_7 ly_115 rfl ?_
        refine go_iload_n 68 dX9_asksLogic_67 rfl rfl ?_
        refine g_iald 69 dX9_asksLogic_68 rfl ly_116 ha ?_
        refine go_iconst 70 (1) dX9_asksLogic_69 rfl (by decide) ?_
        refine go_icmp_ne 73 84 dX9_asksLogic_70 rfl (by decide) (fun hc6 => ?_) (fun hc6 => ?_)
        · refine go_iload_n 85 dX9_asksLogic_84 rfl rfl ?_
          refine go_istore 87 [(6, .int _), (5, .int _), (4, .int _), (3, .int _), (0, .ref 115), (1, .int _), (2, .int _)] dX9_asksLogic_85 rfl (Nat.le_of_ble_eq_true rfl) rfl ?_
          refine go_aload_n 88 dX9_asksLogic_87 rfl rfl ?_
          refine go_iload_n 89 dX9_asksLogic_88 rfl rfl ?_
          refine go_iload 91 dX9_asksLogic_89 rfl rfl ?_
          refine g_callV 94 [.int _, .int _] [] dX9_asksLogic_91 rfl (ct_X9_asks _ _ _ ha) rfl sV_X9_asksLogic_217 rfl ly_115 rfl rfl (Nat.le_of_ble_eq_true rfl) (Nat.le_of_ble_eq_true rfl) (Nat.le_of_ble_eq_true rfl) ?_
          refine go_aload_n 95 dX9_asksLogic_94 rfl rfl ?_
          refine go_iload 97 dX9_asksLogic_95 rfl rfl ?_
          refine go_iload 99 dX9_asksLogic_97 rfl rfl ?_
          refine g_callV 102 [.int _, .int _] [.int _] dX9_asksLogic_99 rfl (ct_X9_asks _ _ _ hb) rfl sV_X9_asksLogic_217 rfl ly_115 rfl rfl (Nat.le_of_ble_eq_true rfl) (Nat.le_of_ble_eq_true rfl) (Nat.le_of_ble_eq_true rfl) ?_
          refine go_ior 103 dX9_asksLogic_102 rfl ?_
          refine go_ireturn dX9_asksLogic_103 rfl (by first | rfl | exact b01 ak01 | exact b01 (or01 ak01 ak01) | exact b01 (or01 (or01 ak01 ak01) ak01) | exact b01 ak02) (Nat.le_of_ble_eq_true rfl) (Nat.le_of_ble_eq_true rfl) ?_
          rw [alF_e]
          first | rw [lgA_t (by assumption) (by assumption)] | rw [lgA_n (by assumption)] | rw [lgA_m (by assumption)]
          first | rw [lgB_t (by assumption) (by assumption)] | rw [lgB_n (by assumption)] | rw [lgB_m (by assumption)]
          exact ⟨rfl, rfl⟩
        · refine go_iload_n 74 dX9_asksLogic_73 rfl rfl ?_
          refine go_aload_n 75 dX9_asksLogic_74 rfl rfl ?_
          refine g_getR 78 dX9_asksLogic_75 rfl fF_RX9_13 ly_115 rfl ?_
          refine go_iload_n 79 dX9_asksLogic_78 rfl rfl ?_
          refine g_iald 80 dX9_asksLogic_79 rfl ly_117 ha ?_
          refine go_iand 81 dX9_asksLogic_80 rfl ?_
          refine go_goto 85 dX9_asksLogic_81 (by decide) ?_
          refine go_istore 87 [(6, .int _), (5, .int _), (4, .int _), (3, .int _), (0, .ref 115), (1, .int _), (2, .int _)] dX9_asksLogic_85 rfl (Nat.le_of_ble_eq_true rfl) rfl ?_
          refine go_aload_n 88 dX9_asksLogic_87 rfl rfl ?_
          refine go_iload_n 89 dX9_asksLogic_88 rfl rfl ?_
          refine go_iload 91 dX9_asksLogic_89 rfl rfl ?_
          refine g_callV 94 [.int _, .int _] [] dX9_asksLogic_91 rfl (ct_X9_asks _ _ _ ha) rfl sV_X9_asksLogic_217 rfl ly_115 rfl rfl (Nat.le_of_ble_eq_true rfl) (Nat.le_of_ble_eq_true rfl) (Nat.le_of_ble_eq_true rfl) ?_
          refine go_aload_n 95 dX9_asksLogic_94 rfl rfl ?_
          refine go_iload 97 dX9_asksLogic_95 rfl rfl ?_
          refine go_iload 99 dX9_asksLogic_97 rfl rfl ?_
          refine g_callV 102 [.int _, .int _] [.int _] dX9_asksLogic_99 rfl (ct_X9_asks _ _ _ hb) rfl sV_X9_asksLogic_217 rfl ly_115 rfl rfl (Nat.le_of_ble_eq_true rfl) (Nat.le_of_ble_eq_true rfl) (Nat.le_of_ble_eq_true rfl) ?_
          refine go_ior 103 dX9_asksLogic_102 rfl ?_
          refine go_ireturn dX9_asksLogic_103 rfl (by first | rfl | exact b01 ak01 | exact b01 (or01 ak01 ak01) | exact b01 (or01 (or01 ak01 ak01) ak01) | exact b01 ak02) (Nat.le_of_ble_eq_true rfl) (Nat.le_of_ble_eq_true rfl) ?_
          rw [alF_e]
          first | rw [lgA_t (by assumption) (by assumption)] | rw [lgA_n (by assumption)] | rw [lgA_m (by assumption)]
          first | rw [lgB_t (by assumption) (by assumption)] | rw [lgB_n (by assumption)] | rw [lgB_m (by assumption)]
          exact ⟨rfl, rfl⟩
    · refine go_iload_n 38 dX9_asksLogic_37 rfl rfl ?_
      refine go_aload_n 39 dX9_asksLogic_38 rfl rfl ?_
      refine g_getR 42 dX9_asksLogic_39 rfl fF_RX9_13 ly_115 rfl ?_
      refine go_iload 44 dX9_asksLogic_42 rfl rfl ?_
      refine g_iald 45 dX9_asksLogic_44 rfl ly_117 hb ?_
      refine go_iand 46 dX9_asksLogic_45 rfl ?_
      refine go_goto 50 dX9_asksLogic_46 (by decide) ?_
      refine go_istore 52 [(5, .int _), (4, .int _), (3, .int _), (0, .ref 115), (1, .int _), (2, .int _)] dX9_asksLogic_50 rfl (Nat.le_of_ble_eq_true rfl) rfl ?_
      refine go_aload_n 53 dX9_asksLogic_52 rfl rfl ?_
      refine g_getR 56 dX9_asksLogic_53 rfl fF_RX9_7 ly_115 rfl ?_
      refine go_iload_n 57 dX9_asksLogic_56 rfl rfl ?_
      refine g_iald 58 dX9_asksLogic_57 rfl ly_116 hs ?_
      refine go_bipush 60 (6) dX9_asksLogic_58 rfl (by decide) ?_
      refine go_icmp_ne 63 84 dX9_asksLogic_60 rfl (by decide) (fun hc7 => ?_) (fun hc7 => ?_)
      · refine go_iload_n 85 dX9_asksLogic_84 rfl rfl ?_
        refine go_istore 87 [(6, .int _), (5, .int _), (4, .int _), (3, .int _), (0, .ref 115), (1, .int _), (2, .int _)] dX9_asksLogic_85 rfl (Nat.le_of_ble_eq_true rfl) rfl ?_
        refine go_aload_n 88 dX9_asksLogic_87 rfl rfl ?_
        refine go_iload_n 89 dX9_asksLogic_88 rfl rfl ?_
        refine go_iload 91 dX9_asksLogic_89 rfl rfl ?_
        refine g_callV 94 [.int _, .int _] [] dX9_asksLogic_91 rfl (ct_X9_asks _ _ _ ha) rfl sV_X9_asksLogic_217 rfl ly_115 rfl rfl (Nat.le_of_ble_eq_true rfl) (Nat.le_of_ble_eq_true rfl) (Nat.le_of_ble_eq_true rfl) ?_
        refine go_aload_n 95 dX9_asksLogic_94 rfl rfl ?_
        refine go_iload 97 dX9_asksLogic_95 rfl rfl ?_
        refine go_iload 99 dX9_asksLogic_97 rfl rfl ?_
        refine g_callV 102 [.int _, .int _] [.int _] dX9_asksLogic_99 rfl (ct_X9_asks _ _ _ hb) rfl sV_X9_asksLogic_217 rfl ly_115 rfl rfl (Nat.le_of_ble_eq_true rfl) (Nat.le_of_ble_eq_true rfl) (Nat.le_of_ble_eq_true rfl) ?_
        refine go_ior 103 dX9_asksLogic_102 rfl ?_
        refine go_ireturn dX9_asksLogic_103 rfl (by first | rfl | exact b01 ak01 | exact b01 (or01 ak01 ak01) | exact b01 (or01 (or01 ak01 ak01) ak01) | exact b01 ak02) (Nat.le_of_ble_eq_true rfl) (Nat.le_of_ble_eq_true rfl) ?_
        rw [alF_e]
        first | rw [lgA_t (by assumption) (by assumption)] | rw [lgA_n (by assumption)] | rw [lgA_m (by assumption)]
        first | rw [lgB_t (by assumption) (by assumption)] | rw [lgB_n (by assumption)] | rw [lgB_m (by assumption)]
        exact ⟨rfl, rfl⟩
      · refine go_aload_n 64 dX9_asksLogic_63 rfl rfl ?_
        refine g_getR 67 dX9_asksLogic_64 rfl fF_RX9_7 ly_115 rfl ?_
        refine go_iload_n 68 dX9_asksLogic_67 rfl rfl ?_
        refine g_iald 69 dX9_asksLogic_68 rfl ly_116 ha ?_
        refine go_iconst 70 (1) dX9_asksLogic_69 rfl (by decide) ?_
        refine go_icmp_ne 73 84 dX9_asksLogic_70 rfl (by decide) (fun hc8 => ?_) (fun hc8 => ?_)
        · refine go_iload_n 85 dX9_asksLogic_84 rfl rfl ?_
          refine go_istore 87 [(6, .int _), (5, .int _), (4, .int _), (3, .int _), (0, .ref 115), (1, .int _), (2, .int _)] dX9_asksLogic_85 rfl (Nat.le_of_ble_eq_true rfl) rfl ?_
          refine go_aload_n 88 dX9_asksLogic_87 rfl rfl ?_
          refine go_iload_n 89 dX9_asksLogic_88 rfl rfl ?_
          refine go_iload 91 dX9_asksLogic_89 rfl rfl ?_
          refine g_callV 94 [.int _, .int _] [] dX9_asksLogic_91 rfl (ct_X9_asks _ _ _ ha) rfl sV_X9_asksLogic_217 rfl ly_115 rfl rfl (Nat.le_of_ble_eq_true rfl) (Nat.le_of_ble_eq_true rfl) (Nat.le_of_ble_eq_true rfl) ?_
          refine go_aload_n 95 dX9_asksLogic_94 rfl rfl ?_
          refine go_iload 97 dX9_asksLogic_95 rfl rfl ?_
          refine go_iload 99 dX9_asksLogic_97 rfl rfl ?_
          refine g_callV 102 [.int _, .int _] [.int _] dX9_asksLogic_99 rfl (ct_X9_asks _ _ _ hb) rfl sV_X9_asksLogic_217 rfl ly_115 rfl rfl (Nat.le_of_ble_eq_true rfl) (Nat.le_of_ble_eq_true rfl) (Nat.le_of_ble_eq_true rfl) ?_
          refine go_ior 103 dX9_asksLogic_102 rfl ?_
          refine go_ireturn dX9_asksLogic_103 rfl (by first | rfl | exact b01 ak01 | exact b01 (or01 ak01 ak01) | exact b01 (or01 (or01 ak01 ak01) ak01) | exact b01 ak02) (Nat.le_of_ble_eq_true rfl) (Nat.le_of_ble_eq_true rfl) ?_
          rw [alF_e]
          first | rw [lgA_t (by assumption) (by assumption)] | rw [lgA_n (by assumption)] | rw [lgA_m (by assumption)]
          first | rw [lgB_t (by assumption) (by assumption)] | rw [lgB_n (by assumption)] | rw [lgB_m (by assumption)]
          exact ⟨rfl, rfl⟩
        · refine go_iload_n 74 dX9_asksLogic_73 rfl rfl ?_
          refine go_aload_n 75 dX9_asksLogic_74 rfl rfl ?_
          refine g_getR 78 dX9_asksLogic_75 rfl fF_RX9_13 ly_115 rfl ?_
          refine go_iload_n 79 dX9_asksLogic_78 rfl rfl ?_
          refine g_iald 80 dX9_asksLogic_79 rfl ly_117 ha ?_
          refine go_iand 81 dX9_asksLogic_80 rfl ?_
          refine go_goto 85 dX9_asksLogic_81 (by decide) ?_
          refine go_istore 87 [(6, .int _), (5, .int _), (4, .int _), (3, .int _), (0, .ref 115), (1, .int _), (2, .int _)] dX9_asksLogic_85 rfl (Nat.le_of_ble_eq_true rfl) rfl ?_
          refine go_aload_n 88 dX9_asksLogic_87 rfl rfl ?_
          refine go_iload_n 89 dX9_asksLogic_88 rfl rfl ?_
          refine go_iload 91 dX9_asksLogic_89 rfl rfl ?_
          refine g_callV 94 [.int _, .int _] [] dX9_asksLogic_91 rfl (ct_X9_asks _ _ _ ha) rfl sV_X9_asksLogic_217 rfl ly_115 rfl rfl (Nat.le_of_ble_eq_true rfl) (Nat.le_of_ble_eq_true rfl) (Nat.le_of_ble_eq_true rfl) ?_
          refine go_aload_n 95 dX9_asksLogic_94 rfl rfl ?_
          refine go_iload 97 dX9_asksLogic_95 rfl rfl ?_
          refine go_iload 99 dX9_asksLogic_97 rfl rfl ?_
          refine g_callV 102 [.int _, .int _] [.int _] dX9_asksLogic_99 rfl (ct_X9_asks _ _ _ hb) rfl sV_X9_asksLogic_217 rfl ly_115 rfl rfl (Nat.le_of_ble_eq_true rfl) (Nat.le_of_ble_eq_true rfl) (Nat.le_of_ble_eq_true rfl) ?_
          refine go_ior 103 dX9_asksLogic_102 rfl ?_
          refine go_ireturn dX9_asksLogic_103 rfl (by first | rfl | exact b01 ak01 | exact b01 (or01 ak01 ak01) | exact b01 (or01 (or01 ak01 ak01) ak01) | exact b01 ak02) (Nat.le_of_ble_eq_true rfl) (Nat.le_of_ble_eq_true rfl) ?_
          rw [alF_e]
          first | rw [lgA_t (by assumption) (by assumption)] | rw [lgA_n (by assumption)] | rw [lgA_m (by assumption)]
          first | rw [lgB_t (by assumption) (by assumption)] | rw [lgB_n (by assumption)] | rw [lgB_m (by assumption)]
          exact ⟨rfl, rfl⟩

set_option maxRecDepth 100000 in
set_option maxHeartbeats 4000000 in
theorem ct_X9_passesOn (S : gS) (s : Int32) (hs : vp_in s 24) (hk : okD S s.toNatClampNeg) : gF mX9_passesOn [.ref 115, .int s] S (some (.int (poF S s.toNatClampNeg).1)) (poF S s.toNatClampNeg).2 := by
  refine go_enter [.ref 115, .int s] [(0, .ref 115), (1, .int s)] (by decide +kernel) rfl rfl (Nat.le_of_ble_eq_true rfl) rfl ?_
  refine go_aload_n 1 dX9_passesOn_0 rfl rfl ?_
  refine g_getR 4 dX9_passesOn_1 rfl fF_RX9_47 ly_115 rfl ?_
  refine go_iload_n 5 dX9_passesOn_4 rfl rfl ?_
  refine g_iald 6 dX9_passesOn_5 rfl ly_128 hs ?_
  refine go_istore_n 7 [(2, .int _), (0, .ref 115), (1, .int _)] dX9_passesOn_6 rfl (Nat.le_of_ble_eq_true rfl) rfl ?_
  refine go_iload_n 8 dX9_passesOn_7 rfl rfl ?_
  refine go_if_ne 11 13 dX9_passesOn_8 rfl (by decide) (fun hc1 => ?_) (fun hc1 => ?_)
  · refine go_aload_n 14 dX9_passesOn_13 rfl rfl ?_
    refine g_getR 17 dX9_passesOn_14 rfl fF_RX9_7 ly_115 rfl ?_
    refine go_iload_n 18 dX9_passesOn_17 rfl rfl ?_
    refine g_iald 19 dX9_passesOn_18 rfl ly_116 hs ?_
    refine go_tableS [(0, 80), (1, 80), (2, 82), (3, 94), (4, 94), (5, 94), (6, 142), (7, 142), (8, 142), (9, 149), (10, 168), (11, 208)] 232 dX9_passesOn_19 rfl rfl (by decide) (by decide) rfl (by decide) (List.forall_mem_cons.mpr ⟨fun hc2 => ?_, List.forall_mem_cons.mpr ⟨fun hc2 => ?_, List.forall_mem_cons.mpr ⟨fun hc2 => ?_, List.forall_mem_cons.mpr ⟨fun hc2 => ?_, List.forall_mem_cons.mpr ⟨fun hc2 => ?_, List.forall_mem_cons.mpr ⟨fun hc2 => ?_, List.forall_mem_cons.mpr ⟨fun hc2 => ?_, List.forall_mem_cons.mpr ⟨fun hc2 => ?_, List.forall_mem_cons.mpr ⟨fun hc2 => ?_, List.forall_mem_cons.mpr ⟨fun hc2 => ?_, List.forall_mem_cons.mpr ⟨fun hc2 => ?_, List.forall_mem_cons.mpr ⟨fun hc2 => ?_, fun _ h => absurd h List.not_mem_nil⟩⟩⟩⟩⟩⟩⟩⟩⟩⟩⟩⟩) (fun hc2 => ?_)
    · refine go_iconst 81 (0) dX9_passesOn_80 rfl (by decide) ?_
      refine go_ireturn dX9_passesOn_81 rfl (by first | rfl | exact b01 ak01 | exact b01 (or01 ak01 ak01) | exact b01 (or01 (or01 ak01 ak01) ak01) | exact b01 ak02) (Nat.le_of_ble_eq_true rfl) (Nat.le_of_ble_eq_true rfl) ?_
      rw [poF_0 hc1 hc2]
      exact ⟨rfl, rfl⟩
    · refine go_iconst 81 (0) dX9_passesOn_80 rfl (by decide) ?_
      refine go_ireturn dX9_passesOn_81 rfl (by first | rfl | exact b01 ak01 | exact b01 (or01 ak01 ak01) | exact b01 (or01 (or01 ak01 ak01) ak01) | exact b01 ak02) (Nat.le_of_ble_eq_true rfl) (Nat.le_of_ble_eq_true rfl) ?_
      rw [poF_1 hc1 hc2]
      exact ⟨rfl, rfl⟩
    · refine go_aload_n 83 dX9_passesOn_82 rfl rfl ?_
      refine go_aload_n 84 dX9_passesOn_83 rfl rfl ?_
      refine g_getR 87 dX9_passesOn_84 rfl fF_RX9_22 ly_115 rfl ?_
      refine go_iload_n 88 dX9_passesOn_87 rfl rfl ?_
      refine g_iald 89 dX9_passesOn_88 rfl ly_120 hs ?_
      refine go_iload_n 90 dX9_passesOn_89 rfl rfl ?_
      refine g_callV 93 [.int _, .int _] [] dX9_passesOn_90 rfl (ct_X9_asks _ _ _ (hk.2 hc2)) rfl sV_X9_passesOn_217 rfl ly_115 rfl rfl (Nat.le_of_ble_eq_true rfl) (Nat.le_of_ble_eq_true rfl) (Nat.le_of_ble_eq_true rfl) ?_
      refine go_ireturn dX9_passesOn_93 rfl (by first | rfl | exact b01 ak01 | exact b01 (or01 ak01 ak01) | exact b01 (or01 (or01 ak01 ak01) ak01) | exact b01 ak02) (Nat.le_of_ble_eq_true rfl) (Nat.le_of_ble_eq_true rfl) ?_
      rw [poF_2 hc1 hc2]
      exact ⟨rfl, rfl⟩
    · refine go_iload_n 95 dX9_passesOn_94 rfl rfl ?_
      refine g_callS 98 [.int _] [] dX9_passesOn_95 rfl (ct_X9_highest _ _) rfl sV_X9_passesOn_220 rfl (Nat.le_of_ble_eq_true rfl) (Nat.le_of_ble_eq_true rfl) (Nat.le_of_ble_eq_true rfl) ?_
      refine go_bipush 100 (31) dX9_passesOn_98 rfl (by decide) ?_
      refine go_icmp_ne 103 107 dX9_passesOn_100 rfl (by decide) (fun hc3 => ?_) (fun hc3 => ?_)
      · refine go_iconst 108 (1) dX9_passesOn_107 rfl (by decide) ?_
        refine go_iload_n 109 dX9_passesOn_108 rfl rfl ?_
        refine g_callS 112 [.int _] [.int _] dX9_passesOn_109 rfl (ct_X9_highest _ _) rfl sV_X9_passesOn_220 rfl (Nat.le_of_ble_eq_true rfl) (Nat.le_of_ble_eq_true rfl) (Nat.le_of_ble_eq_true rfl) ?_
        refine go_iconst 113 (1) dX9_passesOn_112 rfl (by decide) ?_
        refine go_iadd 114 dX9_passesOn_113 rfl ?_
        refine go_ishl 115 dX9_passesOn_114 rfl ?_
        refine go_iconst 116 (1) dX9_passesOn_115 rfl (by decide) ?_
        refine go_isub 117 dX9_passesOn_116 rfl ?_
        refine go_istore_n 118 [(3, .int _), (2, .int _), (0, .ref 115), (1, .int _)] dX9_passesOn_117 rfl (Nat.le_of_ble_eq_true rfl) rfl ?_
        refine go_aload_n 119 dX9_passesOn_118 rfl rfl ?_
        refine go_aload_n 120 dX9_passesOn_119 rfl rfl ?_
        refine g_getR 123 dX9_passesOn_120 rfl fF_RX9_13 ly_115 rfl ?_
        refine go_iload_n 124 dX9_passesOn_123 rfl rfl ?_
        refine g_iald 125 dX9_passesOn_124 rfl ly_117 hs ?_
        refine go_iload_n 126 dX9_passesOn_125 rfl rfl ?_
        refine g_callV 129 [.int _, .int _] [] dX9_passesOn_126 rfl (ct_X9_asks _ _ _ (hk.1.1 (by rw [hc2]; decide))) rfl sV_X9_passesOn_217 rfl ly_115 rfl rfl (Nat.le_of_ble_eq_true rfl) (Nat.le_of_ble_eq_true rfl) (Nat.le_of_ble_eq_true rfl) ?_
        refine go_aload_n 130 dX9_passesOn_129 rfl rfl ?_
        refine go_aload_n 131 dX9_passesOn_130 rfl rfl ?_
        refine g_getR 134 dX9_passesOn_131 rfl fF_RX9_16 ly_115 rfl ?_
        refine go_iload_n 135 dX9_passesOn_134 rfl rfl ?_
        refine g_iald 136 dX9_passesOn_135 rfl ly_118 hs ?_
        refine go_iload_n 137 dX9_passesOn_136 rfl rfl ?_
        refine g_callV 140 [.int _, .int _] [.int _] dX9_passesOn_137 rfl (ct_X9_asks _ _ _ (hk.1.2.1 (by rw [hc2]; decide) (by rw [hc2]; decide) (by rw [hc2]; decide))) rfl sV_X9_passesOn_217 rfl ly_115 rfl rfl (Nat.le_of_ble_eq_true rfl) (Nat.le_of_ble_eq_true rfl) (Nat.le_of_ble_eq_true rfl) ?_
        refine go_ior 141 dX9_passesOn_140 rfl ?_
        refine go_ireturn dX9_passesOn_141 rfl (by first | rfl | exact b01 ak01 | exact b01 (or01 ak01 ak01) | exact b01 (or01 (or01 ak01 ak01) ak01) | exact b01 ak02) (Nat.le_of_ble_eq_true rfl) (Nat.le_of_ble_eq_true rfl) ?_
        rw [poF_3 hc1 (Or.inl hc2)]
        unfold upB
        first | (rw [if_pos (by assumption)]; exact ⟨rfl, rfl⟩) | (rw [if_neg (by assumption)]; exact ⟨rfl, rfl⟩)
      · refine go_iconst 104 (-1) dX9_passesOn_103 rfl (by decide) ?_
        refine go_goto 117 dX9_passesOn_104 (by decide) ?_
        refine go_istore_n 118 [(3, .int _), (2, .int _), (0, .ref 115), (1, .int _)] dX9_passesOn_117 rfl (Nat.le_of_ble_eq_true rfl) rfl ?_
        refine go_aload_n 119 dX9_passesOn_118 rfl rfl ?_
        refine go_aload_n 120 dX9_passesOn_119 rfl rfl ?_
        refine g_getR 123 dX9_passesOn_120 rfl fF_RX9_13 ly_115 rfl ?_
        refine go_iload_n 124 dX9_passesOn_123 rfl rfl ?_
        refine g_iald 125 dX9_passesOn_124 rfl ly_117 hs ?_
        refine go_iload_n 126 dX9_passesOn_125 rfl rfl ?_
        refine g_callV 129 [.int _, .int _] [] dX9_passesOn_126 rfl (ct_X9_asks _ _ _ (hk.1.1 (by rw [hc2]; decide))) rfl sV_X9_passesOn_217 rfl ly_115 rfl rfl (Nat.le_of_ble_eq_true rfl) (Nat.le_of_ble_eq_true rfl) (Nat.le_of_ble_eq_true rfl) ?_
        refine go_aload_n 130 dX9_passesOn_129 rfl rfl ?_
        refine go_aload_n 131 dX9_passesOn_130 rfl rfl ?_
        refine g_getR 134 dX9_passesOn_131 rfl fF_RX9_16 ly_115 rfl ?_
        refine go_iload_n 135 dX9_passesOn_134 rfl rfl ?_
        refine g_iald 136 dX9_passesOn_135 rfl ly_118 hs ?_
        refine go_iload_n 137 dX9_passesOn_136 rfl rfl ?_
        refine g_callV 140 [.int _, .int _] [.int _] dX9_passesOn_137 rfl (ct_X9_asks _ _ _ (hk.1.2.1 (by rw [hc2]; decide) (by rw [hc2]; decide) (by rw [hc2]; decide))) rfl sV_X9_passesOn_217 rfl ly_115 rfl rfl (Nat.le_of_ble_eq_true rfl) (Nat.le_of_ble_eq_true rfl) (Nat.le_of_ble_eq_true rfl) ?_
        refine go_ior 141 dX9_passesOn_140 rfl ?_
        refine go_ireturn dX9_passesOn_141 rfl (by first | rfl | exact b01 ak01 | exact b01 (or01 ak01 ak01) | exact b01 (or01 (or01 ak01 ak01) ak01) | exact b01 ak02) (Nat.le_of_ble_eq_true rfl) (Nat.le_of_ble_eq_true rfl) ?_
        rw [poF_3 hc1 (Or.inl hc2)]
        unfold upB
        first | (rw [if_pos (by assumption)]; exact ⟨rfl, rfl⟩) | (rw [if_neg (by assumption)]; exact ⟨rfl, rfl⟩)
    · refine go_iload_n 95 dX9_passesOn_94 rfl rfl ?_
      refine g_callS 98 [.int _] [] dX9_passesOn_95 rfl (ct_X9_highest _ _) rfl sV_X9_passesOn_220 rfl (Nat.le_of_ble_eq_true rfl) (Nat.le_of_ble_eq_true rfl) (Nat.le_of_ble_eq_true rfl) ?_
      refine go_bipush 100 (31) dX9_passesOn_98 rfl (by decide) ?_
      refine go_icmp_ne 103 107 dX9_passesOn_100 rfl (by decide) (fun hc4 => ?_) (fun hc4 => ?_)
      · refine go_iconst 108 (1) dX9_passesOn_107 rfl (by decide) ?_
        refine go_iload_n 109 dX9_passesOn_108 rfl rfl ?_
        refine g_callS 112 [.int _] [.int _] dX9_passesOn_109 rfl (ct_X9_highest _ _) rfl sV_X9_passesOn_220 rfl (Nat.le_of_ble_eq_true rfl) (Nat.le_of_ble_eq_true rfl) (Nat.le_of_ble_eq_true rfl) ?_
        refine go_iconst 113 (1) dX9_passesOn_112 rfl (by decide) ?_
        refine go_iadd 114 dX9_passesOn_113 rfl ?_
        refine go_ishl 115 dX9_passesOn_114 rfl ?_
        refine go_iconst 116 (1) dX9_passesOn_115 rfl (by decide) ?_
        refine go_isub 117 dX9_passesOn_116 rfl ?_
        refine go_istore_n 118 [(3, .int _), (2, .int _), (0, .ref 115), (1, .int _)] dX9_passesOn_117 rfl (Nat.le_of_ble_eq_true rfl) rfl ?_
        refine go_aload_n 119 dX9_passesOn_118 rfl rfl ?_
        refine go_aload_n 120 dX9_passesOn_119 rfl rfl ?_
        refine g_getR 123 dX9_passesOn_120 rfl fF_RX9_13 ly_115 rfl ?_
        refine go_iload_n 124 dX9_passesOn_123 rfl rfl ?_
        refine g_iald 125 dX9_passesOn_124 rfl ly_117 hs ?_
        refine go_iload_n 126 dX9_passesOn_125 rfl rfl ?_
        refine g_callV 129 [.int _, .int _] [] dX9_passesOn_126 rfl (ct_X9_asks _ _ _ (hk.1.1 (by rw [hc2]; decide))) rfl sV_X9_passesOn_217 rfl ly_115 rfl rfl (Nat.le_of_ble_eq_true rfl) (Nat.le_of_ble_eq_true rfl) (Nat.le_of_ble_eq_true rfl) ?_
        refine go_aload_n 130 dX9_passesOn_129 rfl rfl ?_
        refine go_aload_n 131 dX9_passesOn_130 rfl rfl ?_
        refine g_getR 134 dX9_passesOn_131 rfl fF_RX9_16 ly_115 rfl ?_
        refine go_iload_n 135 dX9_passesOn_134 rfl rfl ?_
        refine g_iald 136 dX9_passesOn_135 rfl ly_118 hs ?_
        refine go_iload_n 137 dX9_passesOn_136 rfl rfl ?_
        refine g_callV 140 [.int _, .int _] [.int _] dX9_passesOn_137 rfl (ct_X9_asks _ _ _ (hk.1.2.1 (by rw [hc2]; decide) (by rw [hc2]; decide) (by rw [hc2]; decide))) rfl sV_X9_passesOn_217 rfl ly_115 rfl rfl (Nat.le_of_ble_eq_true rfl) (Nat.le_of_ble_eq_true rfl) (Nat.le_of_ble_eq_true rfl) ?_
        refine go_ior 141 dX9_passesOn_140 rfl ?_
        refine go_ireturn dX9_passesOn_141 rfl (by first | rfl | exact b01 ak01 | exact b01 (or01 ak01 ak01) | exact b01 (or01 (or01 ak01 ak01) ak01) | exact b01 ak02) (Nat.le_of_ble_eq_true rfl) (Nat.le_of_ble_eq_true rfl) ?_
        rw [poF_3 hc1 (Or.inr (Or.inl hc2))]
        unfold upB
        first | (rw [if_pos (by assumption)]; exact ⟨rfl, rfl⟩) | (rw [if_neg (by assumption)]; exact ⟨rfl, rfl⟩)
      · refine go_iconst 104 (-1) dX9_passesOn_103 rfl (by decide) ?_
        refine go_goto 117 dX9_passesOn_104 (by decide) ?_
        refine go_istore_n 118 [(3, .int _), (2, .int _), (0, .ref 115), (1, .int _)] dX9_passesOn_117 rfl (Nat.le_of_ble_eq_true rfl) rfl ?_
        refine go_aload_n 119 dX9_passesOn_118 rfl rfl ?_
        refine go_aload_n 120 dX9_passesOn_119 rfl rfl ?_
        refine g_getR 123 dX9_passesOn_120 rfl fF_RX9_13 ly_115 rfl ?_
        refine go_iload_n 124 dX9_passesOn_123 rfl rfl ?_
        refine g_iald 125 dX9_passesOn_124 rfl ly_117 hs ?_
        refine go_iload_n 126 dX9_passesOn_125 rfl rfl ?_
        refine g_callV 129 [.int _, .int _] [] dX9_passesOn_126 rfl (ct_X9_asks _ _ _ (hk.1.1 (by rw [hc2]; decide))) rfl sV_X9_passesOn_217 rfl ly_115 rfl rfl (Nat.le_of_ble_eq_true rfl) (Nat.le_of_ble_eq_true rfl) (Nat.le_of_ble_eq_true rfl) ?_
        refine go_aload_n 130 dX9_passesOn_129 rfl rfl ?_
        refine go_aload_n 131 dX9_passesOn_130 rfl rfl ?_
        refine g_getR 134 dX9_passesOn_131 rfl fF_RX9_16 ly_115 rfl ?_
        refine go_iload_n 135 dX9_passesOn_134 rfl rfl ?_
        refine g_iald 136 dX9_passesOn_135 rfl ly_118 hs ?_
        refine go_iload_n 137 dX9_passesOn_136 rfl rfl ?_
        refine g_callV 140 [.int _, .int _] [.int _] dX9_passesOn_137 rfl (ct_X9_asks _ _ _ (hk.1.2.1 (by rw [hc2]; decide) (by rw [hc2]; decide) (by rw [hc2]; decide))) rfl sV_X9_passesOn_217 rfl ly_115 rfl rfl (Nat.le_of_ble_eq_true rfl) (Nat.le_of_ble_eq_true rfl) (Nat.le_of_ble_eq_true rfl) ?_
        refine go_ior 141 dX9_passesOn_140 rfl ?_
        refine go_ireturn dX9_passesOn_141 rfl (by first | rfl | exact b01 ak01 | exact b01 (or01 ak01 ak01) | exact b01 (or01 (or01 ak01 ak01) ak01) | exact b01 ak02) (Nat.le_of_ble_eq_true rfl) (Nat.le_of_ble_eq_true rfl) ?_
        rw [poF_3 hc1 (Or.inr (Or.inl hc2))]
        unfold upB
        first | (rw [if_pos (by assumption)]; exact ⟨rfl, rfl⟩) | (rw [if_neg (by assumption)]; exact ⟨rfl, rfl⟩)
    · refine go_iload_n 95 dX9_passesOn_94 rfl rfl ?_
      refine g_callS 98 [.int _] [] dX9_passesOn_95 rfl (ct_X9_highest _ _) rfl sV_X9_passesOn_220 rfl (Nat.le_of_ble_eq_true rfl) (Nat.le_of_ble_eq_true rfl) (Nat.le_of_ble_eq_true rfl) ?_
      refine go_bipush 100 (31) dX9_passesOn_98 rfl (by decide) ?_
      refine go_icmp_ne 103 107 dX9_passesOn_100 rfl (by decide) (fun hc5 => ?_) (fun hc5 => ?_)
      · refine go_iconst 108 (1) dX9_passesOn_107 rfl (by decide) ?_
        refine go_iload_n 109 dX9_passesOn_108 rfl rfl ?_
        refine g_callS 112 [.int _] [.int _] dX9_passesOn_109 rfl (ct_X9_highest _ _) rfl sV_X9_passesOn_220 rfl (Nat.le_of_ble_eq_true rfl) (Nat.le_of_ble_eq_true rfl) (Nat.le_of_ble_eq_true rfl) ?_
        refine go_iconst 113 (1) dX9_passesOn_112 rfl (by decide) ?_
        refine go_iadd 114 dX9_passesOn_113 rfl ?_
        refine go_ishl 115 dX9_passesOn_114 rfl ?_
        refine go_iconst 116 (1) dX9_passesOn_115 rfl (by decide) ?_
        refine go_isub 117 dX9_passesOn_116 rfl ?_
        refine go_istore_n 118 [(3, .int _), (2, .int _), (0, .ref 115), (1, .int _)] dX9_passesOn_117 rfl (Nat.le_of_ble_eq_true rfl) rfl ?_
        refine go_aload_n 119 dX9_passesOn_118 rfl rfl ?_
        refine go_aload_n 120 dX9_passesOn_119 rfl rfl ?_
        refine g_getR 123 dX9_passesOn_120 rfl fF_RX9_13 ly_115 rfl ?_
        refine go_iload_n 124 dX9_passesOn_123 rfl rfl ?_
        refine g_iald 125 dX9_passesOn_124 rfl ly_117 hs ?_
        refine go_iload_n 126 dX9_passesOn_125 rfl rfl ?_
        refine g_callV 129 [.int _, .int _] [] dX9_passesOn_126 rfl (ct_X9_asks _ _ _ (hk.1.1 (by rw [hc2]; decide))) rfl sV_X9_passesOn_217 rfl ly_115 rfl rfl (Nat.le_of_ble_eq_true rfl) (Nat.le_of_ble_eq_true rfl) (Nat.le_of_ble_eq_true rfl) ?_
        refine go_aload_n 130 dX9_passesOn_129 rfl rfl ?_
        refine go_aload_n 131 dX9_passesOn_130 rfl rfl ?_
        refine g_getR 134 dX9_passesOn_131 rfl fF_RX9_16 ly_115 rfl ?_
        refine go_iload_n 135 dX9_passesOn_134 rfl rfl ?_
        refine g_iald 136 dX9_passesOn_135 rfl ly_118 hs ?_
        refine go_iload_n 137 dX9_passesOn_136 rfl rfl ?_
        refine g_callV 140 [.int _, .int _] [.int _] dX9_passesOn_137 rfl (ct_X9_asks _ _ _ (hk.1.2.1 (by rw [hc2]; decide) (by rw [hc2]; decide) (by rw [hc2]; decide))) rfl sV_X9_passesOn_217 rfl ly_115 rfl rfl (Nat.le_of_ble_eq_true rfl) (Nat.le_of_ble_eq_true rfl) (Nat.le_of_ble_eq_true rfl) ?_
        refine go_ior 141 dX9_passesOn_140 rfl ?_
        refine go_ireturn dX9_passesOn_141 rfl (by first | rfl | exact b01 ak01 | exact b01 (or01 ak01 ak01) | exact b01 (or01 (or01 ak01 ak01) ak01) | exact b01 ak02) (Nat.le_of_ble_eq_true rfl) (Nat.le_of_ble_eq_true rfl) ?_
        rw [poF_3 hc1 (Or.inr (Or.inr hc2))]
        unfold upB
        first | (rw [if_pos (by assumption)]; exact ⟨rfl, rfl⟩) | (rw [if_neg (by assumption)]; exact ⟨rfl, rfl⟩)
      · refine go_iconst 104 (-1) dX9_passesOn_103 rfl (by decide) ?_
        refine go_goto 117 dX9_passesOn_104 (by decide) ?_
        refine go_istore_n 118 [(3, .int _), (2, .int _), (0, .ref 115), (1, .int _)] dX9_passesOn_117 rfl (Nat.le_of_ble_eq_true rfl) rfl ?_
        refine go_aload_n 119 dX9_passesOn_118 rfl rfl ?_
        refine go_aload_n 120 dX9_passesOn_119 rfl rfl ?_
        refine g_getR 123 dX9_passesOn_120 rfl fF_RX9_13 ly_115 rfl ?_
        refine go_iload_n 124 dX9_passesOn_123 rfl rfl ?_
        refine g_iald 125 dX9_passesOn_124 rfl ly_117 hs ?_
        refine go_iload_n 126 dX9_passesOn_125 rfl rfl ?_
        refine g_callV 129 [.int _, .int _] [] dX9_passesOn_126 rfl (ct_X9_asks _ _ _ (hk.1.1 (by rw [hc2]; decide))) rfl sV_X9_passesOn_217 rfl ly_115 rfl rfl (Nat.le_of_ble_eq_true rfl) (Nat.le_of_ble_eq_true rfl) (Nat.le_of_ble_eq_true rfl) ?_
        refine go_aload_n 130 dX9_passesOn_129 rfl rfl ?_
        refine go_aload_n 131 dX9_passesOn_130 rfl rfl ?_
        refine g_getR 134 dX9_passesOn_131 rfl fF_RX9_16 ly_115 rfl ?_
        refine go_iload_n 135 dX9_passesOn_134 rfl rfl ?_
        refine g_iald 136 dX9_passesOn_135 rfl ly_118 hs ?_
        refine go_iload_n 137 dX9_passesOn_136 rfl rfl ?_
        refine g_callV 140 [.int _, .int _] [.int _] dX9_passesOn_137 rfl (ct_X9_asks _ _ _ (hk.1.2.1 (by rw [hc2]; decide) (by rw [hc2]; decide) (by rw [hc2]; decide))) rfl sV_X9_passesOn_217 rfl ly_115 rfl rfl (Nat.le_of_ble_eq_true rfl) (Nat.le_of_ble_eq_true rfl) (Nat.le_of_ble_eq_true rfl) ?_
        refine go_ior 141 dX9_passesOn_140 rfl ?_
        refine go_ireturn dX9_passesOn_141 rfl (by first | rfl | exact b01 ak01 | exact b01 (or01 ak01 ak01) | exact b01 (or01 (or01 ak01 ak01) ak01) | exact b01 ak02) (Nat.le_of_ble_eq_true rfl) (Nat.le_of_ble_eq_true rfl) ?_
        rw [poF_3 hc1 (Or.inr (Or.inr hc2))]
        unfold upB
        first | (rw [if_pos (by assumption)]; exact ⟨rfl, rfl⟩) | (rw [if_neg (by assumption)]; exact ⟨rfl, rfl⟩)
    · refine go_aload_n 143 dX9_passesOn_142 rfl rfl ?_
      refine go_iload_n 144 dX9_passesOn_143 rfl rfl ?_
      refine go_iload_n 145 dX9_passesOn_144 rfl rfl ?_
      refine g_callV 148 [.int _, .int _] [] dX9_passesOn_145 rfl (ct_X9_asksLogic _ _ _ hs (hk.1.1 (by rw [hc2]; decide)) (hk.1.2.1 (by rw [hc2]; decide) (by rw [hc2]; decide) (by rw [hc2]; decide))) rfl sV_X9_passesOn_223 rfl ly_115 rfl rfl (Nat.le_of_ble_eq_true rfl) (Nat.le_of_ble_eq_true rfl) (Nat.le_of_ble_eq_true rfl) ?_
      refine go_ireturn dX9_passesOn_148 rfl (by first | rfl | exact b01 ak01 | exact b01 (or01 ak01 ak01) | exact b01 (or01 (or01 ak01 ak01) ak01) | exact b01 ak02) (Nat.le_of_ble_eq_true rfl) (Nat.le_of_ble_eq_true rfl) ?_
      rw [poF_6 hc1 (Or.inl hc2)]
      exact ⟨rfl, rfl⟩
    · refine go_aload_n 143 dX9_passesOn_142 rfl rfl ?_
      refine go_iload_n 144 dX9_passesOn_143 rfl rfl ?_
      refine go_iload_n 145 dX9_passesOn_144 rfl rfl ?_
      refine g_callV 148 [.int _, .int _] [] dX9_passesOn_145 rfl (ct_X9_asksLogic _ _ _ hs (hk.1.1 (by rw [hc2]; decide)) (hk.1.2.1 (by rw [hc2]; decide) (by rw [hc2]; decide) (by rw [hc2]; decide))) rfl sV_X9_passesOn_223 rfl ly_115 rfl rfl (Nat.le_of_ble_eq_true rfl) (Nat.le_of_ble_eq_true rfl) (Nat.le_of_ble_eq_true rfl) ?_
      refine go_ireturn dX9_passesOn_148 rfl (by first | rfl | exact b01 ak01 | exact b01 (or01 ak01 ak01) | exact b01 (or01 (or01 ak01 ak01) ak01) | exact b01 ak02) (Nat.le_of_ble_eq_true rfl) (Nat.le_of_ble_eq_true rfl) ?_
      rw [poF_6 hc1 (Or.inr (Or.inl hc2))]
      exact ⟨rfl, rfl⟩
    · refine go_aload_n 143 dX9_passesOn_142 rfl rfl ?_
      refine go_iload_n 144 dX9_passesOn_143 rfl rfl ?_
      refine go_iload_n 145 dX9_passesOn_144 rfl rfl ?_
      refine g_callV 148 [.int _, .int _] [] dX9_passesOn_145 rfl (ct_X9_asksLogic _ _ _ hs (hk.1.1 (by rw [hc2]; decide)) (hk.1.2.1 (by rw [hc2]; decide) (by rw [hc2]; decide) (by rw [hc2]; decide))) rfl sV_X9_passesOn_223 rfl ly_115 rfl rfl (Nat.le_of_ble_eq_true rfl) (Nat.le_of_ble_eq_true rfl) (Nat.le_of_ble_eq_true rfl) ?_
      refine go_ireturn dX9_passesOn_148 rfl (by first | rfl | exact b01 ak01 | exact b01 (or01 ak01 ak01) | exact b01 (or01 (or01 ak01 ak01) ak01) | exact b01 ak02) (Nat.le_of_ble_eq_true rfl) (Nat.le_of_ble_eq_true rfl) ?_
      rw [poF_6 hc1 (Or.inr (Or.inr hc2))]
      exact ⟨rfl, rfl⟩
    · refine go_aload_n 150 dX9_passesOn_149 rfl rfl ?_
      refine go_aload_n 151 dX9_passesOn_150 rfl rfl ?_
      refine g_getR 154 dX9_passesOn_151 rfl fF_RX9_13 ly_115 rfl ?_
      refine go_iload_n 155 dX9_passesOn_154 rfl rfl ?_
      refine g_iald 156 dX9_passesOn_155 rfl ly_117 hs ?_
      refine go_iload_n 157 dX9_passesOn_156 rfl rfl ?_
      refine go_aload_n 158 dX9_passesOn_157 rfl rfl ?_
      refine g_getR 161 dX9_passesOn_158 rfl fF_RX9_16 ly_115 rfl ?_
      refine go_iload_n 162 dX9_passesOn_161 rfl rfl ?_
      refine g_iald 163 dX9_passesOn_162 rfl ly_118 hs ?_
      refine go_iushr 164 dX9_passesOn_163 rfl ?_
      refine g_callV 167 [.int _, .int _] [] dX9_passesOn_164 rfl (ct_X9_asks _ _ _ (hk.1.1 (by rw [hc2]; decide))) rfl sV_X9_passesOn_217 rfl ly_115 rfl rfl (Nat.le_of_ble_eq_true rfl) (Nat.le_of_ble_eq_true rfl) (Nat.le_of_ble_eq_true rfl) ?_
      refine go_ireturn dX9_passesOn_167 rfl (by first | rfl | exact b01 ak01 | exact b01 (or01 ak01 ak01) | exact b01 (or01 (or01 ak01 ak01) ak01) | exact b01 ak02) (Nat.le_of_ble_eq_true rfl) (Nat.le_of_ble_eq_true rfl) ?_
      rw [poF_9 hc1 hc2]
      exact ⟨rfl, rfl⟩
    · refine go_aload_n 169 dX9_passesOn_168 rfl rfl ?_
      refine go_aload_n 170 dX9_passesOn_169 rfl rfl ?_
      refine g_getR 173 dX9_passesOn_170 rfl fF_RX9_13 ly_115 rfl ?_
      refine go_iload_n 174 dX9_passesOn_173 rfl rfl ?_
      refine g_iald 175 dX9_passesOn_174 rfl ly_117 hs ?_
      refine go_iload_n 176 dX9_passesOn_175 rfl rfl ?_
      refine go_aload_n 177 dX9_passesOn_176 rfl rfl ?_
      refine g_getR 180 dX9_passesOn_177 rfl fF_RX9_16 ly_115 rfl ?_
      refine go_iload_n 181 dX9_passesOn_180 rfl rfl ?_
      refine g_iald 182 dX9_passesOn_181 rfl ly_118 hs ?_
      refine go_ishl 183 dX9_passesOn_182 rfl ?_
      refine go_iload_n 184 dX9_passesOn_183 rfl rfl ?_
      refine go_bipush 186 (31) dX9_passesOn_184 rfl (by decide) ?_
      refine go_aload_n 187 dX9_passesOn_186 rfl rfl ?_
      refine g_getR 190 dX9_passesOn_187 rfl fF_RX9_16 ly_115 rfl ?_
      refine go_iload_n 191 dX9_passesOn_190 rfl rfl ?_
      refine g_iald 192 dX9_passesOn_191 rfl ly_118 hs ?_
      refine go_isub 193 dX9_passesOn_192 rfl ?_
      refine go_iushr 194 dX9_passesOn_193 rfl ?_
      refine go_if_eq 197 202 dX9_passesOn_194 rfl (by decide) (fun hc6 => ?_) (fun hc6 => ?_)
      · refine go_iconst 203 (0) dX9_passesOn_202 rfl (by decide) ?_
        refine go_ior 204 dX9_passesOn_203 rfl ?_
        refine g_callV 207 [.int _, .int _] [] dX9_passesOn_204 rfl (ct_X9_asks _ _ _ (hk.1.1 (by rw [hc2]; decide))) rfl sV_X9_passesOn_217 rfl ly_115 rfl rfl (Nat.le_of_ble_eq_true rfl) (Nat.le_of_ble_eq_true rfl) (Nat.le_of_ble_eq_true rfl) ?_
        refine go_ireturn dX9_passesOn_207 rfl (by first | rfl | exact b01 ak01 | exact b01 (or01 ak01 ak01) | exact b01 (or01 (or01 ak01 ak01) ak01) | exact b01 ak02) (Nat.le_of_ble_eq_true rfl) (Nat.le_of_ble_eq_true rfl) ?_
        rw [poF_10 hc1 hc2 (by first | exact if_pos (by assumption) | exact if_neg (by assumption))]
        exact ⟨rfl, rfl⟩
      · refine go_ldc 199 (-2147483648) dX9_passesOn_197 rfl wK_RX9_226 ?_
        refine go_goto 203 dX9_passesOn_199 (by decide) ?_
        refine go_ior 204 dX9_passesOn_203 rfl ?_
        refine g_callV 207 [.int _, .int _] [] dX9_passesOn_204 rfl (ct_X9_asks _ _ _ (hk.1.1 (by rw [hc2]; decide))) rfl sV_X9_passesOn_217 rfl ly_115 rfl rfl (Nat.le_of_ble_eq_true rfl) (Nat.le_of_ble_eq_true rfl) (Nat.le_of_ble_eq_true rfl) ?_
        refine go_ireturn dX9_passesOn_207 rfl (by first | rfl | exact b01 ak01 | exact b01 (or01 ak01 ak01) | exact b01 (or01 (or01 ak01 ak01) ak01) | exact b01 ak02) (Nat.le_of_ble_eq_true rfl) (Nat.le_of_ble_eq_true rfl) ?_
        rw [poF_10 hc1 hc2 (by first | exact if_pos (by assumption) | exact if_neg (by assumption))]
        exact ⟨rfl, rfl⟩
    · refine go_aload_n 209 dX9_passesOn_208 rfl rfl ?_
      refine go_aload_n 210 dX9_passesOn_209 rfl rfl ?_
      refine g_getR 213 dX9_passesOn_210 rfl fF_RX9_13 ly_115 rfl ?_
      refine go_iload_n 214 dX9_passesOn_213 rfl rfl ?_
      refine g_iald 215 dX9_passesOn_214 rfl ly_117 hs ?_
      refine go_iconst 216 (-1) dX9_passesOn_215 rfl (by decide) ?_
      refine g_callV 219 [.int _, .int _] [] dX9_passesOn_216 rfl (ct_X9_asks _ _ _ (hk.1.1 (by rw [hc2]; decide))) rfl sV_X9_passesOn_217 rfl ly_115 rfl rfl (Nat.le_of_ble_eq_true rfl) (Nat.le_of_ble_eq_true rfl) (Nat.le_of_ble_eq_true rfl) ?_
      refine go_aload_n 220 dX9_passesOn_219 rfl rfl ?_
      refine go_aload_n 221 dX9_passesOn_220 rfl rfl ?_
      refine g_getR 224 dX9_passesOn_221 rfl fF_RX9_16 ly_115 rfl ?_
      refine go_iload_n 225 dX9_passesOn_224 rfl rfl ?_
      refine g_iald 226 dX9_passesOn_225 rfl ly_118 hs ?_
      refine go_iconst 227 (-1) dX9_passesOn_226 rfl (by decide) ?_
      refine g_callV 230 [.int _, .int _] [.int _] dX9_passesOn_227 rfl (ct_X9_asks _ _ _ (hk.1.2.1 (by rw [hc2]; decide) (by rw [hc2]; decide) (by rw [hc2]; decide))) rfl sV_X9_passesOn_217 rfl ly_115 rfl rfl (Nat.le_of_ble_eq_true rfl) (Nat.le_of_ble_eq_true rfl) (Nat.le_of_ble_eq_true rfl) ?_
      refine go_ior 231 dX9_passesOn_230 rfl ?_
      refine go_ireturn dX9_passesOn_231 rfl (by first | rfl | exact b01 ak01 | exact b01 (or01 ak01 ak01) | exact b01 (or01 (or01 ak01 ak01) ak01) | exact b01 ak02) (Nat.le_of_ble_eq_true rfl) (Nat.le_of_ble_eq_true rfl) ?_
      rw [poF_11 hc1 hc2]
      exact ⟨rfl, rfl⟩
    · have hk12 : rI S 116 s.toNatClampNeg = 12 := hk.1.twelve2 rfl hc2
      refine go_aload_n 233 dX9_passesOn_232 rfl rfl ?_
      refine go_aload_n 234 dX9_passesOn_233 rfl rfl ?_
      refine g_getR 237 dX9_passesOn_234 rfl fF_RX9_13 ly_115 rfl ?_
      refine go_iload_n 238 dX9_passesOn_237 rfl rfl ?_
      refine g_iald 239 dX9_passesOn_238 rfl ly_117 hs ?_
      refine go_iconst 240 (-1) dX9_passesOn_239 rfl (by decide) ?_
      refine g_callV 243 [.int _, .int _] [] dX9_passesOn_240 rfl (ct_X9_asks _ _ _ (hk.1.1 (by rw [hk12]; decide))) rfl sV_X9_passesOn_217 rfl ly_115 rfl rfl (Nat.le_of_ble_eq_true rfl) (Nat.le_of_ble_eq_true rfl) (Nat.le_of_ble_eq_true rfl) ?_
      refine go_aload_n 244 dX9_passesOn_243 rfl rfl ?_
      refine go_aload_n 245 dX9_passesOn_244 rfl rfl ?_
      refine g_getR 248 dX9_passesOn_245 rfl fF_RX9_16 ly_115 rfl ?_
      refine go_iload_n 249 dX9_passesOn_248 rfl rfl ?_
      refine g_iald 250 dX9_passesOn_249 rfl ly_118 hs ?_
      refine go_iload_n 251 dX9_passesOn_250 rfl rfl ?_
      refine g_callV 254 [.int _, .int _] [.int _] dX9_passesOn_251 rfl (ct_X9_asks _ _ _ (hk.1.2.1 (by rw [hk12]; decide) (by rw [hk12]; decide) (by rw [hk12]; decide))) rfl sV_X9_passesOn_217 rfl ly_115 rfl rfl (Nat.le_of_ble_eq_true rfl) (Nat.le_of_ble_eq_true rfl) (Nat.le_of_ble_eq_true rfl) ?_
      refine go_ior 255 dX9_passesOn_254 rfl ?_
      refine go_aload_n 256 dX9_passesOn_255 rfl rfl ?_
      refine go_aload_n 257 dX9_passesOn_256 rfl rfl ?_
      refine g_getR 260 dX9_passesOn_257 rfl fF_RX9_19 ly_115 rfl ?_
      refine go_iload_n 261 dX9_passesOn_260 rfl rfl ?_
      refine g_iald 262 dX9_passesOn_261 rfl ly_119 hs ?_
      refine go_iload_n 263 dX9_passesOn_262 rfl rfl ?_
      refine g_callV 266 [.int _, .int _] [.int _] dX9_passesOn_263 rfl (ct_X9_asks _ _ _ (hk.1.2.2.1 hk12)) rfl sV_X9_passesOn_217 rfl ly_115 rfl rfl (Nat.le_of_ble_eq_true rfl) (Nat.le_of_ble_eq_true rfl) (Nat.le_of_ble_eq_true rfl) ?_
      refine go_ior 267 dX9_passesOn_266 rfl ?_
      refine go_ireturn dX9_passesOn_267 rfl (by first | rfl | exact b01 ak01 | exact b01 (or01 ak01 ak01) | exact b01 (or01 (or01 ak01 ak01) ak01) | exact b01 ak02) (Nat.le_of_ble_eq_true rfl) (Nat.le_of_ble_eq_true rfl) ?_
      rw [poF_12 hc1 hk12]
      exact ⟨rfl, rfl⟩
  · refine go_iconst 12 (0) dX9_passesOn_11 rfl (by decide) ?_
    refine go_ireturn dX9_passesOn_12 rfl (by first | rfl | exact b01 ak01 | exact b01 (or01 ak01 ak01) | exact b01 (or01 (or01 ak01 ak01) ak01) | exact b01 ak02) (Nat.le_of_ble_eq_true rfl) (Nat.le_of_ble_eq_true rfl) ?_
    rw [poF_z hc1]
    exact ⟨rfl, rfl⟩

