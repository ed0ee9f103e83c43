-- needs 
theorem fw_ok {S : gS} {k : Nat} {n : Int32} (h : f_X2_firstWrongOperand S k n < 0) : (f_X2_isWrongConstant S k 0 = 0 ∧ f_X2_isWrongConstant S k 1 = 0 ∧ f_X2_isWrongConstant S k 2 = 0) ∧ f_X2_isMissingSignal S k 0 n = 0 ∧ f_X2_isMissingSignal S k 1 n = 0 ∧ f_X2_isMissingSignal S k 2 n = 0 := by
  unfold f_X2_firstWrongOperand at h
  by_cases a0 : f_X2_isWrongConstant S k 0 = 0
  · rw [if_pos a0] at h
    by_cases b0 : f_X2_isMissingSignal S k 0 n = 0
    · rw [if_pos b0] at h
      by_cases a1 : f_X2_isWrongConstant S k 1 = 0
      · rw [if_pos a1] at h
        by_cases b1 : f_X2_isMissingSignal S k 1 n = 0
        · rw [if_pos b1] at h
          by_cases a2 : f_X2_isWrongConstant S k 2 = 0
          · rw [if_pos a2] at h
            by_cases b2 : f_X2_isMissingSignal S k 2 n = 0
            · exact ⟨⟨a0, a1, a2⟩, b0, b1, b2⟩
            · rw [if_neg b2] at h; exact absurd h (by decide)
          · rw [if_neg a2] at h; exact absurd h (by decide)
        · rw [if_neg b1] at h; exact absurd h (by decide)
      · rw [if_neg a1] at h; exact absurd h (by decide)
    · rw [if_neg b0] at h; exact absurd h (by decide)
  · rw [if_neg a0] at h; exact absurd h (by decide)
theorem role_big {S : gS} {k : Nat} (h : (12 : Int32) < rI S k 0) : f_X2_roleOf S k 0 = 2 := by
  unfold f_X2_roleOf
  have g : ∀ v : Int32, v ≤ 12 → ¬ rI S k 0 = v := fun v hv q => by
    rw [q] at h
    exact absurd h (Int32.not_lt.mpr hv)
  rw [if_neg (g 0 (by decide)), if_neg (g 1 (by decide)), if_neg (g 2 (by decide)), if_neg (g 3 (by decide)), if_neg (g 4 (by decide)), if_neg (g 5 (by decide)), if_neg (g 6 (by decide)), if_neg (g 7 (by decide)), if_neg (g 8 (by decide)), if_neg (g 9 (by decide)), if_neg (g 10 (by decide)), if_neg (g 11 (by decide)), if_neg (g 12 (by decide))]
  (repeat' split) <;> first | rfl | (exfalso; rename_i q; exact absurd q (by decide)) | contradiction
theorem co_sgn {S : gS} {k n : Nat} (hn : rI S 1 0 = nI n) (h1 : f_X2_firstWrongOperand S k (rI S 1 0) < 0) (h2 : (12 : Int32) < rI S k 0) : sgn (nI n) (rI S (k + 1) 0) := by
  rw [hn] at h1
  exact miss_0 (fw_ok h1).2.1 (role_big h2)
def f_X8_carryOut (S : gS) (k : Nat) (i : Int32) : Int32 × gS := (if (f_X2_firstWrongOperand S k ((rI S 1 0))) < 0 then (if (12 : Int32) < (rI S k 0) then (if (rI S k 0) = 14 then (1, (wI S 7 ((rI S (k + 1) 0)).toNatClampNeg ((vp_nar .boolean 1)))) else (if (rI S 2 ((rI S (k + 1) 0)).toNatClampNeg) = 2 then (1, (wI S 6 ((rI S (k + 1) 0)).toNatClampNeg ((rI S (k + 1) 1)))) else ((f_X8_refuse S i 7 0).1, (f_X8_refuse S i 7 0).2))) else (if (f_X0_isFull S) = 0 then (1, (f_X0_append S k)) else ((f_X8_refuse S i 6 0).1, (f_X8_refuse S i 6 0).2))) else (if (f_X2_isConstantAt S k ((f_X2_firstWrongOperand S k ((rI S 1 0))))) = 0 then ((f_X8_refuse S i 5 ((f_X2_firstWrongOperand S k ((rI S 1 0))))).1, (f_X8_refuse S i 5 ((f_X2_firstWrongOperand S k ((rI S 1 0))))).2) else ((f_X8_refuse S i 4 ((f_X2_firstWrongOperand S k ((rI S 1 0))))).1, (f_X8_refuse S i 4 ((f_X2_firstWrongOperand S k ((rI S 1 0))))).2)))
set_option maxRecDepth 100000 in
set_option maxHeartbeats 1000000 in
theorem ct_X8_carryOut (S : gS) (k : Nat) (i : Int32) (hk : itm k) (n : Nat) (ho : okC S n) : gF mX8_carryOut [.ref 0, .ref k, .int i] S (some (.int (f_X8_carryOut S k i).1)) (f_X8_carryOut S k i).2 := by
  refine go_enter [.ref 0, .ref k, .int i] [(0, .ref 0), (1, .ref k), (2, .int i)] (by decide +kernel) rfl rfl (Nat.le_of_ble_eq_true rfl) rfl ?_
  refine go_aload_n 1 dX8_carryOut_0 rfl rfl ?_
  refine go_aload_n 2 dX8_carryOut_1 rfl rfl ?_
  refine g_getR 5 dX8_carryOut_2 rfl fF_RX8_10 ly_0 rfl ?_
  refine g_getI 8 dX8_carryOut_5 rfl fF_RX8_98 ly_1 rfl ?_
  refine g_callV 11 [.int _] [] dX8_carryOut_8 rfl (ct_X2_firstWrongOperand _ _ _ hk) rfl sV_X8_carryOut_357 rfl hk.1 rfl rfl (Nat.le_of_ble_eq_true rfl) (Nat.le_of_ble_eq_true rfl) (Nat.le_of_ble_eq_true rfl) ?_
  refine go_istore_n 12 [(3, .int _), (0, .ref 0), (1, .ref k), (2, .int _)] dX8_carryOut_11 rfl (Nat.le_of_ble_eq_true rfl) rfl ?_
  refine go_iload_n 13 dX8_carryOut_12 rfl rfl ?_
  refine go_if_lt 16 40 dX8_carryOut_13 rfl (by decide) (fun hc1 => ?_) (fun hc1 => ?_)
  · refine go_aload_n 41 dX8_carryOut_40 rfl rfl ?_
    refine g_getI 44 dX8_carryOut_41 rfl fF_RX8_367 hk.1 rfl ?_
    refine go_bipush 46 (12) dX8_carryOut_44 rfl (by decide) ?_
    refine go_icmp_gt 49 78 dX8_carryOut_46 rfl (by decide) (fun hc2 => ?_) (fun hc2 => ?_)
    · have htg := vin_of (co_sgn ho.1 hc1 hc2) ho.2.1
      refine go_aload_n 79 dX8_carryOut_78 rfl rfl ?_
      refine g_getR 82 dX8_carryOut_79 rfl fF_RX8_369 hk.1 rfl ?_
      refine go_iconst 83 (0) dX8_carryOut_82 rfl (by decide) ?_
      refine g_iald2 84 0 dX8_carryOut_83 rfl hk.2 (by unfold vp_in; decide) rfl ?_
      refine go_istore 86 [(4, .int _), (3, .int _), (0, .ref 0), (1, .ref k), (2, .int _)] dX8_carryOut_84 rfl (Nat.le_of_ble_eq_true rfl) rfl ?_
      refine go_aload_n 87 dX8_carryOut_86 rfl rfl ?_
      refine g_getI 90 dX8_carryOut_87 rfl fF_RX8_367 hk.1 rfl ?_
      refine go_bipush 92 (14) dX8_carryOut_90 rfl (by decide) ?_
      refine go_icmp_ne 95 108 dX8_carryOut_92 rfl (by decide) (fun hc3 => ?_) (fun hc3 => ?_)
      · refine go_aload_n 109 dX8_carryOut_108 rfl rfl ?_
        refine g_getR 112 dX8_carryOut_109 rfl fF_RX8_10 ly_0 rfl ?_
        refine g_getR 115 dX8_carryOut_112 rfl fF_RX8_139 ly_1 rfl ?_
        refine go_iload 117 dX8_carryOut_115 rfl rfl ?_
        refine g_iald2 118 _ dX8_carryOut_117 rfl ly_2 htg rfl ?_
        refine go_iconst 119 (2) dX8_carryOut_118 rfl (by decide) ?_
        refine go_icmp_eq 122 131 dX8_carryOut_119 rfl (by decide) (fun hc4 => ?_) (fun hc4 => ?_)
        · refine go_aload_n 132 dX8_carryOut_131 rfl rfl ?_
          refine g_getR 135 dX8_carryOut_132 rfl fF_RX8_10 ly_0 rfl ?_
          refine g_getR 138 dX8_carryOut_135 rfl fF_RX8_148 ly_1 rfl ?_
          refine go_iload 140 dX8_carryOut_138 rfl rfl ?_
          refine go_aload_n 141 dX8_carryOut_140 rfl rfl ?_
          refine g_getR 144 dX8_carryOut_141 rfl fF_RX8_369 hk.1 rfl ?_
          refine go_iconst 145 (1) dX8_carryOut_144 rfl (by decide) ?_
          refine g_iald2 146 1 dX8_carryOut_145 rfl hk.2 (by unfold vp_in; decide) rfl ?_
          refine g_iast2 147 _ dX8_carryOut_146 rfl ly_6 htg rfl ?_
          refine go_iconst 148 (1) dX8_carryOut_147 rfl (by decide) ?_
          refine go_ireturn dX8_carryOut_148 rfl (by first | rfl | exact bi_nar) (Nat.le_of_ble_eq_true rfl) (Nat.le_of_ble_eq_true rfl) ?_
          exact ⟨congrArg (fun z => some (Value.int z)) (by unfold f_X8_carryOut; simp only [if_pos hc1, if_pos hc2, if_neg hc3, if_pos hc4]; try first | rfl | contradiction), congrArg hp (by unfold f_X8_carryOut; simp only [if_pos hc1, if_pos hc2, if_neg hc3, if_pos hc4]; try first | rfl | contradiction)⟩
        · refine go_aload_n 123 dX8_carryOut_122 rfl rfl ?_
          refine go_iload_n 124 dX8_carryOut_123 rfl rfl ?_
          refine go_bipush 126 (7) dX8_carryOut_124 rfl (by decide) ?_
          refine go_iconst 127 (0) dX8_carryOut_126 rfl (by decide) ?_
          refine g_callV 130 [.int _, .int _, .int _] [] dX8_carryOut_127 rfl (ct_X8_refuse _ _ _ _) rfl sV_X8_carryOut_363 rfl ly_0 rfl rfl (Nat.le_of_ble_eq_true rfl) (Nat.le_of_ble_eq_true rfl) (Nat.le_of_ble_eq_true rfl) ?_
          refine go_ireturn dX8_carryOut_130 rfl (nb_f_X8_refuse ..) (Nat.le_of_ble_eq_true rfl) (Nat.le_of_ble_eq_true rfl) ?_
          exact ⟨congrArg (fun z => some (Value.int z)) (by unfold f_X8_carryOut; simp only [if_pos hc1, if_pos hc2, if_neg hc3, if_neg hc4]; try first | rfl | contradiction), congrArg hp (by unfold f_X8_carryOut; simp only [if_pos hc1, if_pos hc2, if_neg hc3, if_neg hc4]; try first | rfl | contradiction)⟩
      · refine go_aload_n 96 dX8_carryOut_95 rfl rfl ?_
        refine g_getR 99 dX8_carryOut_96 rfl fF_RX8_10 ly_0 rfl ?_
        refine g_getR 102 dX8_carryOut_99 rfl fF_RX8_151 ly_1 rfl ?_
        refine go_iload 104 dX8_carryOut_102 rfl rfl ?_
        refine go_iconst 105 (1) dX8_carryOut_104 rfl (by decide) ?_
        refine g_zast2 106 _ dX8_carryOut_105 rfl ly_7 htg rfl ?_
        refine go_iconst 107 (1) dX8_carryOut_106 rfl (by decide) ?_
        refine go_ireturn dX8_carryOut_107 rfl (by first | rfl | exact bi_nar) (Nat.le_of_ble_eq_true rfl) (Nat.le_of_ble_eq_true rfl) ?_
        exact ⟨congrArg (fun z => some (Value.int z)) (by unfold f_X8_carryOut; simp only [if_pos hc1, if_pos hc2, if_pos hc3]; try first | rfl | contradiction), congrArg hp (by unfold f_X8_carryOut; simp only [if_pos hc1, if_pos hc2, if_pos hc3]; try first | rfl | contradiction)⟩
    · refine go_aload_n 50 dX8_carryOut_49 rfl rfl ?_
      refine g_getR 53 dX8_carryOut_50 rfl fF_RX8_10 ly_0 rfl ?_
      refine g_callV 56 [] [] dX8_carryOut_53 rfl (ct_X0_isFull _) rfl sV_X8_carryOut_111 rfl ly_1 rfl rfl (Nat.le_of_ble_eq_true rfl) (Nat.le_of_ble_eq_true rfl) (Nat.le_of_ble_eq_true rfl) ?_
      refine go_if_eq 59 68 dX8_carryOut_56 rfl (by decide) (fun hc5 => ?_) (fun hc5 => ?_)
      · have hfu := hc5
        refine go_aload_n 69 dX8_carryOut_68 rfl rfl ?_
        refine g_getR 72 dX8_carryOut_69 rfl fF_RX8_10 ly_0 rfl ?_
        refine go_aload_n 73 dX8_carryOut_72 rfl rfl ?_
        refine g_callV0 76 [.ref k] [] dX8_carryOut_73 rfl (ct_X0_append _ _ hk (full_in ho.1 ho.2.1 hfu)) rfl sV_X8_carryOut_119 rfl ly_1 rfl rfl (Nat.le_of_ble_eq_true rfl) (Nat.le_of_ble_eq_true rfl) (Nat.le_of_ble_eq_true rfl) ?_
        refine go_iconst 77 (1) dX8_carryOut_76 rfl (by decide) ?_
        refine go_ireturn dX8_carryOut_77 rfl (by first | rfl | exact bi_nar) (Nat.le_of_ble_eq_true rfl) (Nat.le_of_ble_eq_true rfl) ?_
        exact ⟨congrArg (fun z => some (Value.int z)) (by unfold f_X8_carryOut; simp only [if_pos hc1, if_neg hc2, if_pos hc5]; try first | rfl | contradiction), congrArg hp (by unfold f_X8_carryOut; simp only [if_pos hc1, if_neg hc2, if_pos hc5]; try first | rfl | contradiction)⟩
      · refine go_aload_n 60 dX8_carryOut_59 rfl rfl ?_
        refine go_iload_n 61 dX8_carryOut_60 rfl rfl ?_
        refine go_bipush 63 (6) dX8_carryOut_61 rfl (by decide) ?_
        refine go_iconst 64 (0) dX8_carryOut_63 rfl (by decide) ?_
        refine g_callV 67 [.int _, .int _, .int _] [] dX8_carryOut_64 rfl (ct_X8_refuse _ _ _ _) rfl sV_X8_carryOut_363 rfl ly_0 rfl rfl (Nat.le_of_ble_eq_true rfl) (Nat.le_of_ble_eq_true rfl) (Nat.le_of_ble_eq_true rfl) ?_
        refine go_ireturn dX8_carryOut_67 rfl (nb_f_X8_refuse ..) (Nat.le_of_ble_eq_true rfl) (Nat.le_of_ble_eq_true rfl) ?_
        exact ⟨congrArg (fun z => some (Value.int z)) (by unfold f_X8_carryOut; simp only [if_pos hc1, if_neg hc2, if_neg hc5]; try first | rfl | contradiction), congrArg hp (by unfold f_X8_carryOut; simp only [if_pos hc1, if_neg hc2, if_neg hc5]; try first | rfl | contradiction)⟩
  · refine go_aload_n 17 dX8_carryOut_16 rfl rfl ?_
    refine go_iload_n 18 dX8_carryOut_17 rfl rfl ?_
    refine g_callV 21 [.int _] [] dX8_carryOut_18 rfl (ct_X2_isConstantAt _ _ _ hk) rfl sV_X8_carryOut_360 rfl hk.1 rfl rfl (Nat.le_of_ble_eq_true rfl) (Nat.le_of_ble_eq_true rfl) (Nat.le_of_ble_eq_true rfl) ?_
    refine go_istore 23 [(4, .int _), (3, .int _), (0, .ref 0), (1, .ref k), (2, .int _)] dX8_carryOut_21 rfl (Nat.le_of_ble_eq_true rfl) rfl ?_
    refine go_aload_n 24 dX8_carryOut_23 rfl rfl ?_
    refine go_iload_n 25 dX8_carryOut_24 rfl rfl ?_
    refine go_iload 27 dX8_carryOut_25 rfl rfl ?_
    refine go_if_eq 30 34 dX8_carryOut_27 rfl (by decide) (fun hc6 => ?_) (fun hc6 => ?_)
    · refine go_iconst 35 (5) dX8_carryOut_34 rfl (by decide) ?_
      refine go_iload_n 36 dX8_carryOut_35 rfl rfl ?_
      refine g_callV 39 [.int _, .int _, .int _] [] dX8_carryOut_36 rfl (ct_X8_refuse _ _ _ _) rfl sV_X8_carryOut_363 rfl ly_0 rfl rfl (Nat.le_of_ble_eq_true rfl) (Nat.le_of_ble_eq_true rfl) (Nat.le_of_ble_eq_true rfl) ?_
      refine go_ireturn dX8_carryOut_39 rfl (nb_f_X8_refuse ..) (Nat.le_of_ble_eq_true rfl) (Nat.le_of_ble_eq_true rfl) ?_
      exact ⟨congrArg (fun z => some (Value.int z)) (by unfold f_X8_carryOut; simp only [if_neg hc1, if_pos hc6]; try first | rfl | contradiction), congrArg hp (by unfold f_X8_carryOut; simp only [if_neg hc1, if_pos hc6]; try first | rfl | contradiction)⟩
    · refine go_iconst 31 (4) dX8_carryOut_30 rfl (by decide) ?_
      refine go_goto 35 dX8_carryOut_31 (by decide) ?_
      refine go_iload_n 36 dX8_carryOut_35 rfl rfl ?_
      refine g_callV 39 [.int _, .int _, .int _] [] dX8_carryOut_36 rfl (ct_X8_refuse _ _ _ _) rfl sV_X8_carryOut_363 rfl ly_0 rfl rfl (Nat.le_of_ble_eq_true rfl) (Nat.le_of_ble_eq_true rfl) (Nat.le_of_ble_eq_true rfl) ?_
      refine go_ireturn dX8_carryOut_39 rfl (nb_f_X8_refuse ..) (Nat.le_of_ble_eq_true rfl) (Nat.le_of_ble_eq_true rfl) ?_
      exact ⟨congrArg (fun z => some (Value.int z)) (by unfold f_X8_carryOut; simp only [if_neg hc1, if_neg hc6]; try first | rfl | contradiction), congrArg hp (by unfold f_X8_carryOut; simp only [if_neg hc1, if_neg hc6]; try first | rfl | contradiction)⟩

