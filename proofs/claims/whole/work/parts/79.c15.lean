-- needs 
theorem fl_in {l : Int32} (h1 : ¬ l < 0) (h2 : ¬ (2 : Int32) < l) : vp_in l 3 := by
  rw [vp_in_iff]
  rw [il] at h1 h2
  have h3 : (0 : Int32).toInt = 0 := rfl
  have h4 : (2 : Int32).toInt = 2 := rfl
  omega
def f_X9_faults (S : gS) (i k p c r : Int32) : gS := (wI (wI (wI (wI (wI (wI S 142 0 1) 143 0 i) 142 1 k) 143 1 p) 142 2 c) 143 2 r)
set_option maxRecDepth 100000 in
set_option maxHeartbeats 1000000 in
theorem ct_X9_faults (S : gS) (i k p c r : Int32)  : gF mX9_faults [.ref 115, .int i, .int k, .int p, .int c, .int r] S none (f_X9_faults S i k p c r) := by
  refine go_enter [.ref 115, .int i, .int k, .int p, .int c, .int r] [(0, .ref 115), (1, .int i), (2, .int k), (3, .int p), (4, .int c), (5, .int r)] (by decide +kernel) rfl rfl (Nat.le_of_ble_eq_true rfl) rfl ?_
  refine go_aload_n 1 dX9_faults_0 rfl rfl ?_
  refine g_getR 4 dX9_faults_1 rfl fF_RX9_89 ly_115 rfl ?_
  refine go_iconst 5 (0) dX9_faults_4 rfl (by decide) ?_
  refine go_iconst 6 (1) dX9_faults_5 rfl (by decide) ?_
  refine g_iast2 7 0 dX9_faults_6 rfl ly_142 (by unfold vp_in; decide) rfl ?_
  refine go_aload_n 8 dX9_faults_7 rfl rfl ?_
  refine g_getR 11 dX9_faults_8 rfl fF_RX9_92 ly_115 rfl ?_
  refine go_iconst 12 (0) dX9_faults_11 rfl (by decide) ?_
  refine go_iload_n 13 dX9_faults_12 rfl rfl ?_
  refine g_iast2 14 0 dX9_faults_13 rfl ly_143 (by unfold vp_in; decide) rfl ?_
  refine go_aload_n 15 dX9_faults_14 rfl rfl ?_
  refine g_getR 18 dX9_faults_15 rfl fF_RX9_89 ly_115 rfl ?_
  refine go_iconst 19 (1) dX9_faults_18 rfl (by decide) ?_
  refine go_iload_n 20 dX9_faults_19 rfl rfl ?_
  refine g_iast2 21 1 dX9_faults_20 rfl ly_142 (by unfold vp_in; decide) rfl ?_
  refine go_aload_n 22 dX9_faults_21 rfl rfl ?_
  refine g_getR 25 dX9_faults_22 rfl fF_RX9_92 ly_115 rfl ?_
  refine go_iconst 26 (1) dX9_faults_25 rfl (by decide) ?_
  refine go_iload_n 27 dX9_faults_26 rfl rfl ?_
  refine g_iast2 28 1 dX9_faults_27 rfl ly_143 (by unfold vp_in; decide) rfl ?_
  refine go_aload_n 29 dX9_faults_28 rfl rfl ?_
  refine g_getR 32 dX9_faults_29 rfl fF_RX9_89 ly_115 rfl ?_
  refine go_iconst 33 (2) dX9_faults_32 rfl (by decide) ?_
  refine go_iload 35 dX9_faults_33 rfl rfl ?_
  refine g_iast2 36 2 dX9_faults_35 rfl ly_142 (by unfold vp_in; decide) rfl ?_
  refine go_aload_n 37 dX9_faults_36 rfl rfl ?_
  refine g_getR 40 dX9_faults_37 rfl fF_RX9_92 ly_115 rfl ?_
  refine go_iconst 41 (2) dX9_faults_40 rfl (by decide) ?_
  refine go_iload 43 dX9_faults_41 rfl rfl ?_
  refine g_iast2 44 2 dX9_faults_43 rfl ly_143 (by unfold vp_in; decide) rfl ?_
  refine go_return dX9_faults_44 rfl (Nat.le_of_ble_eq_true rfl) (Nat.le_of_ble_eq_true rfl) ?_
  exact ⟨rfl, congrArg hp rfl⟩
theorem fr_f_X9_faults {a0 c0 : Nat} (h142 : a0 ≠ 142) (h143 : a0 ≠ 143) (S : gS) (i k p c r : Int32) : rI (f_X9_faults S i k p c r) a0 c0 = rI S a0 c0 := by
  unfold f_X9_faults
  first | (simp only [snd_ite, rI_ite, ite_self, rI_wIk h142, rI_wRk h142, rI_wIk h143, rI_wRk h143]; done) | ((repeat' split) <;> first | rfl | simp only [rI_wIk h142, rI_wRk h142, rI_wIk h143, rI_wRk h143])

def f_X9_fault (S : gS) (l w : Int32) : Int32 × gS := (if l < 0 then ((flF S 1).1, (flF S 1).2) else (if (ibF w.toInt64 ((0 : Int64)) ((1 : Int64))) = 0 then ((flF S 1).1, (flF S 1).2) else (if (2 : Int32) < l then ((flF S 2).1, (flF S 2).2) else (if (rI S 142 l.toNatClampNeg) = 0 then ((flF S 2).1, (flF S 2).2) else (if w = 0 then ((rI S 142 l.toNatClampNeg), (wI S 115 0 0)) else ((rI S 143 l.toNatClampNeg), (wI S 115 0 0)))))))
set_option maxRecDepth 100000 in
set_option maxHeartbeats 1000000 in
theorem ct_X9_fault (S : gS) (l w : Int32)  : gF mX9_fault [.ref 115, .int l, .int w] S (some (.int (f_X9_fault S l w).1)) (f_X9_fault S l w).2 := by
  refine go_enter [.ref 115, .int l, .int w] [(0, .ref 115), (1, .int l), (2, .int w)] (by decide +kernel) rfl rfl (Nat.le_of_ble_eq_true rfl) rfl ?_
  refine go_iload_n 1 dX9_fault_0 rfl rfl ?_
  refine go_if_lt 4 14 dX9_fault_1 rfl (by decide) (fun hc1 => ?_) (fun hc1 => ?_)
  · refine go_aload_n 15 dX9_fault_14 rfl rfl ?_
    refine go_iconst 16 (1) dX9_fault_15 rfl (by decide) ?_
    refine g_callV 19 [.int _] [] dX9_fault_16 rfl (ct_fl _ _) rfl sV_X9_fault_132 rfl ly_115 rfl rfl (Nat.le_of_ble_eq_true rfl) (Nat.le_of_ble_eq_true rfl) (Nat.le_of_ble_eq_true rfl) ?_
    refine go_ireturn dX9_fault_19 rfl (by first | rfl | exact bi_nar) (Nat.le_of_ble_eq_true rfl) (Nat.le_of_ble_eq_true rfl) ?_
    exact ⟨congrArg (fun z => some (Value.int z)) (by unfold f_X9_fault; simp only [if_pos hc1]; try first | rfl | contradiction), congrArg hp (by unfold f_X9_fault; simp only [if_pos hc1]; try first | rfl | contradiction)⟩
  · refine go_iload_n 5 dX9_fault_4 rfl rfl ?_
    refine go_i2l 6 dX9_fault_5 rfl ?_
    refine go_lconst 7 (0) dX9_fault_6 rfl (by decide) ?_
    refine go_lconst 8 (1) dX9_fault_7 rfl (by decide) ?_
    refine g_callS 11 [.long _, .long _, .long _] [] dX9_fault_8 rfl (ct_ib _ _ _ _) rfl sV_X9_fault_109 rfl (Nat.le_of_ble_eq_true rfl) (Nat.le_of_ble_eq_true rfl) (Nat.le_of_ble_eq_true rfl) ?_
    refine go_if_ne 14 20 dX9_fault_11 rfl (by decide) (fun hc2 => ?_) (fun hc2 => ?_)
    · refine go_iload_n 21 dX9_fault_20 rfl rfl ?_
      refine go_iconst 22 (2) dX9_fault_21 rfl (by decide) ?_
      refine go_icmp_gt 25 34 dX9_fault_22 rfl (by decide) (fun hc3 => ?_) (fun hc3 => ?_)
      · refine go_aload_n 35 dX9_fault_34 rfl rfl ?_
        refine go_iconst 36 (2) dX9_fault_35 rfl (by decide) ?_
        refine g_callV 39 [.int _] [] dX9_fault_36 rfl (ct_fl _ _) rfl sV_X9_fault_132 rfl ly_115 rfl rfl (Nat.le_of_ble_eq_true rfl) (Nat.le_of_ble_eq_true rfl) (Nat.le_of_ble_eq_true rfl) ?_
        refine go_ireturn dX9_fault_39 rfl (by first | rfl | exact bi_nar) (Nat.le_of_ble_eq_true rfl) (Nat.le_of_ble_eq_true rfl) ?_
        exact ⟨congrArg (fun z => some (Value.int z)) (by unfold f_X9_fault; simp only [if_neg hc1, if_neg hc2, if_pos hc3]; try first | rfl | contradiction), congrArg hp (by unfold f_X9_fault; simp only [if_neg hc1, if_neg hc2, if_pos hc3]; try first | rfl | contradiction)⟩
      · refine go_aload_n 26 dX9_fault_25 rfl rfl ?_
        refine g_getR 29 dX9_fault_26 rfl fF_RX9_89 ly_115 rfl ?_
        refine go_iload_n 30 dX9_fault_29 rfl rfl ?_
        refine g_iald2 31 _ dX9_fault_30 rfl ly_142 (fl_in hc1 hc3) rfl ?_
        refine go_if_ne 34 40 dX9_fault_31 rfl (by decide) (fun hc4 => ?_) (fun hc4 => ?_)
        · refine go_aload_n 41 dX9_fault_40 rfl rfl ?_
          refine go_iconst 42 (0) dX9_fault_41 rfl (by decide) ?_
          refine g_putI 45 dX9_fault_42 rfl fF_RX9_98 ly_115 rfl (fun q hq => by cases hq; rfl) rfl rfl ?_
          refine go_iload_n 46 dX9_fault_45 rfl rfl ?_
          refine go_if_ne 49 58 dX9_fault_46 rfl (by decide) (fun hc5 => ?_) (fun hc5 => ?_)
          · refine go_aload_n 59 dX9_fault_58 rfl rfl ?_
            refine g_getR 62 dX9_fault_59 rfl fF_RX9_92 ly_115 rfl ?_
            refine go_iload_n 63 dX9_fault_62 rfl rfl ?_
            refine g_iald2 64 _ dX9_fault_63 rfl ly_143 (fl_in hc1 hc3) rfl ?_
            refine go_topi (rI S 143 l.toNatClampNeg) (rI_wIk (by decide) _ _ _) ?_
            refine go_ireturn dX9_fault_64 rfl (by first | rfl | exact bi_nar) (Nat.le_of_ble_eq_true rfl) (Nat.le_of_ble_eq_true rfl) ?_
            exact ⟨congrArg (fun z => some (Value.int z)) (by unfold f_X9_fault; simp only [if_neg hc1, if_neg hc2, if_neg hc3, if_neg hc4, if_neg hc5]; try first | rfl | contradiction), congrArg hp (by unfold f_X9_fault; simp only [if_neg hc1, if_neg hc2, if_neg hc3, if_neg hc4, if_neg hc5]; try first | rfl | contradiction)⟩
          · refine go_aload_n 50 dX9_fault_49 rfl rfl ?_
            refine g_getR 53 dX9_fault_50 rfl fF_RX9_89 ly_115 rfl ?_
            refine go_iload_n 54 dX9_fault_53 rfl rfl ?_
            refine g_iald2 55 _ dX9_fault_54 rfl ly_142 (fl_in hc1 hc3) rfl ?_
            refine go_topi (rI S 142 l.toNatClampNeg) (rI_wIk (by decide) _ _ _) ?_
            refine go_goto 64 dX9_fault_55 (by decide) ?_
            refine go_ireturn dX9_fault_64 rfl (by first | rfl | exact bi_nar) (Nat.le_of_ble_eq_true rfl) (Nat.le_of_ble_eq_true rfl) ?_
            exact ⟨congrArg (fun z => some (Value.int z)) (by unfold f_X9_fault; simp only [if_neg hc1, if_neg hc2, if_neg hc3, if_neg hc4, if_pos hc5]; try first | rfl | contradiction), congrArg hp (by unfold f_X9_fault; simp only [if_neg hc1, if_neg hc2, if_neg hc3, if_neg hc4, if_pos hc5]; try first | rfl | contradiction)⟩
        · refine go_aload_n 35 dX9_fault_34 rfl rfl ?_
          refine go_iconst 36 (2) dX9_fault_35 rfl (by decide) ?_
          refine g_callV 39 [.int _] [] dX9_fault_36 rfl (ct_fl _ _) rfl sV_X9_fault_132 rfl ly_115 rfl rfl (Nat.le_of_ble_eq_true rfl) (Nat.le_of_ble_eq_true rfl) (Nat.le_of_ble_eq_true rfl) ?_
          refine go_ireturn dX9_fault_39 rfl (by first | rfl | exact bi_nar) (Nat.le_of_ble_eq_true rfl) (Nat.le_of_ble_eq_true rfl) ?_
          exact ⟨congrArg (fun z => some (Value.int z)) (by unfold f_X9_fault; simp only [if_neg hc1, if_neg hc2, if_neg hc3, if_pos hc4]; try first | rfl | contradiction), congrArg hp (by unfold f_X9_fault; simp only [if_neg hc1, if_neg hc2, if_neg hc3, if_pos hc4]; try first | rfl | contradiction)⟩
    · refine go_aload_n 15 dX9_fault_14 rfl rfl ?_
      refine go_iconst 16 (1) dX9_fault_15 rfl (by decide) ?_
      refine g_callV 19 [.int _] [] dX9_fault_16 rfl (ct_fl _ _) rfl sV_X9_fault_132 rfl ly_115 rfl rfl (Nat.le_of_ble_eq_true rfl) (Nat.le_of_ble_eq_true rfl) (Nat.le_of_ble_eq_true rfl) ?_
      refine go_ireturn dX9_fault_19 rfl (by first | rfl | exact bi_nar) (Nat.le_of_ble_eq_true rfl) (Nat.le_of_ble_eq_true rfl) ?_
      exact ⟨congrArg (fun z => some (Value.int z)) (by unfold f_X9_fault; simp only [if_neg hc1, if_pos hc2]; try first | rfl | contradiction), congrArg hp (by unfold f_X9_fault; simp only [if_neg hc1, if_pos hc2]; try first | rfl | contradiction)⟩
theorem fr_f_X9_fault {a0 c0 : Nat} (h115_0 : ¬ (a0 = 115 ∧ c0 = 0)) (h115_0 : ¬ (a0 = 115 ∧ c0 = 0)) (S : gS) (l w : Int32) : rI (f_X9_fault S l w).2 a0 c0 = rI S a0 c0 := by
  unfold f_X9_fault
  first | (simp only [snd_ite, rI_ite, ite_self, rI_wIc h115_0, rI_wIc h115_0, fr_flF h115_0]; done) | ((repeat' split) <;> first | rfl | simp only [rI_wIc h115_0, rI_wIc h115_0, fr_flF h115_0] | (apply fr_flF <;> assumption))

