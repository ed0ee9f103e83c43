-- needs 
def f_X2_roleOf (S : gS) (k : Nat) (i : Int32) : Int32 := (if (rI S k 0) = 0 then (if (1 : Int32) < i then 0 else 1) else (if (rI S k 0) = 1 then (if i = 0 then 1 else 0) else (if (rI S k 0) = 2 then (if i = 0 then 1 else 0) else (if (rI S k 0) = 3 then (if (1 : Int32) < i then 0 else 2) else (if (rI S k 0) = 4 then (if (1 : Int32) < i then 0 else 2) else (if (rI S k 0) = 5 then (if (1 : Int32) < i then 0 else 2) else (if (rI S k 0) = 6 then (if (1 : Int32) < i then 0 else 2) else (if (rI S k 0) = 7 then (if (1 : Int32) < i then 0 else 2) else (if (rI S k 0) = 8 then (if (1 : Int32) < i then 0 else 2) else (if (rI S k 0) = 9 then (if i = 0 then 2 else (if i = 1 then 1 else 0)) else (if (rI S k 0) = 10 then (if i = 0 then 2 else (if i = 1 then 1 else 0)) else (if (rI S k 0) = 11 then (if (1 : Int32) < i then 0 else 2) else (if (rI S k 0) = 12 then 2 else (if (rI S k 0) = 13 then (if (1 : Int32) < i then 0 else 2) else (if (rI S k 0) = 14 then (if i = 0 then 2 else 0) else (if (1 : Int32) < i then 0 else 2))))))))))))))))
set_option maxRecDepth 100000 in
set_option maxHeartbeats 1000000 in
theorem ct_X2_roleOf (S : gS) (k : Nat) (i : Int32) (hk : itm k) : gF mX2_roleOf [.ref k, .int i] S (some (.int (f_X2_roleOf S k i))) S := by
  refine go_enter [.ref k, .int i] [(0, .ref k), (1, .int i)] (by decide +kernel) rfl rfl (Nat.le_of_ble_eq_true rfl) rfl ?_
  refine go_aload_n 1 dX2_roleOf_0 rfl rfl ?_
  refine g_getI 4 dX2_roleOf_1 rfl fF_RX2_9 hk.1 rfl ?_
  refine go_tableS [(0, 80), (1, 91), (2, 91), (3, 132), (4, 132), (5, 132), (6, 132), (7, 132), (8, 132), (9, 101), (10, 101), (11, 132), (12, 120), (13, 132), (14, 122)] 132 dX2_roleOf_4 rfl rfl (by decide) (by decide) rfl (by decide) (List.forall_mem_cons.mpr ⟨fun hc1 => ?_, List.forall_mem_cons.mpr ⟨fun hc1 => ?_, List.forall_mem_cons.mpr ⟨fun hc1 => ?_, List.forall_mem_cons.mpr ⟨fun hc1 => ?_, List.forall_mem_cons.mpr ⟨fun hc1 => ?_, List.forall_mem_cons.mpr ⟨fun hc1 => ?_, List.forall_mem_cons.mpr ⟨fun hc1 => ?_, List.forall_mem_cons.mpr ⟨fun hc1 => ?_, List.forall_mem_cons.mpr ⟨fun hc1 => ?_, List.forall_mem_cons.mpr ⟨fun hc1 => ?_, List.forall_mem_cons.mpr ⟨fun hc1 => ?_, List.forall_mem_cons.mpr ⟨fun hc1 => ?_, List.forall_mem_cons.mpr ⟨fun hc1 => ?_, List.forall_mem_cons.mpr ⟨fun hc1 => ?_, List.forall_mem_cons.mpr ⟨fun hc1 => ?_, fun _ h => absurd h List.not_mem_nil⟩⟩⟩⟩⟩⟩⟩⟩⟩⟩⟩⟩⟩⟩⟩) (fun hc1 => ?_)
  · have hc1 : (rI S k 0) = 0 := hc1
    refine go_iload_n 81 dX2_roleOf_80 rfl rfl ?_
    refine go_iconst 82 (1) dX2_roleOf_81 rfl (by decide) ?_
    refine go_icmp_gt 85 89 dX2_roleOf_82 rfl (by decide) (fun hc2 => ?_) (fun hc2 => ?_)
    · refine go_iconst 90 (0) dX2_roleOf_89 rfl (by decide) ?_
      refine go_ireturn dX2_roleOf_90 rfl (by first | rfl | exact bi_nar) (Nat.le_of_ble_eq_true rfl) (Nat.le_of_ble_eq_true rfl) ?_
      exact ⟨congrArg (fun z => some (Value.int z)) (by unfold f_X2_roleOf; simp only [if_pos hc1, if_pos hc2]; try rfl), rfl⟩
    · refine go_iconst 86 (1) dX2_roleOf_85 rfl (by decide) ?_
      refine go_goto 90 dX2_roleOf_86 (by decide) ?_
      refine go_ireturn dX2_roleOf_90 rfl (by first | rfl | exact bi_nar) (Nat.le_of_ble_eq_true rfl) (Nat.le_of_ble_eq_true rfl) ?_
      exact ⟨congrArg (fun z => some (Value.int z)) (by unfold f_X2_roleOf; simp only [if_pos hc1, if_neg hc2]; try rfl), rfl⟩
  · have hc1 : (rI S k 0) = 1 := hc1
    have hc1_0 : ¬ (rI S k 0) = 0 := by rw [hc1]; decide
    refine go_iload_n 92 dX2_roleOf_91 rfl rfl ?_
    refine go_if_ne 95 99 dX2_roleOf_92 rfl (by decide) (fun hc3 => ?_) (fun hc3 => ?_)
    · refine go_iconst 100 (0) dX2_roleOf_99 rfl (by decide) ?_
      refine go_ireturn dX2_roleOf_100 rfl (by first | rfl | exact bi_nar) (Nat.le_of_ble_eq_true rfl) (Nat.le_of_ble_eq_true rfl) ?_
      exact ⟨congrArg (fun z => some (Value.int z)) (by unfold f_X2_roleOf; simp only [if_neg hc1_0, if_pos hc1, if_neg hc3]; try rfl), rfl⟩
    · refine go_iconst 96 (1) dX2_roleOf_95 rfl (by decide) ?_
      refine go_goto 100 dX2_roleOf_96 (by decide) ?_
      refine go_ireturn dX2_roleOf_100 rfl (by first | rfl | exact bi_nar) (Nat.le_of_ble_eq_true rfl) (Nat.le_of_ble_eq_true rfl) ?_
      exact ⟨congrArg (fun z => some (Value.int z)) (by unfold f_X2_roleOf; simp only [if_neg hc1_0, if_pos hc1, if_pos hc3]; try rfl), rfl⟩
  · have hc1 : (rI S k 0) = 2 := hc1
    have hc1_0 : ¬ (rI S k 0) = 0 := by rw [hc1]; decide
    have hc1_1 : ¬ (rI S k 0) = 1 := by rw [hc1]; decide
    refine go_iload_n 92 dX2_roleOf_91 rfl rfl ?_
    refine go_if_ne 95 99 dX2_roleOf_92 rfl (by decide) (fun hc4 => ?_) (fun hc4 => ?_)
    · refine go_iconst 100 (0) dX2_roleOf_99 rfl (by decide) ?_
      refine go_ireturn dX2_roleOf_100 rfl (by first | rfl | exact bi_nar) (Nat.le_of_ble_eq_true rfl) (Nat.le_of_ble_eq_true rfl) ?_
      exact ⟨congrArg (fun z => some (Value.int z)) (by unfold f_X2_roleOf; simp only [if_neg hc1_0, if_neg hc1_1, if_pos hc1, if_neg hc4]; try rfl), rfl⟩
    · refine go_iconst 96 (1) dX2_roleOf_95 rfl (by decide) ?_
      refine go_goto 100 dX2_roleOf_96 (by decide) ?_
      refine go_ireturn dX2_roleOf_100 rfl (by first | rfl | exact bi_nar) (Nat.le_of_ble_eq_true rfl) (Nat.le_of_ble_eq_true rfl) ?_
      exact ⟨congrArg (fun z => some (Value.int z)) (by unfold f_X2_roleOf; simp only [if_neg hc1_0, if_neg hc1_1, if_pos hc1, if_pos hc4]; try rfl), rfl⟩
  · have hc1 : (rI S k 0) = 3 := hc1
    have hc1_0 : ¬ (rI S k 0) = 0 := by rw [hc1]; decide
    have hc1_1 : ¬ (rI S k 0) = 1 := by rw [hc1]; decide
    have hc1_2 : ¬ (rI S k 0) = 2 := by rw [hc1]; decide
    refine go_iload_n 133 dX2_roleOf_132 rfl rfl ?_
    refine go_iconst 134 (1) dX2_roleOf_133 rfl (by decide) ?_
    refine go_icmp_gt 137 141 dX2_roleOf_134 rfl (by decide) (fun hc5 => ?_) (fun hc5 => ?_)
    · refine go_iconst 142 (0) dX2_roleOf_141 rfl (by decide) ?_
      refine go_ireturn dX2_roleOf_142 rfl (by first | rfl | exact bi_nar) (Nat.le_of_ble_eq_true rfl) (Nat.le_of_ble_eq_true rfl) ?_
      exact ⟨congrArg (fun z => some (Value.int z)) (by unfold f_X2_roleOf; simp only [if_neg hc1_0, if_neg hc1_1, if_neg hc1_2, if_pos hc1, if_pos hc5]; try rfl), rfl⟩
    · refine go_iconst 138 (2) dX2_roleOf_137 rfl (by decide) ?_
      refine go_goto 142 dX2_roleOf_138 (by decide) ?_
      refine go_ireturn dX2_roleOf_142 rfl (by first | rfl | exact bi_nar) (Nat.le_of_ble_eq_true rfl) (Nat.le_of_ble_eq_true rfl) ?_
      exact ⟨congrArg (fun z => some (Value.int z)) (by unfold f_X2_roleOf; simp only [if_neg hc1_0, if_neg hc1_1, if_neg hc1_2, if_pos hc1, if_neg hc5]; try rfl), rfl⟩
  · have hc1 : (rI S k 0) = 4 := hc1
    have hc1_0 : ¬ (rI S k 0) = 0 := by rw [hc1]; decide
    have hc1_1 : ¬ (rI S k 0) = 1 := by rw [hc1]; decide
    have hc1_2 : ¬ (rI S k 0) = 2 := by rw [hc1]; decide
    have hc1_3 : ¬ (rI S k 0) = 3 := by rw [hc1]; decide
    refine go_iload_n 133 dX2_roleOf_132 rfl rfl ?_
    refine go_iconst 134 (1) dX2_roleOf_133 rfl (by decide) ?_
    refine go_icmp_gt 137 141 dX2_roleOf_134 rfl (by decide) (fun hc6 => ?_) (fun hc6 => ?_)
    · refine go_iconst 142 (0) dX2_roleOf_141 rfl (by decide) ?_
      refine go_ireturn dX2_roleOf_142 rfl (by first | rfl | exact bi_nar) (Nat.le_of_ble_eq_true rfl) (Nat.le_of_ble_eq_true rfl) ?_
      exact ⟨congrArg (fun z => some (Value.int z)) (by unfold f_X2_roleOf; simp only [if_neg hc1_0, if_neg hc1_1, if_neg hc1_2, if_neg hc1_3, if_pos hc1, if_pos hc6]; try rfl), rfl⟩
    · refine go_iconst 138 (2) dX2_roleOf_137 rfl (by decide) ?_
      refine go_goto 142 dX2_roleOf_138 (by decide) ?_
      refine go_ireturn dX2_roleOf_142 rfl (by first | rfl | exact bi_nar) (Nat.le_of_ble_eq_true rfl) (Nat.le_of_ble_eq_true rfl) ?_
      exact ⟨congrArg (fun z => some (Value.int z)) (by unfold f_X2_roleOf; simp only [if_neg hc1_0, if_neg hc1_1, if_neg hc1_2, if_neg hc1_3, if_pos hc1, if_neg hc6]; try rfl), rfl⟩
  · have hc1 : (rI S k 0) = 5 := hc1
    have hc1_0 : ¬ (rI S k 0) = 0 := by rw [hc1]; decide
    have hc1_1 : ¬ (rI S k 0) = 1 := by rw [hc1]; decide
    have hc1_2 : ¬ (rI S k 0) = 2 := by rw [hc1]; decide
    have hc1_3 : ¬ (rI S k 0) = 3 := by rw [hc1]; decide
    have hc1_4 : ¬ (rI S k 0) = 4 := by rw [hc1]; decide
    refine go_iload_n 133 dX2_roleOf_132 rfl rfl ?_
    refine go_iconst 134 (1) dX2_roleOf_133 rfl (by decide) ?_
    refine go_icmp_gt 137 141 dX2_roleOf_134 rfl (by decide) (fun hc7 => ?_) (fun hc7 => ?_)
    · refine go_iconst 142 (0) dX2_roleOf_141 rfl (by decide) ?_
      refine go_ireturn dX2_roleOf_142 rfl (by first | rfl | exact bi_nar) (Nat.le_of_ble_eq_true rfl) (Nat.le_of_ble_eq_true rfl) ?_
      exact ⟨congrArg (fun z => some (Value.int z)) (by unfold f_X2_roleOf; simp only [if_neg hc1_0, if_neg hc1_1, if_neg hc1_2, if_neg hc1_3, if_neg hc1_4, if_pos hc1, if_pos hc7]; try rfl), rfl⟩
    · refine go_iconst 138 (2) dX2_roleOf_137 rfl (by decide) ?_
      refine go_goto 142 dX2_roleOf_138 (by decide) ?_
      refine go_ireturn dX2_roleOf_142 rfl (by first | rfl | exact bi_nar) (Nat.le_of_ble_eq_true rfl) (Nat.le_of_ble_eq_true rfl) ?_
      exact ⟨congrArg (fun z => some (Value.int z)) (by unfold f_X2_roleOf; simp only [if_neg hc1_0, if_neg hc1_1, if_neg hc1_2, if_neg hc1_3, if_neg hc1_4, if_pos hc1, if_neg hc7]; try rfl), rfl⟩
  · have hc1 : (rI S k 0) = 6 := hc1
    have hc1_0 : ¬ (rI S k 0) = 0 := by rw [hc1]; decide
    have hc1_1 : ¬ (rI S k 0) = 1 := by rw [hc1]; decide
    have hc1_2 : ¬ (rI S k 0) = 2 := by rw [hc1]; decide
    have hc1_3 : ¬ (rI S k 0) = 3 := by rw [hc1]; decide
    have hc1_4 : ¬ (rI S k 0) = 4 := by rw [hc1]; decide
    have hc1_5 : ¬ (rI S k 0) = 5 := by rw [hc1]; decide
    refine go_iload_n 133 dX2_roleOf_132 rfl rfl ?_
    refine go_iconst 134 (1) dX2_roleOf_133 rfl (by decide) ?_
    refine go_icmp_gt 137 141 dX2_roleOf_134 rfl (by decide) (fun hc8 => ?_) (fun hc8 => ?_)
    · refine go_iconst 142 (0) dX2_roleOf_141 rfl (by decide) ?_
      refine go_ireturn dX2_roleOf_142 rfl (by first | rfl | exact bi_nar) (Nat.le_of_ble_eq_true rfl) (Nat.le_of_ble_eq_true rfl) ?_
      exact ⟨congrArg (fun z => some (Value.int z)) (by unfold f_X2_roleOf; simp only [if_neg hc1_0, if_neg hc1_1, if_neg hc1_2, if_neg hc1_3, if_neg hc1_4, if_neg hc1_5, if_pos hc1, if_pos hc8]; try rfl), rfl⟩
    · refine go_iconst 138 (2) dX2_roleOf_137 rfl (by decide) ?_
      refine go_goto 142 dX2_roleOf_138 (by decide) ?_
      refine go_ireturn dX2_roleOf_142 rfl (by first | rfl | exact bi_nar) (Nat.le_of_ble_eq_true rfl) (Nat.le_of_ble_eq_true rfl) ?_
      exact ⟨congrArg (fun z => some (Value.int z)) (by unfold f_X2_roleOf; simp only [if_neg hc1_0, if_neg hc1_1, if_neg hc1_2, if_neg hc1_3, if_neg hc1_4, if_neg hc1_5, if_pos hc1, if_neg hc8]; try rfl), rfl⟩
  · have hc1 : (rI S k 0) = 7 := hc1
    have hc1_0 : ¬ (rI S k 0) = 0 := by rw [hc1]; decide
    have hc1_1 : ¬ (rI S k 0) = 1 := by rw [hc1]; decide
    have hc1_2 : ¬ (rI S k 0) = 2 := by rw [hc1]; decide
    have hc1_3 : ¬ (rI S k 0) = 3 := by rw [hc1]; decide
    have hc1_4 : ¬ (rI S k 0) = 4 := by rw [hc1]; decide
    have hc1_5 : ¬ (rI S k 0) = 5 := by rw [hc1]; decide
    have hc1_6 : ¬ (rI S k 0) = 6 := by rw [hc1]; decide
    refine go_iload_n 133 dX2_roleOf_132 rfl rfl ?_
    refine go_iconst 134 (1) dX2_roleOf_133 rfl (by decide) ?_
    refine go_icmp_gt 137 141 dX2_roleOf_134 rfl (by decide) (fun hc9 => ?_) (fun hc9 => ?_)
    · refine go_iconst 142 (0) dX2_roleOf_141 rfl (by decide) ?_
      refine go_ireturn dX2_roleOf_142 rfl (by first | rfl | exact bi_nar) (Nat.le_of_ble_eq_true rfl) (Nat.le_of_ble_eq_true rfl) ?_
      exact ⟨congrArg (fun z => some (Value.int z)) (by unfold f_X2_roleOf; simp only [if_neg hc1_0, if_neg hc1_1, if_neg hc1_2, if_neg hc1_3, if_neg hc1_4, if_neg hc1_5, if_neg hc1_6, if_pos hc1, if_pos hc9]; try rfl), rfl⟩
    · refine go_iconst 138 (2) dX2_roleOf_137 rfl (by decide) ?_
      refine go_goto 142 dX2_roleOf_138 (by decide) ?_
      refine go_ireturn dX2_roleOf_142 rfl (by first | rfl | exact bi_nar) (Nat.le_of_ble_eq_true rfl) (Nat.le_of_ble_eq_true rfl) ?_
      exact ⟨congrArg (fun z => some (Value.int z)) (by unfold f_X2_roleOf; simp only [if_neg hc1_0, if_neg hc1_1, if_neg hc1_2, if_neg hc1_3, if_neg hc1_4, if_neg hc1_5, if_neg hc1_6, if_pos hc1, if_neg hc9]; try rfl), rfl⟩
  · have hc1 : (rI S k 0) = 8 := hc1
    have hc1_0 : ¬ (rI S k 0) = 0 := by rw [hc1]; decide
    have hc1_1 : ¬ (rI S k 0) = 1 := by rw [hc1]; decide
    have hc1_2 : ¬ (rI S k 0) = 2 := by rw [hc1]; decide
    have hc1_3 : ¬ (rI S k 0) = 3 := by rw [hc1]; decide
    have hc1_4 : ¬ (rI S k 0) = 4 := by rw [hc1]; decide
    have hc1_5 : ¬ (rI S k 0) = 5 := by rw [hc1]; decide
    have hc1_6 : ¬ (rI S k 0) = 6 := by rw [hc1]; decide
    have hc1_7 : ¬ (rI S k 0) = 7 := by rw [hc1]; decide
    refine go_iload_n 133 dX2_roleOf_132 rfl rfl ?_
    refine go_iconst 134 (1) dX2_roleOf_133 rfl (by decide) ?_
    refine go_icmp_gt 137 141 dX2_roleOf_134 rfl (by decide) (fun hc10 => ?_) (fun hc10 => ?_)
    · refine go_iconst 142 (0) dX2_roleOf_141 rfl (by decide) ?_
      refine go_ireturn dX2_roleOf_142 rfl (by first | rfl | exact bi_nar) (Nat.le_of_ble_eq_true rfl) (Nat.le_of_ble_eq_true rfl) ?_
      exact ⟨congrArg (fun z => some (Value.int z)) (by unfold f_X2_roleOf; simp only [if_neg hc1_0, if_neg hc1_1, if_neg hc1_2, if_neg hc1_3, if_neg hc1_4, if_neg hc1_5, if_neg hc1_6, if_neg hc1_7, if_pos hc1, if_pos hc10]; try rfl), rfl⟩
    · refine go_iconst 138 (2) dX2_roleOf_137 rfl (by decide) ?_
      refine go_goto 142 dX2_roleOf_138 (by decide) ?_
      refine go_ireturn dX2_roleOf_142 rfl (by first | rfl | exact bi_nar) (Nat.le_of_ble_eq_true rfl) (Nat.le_of_ble_eq_true rfl) ?_
      exact ⟨congrArg (fun z => some (Value.int z)) (by unfold f_X2_roleOf; simp only [if_neg hc1_0, if_neg hc1_1, if_neg hc1_2, if_neg hc1_3, if_neg hc1_4, if_neg hc1_5, if_neg hc1_6, if_neg hc1_7, if_pos hc1, if_neg hc10]; try rfl), rfl⟩
  · have hc1 : (rI S k 0) = 9 := hc1
    have hc1_0 : ¬ (rI S k 0) = 0 := by rw [hc1]; decide
    have hc1_1 : ¬ (rI S k 0) = 1 := by rw [hc1]; decide
    have hc1_2 : ¬ (rI S k 0) = 2 := by rw [hc1]; decide
    have hc1_3 : ¬ (rI S k 0) = 3 := by rw [hc1]; decide
    have hc1_4 : ¬ (rI S k 0) = 4 := by rw [hc1]; decide
    have hc1_5 : ¬ (rI S k 0) = 5 := by rw [hc1]; decide
    have hc1_6 : ¬ (rI S k 0) = 6 := by rw [hc1]; decide
    have hc1_7 : ¬ (rI S k 0) = 7 := by rw [hc1]; decide
    have hc1_8 : ¬ (rI S k 0) = 8 := by rw [hc1]; decide
    refine go_iload_n 102 dX2_roleOf_101 rfl rfl ?_
    refine go_if_ne 105 109 dX2_roleOf_102 rfl (by decide) (fun hc11 => ?_) (fun hc11 => ?_)
    · refine go_iload_n 110 dX2_roleOf_109 rfl rfl ?_
      refine go_iconst 111 (1) dX2_roleOf_110 rfl (by decide) ?_
      refine go_icmp_ne 114 118 dX2_roleOf_111 rfl (by decide) (fun hc12 => ?_) (fun hc12 => ?_)
      · refine go_iconst 119 (0) dX2_roleOf_118 rfl (by decide) ?_
        refine go_ireturn dX2_roleOf_119 rfl (by first | rfl | exact bi_nar) (Nat.le_of_ble_eq_true rfl) (Nat.le_of_ble_eq_true rfl) ?_
        exact ⟨congrArg (fun z => some (Value.int z)) (by unfold f_X2_roleOf; simp only [if_neg hc1_0, if_neg hc1_1, if_neg hc1_2, if_neg hc1_3, if_neg hc1_4, if_neg hc1_5, if_neg hc1_6, if_neg hc1_7, if_neg hc1_8, if_pos hc1, if_neg hc11, if_neg hc12]; try rfl), rfl⟩
      · refine go_iconst 115 (1) dX2_roleOf_114 rfl (by decide) ?_
        refine go_goto 119 dX2_roleOf_115 (by decide) ?_
        refine go_ireturn dX2_roleOf_119 rfl (by first | rfl | exact bi_nar) (Nat.le_of_ble_eq_true rfl) (Nat.le_of_ble_eq_true rfl) ?_
        exact ⟨congrArg (fun z => some (Value.int z)) (by unfold f_X2_roleOf; simp only [if_neg hc1_0, if_neg hc1_1, if_neg hc1_2, if_neg hc1_3, if_neg hc1_4, if_neg hc1_5, if_neg hc1_6, if_neg hc1_7, if_neg hc1_8, if_pos hc1, if_neg hc11, if_pos hc12]; try rfl), rfl⟩
    · refine go_iconst 106 (2) dX2_roleOf_105 rfl (by decide) ?_
      refine go_goto 119 dX2_roleOf_106 (by decide) ?_
      refine go_ireturn dX2_roleOf_119 rfl (by first | rfl | exact bi_nar) (Nat.le_of_ble_eq_true rfl) (Nat.le_of_ble_eq_true rfl) ?_
      exact ⟨congrArg (fun z => some (Value.int z)) (by unfold f_X2_roleOf; simp only [if_neg hc1_0, if_neg hc1_1, if_neg hc1_2, if_neg hc1_3, if_neg hc1_4, if_neg hc1_5, if_neg hc1_6, if_neg hc1_7, if_neg hc1_8, if_pos hc1, if_pos hc11]; try rfl), rfl⟩
  · have hc1 : (rI S k 0) = 10 := hc1
    have hc1_0 : ¬ (rI S k 0) = 0 := by rw [hc1]; decide
    have hc1_1 : ¬ (rI S k 0) = 1 := by rw [hc1]; decide
    have hc1_2 : ¬ (rI S k 0) = 2 := by rw [hc1]; decide
    have hc1_3 : ¬ (rI S k 0) = 3 := by rw [hc1]; decide
    have hc1_4 : ¬ (rI S k 0) = 4 := by rw [hc1]; decide
    have hc1_5 : ¬ (rI S k 0) = 5 := by rw [hc1]; decide
    have hc1_6 : ¬ (rI S k 0) = 6 := by rw [hc1]; decide
    have hc1_7 : ¬ (rI S k 0) = 7 := by rw [hc1]; decide
    have hc1_8 : ¬ (rI S k 0) = 8 := by rw [hc1]; decide
    have hc1_9 : ¬ (rI S k 0) = 9 := by rw [hc1]; decide
    refine go_iload_n 102 dX2_roleOf_101 rfl rfl ?_
    refine go_if_ne 105 109 dX2_roleOf_102 rfl (by decide) (fun hc13 => ?_) (fun hc13 => ?_)
    · refine go_iload_n 110 dX2_roleOf_109 rfl rfl ?_
      refine go_iconst 111 (1) dX2_roleOf_110 rfl (by decide) ?_
      refine go_icmp_ne 114 118 dX2_roleOf_111 rfl (by decide) (fun hc14 => ?_) (fun hc14 => ?_)
      · refine go_iconst 119 (0) dX2_roleOf_118 rfl (by decide) ?_
        refine go_ireturn dX2_roleOf_119 rfl (by first | rfl | exact bi_nar) (Nat.le_of_ble_eq_true rfl) (Nat.le_of_ble_eq_true rfl) ?_
        exact ⟨congrArg (fun z => some (Value.int z)) (by unfold f_X2_roleOf; simp only [if_neg hc1_0, if_neg hc1_1, if_neg hc1_2, if_neg hc1_3, if_neg hc1_4, if_neg hc1_5, if_neg hc1_6, if_neg hc1_7, if_neg hc1_8, if_neg hc1_9, if_pos hc1, if_neg hc13, if_neg hc14]; try rfl), rfl⟩
      · refine go_iconst 115 (1) dX2_roleOf_114 rfl (by decide) ?_
        refine go_goto 119 dX2_roleOf_115 (by decide) ?_
        refine go_ireturn dX2_roleOf_119 rfl (by first | rfl | exact bi_nar) (Nat.le_of_ble_eq_true rfl) (Nat.le_of_ble_eq_true rfl) ?_
        exact ⟨congrArg (fun z => some (Value.int z)) (by unfold f_X2_roleOf; simp only [if_neg hc1_0, if_neg hc1_1, if_neg hc1_2, if_neg hc1_3, if_neg hc1_4, if_neg hc1_5, if_neg hc1_6, if_neg hc1_7, if_neg hc1_8, if_neg hc1_9, if_pos hc1, if_neg hc13, if_pos hc14]; try rfl), rfl⟩
    · refine go_iconst 106 (2) dX2_roleOf_105 rfl (by decide) ?_
      refine go_goto 119 dX2_roleOf_106 (by decide) ?_
      refine go_ireturn dX2_roleOf_119 rfl (by first | rfl | exact bi_nar) (Nat.le_of_ble_eq_true rfl) (Nat.le_of_ble_eq_true rfl) ?_
      exact ⟨congrArg (fun z => some (Value.int z)) (by unfold f_X2_roleOf; simp only [if_neg hc1_0, if_neg hc1_1, if_neg hc1_2, if_neg hc1_3, if_neg hc1_4, if_neg hc1_5, if_neg hc1_6, if_neg hc1_7, if_neg hc1_8, if_neg hc1_9, if_pos hc1, if_pos hc13]; try rfl), rfl⟩
  · have hc1 : (rI S k 0) = 11 := hc1
    have hc1_0 : ¬ (rI S k 0) = 0 := by rw [hc1]; decide
    have hc1_1 : ¬ (rI S k 0) = 1 := by rw [hc1]; decide
    have hc1_2 : ¬ (rI S k 0) = 2 := by rw [hc1]; decide
    have hc1_3 : ¬ (rI S k 0) = 3 := by rw [hc1]; decide
    have hc1_4 : ¬ (rI S k 0) = 4 := by rw [hc1]; decide
    have hc1_5 : ¬ (rI S k 0) = 5 := by rw [hc1]; decide
    have hc1_6 : ¬ (rI S k 0) = 6 := by rw [hc1]; decide
    have hc1_7 : ¬ (rI S k 0) = 7 := by rw [hc1]; decide
    have hc1_8 : ¬ (rI S k 0) = 8 := by rw [hc1]; decide
    have hc1_9 : ¬ (rI S k 0) = 9 := by rw [hc1]; decide
    have hc1_10 : ¬ (rI S k 0) = 10 := by rw [hc1]; decide
    refine go_iload_n 133 dX2_roleOf_132 rfl rfl ?_
    refine go_iconst 134 (1) dX2_roleOf_133 rfl (by decide) ?_
    refine go_icmp_gt 137 141 dX2_roleOf_134 rfl (by decide) (fun hc15 => ?_) (fun hc15 => ?_)
    · refine go_iconst 142 (0) dX2_roleOf_141 rfl (by decide) ?_
      refine go_ireturn dX2_roleOf_142 rfl (by first | rfl | exact bi_nar) (Nat.le_of_ble_eq_true rfl) (Nat.le_of_ble_eq_true rfl) ?_
      exact ⟨congrArg (fun z => some (Value.int z)) (by unfold f_X2_roleOf; simp only [if_neg hc1_0, if_neg hc1_1, if_neg hc1_2, if_neg hc1_3, if_neg hc1_4, if_neg hc1_5, if_neg hc1_6, if_neg hc1_7, if_neg hc1_8, if_neg hc1_9, if_neg hc1_10, if_pos hc1, if_pos hc15]; try rfl), rfl⟩
    · refine go_iconst 138 (2) dX2_roleOf_137 rfl (by decide) ?_
      refine go_goto 142 dX2_roleOf_138 (by decide) ?_
      refine go_ireturn dX2_roleOf_142 rfl (by first | rfl | exact bi_nar) (Nat.le_of_ble_eq_true rfl) (Nat.le_of_ble_eq_true rfl) ?_
      exact ⟨congrArg (fun z => some (Value.int z)) (by unfold f_X2_roleOf; simp only [if_neg hc1_0, if_neg hc1_1, if_neg hc1_2, if_neg hc1_3, if_neg hc1_4, if_neg hc1_5, if_neg hc1_6, if_neg hc1_7, if_neg hc1_8, if_neg hc1_9, if_neg hc1_10, if_pos hc1, if_neg hc15]; try rfl), rfl⟩
  · have hc1 : (rI S k 0) = 12 := hc1
    have hc1_0 : ¬ (rI S k 0) = 0 := by rw [hc1]; decide
    have hc1_1 : ¬ (rI S k 0) = 1 := by rw [hc1]; decide
    have hc1_2 : ¬ (rI S k 0) = 2 := by rw [hc1]; decide
    have hc1_3 : ¬ (rI S k 0) = 3 := by rw [hc1]; decide
    have hc1_4 : ¬ (rI S k 0) = 4 := by rw [hc1]; decide
    have hc1_5 : ¬ (rI S k 0) = 5 := by rw [hc1]; decide
    have hc1_6 : ¬ (rI S k 0) = 6 := by rw [hc1]; decide
    have hc1_7 : ¬ (rI S k 0) = 7 := by rw [hc1]; decide
    have hc1_8 : ¬ (rI S k 0) = 8 := by rw [hc1]; decide
    have hc1_9 : ¬ (rI S k 0) = 9 := by rw [hc1]; decide
    have hc1_10 : ¬ (rI S k 0) = 10 := by rw [hc1]; decide
    have hc1_11 : ¬ (rI S k 0) = 11 := by rw [hc1]; decide
    refine go_iconst 121 (2) dX2_roleOf_120 rfl (by decide) ?_
    refine go_ireturn dX2_roleOf_121 rfl (by first | rfl | exact bi_nar) (Nat.le_of_ble_eq_true rfl) (Nat.le_of_ble_eq_true rfl) ?_
    exact ⟨congrArg (fun z => some (Value.int z)) (by unfold f_X2_roleOf; simp only [if_neg hc1_0, if_neg hc1_1, if_neg hc1_2, if_neg hc1_3, if_neg hc1_4, if_neg hc1_5, if_neg hc1_6, if_neg hc1_7, if_neg hc1_8, if_neg hc1_9, if_neg hc1_10, if_neg hc1_11, if_pos hc1]; try rfl), rfl⟩
  · have hc1 : (rI S k 0) = 13 := hc1
    have hc1_0 : ¬ (rI S k 0) = 0 := by rw [hc1]; decide
    have hc1_1 : ¬ (rI S k 0) = 1 := by rw [hc1]; decide
    have hc1_2 : ¬ (rI S k 0) = 2 := by rw [hc1]; decide
    have hc1_3 : ¬ (rI S k 0) = 3 := by rw [hc1]; decide
    have hc1_4 : ¬ (rI S k 0) = 4 := by rw [hc1]; decide
    have hc1_5 : ¬ (rI S k 0) = 5 := by rw [hc1]; decide
    have hc1_6 : ¬ (rI S k 0) = 6 := by rw [hc1]; decide
    have hc1_7 : ¬ (rI S k 0) = 7 := by rw [hc1]; decide
    have hc1_8 : ¬ (rI S k 0) = 8 := by rw [hc1]; decide
    have hc1_9 : ¬ (rI S k 0) = 9 := by rw [hc1]; decide
    have hc1_10 : ¬ (rI S k 0) = 10 := by rw [hc1]; decide
    have hc1_11 : ¬ (rI S k 0) = 11 := by rw [hc1]; decide
    have hc1_12 : ¬ (rI S k 0) = 12 := by rw [hc1]; decide
    refine go_iload_n 133 dX2_roleOf_132 rfl rfl ?_
    refine go_iconst 134 (1) dX2_roleOf_133 rfl (by decide) ?_
    refine go_icmp_gt 137 141 dX2_roleOf_134 rfl (by decide) (fun hc16 => ?_) (fun hc16 => ?_)
    · refine go_iconst 142 (0) dX2_roleOf_141 rfl (by decide) ?_
      refine go_ireturn dX2_roleOf_142 rfl (by first | rfl | exact bi_nar) (Nat.le_of_ble_eq_true rfl) (Nat.le_of_ble_eq_true rfl) ?_
      exact ⟨congrArg (fun z => some (Value.int z)) (by unfold f_X2_roleOf; simp only [if_neg hc1_0, if_neg hc1_1, if_neg hc1_2, if_neg hc1_3, if_neg hc1_4, if_neg hc1_5, if_neg hc1_6, if_neg hc1_7, if_neg hc1_8, if_neg hc1_9, if_neg hc1_10, if_neg hc1_11, if_neg hc1_12, if_pos hc1, if_pos hc16]; try rfl), rfl⟩
    · refine go_iconst 138 (2) dX2_roleOf_137 rfl (by decide) ?_
      refine go_goto 142 dX2_roleOf_138 (by decide) ?_
      refine go_ireturn dX2_roleOf_142 rfl (by first | rfl | exact bi_nar) (Nat.le_of_ble_eq_true rfl) (Nat.le_of_ble_eq_true rfl) ?_
      exact ⟨congrArg (fun z => some (Value.int z)) (by unfold f_X2_roleOf; simp only [if_neg hc1_0, if_neg hc1_1, if_neg hc1_2, if_neg hc1_3, if_neg hc1_4, if_neg hc1_5, if_neg hc1_6, if_neg hc1_7, if_neg hc1_8, if_neg hc1_9, if_neg hc1_10, if_neg hc1_11, if_neg hc1_12, if_pos hc1, if_neg hc16]; try rfl), rfl⟩
  · have hc1 : (rI S k 0) = 14 := hc1
    have hc1_0 : ¬ (rI S k 0) = 0 := by rw [hc1]; decide
    have hc1_1 : ¬ (rI S k 0) = 1 := by rw [hc1]; decide
    have hc1_2 : ¬ (rI S k 0) = 2 := by rw [hc1]; decide
    have hc1_3 : ¬ (rI S k 0) = 3 := by rw [hc1]; decide
    have hc1_4 : ¬ (rI S k 0) = 4 := by rw [hc1]; decide
    have hc1_5 : ¬ (rI S k 0) = 5 := by rw [hc1]; decide
    have hc1_6 : ¬ (rI S k 0) = 6 := by rw [hc1]; decide
    have hc1_7 : ¬ (rI S k 0) = 7 := by rw [hc1]; decide
    have hc1_8 : ¬ (rI S k 0) = 8 := by rw [hc1]; decide
    have hc1_9 : ¬ (rI S k 0) = 9 := by rw [hc1]; decide
    have hc1_10 : ¬ (rI S k 0) = 10 := by rw [hc1]; decide
    have hc1_11 : ¬ (rI S k 0) = 11 := by rw [hc1]; decide
    have hc1_12 : ¬ (rI S k 0) = 12 := by rw [hc1]; decide
    have hc1_13 : ¬ (rI S k 0) = 13 := by rw [hc1]; decide
    refine go_iload_n 123 dX2_roleOf_122 rfl rfl ?_
    refine go_if_ne 126 130 dX2_roleOf_123 rfl (by decide) (fun hc17 => ?_) (fun hc17 => ?_)
    · refine go_iconst 131 (0) dX2_roleOf_130 rfl (by decide) ?_
      refine go_ireturn dX2_roleOf_131 rfl (by first | rfl | exact bi_nar) (Nat.le_of_ble_eq_true rfl) (Nat.le_of_ble_eq_true rfl) ?_
      exact ⟨congrArg (fun z => some (Value.int z)) (by unfold f_X2_roleOf; simp only [if_neg hc1_0, if_neg hc1_1, if_neg hc1_2, if_neg hc1_3, if_neg hc1_4, if_neg hc1_5, if_neg hc1_6, if_neg hc1_7, if_neg hc1_8, if_neg hc1_9, if_neg hc1_10, if_neg hc1_11, if_neg hc1_12, if_neg hc1_13, if_pos hc1, if_neg hc17]; try rfl), rfl⟩
    · refine go_iconst 127 (2) dX2_roleOf_126 rfl (by decide) ?_
      refine go_goto 131 dX2_roleOf_127 (by decide) ?_
      refine go_ireturn dX2_roleOf_131 rfl (by first | rfl | exact bi_nar) (Nat.le_of_ble_eq_true rfl) (Nat.le_of_ble_eq_true rfl) ?_
      exact ⟨congrArg (fun z => some (Value.int z)) (by unfold f_X2_roleOf; simp only [if_neg hc1_0, if_neg hc1_1, if_neg hc1_2, if_neg hc1_3, if_neg hc1_4, if_neg hc1_5, if_neg hc1_6, if_neg hc1_7, if_neg hc1_8, if_neg hc1_9, if_neg hc1_10, if_neg hc1_11, if_neg hc1_12, if_neg hc1_13, if_pos hc1, if_pos hc17]; try rfl), rfl⟩
  · have hc1_0 : ¬ (rI S k 0) = 0 := hc1 (0, 80) (List.mem_of_getElem? (i := 0) rfl)
    have hc1_1 : ¬ (rI S k 0) = 1 := hc1 (1, 91) (List.mem_of_getElem? (i := 1) rfl)
    have hc1_2 : ¬ (rI S k 0) = 2 := hc1 (2, 91) (List.mem_of_getElem? (i := 2) rfl)
    have hc1_3 : ¬ (rI S k 0) = 3 := hc1 (3, 132) (List.mem_of_getElem? (i := 3) rfl)
    have hc1_4 : ¬ (rI S k 0) = 4 := hc1 (4, 132) (List.mem_of_getElem? (i := 4) rfl)
    have hc1_5 : ¬ (rI S k 0) = 5 := hc1 (5, 132) (List.mem_of_getElem? (i := 5) rfl)
    have hc1_6 : ¬ (rI S k 0) = 6 := hc1 (6, 132) (List.mem_of_getElem? (i := 6) rfl)
    have hc1_7 : ¬ (rI S k 0) = 7 := hc1 (7, 132) (List.mem_of_getElem? (i := 7) rfl)
    have hc1_8 : ¬ (rI S k 0) = 8 := hc1 (8, 132) (List.mem_of_getElem? (i := 8) rfl)
    have hc1_9 : ¬ (rI S k 0) = 9 := hc1 (9, 101) (List.mem_of_getElem? (i := 9) rfl)
    have hc1_10 : ¬ (rI S k 0) = 10 := hc1 (10, 101) (List.mem_of_getElem? (i := 10) rfl)
    have hc1_11 : ¬ (rI S k 0) = 11 := hc1 (11, 132) (List.mem_of_getElem? (i := 11) rfl)
    have hc1_12 : ¬ (rI S k 0) = 12 := hc1 (12, 120) (List.mem_of_getElem? (i := 12) rfl)
    have hc1_13 : ¬ (rI S k 0) = 13 := hc1 (13, 132) (List.mem_of_getElem? (i := 13) rfl)
    have hc1_14 : ¬ (rI S k 0) = 14 := hc1 (14, 122) (List.mem_of_getElem? (i := 14) rfl)
    clear hc1
    refine go_iload_n 133 dX2_roleOf_132 rfl rfl ?_
    refine go_iconst 134 (1) dX2_roleOf_133 rfl (by decide) ?_
    refine go_icmp_gt 137 141 dX2_roleOf_134 rfl (by decide) (fun hc18 => ?_) (fun hc18 => ?_)
    · refine go_iconst 142 (0) dX2_roleOf_141 rfl (by decide) ?_
      refine go_ireturn dX2_roleOf_142 rfl (by first | rfl | exact bi_nar) (Nat.le_of_ble_eq_true rfl) (Nat.le_of_ble_eq_true rfl) ?_
      exact ⟨congrArg (fun z => some (Value.int z)) (by unfold f_X2_roleOf; simp only [if_neg hc1_0, if_neg hc1_1, if_neg hc1_2, if_neg hc1_3, if_neg hc1_4, if_neg hc1_5, if_neg hc1_6, if_neg hc1_7, if_neg hc1_8, if_neg hc1_9, if_neg hc1_10, if_neg hc1_11, if_neg hc1_12, if_neg hc1_13, if_neg hc1_14, if_pos hc18]; try rfl), rfl⟩
    · refine go_iconst 138 (2) dX2_roleOf_137 rfl (by decide) ?_
      refine go_goto 142 dX2_roleOf_138 (by decide) ?_
      refine go_ireturn dX2_roleOf_142 rfl (by first | rfl | exact bi_nar) (Nat.le_of_ble_eq_true rfl) (Nat.le_of_ble_eq_true rfl) ?_
      exact ⟨congrArg (fun z => some (Value.int z)) (by unfold f_X2_roleOf; simp only [if_neg hc1_0, if_neg hc1_1, if_neg hc1_2, if_neg hc1_3, if_neg hc1_4, if_neg hc1_5, if_neg hc1_6, if_neg hc1_7, if_neg hc1_8, if_neg hc1_9, if_neg hc1_10, if_neg hc1_11, if_neg hc1_12, if_neg hc1_13, if_neg hc1_14, if_neg hc18]; try rfl), rfl⟩

theorem f01_isC (S : gS) (k : Nat) (i : Int32) : True := trivial
def f_X2_become (S : gS) (k : Nat) (kd a b c : Int32) : gS := (if (f_X2_roleOf (wI (wI S k 0 kd) (k + 1) 0 a) k 1) = 0 then (if (f_X2_roleOf (wI (wI (wI S k 0 kd) (k + 1) 0 a) (k + 1) 1 0) k 2) = 0 then (wI (wI (wI (wI S k 0 kd) (k + 1) 0 a) (k + 1) 1 0) (k + 1) 2 0) else (wI (wI (wI (wI S k 0 kd) (k + 1) 0 a) (k + 1) 1 0) (k + 1) 2 c)) else (if (f_X2_roleOf (wI (wI (wI S k 0 kd) (k + 1) 0 a) (k + 1) 1 b) k 2) = 0 then (wI (wI (wI (wI S k 0 kd) (k + 1) 0 a) (k + 1) 1 b) (k + 1) 2 0) else (wI (wI (wI (wI S k 0 kd) (k + 1) 0 a) (k + 1) 1 b) (k + 1) 2 c)))
set_option maxRecDepth 100000 in
set_option maxHeartbeats 1000000 in
theorem ct_X2_become (S : gS) (k : Nat) (kd a b c : Int32) (hk : itm k) : gF mX2_become [.ref k, .int kd, .int a, .int b, .int c] S none (f_X2_become S k kd a b c) := by
  refine go_enter [.ref k, .int kd, .int a, .int b, .int c] [(0, .ref k), (1, .int kd), (2, .int a), (3, .int b), (4, .int c)] (by decide +kernel) rfl rfl (Nat.le_of_ble_eq_true rfl) rfl ?_
  refine go_aload_n 1 dX2_become_0 rfl rfl ?_
  refine go_iload_n 2 dX2_become_1 rfl rfl ?_
  refine g_putI 5 dX2_become_2 rfl fF_RX2_9 hk.1 rfl (fun q hq => by cases hq; rfl) rfl rfl ?_
  refine go_aload_n 6 dX2_become_5 rfl rfl ?_
  refine g_getR 9 dX2_become_6 rfl fF_RX2_15 hk.1 rfl ?_
  refine go_iconst 10 (0) dX2_become_9 rfl (by decide) ?_
  refine go_iload_n 11 dX2_become_10 rfl rfl ?_
  refine g_iast2 12 0 dX2_become_11 rfl hk.2 (by unfold vp_in; decide) rfl ?_
  refine go_aload_n 13 dX2_become_12 rfl rfl ?_
  refine g_getR 16 dX2_become_13 rfl fF_RX2_15 hk.1 rfl ?_
  refine go_iconst 17 (1) dX2_become_16 rfl (by decide) ?_
  refine go_aload_n 18 dX2_become_17 rfl rfl ?_
  refine go_iconst 19 (1) dX2_become_18 rfl (by decide) ?_
  refine g_callV 22 [.int _] [.int _, .ref (k + 1)] dX2_become_19 rfl (ct_X2_roleOf _ _ _ hk) rfl sV_X2_become_19 rfl hk.1 rfl rfl (Nat.le_of_ble_eq_true rfl) (Nat.le_of_ble_eq_true rfl) (Nat.le_of_ble_eq_true rfl) ?_
  refine go_if_ne 25 29 dX2_become_22 rfl (by decide) (fun hc1 => ?_) (fun hc1 => ?_)
  · refine go_iload_n 30 dX2_become_29 rfl rfl ?_
    refine g_iast2 31 1 dX2_become_30 rfl hk.2 (by unfold vp_in; decide) rfl ?_
    refine go_aload_n 32 dX2_become_31 rfl rfl ?_
    refine g_getR 35 dX2_become_32 rfl fF_RX2_15 hk.1 rfl ?_
    refine go_iconst 36 (2) dX2_become_35 rfl (by decide) ?_
    refine go_aload_n 37 dX2_become_36 rfl rfl ?_
    refine go_iconst 38 (2) dX2_become_37 rfl (by decide) ?_
    refine g_callV 41 [.int _] [.int _, .ref (k + 1)] dX2_become_38 rfl (ct_X2_roleOf _ _ _ hk) rfl sV_X2_become_19 rfl hk.1 rfl rfl (Nat.le_of_ble_eq_true rfl) (Nat.le_of_ble_eq_true rfl) (Nat.le_of_ble_eq_true rfl) ?_
    refine go_if_ne 44 48 dX2_become_41 rfl (by decide) (fun hc2 => ?_) (fun hc2 => ?_)
    · refine go_iload 50 dX2_become_48 rfl rfl ?_
      refine g_iast2 51 2 dX2_become_50 rfl hk.2 (by unfold vp_in; decide) rfl ?_
      refine go_return dX2_become_51 rfl (Nat.le_of_ble_eq_true rfl) (Nat.le_of_ble_eq_true rfl) ?_
      exact ⟨rfl, congrArg hp (by unfold f_X2_become; simp only [if_neg hc1, if_neg hc2]; try rfl)⟩
    · refine go_iconst 45 (0) dX2_become_44 rfl (by decide) ?_
      refine go_goto 50 dX2_become_45 (by decide) ?_
      refine g_iast2 51 2 dX2_become_50 rfl hk.2 (by unfold vp_in; decide) rfl ?_
      refine go_return dX2_become_51 rfl (Nat.le_of_ble_eq_true rfl) (Nat.le_of_ble_eq_true rfl) ?_
      exact ⟨rfl, congrArg hp (by unfold f_X2_become; simp only [if_neg hc1, if_pos hc2]; try rfl)⟩
  · refine go_iconst 26 (0) dX2_become_25 rfl (by decide) ?_
    refine go_goto 30 dX2_become_26 (by decide) ?_
    refine g_iast2 31 1 dX2_become_30 rfl hk.2 (by unfold vp_in; decide) rfl ?_
    refine go_aload_n 32 dX2_become_31 rfl rfl ?_
    refine g_getR 35 dX2_become_32 rfl fF_RX2_15 hk.1 rfl ?_
    refine go_iconst 36 (2) dX2_become_35 rfl (by decide) ?_
    refine go_aload_n 37 dX2_become_36 rfl rfl ?_
    refine go_iconst 38 (2) dX2_become_37 rfl (by decide) ?_
    refine g_callV 41 [.int _] [.int _, .ref (k + 1)] dX2_become_38 rfl (ct_X2_roleOf _ _ _ hk) rfl sV_X2_become_19 rfl hk.1 rfl rfl (Nat.le_of_ble_eq_true rfl) (Nat.le_of_ble_eq_true rfl) (Nat.le_of_ble_eq_true rfl) ?_
    refine go_if_ne 44 48 dX2_become_41 rfl (by decide) (fun hc3 => ?_) (fun hc3 => ?_)
    · refine go_iload 50 dX2_become_48 rfl rfl ?_
      refine g_iast2 51 2 dX2_become_50 rfl hk.2 (by unfold vp_in; decide) rfl ?_
      refine go_return dX2_become_51 rfl (Nat.le_of_ble_eq_true rfl) (Nat.le_of_ble_eq_true rfl) ?_
      exact ⟨rfl, congrArg hp (by unfold f_X2_become; simp only [if_pos hc1, if_neg hc3]; try rfl)⟩
    · refine go_iconst 45 (0) dX2_become_44 rfl (by decide) ?_
      refine go_goto 50 dX2_become_45 (by decide) ?_
      refine g_iast2 51 2 dX2_become_50 rfl hk.2 (by unfold vp_in; decide) rfl ?_
      refine go_return dX2_become_51 rfl (Nat.le_of_ble_eq_true rfl) (Nat.le_of_ble_eq_true rfl) ?_
      exact ⟨rfl, congrArg hp (by unfold f_X2_become; simp only [if_pos hc1, if_pos hc3]; try rfl)⟩
theorem fr_f_X2_become {k : Nat} {a0 c0 : Nat} (hk_0 : ¬ (a0 = k ∧ c0 = 0)) (hk1 : a0 ≠ (k + 1)) (S : gS) (kd a b c : Int32) : rI (f_X2_become S k kd a b c) a0 c0 = rI S a0 c0 := by
  unfold f_X2_become
  (repeat' split) <;> simp only [rI_wIc hk_0, rI_wIk hk1, rI_wRk hk1]

def f_X2_isConstantAt (S : gS) (k : Nat) (i : Int32) : Int32 := (if (f_X2_roleOf S k i) = 1 then 1 else 0)
set_option maxRecDepth 100000 in
set_option maxHeartbeats 1000000 in
theorem ct_X2_isConstantAt (S : gS) (k : Nat) (i : Int32) (hk : itm k) : gF mX2_isConstantAt [.ref k, .int i] S (some (.int (f_X2_isConstantAt S k i))) S := by
  refine go_enter [.ref k, .int i] [(0, .ref k), (1, .int i)] (by decide +kernel) rfl rfl (Nat.le_of_ble_eq_true rfl) rfl ?_
  refine go_aload_n 1 dX2_isConstantAt_0 rfl rfl ?_
  refine go_iload_n 2 dX2_isConstantAt_1 rfl rfl ?_
  refine g_callV 5 [.int _] [] dX2_isConstantAt_2 rfl (ct_X2_roleOf _ _ _ hk) rfl sV_X2_isConstantAt_19 rfl hk.1 rfl rfl (Nat.le_of_ble_eq_true rfl) (Nat.le_of_ble_eq_true rfl) (Nat.le_of_ble_eq_true rfl) ?_
  refine go_iconst 6 (1) dX2_isConstantAt_5 rfl (by decide) ?_
  refine go_icmp_ne 9 13 dX2_isConstantAt_6 rfl (by decide) (fun hc1 => ?_) (fun hc1 => ?_)
  · refine go_iconst 14 (0) dX2_isConstantAt_13 rfl (by decide) ?_
    refine go_ireturn dX2_isConstantAt_14 rfl (by first | rfl | exact bi_nar) (Nat.le_of_ble_eq_true rfl) (Nat.le_of_ble_eq_true rfl) ?_
    exact ⟨congrArg (fun z => some (Value.int z)) (by unfold f_X2_isConstantAt; simp only [if_neg hc1]; try rfl), rfl⟩
  · refine go_iconst 10 (1) dX2_isConstantAt_9 rfl (by decide) ?_
    refine go_goto 14 dX2_isConstantAt_10 (by decide) ?_
    refine go_ireturn dX2_isConstantAt_14 rfl (by first | rfl | exact bi_nar) (Nat.le_of_ble_eq_true rfl) (Nat.le_of_ble_eq_true rfl) ?_
    exact ⟨congrArg (fun z => some (Value.int z)) (by unfold f_X2_isConstantAt; simp only [if_pos hc1]; try rfl), rfl⟩

def f_X2_isWrongConstant (S : gS) (k : Nat) (i : Int32) : Int32 := (if (f_X2_isConstantAt S k i) = 0 then 0 else (if (rI S k 0) = 9 then (if (rI S (k + 1) i.toNatClampNeg) < 0 then 1 else (if (rI S (k + 1) i.toNatClampNeg) ≤ 15 then 0 else 1)) else (if (rI S k 0) = 10 then (if (rI S (k + 1) i.toNatClampNeg) < 0 then 1 else (if (rI S (k + 1) i.toNatClampNeg) ≤ 15 then 0 else 1)) else (if i = 1 then (if (rI S (k + 1) 0) ≤ (rI S (k + 1) i.toNatClampNeg) then (if (rI S (k + 1) i.toNatClampNeg) < (-4096) then 1 else (if (rI S (k + 1) i.toNatClampNeg) ≤ 4095 then 0 else 1)) else 1) else (if (rI S (k + 1) i.toNatClampNeg) < (-4096) then 1 else (if (rI S (k + 1) i.toNatClampNeg) ≤ 4095 then 0 else 1))))))
set_option maxRecDepth 100000 in
set_option maxHeartbeats 1000000 in
theorem ct_X2_isWrongConstant (S : gS) (k : Nat) (i : Int32) (hk : itm k) (hi : vp_in i 3) : gF mX2_isWrongConstant [.ref k, .int i] S (some (.int (f_X2_isWrongConstant S k i))) S := by
  refine go_enter [.ref k, .int i] [(0, .ref k), (1, .int i)] (by decide +kernel) rfl rfl (Nat.le_of_ble_eq_true rfl) rfl ?_
  refine go_aload_n 1 dX2_isWrongConstant_0 rfl rfl ?_
  refine go_iload_n 2 dX2_isWrongConstant_1 rfl rfl ?_
  refine g_callV 5 [.int _] [] dX2_isWrongConstant_2 rfl (ct_X2_isConstantAt _ _ _ hk) rfl sV_X2_isWrongConstant_23 rfl hk.1 rfl rfl (Nat.le_of_ble_eq_true rfl) (Nat.le_of_ble_eq_true rfl) (Nat.le_of_ble_eq_true rfl) ?_
  refine go_if_ne 8 10 dX2_isWrongConstant_5 rfl (by decide) (fun hc1 => ?_) (fun hc1 => ?_)
  · refine go_aload_n 11 dX2_isWrongConstant_10 rfl rfl ?_
    refine g_getR 14 dX2_isWrongConstant_11 rfl fF_RX2_15 hk.1 rfl ?_
    refine go_iload_n 15 dX2_isWrongConstant_14 rfl rfl ?_
    refine g_iald2 16 _ dX2_isWrongConstant_15 rfl hk.2 hi rfl ?_
    refine go_istore_n 17 [(2, .int _), (0, .ref k), (1, .int _)] dX2_isWrongConstant_16 rfl (Nat.le_of_ble_eq_true rfl) rfl ?_
    refine go_aload_n 18 dX2_isWrongConstant_17 rfl rfl ?_
    refine g_getI 21 dX2_isWrongConstant_18 rfl fF_RX2_9 hk.1 rfl ?_
    refine go_bipush 23 (9) dX2_isWrongConstant_21 rfl (by decide) ?_
    refine go_icmp_eq 26 35 dX2_isWrongConstant_23 rfl (by decide) (fun hc2 => ?_) (fun hc2 => ?_)
    · refine go_iload_n 36 dX2_isWrongConstant_35 rfl rfl ?_
      refine go_if_lt 39 45 dX2_isWrongConstant_36 rfl (by decide) (fun hc3 => ?_) (fun hc3 => ?_)
      · refine go_iconst 46 (1) dX2_isWrongConstant_45 rfl (by decide) ?_
        refine go_goto 50 dX2_isWrongConstant_46 (by decide) ?_
        refine go_ireturn dX2_isWrongConstant_50 rfl (by first | rfl | exact bi_nar) (Nat.le_of_ble_eq_true rfl) (Nat.le_of_ble_eq_true rfl) ?_
        exact ⟨congrArg (fun z => some (Value.int z)) (by unfold f_X2_isWrongConstant; simp only [if_neg hc1, if_pos hc2, if_pos hc3]; try rfl), rfl⟩
      · refine go_iload_n 40 dX2_isWrongConstant_39 rfl rfl ?_
        refine go_bipush 42 (15) dX2_isWrongConstant_40 rfl (by decide) ?_
        refine go_icmp_le 45 49 dX2_isWrongConstant_42 rfl (by decide) (fun hc4 => ?_) (fun hc4 => ?_)
        · refine go_iconst 50 (0) dX2_isWrongConstant_49 rfl (by decide) ?_
          refine go_ireturn dX2_isWrongConstant_50 rfl (by first | rfl | exact bi_nar) (Nat.le_of_ble_eq_true rfl) (Nat.le_of_ble_eq_true rfl) ?_
          exact ⟨congrArg (fun z => some (Value.int z)) (by unfold f_X2_isWrongConstant; simp only [if_neg hc1, if_pos hc2, if_neg hc3, if_pos hc4]; try rfl), rfl⟩
        · refine go_iconst 46 (1) dX2_isWrongConstant_45 rfl (by decide) ?_
          refine go_goto 50 dX2_isWrongConstant_46 (by decide) ?_
          refine go_ireturn dX2_isWrongConstant_50 rfl (by first | rfl | exact bi_nar) (Nat.le_of_ble_eq_true rfl) (Nat.le_of_ble_eq_true rfl) ?_
          exact ⟨congrArg (fun z => some (Value.int z)) (by unfold f_X2_isWrongConstant; simp only [if_neg hc1, if_pos hc2, if_neg hc3, if_neg hc4]; try rfl), rfl⟩
    · refine go_aload_n 27 dX2_isWrongConstant_26 rfl rfl ?_
      refine g_getI 30 dX2_isWrongConstant_27 rfl fF_RX2_9 hk.1 rfl ?_
      refine go_bipush 32 (10) dX2_isWrongConstant_30 rfl (by decide) ?_
      refine go_icmp_ne 35 51 dX2_isWrongConstant_32 rfl (by decide) (fun hc5 => ?_) (fun hc5 => ?_)
      · refine go_iload_n 52 dX2_isWrongConstant_51 rfl rfl ?_
        refine go_iconst 53 (1) dX2_isWrongConstant_52 rfl (by decide) ?_
        refine go_icmp_ne 56 70 dX2_isWrongConstant_53 rfl (by decide) (fun hc6 => ?_) (fun hc6 => ?_)
        · refine go_iconst 71 (0) dX2_isWrongConstant_70 rfl (by decide) ?_
          refine go_istore_n 72 [(3, .int _), (2, .int _), (0, .ref k), (1, .int _)] dX2_isWrongConstant_71 rfl (Nat.le_of_ble_eq_true rfl) rfl ?_
          refine go_iload_n 73 dX2_isWrongConstant_72 rfl rfl ?_
          refine go_if_ne 76 90 dX2_isWrongConstant_73 rfl (by decide) (fun hc7 => absurd hc7 (by decide)) (fun _ => ?_)
          refine go_iload_n 77 dX2_isWrongConstant_76 rfl rfl ?_
          refine go_sipush 80 (-4096) dX2_isWrongConstant_77 rfl (by decide) ?_
          refine go_icmp_lt 83 90 dX2_isWrongConstant_80 rfl (by decide) (fun hc8 => ?_) (fun hc8 => ?_)
          · refine go_iconst 91 (1) dX2_isWrongConstant_90 rfl (by decide) ?_
            refine go_goto 95 dX2_isWrongConstant_91 (by decide) ?_
            refine go_ireturn dX2_isWrongConstant_95 rfl (by first | rfl | exact bi_nar) (Nat.le_of_ble_eq_true rfl) (Nat.le_of_ble_eq_true rfl) ?_
            exact ⟨congrArg (fun z => some (Value.int z)) (by unfold f_X2_isWrongConstant; simp only [if_neg hc1, if_neg hc2, if_neg hc5, if_neg hc6, if_pos hc8]; try rfl), rfl⟩
          · refine go_iload_n 84 dX2_isWrongConstant_83 rfl rfl ?_
            refine go_sipush 87 (4095) dX2_isWrongConstant_84 rfl (by decide) ?_
            refine go_icmp_le 90 94 dX2_isWrongConstant_87 rfl (by decide) (fun hc9 => ?_) (fun hc9 => ?_)
            · refine go_iconst 95 (0) dX2_isWrongConstant_94 rfl (by decide) ?_
              refine go_ireturn dX2_isWrongConstant_95 rfl (by first | rfl | exact bi_nar) (Nat.le_of_ble_eq_true rfl) (Nat.le_of_ble_eq_true rfl) ?_
              exact ⟨congrArg (fun z => some (Value.int z)) (by unfold f_X2_isWrongConstant; simp only [if_neg hc1, if_neg hc2, if_neg hc5, if_neg hc6, if_neg hc8, if_pos hc9]; try rfl), rfl⟩
            · refine go_iconst 91 (1) dX2_isWrongConstant_90 rfl (by decide) ?_
              refine go_goto 95 dX2_isWrongConstant_91 (by decide) ?_
              refine go_ireturn dX2_isWrongConstant_95 rfl (by first | rfl | exact bi_nar) (Nat.le_of_ble_eq_true rfl) (Nat.le_of_ble_eq_true rfl) ?_
              exact ⟨congrArg (fun z => some (Value.int z)) (by unfold f_X2_isWrongConstant; simp only [if_neg hc1, if_neg hc2, if_neg hc5, if_neg hc6, if_neg hc8, if_neg hc9]; try rfl), rfl⟩
        · refine go_iload_n 57 dX2_isWrongConstant_56 rfl rfl ?_
          refine go_aload_n 58 dX2_isWrongConstant_57 rfl rfl ?_
          refine g_getR 61 dX2_isWrongConstant_58 rfl fF_RX2_15 hk.1 rfl ?_
          refine go_iconst 62 (0) dX2_isWrongConstant_61 rfl (by decide) ?_
          refine g_iald2 63 0 dX2_isWrongConstant_62 rfl hk.2 (by unfold vp_in; decide) rfl ?_
          refine go_icmp_ge 66 70 dX2_isWrongConstant_63 rfl (by decide) (fun hc10 => ?_) (fun hc10 => ?_)
          · refine go_iconst 71 (0) dX2_isWrongConstant_70 rfl (by decide) ?_
            refine go_istore_n 72 [(3, .int _), (2, .int _), (0, .ref k), (1, .int _)] dX2_isWrongConstant_71 rfl (Nat.le_of_ble_eq_true rfl) rfl ?_
            refine go_iload_n 73 dX2_isWrongConstant_72 rfl rfl ?_
            refine go_if_ne 76 90 dX2_isWrongConstant_73 rfl (by decide) (fun hc11 => absurd hc11 (by decide)) (fun _ => ?_)
            refine go_iload_n 77 dX2_isWrongConstant_76 rfl rfl ?_
            refine go_sipush 80 (-4096) dX2_isWrongConstant_77 rfl (by decide) ?_
            refine go_icmp_lt 83 90 dX2_isWrongConstant_80 rfl (by decide) (fun hc12 => ?_) (fun hc12 => ?_)
            · refine go_iconst 91 (1) dX2_isWrongConstant_90 rfl (by decide) ?_
              refine go_goto 95 dX2_isWrongConstant_91 (by decide) ?_
              refine go_ireturn dX2_isWrongConstant_95 rfl (by first | rfl | exact bi_nar) (Nat.le_of_ble_eq_true rfl) (Nat.le_of_ble_eq_true rfl) ?_
              exact ⟨congrArg (fun z => some (Value.int z)) (by unfold f_X2_isWrongConstant; simp only [if_neg hc1, if_neg hc2, if_neg hc5, if_pos hc6, if_pos hc10, if_pos hc12]; try rfl), rfl⟩
            · refine go_iload_n 84 dX2_isWrongConstant_83 rfl rfl ?_
              refine go_sipush 87 (4095) dX2_isWrongConstant_84 rfl (by decide) ?_
              refine go_icmp_le 90 94 dX2_isWrongConstant_87 rfl (by decide) (fun hc13 => ?_) (fun hc13 => ?_)
              · refine go_iconst 95 (0) dX2_isWrongConstant_94 rfl (by decide) ?_
                refine go_ireturn dX2_isWrongConstant_95 rfl (by first | rfl | exact bi_nar) (Nat.le_of_ble_eq_true rfl) (Nat.le_of_ble_eq_true rfl) ?_
                exact ⟨congrArg (fun z => some (Value.int z)) (by unfold f_X2_isWrongConstant; simp only [if_neg hc1, if_neg hc2, if_neg hc5, if_pos hc6, if_pos hc10, if_neg hc12, if_pos hc13]; try rfl), rfl⟩
              · refine go_iconst 91 (1) dX2_isWrongConstant_90 rfl (by decide) ?_
                refine go_goto 95 dX2_isWrongConstant_91 (by decide) ?_
                refine go_ireturn dX2_isWrongConstant_95 rfl (by first | rfl | exact bi_nar) (Nat.le_of_ble_eq_true rfl) (Nat.le_of_ble_eq_true rfl) ?_
                exact ⟨congrArg (fun z => some (Value.int z)) (by unfold f_X2_isWrongConstant; simp only [if_neg hc1, if_neg hc2, if_neg hc5, if_pos hc6, if_pos hc10, if_neg hc12, if_neg hc13]; try rfl), rfl⟩
          · refine go_iconst 67 (1) dX2_isWrongConstant_66 rfl (by decide) ?_
            refine go_goto 71 dX2_isWrongConstant_67 (by decide) ?_
            refine go_istore_n 72 [(3, .int _), (2, .int _), (0, .ref k), (1, .int _)] dX2_isWrongConstant_71 rfl (Nat.le_of_ble_eq_true rfl) rfl ?_
            refine go_iload_n 73 dX2_isWrongConstant_72 rfl rfl ?_
            refine go_if_ne 76 90 dX2_isWrongConstant_73 rfl (by decide) (fun _ => ?_) (fun hc14 => absurd hc14 (by decide))
            refine go_iconst 91 (1) dX2_isWrongConstant_90 rfl (by decide) ?_
            refine go_goto 95 dX2_isWrongConstant_91 (by decide) ?_
            refine go_ireturn dX2_isWrongConstant_95 rfl (by first | rfl | exact bi_nar) (Nat.le_of_ble_eq_true rfl) (Nat.le_of_ble_eq_true rfl) ?_
            exact ⟨congrArg (fun z => some (Value.int z)) (by unfold f_X2_isWrongConstant; simp only [if_neg hc1, if_neg hc2, if_neg hc5, if_pos hc6, if_neg hc10]; try rfl), rfl⟩
      · refine go_iload_n 36 dX2_isWrongConstant_35 rfl rfl ?_
        refine go_if_lt 39 45 dX2_isWrongConstant_36 rfl (by decide) (fun hc15 => ?_) (fun hc15 => ?_)
        · refine go_iconst 46 (1) dX2_isWrongConstant_45 rfl (by decide) ?_
          refine go_goto 50 dX2_isWrongConstant_46 (by decide) ?_
          refine go_ireturn dX2_isWrongConstant_50 rfl (by first | rfl | exact bi_nar) (Nat.le_of_ble_eq_true rfl) (Nat.le_of_ble_eq_true rfl) ?_
          exact ⟨congrArg (fun z => some (Value.int z)) (by unfold f_X2_isWrongConstant; simp only [if_neg hc1, if_neg hc2, if_pos hc5, if_pos hc15]; try rfl), rfl⟩
        · refine go_iload_n 40 dX2_isWrongConstant_39 rfl rfl ?_
          refine go_bipush 42 (15) dX2_isWrongConstant_40 rfl (by decide) ?_
          refine go_icmp_le 45 49 dX2_isWrongConstant_42 rfl (by decide) (fun hc16 => ?_) (fun hc16 => ?_)
          · refine go_iconst 50 (0) dX2_isWrongConstant_49 rfl (by decide) ?_
            refine go_ireturn dX2_isWrongConstant_50 rfl (by first | rfl | exact bi_nar) (Nat.le_of_ble_eq_true rfl) (Nat.le_of_ble_eq_true rfl) ?_
            exact ⟨congrArg (fun z => some (Value.int z)) (by unfold f_X2_isWrongConstant; simp only [if_neg hc1, if_neg hc2, if_pos hc5, if_neg hc15, if_pos hc16]; try rfl), rfl⟩
          · refine go_iconst 46 (1) dX2_isWrongConstant_45 rfl (by decide) ?_
            refine go_goto 50 dX2_isWrongConstant_46 (by decide) ?_
            refine go_ireturn dX2_isWrongConstant_50 rfl (by first | rfl | exact bi_nar) (Nat.le_of_ble_eq_true rfl) (Nat.le_of_ble_eq_true rfl) ?_
            exact ⟨congrArg (fun z => some (Value.int z)) (by unfold f_X2_isWrongConstant; simp only [if_neg hc1, if_neg hc2, if_pos hc5, if_neg hc15, if_neg hc16]; try rfl), rfl⟩
  · refine go_iconst 9 (0) dX2_isWrongConstant_8 rfl (by decide) ?_
    refine go_ireturn dX2_isWrongConstant_9 rfl (by first | rfl | exact bi_nar) (Nat.le_of_ble_eq_true rfl) (Nat.le_of_ble_eq_true rfl) ?_
    exact ⟨congrArg (fun z => some (Value.int z)) (by unfold f_X2_isWrongConstant; simp only [if_pos hc1]; try rfl), rfl⟩

def f_X2_isMissingSignal (S : gS) (k : Nat) (i n : Int32) : Int32 := (if (f_X2_roleOf S k i) = 2 then (if (rI S (k + 1) i.toNatClampNeg) < 0 then 1 else (if (rI S (k + 1) i.toNatClampNeg) < n then 0 else 1)) else 0)
set_option maxRecDepth 100000 in
set_option maxHeartbeats 1000000 in
theorem ct_X2_isMissingSignal (S : gS) (k : Nat) (i n : Int32) (hk : itm k) (hi : vp_in i 3) : gF mX2_isMissingSignal [.ref k, .int i, .int n] S (some (.int (f_X2_isMissingSignal S k i n))) S := by
  refine go_enter [.ref k, .int i, .int n] [(0, .ref k), (1, .int i), (2, .int n)] (by decide +kernel) rfl rfl (Nat.le_of_ble_eq_true rfl) rfl ?_
  refine go_aload_n 1 dX2_isMissingSignal_0 rfl rfl ?_
  refine go_iload_n 2 dX2_isMissingSignal_1 rfl rfl ?_
  refine g_callV 5 [.int _] [] dX2_isMissingSignal_2 rfl (ct_X2_roleOf _ _ _ hk) rfl sV_X2_isMissingSignal_19 rfl hk.1 rfl rfl (Nat.le_of_ble_eq_true rfl) (Nat.le_of_ble_eq_true rfl) (Nat.le_of_ble_eq_true rfl) ?_
  refine go_iconst 6 (2) dX2_isMissingSignal_5 rfl (by decide) ?_
  refine go_icmp_ne 9 32 dX2_isMissingSignal_6 rfl (by decide) (fun hc1 => ?_) (fun hc1 => ?_)
  · refine go_iconst 33 (0) dX2_isMissingSignal_32 rfl (by decide) ?_
    refine go_ireturn dX2_isMissingSignal_33 rfl (by first | rfl | exact bi_nar) (Nat.le_of_ble_eq_true rfl) (Nat.le_of_ble_eq_true rfl) ?_
    exact ⟨congrArg (fun z => some (Value.int z)) (by unfold f_X2_isMissingSignal; simp only [if_neg hc1]; try rfl), rfl⟩
  · refine go_aload_n 10 dX2_isMissingSignal_9 rfl rfl ?_
    refine g_getR 13 dX2_isMissingSignal_10 rfl fF_RX2_15 hk.1 rfl ?_
    refine go_iload_n 14 dX2_isMissingSignal_13 rfl rfl ?_
    refine g_iald2 15 _ dX2_isMissingSignal_14 rfl hk.2 hi rfl ?_
    refine go_if_lt 18 28 dX2_isMissingSignal_15 rfl (by decide) (fun hc2 => ?_) (fun hc2 => ?_)
    · refine go_iconst 29 (1) dX2_isMissingSignal_28 rfl (by decide) ?_
      refine go_goto 33 dX2_isMissingSignal_29 (by decide) ?_
      refine go_ireturn dX2_isMissingSignal_33 rfl (by first | rfl | exact bi_nar) (Nat.le_of_ble_eq_true rfl) (Nat.le_of_ble_eq_true rfl) ?_
      exact ⟨congrArg (fun z => some (Value.int z)) (by unfold f_X2_isMissingSignal; simp only [if_pos hc1, if_pos hc2]; try rfl), rfl⟩
    · refine go_aload_n 19 dX2_isMissingSignal_18 rfl rfl ?_
      refine g_getR 22 dX2_isMissingSignal_19 rfl fF_RX2_15 hk.1 rfl ?_
      refine go_iload_n 23 dX2_isMissingSignal_22 rfl rfl ?_
      refine g_iald2 24 _ dX2_isMissingSignal_23 rfl hk.2 hi rfl ?_
      refine go_iload_n 25 dX2_isMissingSignal_24 rfl rfl ?_
      refine go_icmp_lt 28 32 dX2_isMissingSignal_25 rfl (by decide) (fun hc3 => ?_) (fun hc3 => ?_)
      · refine go_iconst 33 (0) dX2_isMissingSignal_32 rfl (by decide) ?_
        refine go_ireturn dX2_isMissingSignal_33 rfl (by first | rfl | exact bi_nar) (Nat.le_of_ble_eq_true rfl) (Nat.le_of_ble_eq_true rfl) ?_
        exact ⟨congrArg (fun z => some (Value.int z)) (by unfold f_X2_isMissingSignal; simp only [if_pos hc1, if_neg hc2, if_pos hc3]; try rfl), rfl⟩
      · refine go_iconst 29 (1) dX2_isMissingSignal_28 rfl (by decide) ?_
        refine go_goto 33 dX2_isMissingSignal_29 (by decide) ?_
        refine go_ireturn dX2_isMissingSignal_33 rfl (by first | rfl | exact bi_nar) (Nat.le_of_ble_eq_true rfl) (Nat.le_of_ble_eq_true rfl) ?_
        exact ⟨congrArg (fun z => some (Value.int z)) (by unfold f_X2_isMissingSignal; simp only [if_pos hc1, if_neg hc2, if_neg hc3]; try rfl), rfl⟩

def f_X2_hasWrongConstant (S : gS) (k : Nat) : Int32 := (if (f_X2_isWrongConstant S k 0) = 0 then (if (f_X2_isWrongConstant S k 1) = 0 then (if (f_X2_isWrongConstant S k 2) = 0 then 0 else 1) else 1) else 1)
set_option maxRecDepth 100000 in
set_option maxHeartbeats 1000000 in
theorem ct_X2_hasWrongConstant (S : gS) (k : Nat) (hk : itm k) : gF mX2_hasWrongConstant [.ref k] S (some (.int (f_X2_hasWrongConstant S k))) S := by
  refine go_enter [.ref k] [(0, .ref k)] (by decide +kernel) rfl rfl (Nat.le_of_ble_eq_true rfl) rfl ?_
  refine go_aload_n 1 dX2_hasWrongConstant_0 rfl rfl ?_
  refine go_iconst 2 (0) dX2_hasWrongConstant_1 rfl (by decide) ?_
  refine g_callV 5 [.int _] [] dX2_hasWrongConstant_2 rfl (ct_X2_isWrongConstant _ _ _ hk (by unfold vp_in; decide)) rfl sV_X2_hasWrongConstant_27 rfl hk.1 rfl rfl (Nat.le_of_ble_eq_true rfl) (Nat.le_of_ble_eq_true rfl) (Nat.le_of_ble_eq_true rfl) ?_
  refine go_if_ne 8 24 dX2_hasWrongConstant_5 rfl (by decide) (fun hc1 => ?_) (fun hc1 => ?_)
  · refine go_iconst 25 (1) dX2_hasWrongConstant_24 rfl (by decide) ?_
    refine go_goto 29 dX2_hasWrongConstant_25 (by decide) ?_
    refine go_ireturn dX2_hasWrongConstant_29 rfl (by first | rfl | exact bi_nar) (Nat.le_of_ble_eq_true rfl) (Nat.le_of_ble_eq_true rfl) ?_
    exact ⟨congrArg (fun z => some (Value.int z)) (by unfold f_X2_hasWrongConstant; simp only [if_neg hc1]; try rfl), rfl⟩
  · refine go_aload_n 9 dX2_hasWrongConstant_8 rfl rfl ?_
    refine go_iconst 10 (1) dX2_hasWrongConstant_9 rfl (by decide) ?_
    refine g_callV 13 [.int _] [] dX2_hasWrongConstant_10 rfl (ct_X2_isWrongConstant _ _ _ hk (by unfold vp_in; decide)) rfl sV_X2_hasWrongConstant_27 rfl hk.1 rfl rfl (Nat.le_of_ble_eq_true rfl) (Nat.le_of_ble_eq_true rfl) (Nat.le_of_ble_eq_true rfl) ?_
    refine go_if_ne 16 24 dX2_hasWrongConstant_13 rfl (by decide) (fun hc2 => ?_) (fun hc2 => ?_)
    · refine go_iconst 25 (1) dX2_hasWrongConstant_24 rfl (by decide) ?_
      refine go_goto 29 dX2_hasWrongConstant_25 (by decide) ?_
      refine go_ireturn dX2_hasWrongConstant_29 rfl (by first | rfl | exact bi_nar) (Nat.le_of_ble_eq_true rfl) (Nat.le_of_ble_eq_true rfl) ?_
      exact ⟨congrArg (fun z => some (Value.int z)) (by unfold f_X2_hasWrongConstant; simp only [if_pos hc1, if_neg hc2]; try rfl), rfl⟩
    · refine go_aload_n 17 dX2_hasWrongConstant_16 rfl rfl ?_
      refine go_iconst 18 (2) dX2_hasWrongConstant_17 rfl (by decide) ?_
      refine g_callV 21 [.int _] [] dX2_hasWrongConstant_18 rfl (ct_X2_isWrongConstant _ _ _ hk (by unfold vp_in; decide)) rfl sV_X2_hasWrongConstant_27 rfl hk.1 rfl rfl (Nat.le_of_ble_eq_true rfl) (Nat.le_of_ble_eq_true rfl) (Nat.le_of_ble_eq_true rfl) ?_
      refine go_if_eq 24 28 dX2_hasWrongConstant_21 rfl (by decide) (fun hc3 => ?_) (fun hc3 => ?_)
      · refine go_iconst 29 (0) dX2_hasWrongConstant_28 rfl (by decide) ?_
        refine go_ireturn dX2_hasWrongConstant_29 rfl (by first | rfl | exact bi_nar) (Nat.le_of_ble_eq_true rfl) (Nat.le_of_ble_eq_true rfl) ?_
        exact ⟨congrArg (fun z => some (Value.int z)) (by unfold f_X2_hasWrongConstant; simp only [if_pos hc1, if_pos hc2, if_pos hc3]; try rfl), rfl⟩
      · refine go_iconst 25 (1) dX2_hasWrongConstant_24 rfl (by decide) ?_
        refine go_goto 29 dX2_hasWrongConstant_25 (by decide) ?_
        refine go_ireturn dX2_hasWrongConstant_29 rfl (by first | rfl | exact bi_nar) (Nat.le_of_ble_eq_true rfl) (Nat.le_of_ble_eq_true rfl) ?_
        exact ⟨congrArg (fun z => some (Value.int z)) (by unfold f_X2_hasWrongConstant; simp only [if_pos hc1, if_pos hc2, if_neg hc3]; try rfl), rfl⟩

def f_X2_lacksSignal (S : gS) (k : Nat) (n : Int32) : Int32 := (if (f_X2_isMissingSignal S k 0 n) = 0 then (if (f_X2_isMissingSignal S k 1 n) = 0 then (if (f_X2_isMissingSignal S k 2 n) = 0 then 0 else 1) else 1) else 1)
set_option maxRecDepth 100000 in
set_option maxHeartbeats 1000000 in
theorem ct_X2_lacksSignal (S : gS) (k : Nat) (n : Int32) (hk : itm k) : gF mX2_lacksSignal [.ref k, .int n] S (some (.int (f_X2_lacksSignal S k n))) S := by
  refine go_enter [.ref k, .int n] [(0, .ref k), (1, .int n)] (by decide +kernel) rfl rfl (Nat.le_of_ble_eq_true rfl) rfl ?_
  refine go_aload_n 1 dX2_lacksSignal_0 rfl rfl ?_
  refine go_iconst 2 (0) dX2_lacksSignal_1 rfl (by decide) ?_
  refine go_iload_n 3 dX2_lacksSignal_2 rfl rfl ?_
  refine g_callV 6 [.int _, .int _] [] dX2_lacksSignal_3 rfl (ct_X2_isMissingSignal _ _ _ _ hk (by unfold vp_in; decide)) rfl sV_X2_lacksSignal_30 rfl hk.1 rfl rfl (Nat.le_of_ble_eq_true rfl) (Nat.le_of_ble_eq_true rfl) (Nat.le_of_ble_eq_true rfl) ?_
  refine go_if_ne 9 27 dX2_lacksSignal_6 rfl (by decide) (fun hc1 => ?_) (fun hc1 => ?_)
  · refine go_iconst 28 (1) dX2_lacksSignal_27 rfl (by decide) ?_
    refine go_goto 32 dX2_lacksSignal_28 (by decide) ?_
    refine go_ireturn dX2_lacksSignal_32 rfl (by first | rfl | exact bi_nar) (Nat.le_of_ble_eq_true rfl) (Nat.le_of_ble_eq_true rfl) ?_
    exact ⟨congrArg (fun z => some (Value.int z)) (by unfold f_X2_lacksSignal; simp only [if_neg hc1]; try rfl), rfl⟩
  · refine go_aload_n 10 dX2_lacksSignal_9 rfl rfl ?_
    refine go_iconst 11 (1) dX2_lacksSignal_10 rfl (by decide) ?_
    refine go_iload_n 12 dX2_lacksSignal_11 rfl rfl ?_
    refine g_callV 15 [.int _, .int _] [] dX2_lacksSignal_12 rfl (ct_X2_isMissingSignal _ _ _ _ hk (by unfold vp_in; decide)) rfl sV_X2_lacksSignal_30 rfl hk.1 rfl rfl (Nat.le_of_ble_eq_true rfl) (Nat.le_of_ble_eq_true rfl) (Nat.le_of_ble_eq_true rfl) ?_
    refine go_if_ne 18 27 dX2_lacksSignal_15 rfl (by decide) (fun hc2 => ?_) (fun hc2 => ?_)
    · refine go_iconst 28 (1) dX2_lacksSignal_27 rfl (by decide) ?_
      refine go_goto 32 dX2_lacksSignal_28 (by decide) ?_
      refine go_ireturn dX2_lacksSignal_32 rfl (by first | rfl | exact bi_nar) (Nat.le_of_ble_eq_true rfl) (Nat.le_of_ble_eq_true rfl) ?_
      exact ⟨congrArg (fun z => some (Value.int z)) (by unfold f_X2_lacksSignal; simp only [if_pos hc1, if_neg hc2]; try rfl), rfl⟩
    · refine go_aload_n 19 dX2_lacksSignal_18 rfl rfl ?_
      refine go_iconst 20 (2) dX2_lacksSignal_19 rfl (by decide) ?_
      refine go_iload_n 21 dX2_lacksSignal_20 rfl rfl ?_
      refine g_callV 24 [.int _, .int _] [] dX2_lacksSignal_21 rfl (ct_X2_isMissingSignal _ _ _ _ hk (by unfold vp_in; decide)) rfl sV_X2_lacksSignal_30 rfl hk.1 rfl rfl (Nat.le_of_ble_eq_true rfl) (Nat.le_of_ble_eq_true rfl) (Nat.le_of_ble_eq_true rfl) ?_
      refine go_if_eq 27 31 dX2_lacksSignal_24 rfl (by decide) (fun hc3 => ?_) (fun hc3 => ?_)
      · refine go_iconst 32 (0) dX2_lacksSignal_31 rfl (by decide) ?_
        refine go_ireturn dX2_lacksSignal_32 rfl (by first | rfl | exact bi_nar) (Nat.le_of_ble_eq_true rfl) (Nat.le_of_ble_eq_true rfl) ?_
        exact ⟨congrArg (fun z => some (Value.int z)) (by unfold f_X2_lacksSignal; simp only [if_pos hc1, if_pos hc2, if_pos hc3]; try rfl), rfl⟩
      · refine go_iconst 28 (1) dX2_lacksSignal_27 rfl (by decide) ?_
        refine go_goto 32 dX2_lacksSignal_28 (by decide) ?_
        refine go_ireturn dX2_lacksSignal_32 rfl (by first | rfl | exact bi_nar) (Nat.le_of_ble_eq_true rfl) (Nat.le_of_ble_eq_true rfl) ?_
        exact ⟨congrArg (fun z => some (Value.int z)) (by unfold f_X2_lacksSignal; simp only [if_pos hc1, if_pos hc2, if_neg hc3]; try rfl), rfl⟩

def f_X2_firstWrongOperand (S : gS) (k : Nat) (n : Int32) : Int32 := (if (f_X2_isWrongConstant S k 0) = 0 then (if (f_X2_isMissingSignal S k 0 n) = 0 then (if (f_X2_isWrongConstant S k 1) = 0 then (if (f_X2_isMissingSignal S k 1 n) = 0 then (if (f_X2_isWrongConstant S k 2) = 0 then (if (f_X2_isMissingSignal S k 2 n) = 0 then (-1) else 2) else 2) else 1) else 1) else 0) else 0)
set_option maxRecDepth 100000 in
set_option maxHeartbeats 1000000 in
theorem ct_X2_firstWrongOperand (S : gS) (k : Nat) (n : Int32) (hk : itm k) : gF mX2_firstWrongOperand [.ref k, .int n] S (some (.int (f_X2_firstWrongOperand S k n))) S := by
  refine go_enter [.ref k, .int n] [(0, .ref k), (1, .int n)] (by decide +kernel) rfl rfl (Nat.le_of_ble_eq_true rfl) rfl ?_
  refine go_iconst 1 (0) dX2_firstWrongOperand_0 rfl (by decide) ?_
  refine go_istore_n 2 [(2, .int _), (0, .ref k), (1, .int _)] dX2_firstWrongOperand_1 rfl (Nat.le_of_ble_eq_true rfl) rfl ?_
  refine go_iload_n 3 dX2_firstWrongOperand_2 rfl rfl ?_
  refine go_iconst 4 (3) dX2_firstWrongOperand_3 rfl (by decide) ?_
  refine go_icmp_ge 7 32 dX2_firstWrongOperand_4 rfl (by decide) (fun hc1 => absurd hc1 (by decide)) (fun _ => ?_)
  refine go_aload_n 8 dX2_firstWrongOperand_7 rfl rfl ?_
  refine go_iload_n 9 dX2_firstWrongOperand_8 rfl rfl ?_
  refine g_callV 12 [.int _] [] dX2_firstWrongOperand_9 rfl (ct_X2_isWrongConstant _ _ _ hk (by unfold vp_in; decide)) rfl sV_X2_firstWrongOperand_27 rfl hk.1 rfl rfl (Nat.le_of_ble_eq_true rfl) (Nat.le_of_ble_eq_true rfl) (Nat.le_of_ble_eq_true rfl) ?_
  refine go_if_ne 15 24 dX2_firstWrongOperand_12 rfl (by decide) (fun hc2 => ?_) (fun hc2 => ?_)
  · refine go_iload_n 25 dX2_firstWrongOperand_24 rfl rfl ?_
    refine go_ireturn dX2_firstWrongOperand_25 rfl (by first | rfl | exact bi_nar) (Nat.le_of_ble_eq_true rfl) (Nat.le_of_ble_eq_true rfl) ?_
    exact ⟨congrArg (fun z => some (Value.int z)) (by unfold f_X2_firstWrongOperand; simp only [if_neg hc2]; try rfl), rfl⟩
  · refine go_aload_n 16 dX2_firstWrongOperand_15 rfl rfl ?_
    refine go_iload_n 17 dX2_firstWrongOperand_16 rfl rfl ?_
    refine go_iload_n 18 dX2_firstWrongOperand_17 rfl rfl ?_
    refine g_callV 21 [.int _, .int _] [] dX2_firstWrongOperand_18 rfl (ct_X2_isMissingSignal _ _ _ _ hk (by unfold vp_in; decide)) rfl sV_X2_firstWrongOperand_30 rfl hk.1 rfl rfl (Nat.le_of_ble_eq_true rfl) (Nat.le_of_ble_eq_true rfl) (Nat.le_of_ble_eq_true rfl) ?_
    refine go_if_eq 24 26 dX2_firstWrongOperand_21 rfl (by decide) (fun hc3 => ?_) (fun hc3 => ?_)
    · refine go_iinc 29 [(2, .int _), (0, .ref k), (1, .int _)] (1) dX2_firstWrongOperand_26 rfl (Nat.le_of_ble_eq_true rfl) rfl (by decide) rfl ?_
      refine go_goto 2 dX2_firstWrongOperand_29 (by decide) ?_
      refine go_iload_n 3 dX2_firstWrongOperand_2 rfl rfl ?_
      refine go_iconst 4 (3) dX2_firstWrongOperand_3 rfl (by decide) ?_
      refine go_icmp_ge 7 32 dX2_firstWrongOperand_4 rfl (by decide) (fun hc4 => absurd hc4 (by decide)) (fun _ => ?_)
      refine go_aload_n 8 dX2_firstWrongOperand_7 rfl rfl ?_
      refine go_iload_n 9 dX2_firstWrongOperand_8 rfl rfl ?_
      refine g_callV 12 [.int _] [] dX2_firstWrongOperand_9 rfl (ct_X2_isWrongConstant _ _ _ hk (by unfold vp_in; decide)) rfl sV_X2_firstWrongOperand_27 rfl hk.1 rfl rfl (Nat.le_of_ble_eq_true rfl) (Nat.le_of_ble_eq_true rfl) (Nat.le_of_ble_eq_true rfl) ?_
      refine go_if_ne 15 24 dX2_firstWrongOperand_12 rfl (by decide) (fun hc5 => ?_) (fun hc5 => ?_)
      · refine go_iload_n 25 dX2_firstWrongOperand_24 rfl rfl ?_
        refine go_ireturn dX2_firstWrongOperand_25 rfl (by first | rfl | exact bi_nar) (Nat.le_of_ble_eq_true rfl) (Nat.le_of_ble_eq_true rfl) ?_
        exact ⟨congrArg (fun z => some (Value.int z)) (by unfold f_X2_firstWrongOperand; simp only [if_pos hc2, if_pos hc3, if_neg hc5]; try rfl), rfl⟩
      · refine go_aload_n 16 dX2_firstWrongOperand_15 rfl rfl ?_
        refine go_iload_n 17 dX2_firstWrongOperand_16 rfl rfl ?_
        refine go_iload_n 18 dX2_firstWrongOperand_17 rfl rfl ?_
        refine g_callV 21 [.int _, .int _] [] dX2_firstWrongOperand_18 rfl (ct_X2_isMissingSignal _ _ _ _ hk (by unfold vp_in; decide)) rfl sV_X2_firstWrongOperand_30 rfl hk.1 rfl rfl (Nat.le_of_ble_eq_true rfl) (Nat.le_of_ble_eq_true rfl) (Nat.le_of_ble_eq_true rfl) ?_
        refine go_if_eq 24 26 dX2_firstWrongOperand_21 rfl (by decide) (fun hc6 => ?_) (fun hc6 => ?_)
        · refine go_iinc 29 [(2, .int _), (0, .ref k), (1, .int _)] (2) dX2_firstWrongOperand_26 rfl (Nat.le_of_ble_eq_true rfl) rfl (by decide) rfl ?_
          refine go_goto 2 dX2_firstWrongOperand_29 (by decide) ?_
          refine go_iload_n 3 dX2_firstWrongOperand_2 rfl rfl ?_
          refine go_iconst 4 (3) dX2_firstWrongOperand_3 rfl (by decide) ?_
          refine go_icmp_ge 7 32 dX2_firstWrongOperand_4 rfl (by decide) (fun hc7 => absurd hc7 (by decide)) (fun _ => ?_)
          refine go_aload_n 8 dX2_firstWrongOperand_7 rfl rfl ?_
          refine go_iload_n 9 dX2_firstWrongOperand_8 rfl rfl ?_
          refine g_callV 12 [.int _] [] dX2_firstWrongOperand_9 rfl (ct_X2_isWrongConstant _ _ _ hk (by unfold vp_in; decide)) rfl sV_X2_firstWrongOperand_27 rfl hk.1 rfl rfl (Nat.le_of_ble_eq_true rfl) (Nat.le_of_ble_eq_true rfl) (Nat.le_of_ble_eq_true rfl) ?_
          refine go_if_ne 15 24 dX2_firstWrongOperand_12 rfl (by decide) (fun hc8 => ?_) (fun hc8 => ?_)
          · refine go_iload_n 25 dX2_firstWrongOperand_24 rfl rfl ?_
            refine go_ireturn dX2_firstWrongOperand_25 rfl (by first | rfl | exact bi_nar) (Nat.le_of_ble_eq_true rfl) (Nat.le_of_ble_eq_true rfl) ?_
            exact ⟨congrArg (fun z => some (Value.int z)) (by unfold f_X2_firstWrongOperand; simp only [if_pos hc2, if_pos hc3, if_pos hc5, if_pos hc6, if_neg hc8]; try rfl), rfl⟩
          · refine go_aload_n 16 dX2_firstWrongOperand_15 rfl rfl ?_
            refine go_iload_n 17 dX2_firstWrongOperand_16 rfl rfl ?_
            refine go_iload_n 18 dX2_firstWrongOperand_17 rfl rfl ?_
            refine g_callV 21 [.int _, .int _] [] dX2_firstWrongOperand_18 rfl (ct_X2_isMissingSignal _ _ _ _ hk (by unfold vp_in; decide)) rfl sV_X2_firstWrongOperand_30 rfl hk.1 rfl rfl (Nat.le_of_ble_eq_true rfl) (Nat.le_of_ble_eq_true rfl) (Nat.le_of_ble_eq_true rfl) ?_
            refine go_if_eq 24 26 dX2_firstWrongOperand_21 rfl (by decide) (fun hc9 => ?_) (fun hc9 => ?_)
            · refine go_iinc 29 [(2, .int _), (0, .ref k), (1, .int _)] (3) dX2_firstWrongOperand_26 rfl (Nat.le_of_ble_eq_true rfl) rfl (by decide) rfl ?_
              refine go_goto 2 dX2_firstWrongOperand_29 (by decide) ?_
              refine go_iload_n 3 dX2_firstWrongOperand_2 rfl rfl ?_
              refine go_iconst 4 (3) dX2_firstWrongOperand_3 rfl (by decide) ?_
              refine go_icmp_ge 7 32 dX2_firstWrongOperand_4 rfl (by decide) (fun _ => ?_) (fun hc10 => absurd hc10 (by decide))
              refine go_iconst 33 (-1) dX2_firstWrongOperand_32 rfl (by decide) ?_
              refine go_ireturn dX2_firstWrongOperand_33 rfl (by first | rfl | exact bi_nar) (Nat.le_of_ble_eq_true rfl) (Nat.le_of_ble_eq_true rfl) ?_
              exact ⟨congrArg (fun z => some (Value.int z)) (by unfold f_X2_firstWrongOperand; simp only [if_pos hc2, if_pos hc3, if_pos hc5, if_pos hc6, if_pos hc8, if_pos hc9]; try rfl), rfl⟩
            · refine go_iload_n 25 dX2_firstWrongOperand_24 rfl rfl ?_
              refine go_ireturn dX2_firstWrongOperand_25 rfl (by first | rfl | exact bi_nar) (Nat.le_of_ble_eq_true rfl) (Nat.le_of_ble_eq_true rfl) ?_
              exact ⟨congrArg (fun z => some (Value.int z)) (by unfold f_X2_firstWrongOperand; simp only [if_pos hc2, if_pos hc3, if_pos hc5, if_pos hc6, if_pos hc8, if_neg hc9]; try rfl), rfl⟩
        · refine go_iload_n 25 dX2_firstWrongOperand_24 rfl rfl ?_
          refine go_ireturn dX2_firstWrongOperand_25 rfl (by first | rfl | exact bi_nar) (Nat.le_of_ble_eq_true rfl) (Nat.le_of_ble_eq_true rfl) ?_
          exact ⟨congrArg (fun z => some (Value.int z)) (by unfold f_X2_firstWrongOperand; simp only [if_pos hc2, if_pos hc3, if_pos hc5, if_neg hc6]; try rfl), rfl⟩
    · refine go_iload_n 25 dX2_firstWrongOperand_24 rfl rfl ?_
      refine go_ireturn dX2_firstWrongOperand_25 rfl (by first | rfl | exact bi_nar) (Nat.le_of_ble_eq_true rfl) (Nat.le_of_ble_eq_true rfl) ?_
      exact ⟨congrArg (fun z => some (Value.int z)) (by unfold f_X2_firstWrongOperand; simp only [if_pos hc2, if_neg hc3]; try rfl), rfl⟩

def f_X0_has (S : gS) (r : Int32) : Int32 := (if r < 0 then 0 else (if (rI S 1 0) ≤ r then 0 else 1))
set_option maxRecDepth 100000 in
set_option maxHeartbeats 1000000 in
theorem ct_X0_has (S : gS) (r : Int32)  : gF mX0_has [.ref 1, .int r] S (some (.int (f_X0_has S r))) S := by
  refine go_enter [.ref 1, .int r] [(0, .ref 1), (1, .int r)] (by decide +kernel) rfl rfl (Nat.le_of_ble_eq_true rfl) rfl ?_
  refine go_iload_n 1 dX0_has_0 rfl rfl ?_
  refine go_if_lt 4 16 dX0_has_1 rfl (by decide) (fun hc1 => ?_) (fun hc1 => ?_)
  · refine go_iconst 17 (0) dX0_has_16 rfl (by decide) ?_
    refine go_ireturn dX0_has_17 rfl (by first | rfl | exact bi_nar) (Nat.le_of_ble_eq_true rfl) (Nat.le_of_ble_eq_true rfl) ?_
    exact ⟨congrArg (fun z => some (Value.int z)) (by unfold f_X0_has; simp only [if_pos hc1]; try rfl), rfl⟩
  · refine go_iload_n 5 dX0_has_4 rfl rfl ?_
    refine go_aload_n 6 dX0_has_5 rfl rfl ?_
    refine g_getI 9 dX0_has_6 rfl fF_RX0_9 ly_1 rfl ?_
    refine go_icmp_ge 12 16 dX0_has_9 rfl (by decide) (fun hc2 => ?_) (fun hc2 => ?_)
    · refine go_iconst 17 (0) dX0_has_16 rfl (by decide) ?_
      refine go_ireturn dX0_has_17 rfl (by first | rfl | exact bi_nar) (Nat.le_of_ble_eq_true rfl) (Nat.le_of_ble_eq_true rfl) ?_
      exact ⟨congrArg (fun z => some (Value.int z)) (by unfold f_X0_has; simp only [if_neg hc1, if_pos hc2]; try rfl), rfl⟩
    · refine go_iconst 13 (1) dX0_has_12 rfl (by decide) ?_
      refine go_goto 17 dX0_has_13 (by decide) ?_
      refine go_ireturn dX0_has_17 rfl (by first | rfl | exact bi_nar) (Nat.le_of_ble_eq_true rfl) (Nat.le_of_ble_eq_true rfl) ?_
      exact ⟨congrArg (fun z => some (Value.int z)) (by unfold f_X0_has; simp only [if_neg hc1, if_neg hc2]; try rfl), rfl⟩

def f_X0_isFull (S : gS)  : Int32 := (if (rI S 1 0) < 24 then 0 else 1)
set_option maxRecDepth 100000 in
set_option maxHeartbeats 1000000 in
theorem ct_X0_isFull (S : gS)   : gF mX0_isFull [.ref 1] S (some (.int (f_X0_isFull S))) S := by
  refine go_enter [.ref 1] [(0, .ref 1)] (by decide +kernel) rfl rfl (Nat.le_of_ble_eq_true rfl) rfl ?_
  refine go_aload_n 1 dX0_isFull_0 rfl rfl ?_
  refine g_getI 4 dX0_isFull_1 rfl fF_RX0_9 ly_1 rfl ?_
  refine go_bipush 6 (24) dX0_isFull_4 rfl (by decide) ?_
  refine go_icmp_lt 9 13 dX0_isFull_6 rfl (by decide) (fun hc1 => ?_) (fun hc1 => ?_)
  · refine go_iconst 14 (0) dX0_isFull_13 rfl (by decide) ?_
    refine go_ireturn dX0_isFull_14 rfl (by first | rfl | exact bi_nar) (Nat.le_of_ble_eq_true rfl) (Nat.le_of_ble_eq_true rfl) ?_
    exact ⟨congrArg (fun z => some (Value.int z)) (by unfold f_X0_isFull; simp only [if_pos hc1]; try rfl), rfl⟩
  · refine go_iconst 10 (1) dX0_isFull_9 rfl (by decide) ?_
    refine go_goto 14 dX0_isFull_10 (by decide) ?_
    refine go_ireturn dX0_isFull_14 rfl (by first | rfl | exact bi_nar) (Nat.le_of_ble_eq_true rfl) (Nat.le_of_ble_eq_true rfl) ?_
    exact ⟨congrArg (fun z => some (Value.int z)) (by unfold f_X0_isFull; simp only [if_neg hc1]; try rfl), rfl⟩

def f_X0_append (S : gS) (k : Nat) : gS := (wI (wI (wI (wI (wI (wI (wI (wI (wI S 2 ((rI S 1 0)).toNatClampNeg ((rI S k 0))) 3 ((rI S 1 0)).toNatClampNeg ((rI (wI S 2 ((rI S 1 0)).toNatClampNeg ((rI S k 0))) (k + 1) 0))) 4 ((rI S 1 0)).toNatClampNeg ((rI (wI (wI S 2 ((rI S 1 0)).toNatClampNeg ((rI S k 0))) 3 ((rI S 1 0)).toNatClampNeg ((rI (wI S 2 ((rI S 1 0)).toNatClampNeg ((rI S k 0))) (k + 1) 0))) (k + 1) 1))) 5 ((rI S 1 0)).toNatClampNeg ((rI (wI (wI (wI S 2 ((rI S 1 0)).toNatClampNeg ((rI S k 0))) 3 ((rI S 1 0)).toNatClampNeg ((rI (wI S 2 ((rI S 1 0)).toNatClampNeg ((rI S k 0))) (k + 1) 0))) 4 ((rI S 1 0)).toNatClampNeg ((rI (wI (wI S 2 ((rI S 1 0)).toNatClampNeg ((rI S k 0))) 3 ((rI S 1 0)).toNatClampNeg ((rI (wI S 2 ((rI S 1 0)).toNatClampNeg ((rI S k 0))) (k + 1) 0))) (k + 1) 1))) (k + 1) 2))) 6 ((rI S 1 0)).toNatClampNeg ((rI S 1 0))) 7 ((rI S 1 0)).toNatClampNeg ((vp_nar .boolean 0))) 8 ((rI S 1 0)).toNatClampNeg 0) 9 ((rI S 1 0)).toNatClampNeg ((rI (wI (wI (wI (wI (wI (wI (wI S 2 ((rI S 1 0)).toNatClampNeg ((rI S k 0))) 3 ((rI S 1 0)).toNatClampNeg ((rI (wI S 2 ((rI S 1 0)).toNatClampNeg ((rI S k 0))) (k + 1) 0))) 4 ((rI S 1 0)).toNatClampNeg ((rI (wI (wI S 2 ((rI S 1 0)).toNatClampNeg ((rI S k 0))) 3 ((rI S 1 0)).toNatClampNeg ((rI (wI S 2 ((rI S 1 0)).toNatClampNeg ((rI S k 0))) (k + 1) 0))) (k + 1) 1))) 5 ((rI S 1 0)).toNatClampNeg ((rI (wI (wI (wI S 2 ((rI S 1 0)).toNatClampNeg ((rI S k 0))) 3 ((rI S 1 0)).toNatClampNeg ((rI (wI S 2 ((rI S 1 0)).toNatClampNeg ((rI S k 0))) (k + 1) 0))) 4 ((rI S 1 0)).toNatClampNeg ((rI (wI (wI S 2 ((rI S 1 0)).toNatClampNeg ((rI S k 0))) 3 ((rI S 1 0)).toNatClampNeg ((rI (wI S 2 ((rI S 1 0)).toNatClampNeg ((rI S k 0))) (k + 1) 0))) (k + 1) 1))) (k + 1) 2))) 6 ((rI S 1 0)).toNatClampNeg ((rI S 1 0))) 7 ((rI S 1 0)).toNatClampNeg ((vp_nar .boolean 0))) 8 ((rI S 1 0)).toNatClampNeg 0) (k + 1) 0))) 1 0 (((rI S 1 0) + 1)))
set_option maxRecDepth 100000 in
set_option maxHeartbeats 1000000 in
theorem ct_X0_append (S : gS) (k : Nat) (hk : itm k) (hs : vp_in (rI S 1 0) 24) : gF mX0_append [.ref 1, .ref k] S none (f_X0_append S k) := by
  refine go_enter [.ref 1, .ref k] [(0, .ref 1), (1, .ref k)] (by decide +kernel) rfl rfl (Nat.le_of_ble_eq_true rfl) rfl ?_
  refine go_aload_n 1 dX0_append_0 rfl rfl ?_
  refine g_getI 4 dX0_append_1 rfl fF_RX0_9 ly_1 rfl ?_
  refine go_istore_n 5 [(2, .int _), (0, .ref 1), (1, .ref k)] dX0_append_4 rfl (Nat.le_of_ble_eq_true rfl) rfl ?_
  refine go_aload_n 6 dX0_append_5 rfl rfl ?_
  refine g_getR 9 dX0_append_6 rfl fF_RX0_18 ly_1 rfl ?_
  refine go_iload_n 10 dX0_append_9 rfl rfl ?_
  refine go_aload_n 11 dX0_append_10 rfl rfl ?_
  refine g_getI 14 dX0_append_11 rfl fF_RX0_50 hk.1 rfl ?_
  refine g_iast2 15 _ dX0_append_14 rfl ly_2 hs rfl ?_
  refine go_aload_n 16 dX0_append_15 rfl rfl ?_
  refine g_getR 19 dX0_append_16 rfl fF_RX0_22 ly_1 rfl ?_
  refine go_iload_n 20 dX0_append_19 rfl rfl ?_
  refine go_aload_n 21 dX0_append_20 rfl rfl ?_
  refine g_getR 24 dX0_append_21 rfl fF_RX0_54 hk.1 rfl ?_
  refine go_iconst 25 (0) dX0_append_24 rfl (by decide) ?_
  refine g_iald2 26 0 dX0_append_25 rfl hk.2 (by unfold vp_in; decide) rfl ?_
  refine g_iast2 27 _ dX0_append_26 rfl ly_3 hs rfl ?_
  refine go_aload_n 28 dX0_append_27 rfl rfl ?_
  refine g_getR 31 dX0_append_28 rfl fF_RX0_25 ly_1 rfl ?_
  refine go_iload_n 32 dX0_append_31 rfl rfl ?_
  refine go_aload_n 33 dX0_append_32 rfl rfl ?_
  refine g_getR 36 dX0_append_33 rfl fF_RX0_54 hk.1 rfl ?_
  refine go_iconst 37 (1) dX0_append_36 rfl (by decide) ?_
  refine g_iald2 38 1 dX0_append_37 rfl hk.2 (by unfold vp_in; decide) rfl ?_
  refine g_iast2 39 _ dX0_append_38 rfl ly_4 hs rfl ?_
  refine go_aload_n 40 dX0_append_39 rfl rfl ?_
  refine g_getR 43 dX0_append_40 rfl fF_RX0_28 ly_1 rfl ?_
  refine go_iload_n 44 dX0_append_43 rfl rfl ?_
  refine go_aload_n 45 dX0_append_44 rfl rfl ?_
  refine g_getR 48 dX0_append_45 rfl fF_RX0_54 hk.1 rfl ?_
  refine go_iconst 49 (2) dX0_append_48 rfl (by decide) ?_
  refine g_iald2 50 2 dX0_append_49 rfl hk.2 (by unfold vp_in; decide) rfl ?_
  refine g_iast2 51 _ dX0_append_50 rfl ly_5 hs rfl ?_
  refine go_aload_n 52 dX0_append_51 rfl rfl ?_
  refine g_getR 55 dX0_append_52 rfl fF_RX0_31 ly_1 rfl ?_
  refine go_iload_n 56 dX0_append_55 rfl rfl ?_
  refine go_iload_n 57 dX0_append_56 rfl rfl ?_
  refine g_iast2 58 _ dX0_append_57 rfl ly_6 hs rfl ?_
  refine go_aload_n 59 dX0_append_58 rfl rfl ?_
  refine g_getR 62 dX0_append_59 rfl fF_RX0_34 ly_1 rfl ?_
  refine go_iload_n 63 dX0_append_62 rfl rfl ?_
  refine go_iconst 64 (0) dX0_append_63 rfl (by decide) ?_
  refine g_zast2 65 _ dX0_append_64 rfl ly_7 hs rfl ?_
  refine go_aload_n 66 dX0_append_65 rfl rfl ?_
  refine g_getR 69 dX0_append_66 rfl fF_RX0_38 ly_1 rfl ?_
  refine go_iload_n 70 dX0_append_69 rfl rfl ?_
  refine go_iconst 71 (0) dX0_append_70 rfl (by decide) ?_
  refine g_iast2 72 _ dX0_append_71 rfl ly_8 hs rfl ?_
  refine go_aload_n 73 dX0_append_72 rfl rfl ?_
  refine g_getR 76 dX0_append_73 rfl fF_RX0_41 ly_1 rfl ?_
  refine go_iload_n 77 dX0_append_76 rfl rfl ?_
  refine go_aload_n 78 dX0_append_77 rfl rfl ?_
  refine g_getR 81 dX0_append_78 rfl fF_RX0_54 hk.1 rfl ?_
  refine go_iconst 82 (0) dX0_append_81 rfl (by decide) ?_
  refine g_iald2 83 0 dX0_append_82 rfl hk.2 (by unfold vp_in; decide) rfl ?_
  refine g_iast2 84 _ dX0_append_83 rfl ly_9 hs rfl ?_
  refine go_aload_n 85 dX0_append_84 rfl rfl ?_
  refine go_iload_n 86 dX0_append_85 rfl rfl ?_
  refine go_iconst 87 (1) dX0_append_86 rfl (by decide) ?_
  refine go_iadd 88 dX0_append_87 rfl ?_
  refine g_putI 91 dX0_append_88 rfl fF_RX0_9 ly_1 rfl (fun q hq => by cases hq; rfl) rfl rfl ?_
  refine go_return dX0_append_91 rfl (Nat.le_of_ble_eq_true rfl) (Nat.le_of_ble_eq_true rfl) ?_
  exact ⟨rfl, congrArg hp rfl⟩
theorem fr_f_X0_append {a0 c0 : Nat} (h1_0 : ¬ (a0 = 1 ∧ c0 = 0)) (h2 : a0 ≠ 2) (h3 : a0 ≠ 3) (h4 : a0 ≠ 4) (h5 : a0 ≠ 5) (h6 : a0 ≠ 6) (h7 : a0 ≠ 7) (h8 : a0 ≠ 8) (h9 : a0 ≠ 9) (S : gS) (k : Nat) : rI (f_X0_append S k) a0 c0 = rI S a0 c0 := by
  unfold f_X0_append
  (repeat' split) <;> simp only [rI_wIc h1_0, rI_wIk h2, rI_wRk h2, rI_wIk h3, rI_wRk h3, rI_wIk h4, rI_wRk h4, rI_wIk h5, rI_wRk h5, rI_wIk h6, rI_wRk h6, rI_wIk h7, rI_wRk h7, rI_wIk h8, rI_wRk h8, rI_wIk h9, rI_wRk h9]

