set_option maxRecDepth 100000 in
set_option maxHeartbeats 4000000 in
theorem ct_X9_thrown (S : gS) : gF mX9_thrown [.ref 115] S (some (.int (rI S 115 0))) S := by
  refine go_enter [.ref 115] [(0, .ref 115)] (by decide +kernel) rfl rfl (Nat.le_of_ble_eq_true rfl) rfl ?_
  refine go_aload_n 1 dX9_thrown_0 rfl rfl ?_
  refine g_getI 4 dX9_thrown_1 rfl fF_RX9_98 ly_115 rfl ?_
  refine go_ireturn dX9_thrown_4 rfl (by first | rfl | exact bi_nar) (Nat.le_of_ble_eq_true rfl) (Nat.le_of_ble_eq_true rfl) ?_
  exact ⟨rfl, rfl⟩

set_option maxRecDepth 100000 in
set_option maxHeartbeats 4000000 in
theorem ct_X9_fails (S : gS) (c : Int32) : gF mX9_fails [.ref 115, .int c] S (some (.int 0)) (wI S 115 0 c) := by
  refine go_enter [.ref 115, .int c] [(0, .ref 115), (1, .int c)] (by decide +kernel) rfl rfl (Nat.le_of_ble_eq_true rfl) rfl ?_
  refine go_aload_n 1 dX9_fails_0 rfl rfl ?_
  refine go_iload_n 2 dX9_fails_1 rfl rfl ?_
  refine g_putI 5 dX9_fails_2 rfl fF_RX9_98 ly_115 rfl (fun q hq => by cases hq; rfl) rfl rfl ?_
  refine go_iconst 6 (0) dX9_fails_5 rfl (by decide) ?_
  refine go_ireturn dX9_fails_6 rfl (by first | rfl | exact bi_nar) (Nat.le_of_ble_eq_true rfl) (Nat.le_of_ble_eq_true rfl) ?_
  exact ⟨rfl, rfl⟩

set_option maxRecDepth 100000 in
set_option maxHeartbeats 4000000 in
theorem ct_X9_refuses (S : gS) (c : Int32) : gF mX9_refuses [.ref 115, .int c] S (some (.int 0)) (wI S 115 0 c) := by
  refine go_enter [.ref 115, .int c] [(0, .ref 115), (1, .int c)] (by decide +kernel) rfl rfl (Nat.le_of_ble_eq_true rfl) rfl ?_
  refine go_aload_n 1 dX9_refuses_0 rfl rfl ?_
  refine go_iload_n 2 dX9_refuses_1 rfl rfl ?_
  refine g_putI 5 dX9_refuses_2 rfl fF_RX9_98 ly_115 rfl (fun q hq => by cases hq; rfl) rfl rfl ?_
  refine go_iconst 6 (0) dX9_refuses_5 rfl (by decide) ?_
  refine go_ireturn dX9_refuses_6 rfl (by first | rfl | exact bi_nar) (Nat.le_of_ble_eq_true rfl) (Nat.le_of_ble_eq_true rfl) ?_
  exact ⟨rfl, rfl⟩

set_option maxRecDepth 100000 in
set_option maxHeartbeats 4000000 in
theorem ct_X9_isSignal (S : gS) (s : Int32) : gF mX9_isSignal [.ref 115, .int s] S (some (.int (bi (0 ≤ s ∧ s < rI S 115 10)))) S := by
  refine go_enter [.ref 115, .int s] [(0, .ref 115), (1, .int s)] (by decide +kernel) rfl rfl (Nat.le_of_ble_eq_true rfl) rfl ?_
  refine go_iload_n 1 dX9_isSignal_0 rfl rfl ?_
  refine go_if_lt 4 16 dX9_isSignal_1 rfl (by decide) (fun hc1 => ?_) (fun hc1 => ?_)
  · refine go_iconst 17 (0) dX9_isSignal_16 rfl (by decide) ?_
    refine go_ireturn dX9_isSignal_17 rfl (by first | rfl | exact bi_nar) (Nat.le_of_ble_eq_true rfl) (Nat.le_of_ble_eq_true rfl) ?_
    refine ⟨?_, rfl⟩
    simp only [cmp_lt, cmp_gt, cmp_le, cmp_ge, cmp_eq, Option.some.injEq, Value.int.injEq] at *
    first | (simp_all [bi]; done) | (simp_all [bi]; intros; simp only [il, ile, jl, jle] at *; simp at *; omega) | (simp_all [bi]; intros; simp only [il, ile, jl, jle] at *; omega)
  · refine go_iload_n 5 dX9_isSignal_4 rfl rfl ?_
    refine go_aload_n 6 dX9_isSignal_5 rfl rfl ?_
    refine g_getI 9 dX9_isSignal_6 rfl fF_RX9_102 ly_115 rfl ?_
    refine go_icmp_ge 12 16 dX9_isSignal_9 rfl (by decide) (fun hc2 => ?_) (fun hc2 => ?_)
    · refine go_iconst 17 (0) dX9_isSignal_16 rfl (by decide) ?_
      refine go_ireturn dX9_isSignal_17 rfl (by first | rfl | exact bi_nar) (Nat.le_of_ble_eq_true rfl) (Nat.le_of_ble_eq_true rfl) ?_
      refine ⟨?_, rfl⟩
      simp only [cmp_lt, cmp_gt, cmp_le, cmp_ge, cmp_eq, Option.some.injEq, Value.int.injEq] at *
      first | (simp_all [bi]; done) | (simp_all [bi]; intros; simp only [il, ile, jl, jle] at *; simp at *; omega) | (simp_all [bi]; intros; simp only [il, ile, jl, jle] at *; omega)
    · refine go_iconst 13 (1) dX9_isSignal_12 rfl (by decide) ?_
      refine go_goto 17 dX9_isSignal_13 (by decide) ?_
      refine go_ireturn dX9_isSignal_17 rfl (by first | rfl | exact bi_nar) (Nat.le_of_ble_eq_true rfl) (Nat.le_of_ble_eq_true rfl) ?_
      refine ⟨?_, rfl⟩
      simp only [cmp_lt, cmp_gt, cmp_le, cmp_ge, cmp_eq, Option.some.injEq, Value.int.injEq] at *
      first | (simp_all [bi]; done) | (simp_all [bi]; intros; simp only [il, ile, jl, jle] at *; simp at *; omega) | (simp_all [bi]; intros; simp only [il, ile, jl, jle] at *; omega)

set_option maxRecDepth 100000 in
set_option maxHeartbeats 4000000 in
theorem ct_X9_isBetween (S : gS) (v lo hi : Int64) : gF mX9_isBetween [.long v, .long lo, .long hi] S (some (.int (bi (lo ≤ v ∧ v ≤ hi)))) S := by
  refine go_enter [.long v, .long lo, .long hi] [(0, .long v), (2, .long lo), (4, .long hi)] (by decide +kernel) rfl rfl (Nat.le_of_ble_eq_true rfl) rfl ?_
  refine go_lload_n 1 dX9_isBetween_0 rfl rfl ?_
  refine go_lload_n 2 dX9_isBetween_1 rfl rfl ?_
  refine go_lcmp 3 dX9_isBetween_2 rfl ?_
  refine go_if_lt 6 17 dX9_isBetween_3 rfl (by decide) (fun hc1 => ?_) (fun hc1 => ?_)
  · refine go_iconst 18 (0) dX9_isBetween_17 rfl (by decide) ?_
    refine go_ireturn dX9_isBetween_18 rfl (by first | rfl | exact bi_nar) (Nat.le_of_ble_eq_true rfl) (Nat.le_of_ble_eq_true rfl) ?_
    refine ⟨?_, rfl⟩
    simp only [cmp_lt, cmp_gt, cmp_le, cmp_ge, cmp_eq, Option.some.injEq, Value.int.injEq] at *
    first | (simp_all [bi]; done) | (simp_all [bi]; intros; simp only [il, ile, jl, jle] at *; simp at *; omega) | (simp_all [bi]; intros; simp only [il, ile, jl, jle] at *; omega)
  · refine go_lload_n 7 dX9_isBetween_6 rfl rfl ?_
    refine go_lload 9 dX9_isBetween_7 rfl rfl ?_
    refine go_lcmp 10 dX9_isBetween_9 rfl ?_
    refine go_if_gt 13 17 dX9_isBetween_10 rfl (by decide) (fun hc2 => ?_) (fun hc2 => ?_)
    · refine go_iconst 18 (0) dX9_isBetween_17 rfl (by decide) ?_
      refine go_ireturn dX9_isBetween_18 rfl (by first | rfl | exact bi_nar) (Nat.le_of_ble_eq_true rfl) (Nat.le_of_ble_eq_true rfl) ?_
      refine ⟨?_, rfl⟩
      simp only [cmp_lt, cmp_gt, cmp_le, cmp_ge, cmp_eq, Option.some.injEq, Value.int.injEq] at *
      first | (simp_all [bi]; done) | (simp_all [bi]; intros; simp only [il, ile, jl, jle] at *; simp at *; omega) | (simp_all [bi]; intros; simp only [il, ile, jl, jle] at *; omega)
    · refine go_iconst 14 (1) dX9_isBetween_13 rfl (by decide) ?_
      refine go_goto 18 dX9_isBetween_14 (by decide) ?_
      refine go_ireturn dX9_isBetween_18 rfl (by first | rfl | exact bi_nar) (Nat.le_of_ble_eq_true rfl) (Nat.le_of_ble_eq_true rfl) ?_
      refine ⟨?_, rfl⟩
      simp only [cmp_lt, cmp_gt, cmp_le, cmp_ge, cmp_eq, Option.some.injEq, Value.int.injEq] at *
      first | (simp_all [bi]; done) | (simp_all [bi]; intros; simp only [il, ile, jl, jle] at *; simp at *; omega) | (simp_all [bi]; intros; simp only [il, ile, jl, jle] at *; omega)

set_option maxRecDepth 100000 in
set_option maxHeartbeats 4000000 in
theorem ct_X9_isConstant (S : gS) (v : Int32) : gF mX9_isConstant [.int v] S (some (.int (bi ((-4096 : Int64) ≤ v.toInt64 ∧ v.toInt64 ≤ 4095)))) S := by
  refine go_enter [.int v] [(0, .int v)] (by decide +kernel) rfl rfl (Nat.le_of_ble_eq_true rfl) rfl ?_
  refine go_iload_n 1 dX9_isConstant_0 rfl rfl ?_
  refine go_i2l 2 dX9_isConstant_1 rfl ?_
  refine go_ldc2 5 (-4096) dX9_isConstant_2 rfl wK_RX9_105 ?_
  refine go_ldc2 8 (4095) dX9_isConstant_5 rfl wK_RX9_107 ?_
  refine g_callS 11 [.long _, .long _, .long _] [] dX9_isConstant_8 rfl (ct_X9_isBetween _ _ _ _) rfl sV_X9_isConstant_109 rfl (Nat.le_of_ble_eq_true rfl) (Nat.le_of_ble_eq_true rfl) (Nat.le_of_ble_eq_true rfl) ?_
  refine go_ireturn dX9_isConstant_11 rfl (by first | rfl | exact bi_nar) (Nat.le_of_ble_eq_true rfl) (Nat.le_of_ble_eq_true rfl) ?_
  exact ⟨rfl, rfl⟩

set_option maxRecDepth 100000 in
set_option maxHeartbeats 4000000 in
theorem ct_X9_isOperandSignal (S : gS) (kind place : Int32) : gF mX9_isOperandSignal [.int kind, .int place] S (some (.int (bi (3 ≤ kind ∧ (place = 0 ∨ (place = 1 ∧ kind ≠ 9 ∧ kind ≠ 10) ∨ (place = 2 ∧ kind = 12)))))) S := by
  refine go_enter [.int kind, .int place] [(0, .int kind), (1, .int place)] (by decide +kernel) rfl rfl (Nat.le_of_ble_eq_true rfl) rfl ?_
  refine go_iload_n 1 dX9_isOperandSignal_0 rfl rfl ?_
  refine go_iconst 2 (3) dX9_isOperandSignal_1 rfl (by decide) ?_
  refine go_icmp_ge 5 7 dX9_isOperandSignal_2 rfl (by decide) (fun hc1 => ?_) (fun hc1 => ?_)
  · refine go_iload_n 8 dX9_isOperandSignal_7 rfl rfl ?_
    refine go_if_eq 11 39 dX9_isOperandSignal_8 rfl (by decide) (fun hc2 => ?_) (fun hc2 => ?_)
    · refine go_iconst 40 (1) dX9_isOperandSignal_39 rfl (by decide) ?_
      refine go_goto 44 dX9_isOperandSignal_40 (by decide) ?_
      refine go_ireturn dX9_isOperandSignal_44 rfl (by first | rfl | exact bi_nar) (Nat.le_of_ble_eq_true rfl) (Nat.le_of_ble_eq_true rfl) ?_
      refine ⟨?_, rfl⟩
      simp only [cmp_lt, cmp_gt, cmp_le, cmp_ge, cmp_eq, Option.some.injEq, Value.int.injEq] at *
      first | (simp_all [bi]; done) | (simp_all [bi]; intros; simp only [il, ile, jl, jle] at *; simp at *; omega) | (simp_all [bi]; intros; simp only [il, ile, jl, jle] at *; omega)
    · refine go_iload_n 12 dX9_isOperandSignal_11 rfl rfl ?_
      refine go_iconst 13 (1) dX9_isOperandSignal_12 rfl (by decide) ?_
      refine go_icmp_ne 16 28 dX9_isOperandSignal_13 rfl (by decide) (fun hc3 => ?_) (fun hc3 => ?_)
      · refine go_iload_n 29 dX9_isOperandSignal_28 rfl rfl ?_
        refine go_iconst 30 (2) dX9_isOperandSignal_29 rfl (by decide) ?_
        refine go_icmp_ne 33 43 dX9_isOperandSignal_30 rfl (by decide) (fun hc4 => ?_) (fun hc4 => ?_)
        · refine go_iconst 44 (0) dX9_isOperandSignal_43 rfl (by decide) ?_
          refine go_ireturn dX9_isOperandSignal_44 rfl (by first | rfl | exact bi_nar) (Nat.le_of_ble_eq_true rfl) (Nat.le_of_ble_eq_true rfl) ?_
          refine ⟨?_, rfl⟩
          simp only [cmp_lt, cmp_gt, cmp_le, cmp_ge, cmp_eq, Option.some.injEq, Value.int.injEq] at *
          first | (simp_all [bi]; done) | (simp_all [bi]; intros; simp only [il, ile, jl, jle] at *; simp at *; omega) | (simp_all [bi]; intros; simp only [il, ile, jl, jle] at *; omega)
        · refine go_iload_n 34 dX9_isOperandSignal_33 rfl rfl ?_
          refine go_bipush 36 (12) dX9_isOperandSignal_34 rfl (by decide) ?_
          refine go_icmp_ne 39 43 dX9_isOperandSignal_36 rfl (by decide) (fun hc5 => ?_) (fun hc5 => ?_)
          · refine go_iconst 44 (0) dX9_isOperandSignal_43 rfl (by decide) ?_
            refine go_ireturn dX9_isOperandSignal_44 rfl (by first | rfl | exact bi_nar) (Nat.le_of_ble_eq_true rfl) (Nat.le_of_ble_eq_true rfl) ?_
            refine ⟨?_, rfl⟩
            simp only [cmp_lt, cmp_gt, cmp_le, cmp_ge, cmp_eq, Option.some.injEq, Value.int.injEq] at *
            first | (simp_all [bi]; done) | (simp_all [bi]; intros; simp only [il, ile, jl, jle] at *; simp at *; omega) | (simp_all [bi]; intros; simp only [il, ile, jl, jle] at *; omega)
          · refine go_iconst 40 (1) dX9_isOperandSignal_39 rfl (by decide) ?_
            refine go_goto 44 dX9_isOperandSignal_40 (by decide) ?_
            refine go_ireturn dX9_isOperandSignal_44 rfl (by first | rfl | exact bi_nar) (Nat.le_of_ble_eq_true rfl) (Nat.le_of_ble_eq_true rfl) ?_
            refine ⟨?_, rfl⟩
            simp only [cmp_lt, cmp_gt, cmp_le, cmp_ge, cmp_eq, Option.some.injEq, Value.int.injEq] at *
            first | (simp_all [bi]; done) | (simp_all [bi]; intros; simp only [il, ile, jl, jle] at *; simp at *; omega) | (simp_all [bi]; intros; simp only [il, ile, jl, jle] at *; omega)
      · refine go_iload_n 17 dX9_isOperandSignal_16 rfl rfl ?_
        refine go_bipush 19 (9) dX9_isOperandSignal_17 rfl (by decide) ?_
        refine go_icmp_eq 22 28 dX9_isOperandSignal_19 rfl (by decide) (fun hc6 => ?_) (fun hc6 => ?_)
        · refine go_iload_n 29 dX9_isOperandSignal_28 rfl rfl ?_
          refine go_iconst 30 (2) dX9_isOperandSignal_29 rfl (by decide) ?_
          refine go_icmp_ne 33 43 dX9_isOperandSignal_30 rfl (by decide) (fun hc7 => ?_) (fun hc7 => ?_)
          · refine go_iconst 44 (0) dX9_isOperandSignal_43 rfl (by decide) ?_
            refine go_ireturn dX9_isOperandSignal_44 rfl (by first | rfl | exact bi_nar) (Nat.le_of_ble_eq_true rfl) (Nat.le_of_ble_eq_true rfl) ?_
            refine ⟨?_, rfl⟩
            simp only [cmp_lt, cmp_gt, cmp_le, cmp_ge, cmp_eq, Option.some.injEq, Value.int.injEq] at *
            first | (simp_all [bi]; done) | (simp_all [bi]; intros; simp only [il, ile, jl, jle] at *; simp at *; omega) | (simp_all [bi]; intros; simp only [il, ile, jl, jle] at *; omega)
          · refine go_iload_n 34 dX9_isOperandSignal_33 rfl rfl ?_
            refine go_bipush 36 (12) dX9_isOperandSignal_34 rfl (by decide) ?_
            refine go_icmp_ne 39 43 dX9_isOperandSignal_36 rfl (by decide) (fun hc8 => ?_) (fun hc8 => ?_)
            · refine go_iconst 44 (0) dX9_isOperandSignal_43 rfl (by decide) ?_
              refine go_ireturn dX9_isOperandSignal_44 rfl (by first | rfl | exact bi_nar) (Nat.le_of_ble_eq_true rfl) (Nat.le_of_ble_eq_true rfl) ?_
              refine ⟨?_, rfl⟩
              simp only [cmp_lt, cmp_gt, cmp_le, cmp_ge, cmp_eq, Option.some.injEq, Value.int.injEq] at *
              first | (simp_all [bi]; done) | (simp_all [bi]; intros; simp only [il, ile, jl, jle] at *; simp at *; omega) | (simp_all [bi]; intros; simp only [il, ile, jl, jle] at *; omega)
            · refine go_iconst 40 (1) dX9_isOperandSignal_39 rfl (by decide) ?_
              refine go_goto 44 dX9_isOperandSignal_40 (by decide) ?_
              refine go_ireturn dX9_isOperandSignal_44 rfl (by first | rfl | exact bi_nar) (Nat.le_of_ble_eq_true rfl) (Nat.le_of_ble_eq_true rfl) ?_
              refine ⟨?_, rfl⟩
              simp only [cmp_lt, cmp_gt, cmp_le, cmp_ge, cmp_eq, Option.some.injEq, Value.int.injEq] at *
              first | (simp_all [bi]; done) | (simp_all [bi]; intros; simp only [il, ile, jl, jle] at *; simp at *; omega) | (simp_all [bi]; intros; simp only [il, ile, jl, jle] at *; omega)
        · refine go_iload_n 23 dX9_isOperandSignal_22 rfl rfl ?_
          refine go_bipush 25 (10) dX9_isOperandSignal_23 rfl (by decide) ?_
          refine go_icmp_ne 28 39 dX9_isOperandSignal_25 rfl (by decide) (fun hc9 => ?_) (fun hc9 => ?_)
          · refine go_iconst 40 (1) dX9_isOperandSignal_39 rfl (by decide) ?_
            refine go_goto 44 dX9_isOperandSignal_40 (by decide) ?_
            refine go_ireturn dX9_isOperandSignal_44 rfl (by first | rfl | exact bi_nar) (Nat.le_of_ble_eq_true rfl) (Nat.le_of_ble_eq_true rfl) ?_
            refine ⟨?_, rfl⟩
            simp only [cmp_lt, cmp_gt, cmp_le, cmp_ge, cmp_eq, Option.some.injEq, Value.int.injEq] at *
            first | (simp_all [bi]; done) | (simp_all [bi]; intros; simp only [il, ile, jl, jle] at *; simp at *; omega) | (simp_all [bi]; intros; simp only [il, ile, jl, jle] at *; omega)
          · refine go_iload_n 29 dX9_isOperandSignal_28 rfl rfl ?_
            refine go_iconst 30 (2) dX9_isOperandSignal_29 rfl (by decide) ?_
            refine go_icmp_ne 33 43 dX9_isOperandSignal_30 rfl (by decide) (fun hc10 => ?_) (fun hc10 => ?_)
            · refine go_iconst 44 (0) dX9_isOperandSignal_43 rfl (by decide) ?_
              refine go_ireturn dX9_isOperandSignal_44 rfl (by first | rfl | exact bi_nar) (Nat.le_of_ble_eq_true rfl) (Nat.le_of_ble_eq_true rfl) ?_
              refine ⟨?_, rfl⟩
              simp only [cmp_lt, cmp_gt, cmp_le, cmp_ge, cmp_eq, Option.some.injEq, Value.int.injEq] at *
              first | (simp_all [bi]; done) | (simp_all [bi]; intros; simp only [il, ile, jl, jle] at *; simp at *; omega) | (simp_all [bi]; intros; simp only [il, ile, jl, jle] at *; omega)
            · refine go_iload_n 34 dX9_isOperandSignal_33 rfl rfl ?_
              refine go_bipush 36 (12) dX9_isOperandSignal_34 rfl (by decide) ?_
              refine go_icmp_ne 39 43 dX9_isOperandSignal_36 rfl (by decide) (fun hc11 => ?_) (fun hc11 => ?_)
              · refine go_iconst 44 (0) dX9_isOperandSignal_43 rfl (by decide) ?_
                refine go_ireturn dX9_isOperandSignal_44 rfl (by first | rfl | exact bi_nar) (Nat.le_of_ble_eq_true rfl) (Nat.le_of_ble_eq_true rfl) ?_
                refine ⟨?_, rfl⟩
                simp only [cmp_lt, cmp_gt, cmp_le, cmp_ge, cmp_eq, Option.some.injEq, Value.int.injEq] at *
                first | (simp_all [bi]; done) | (simp_all [bi]; intros; simp only [il, ile, jl, jle] at *; simp at *; omega) | (simp_all [bi]; intros; simp only [il, ile, jl, jle] at *; omega)
              · refine go_iconst 40 (1) dX9_isOperandSignal_39 rfl (by decide) ?_
                refine go_goto 44 dX9_isOperandSignal_40 (by decide) ?_
                refine go_ireturn dX9_isOperandSignal_44 rfl (by first | rfl | exact bi_nar) (Nat.le_of_ble_eq_true rfl) (Nat.le_of_ble_eq_true rfl) ?_
                refine ⟨?_, rfl⟩
                simp only [cmp_lt, cmp_gt, cmp_le, cmp_ge, cmp_eq, Option.some.injEq, Value.int.injEq] at *
                first | (simp_all [bi]; done) | (simp_all [bi]; intros; simp only [il, ile, jl, jle] at *; simp at *; omega) | (simp_all [bi]; intros; simp only [il, ile, jl, jle] at *; omega)
  · refine go_iconst 6 (0) dX9_isOperandSignal_5 rfl (by decide) ?_
    refine go_ireturn dX9_isOperandSignal_6 rfl (by first | rfl | exact bi_nar) (Nat.le_of_ble_eq_true rfl) (Nat.le_of_ble_eq_true rfl) ?_
    refine ⟨?_, rfl⟩
    simp only [cmp_lt, cmp_gt, cmp_le, cmp_ge, cmp_eq, Option.some.injEq, Value.int.injEq] at *
    first | (simp_all [bi]; done) | (simp_all [bi]; intros; simp only [il, ile, jl, jle] at *; simp at *; omega) | (simp_all [bi]; intros; simp only [il, ile, jl, jle] at *; omega)

set_option maxRecDepth 100000 in
set_option maxHeartbeats 4000000 in
theorem ct_X9_count (S : gS) : gF mX9_count [.ref 115] S (some (.int (rI S 115 10))) (wI S 115 0 0) := by
  refine go_enter [.ref 115] [(0, .ref 115)] (by decide +kernel) rfl rfl (Nat.le_of_ble_eq_true rfl) rfl ?_
  refine go_aload_n 1 dX9_count_0 rfl rfl ?_
  refine go_iconst 2 (0) dX9_count_1 rfl (by decide) ?_
  refine g_putI 5 dX9_count_2 rfl fF_RX9_98 ly_115 rfl (fun q hq => by cases hq; rfl) rfl rfl ?_
  refine go_aload_n 6 dX9_count_5 rfl rfl ?_
  refine g_getI 9 dX9_count_6 rfl fF_RX9_102 ly_115 rfl ?_
  refine go_ireturn dX9_count_9 rfl (by first | rfl | exact bi_nar) (Nat.le_of_ble_eq_true rfl) (Nat.le_of_ble_eq_true rfl) ?_
  exact ⟨rfl, rfl⟩
