set_option maxRecDepth 100000 in
set_option maxHeartbeats 4000000 in
theorem ct_X9_finds (S : gS) (a c : Int64) : gF mX9_finds [.ref 115, .long a, .long c] S none (fndF S a c) := by
  refine go_enter [.ref 115, .long a, .long c] [(0, .ref 115), (1, .long a), (3, .long c)] (by decide +kernel) rfl rfl (Nat.le_of_ble_eq_true rfl) rfl ?_
  refine go_aload_n 1 dX9_finds_0 rfl rfl ?_
  refine go_lload_n 2 dX9_finds_1 rfl rfl ?_
  refine g_putJ 5 dX9_finds_2 rfl fF_RX9_154 ly_115 rfl (fun q hq => by cases hq; rfl) rfl ?_
  refine go_aload_n 6 dX9_finds_5 rfl rfl ?_
  refine go_lload_n 7 dX9_finds_6 rfl rfl ?_
  refine g_putJ 10 dX9_finds_7 rfl fF_RX9_158 ly_115 rfl (fun q hq => by cases hq; rfl) rfl ?_
  refine go_return dX9_finds_10 rfl (Nat.le_of_ble_eq_true rfl) (Nat.le_of_ble_eq_true rfl) ?_
  exact ⟨rfl, rfl⟩

set_option maxRecDepth 100000 in
set_option maxHeartbeats 4000000 in
theorem ct_X9_smaller (S : gS) (a c : Int64) : gF mX9_smaller [.long a, .long c] S (some (.long (sml a c))) S := by
  refine go_enter [.long a, .long c] [(0, .long a), (2, .long c)] (by decide +kernel) rfl rfl (Nat.le_of_ble_eq_true rfl) rfl ?_
  refine go_lload_n 1 dX9_smaller_0 rfl rfl ?_
  refine go_lload_n 2 dX9_smaller_1 rfl rfl ?_
  refine go_lcmp 3 dX9_smaller_2 rfl ?_
  refine go_if_ge 6 10 dX9_smaller_3 rfl (by decide) (fun hc1 => ?_) (fun hc1 => ?_)
  · refine go_lload_n 11 dX9_smaller_10 rfl rfl ?_
    refine go_lreturn dX9_smaller_11 rfl (Nat.le_of_ble_eq_true rfl) (Nat.le_of_ble_eq_true rfl) ?_
    refine ⟨?_, rfl⟩
    (try simp only [cmp_lt, cmp_gt, cmp_le, cmp_ge, cmp_eq, bi0, bi1, Classical.not_not, Option.some.injEq, Value.int.injEq, Value.long.injEq] at *)
    first | (simp_all [bi, sml]; done) | (simp_all [bi, sml, -Int32.not_le, -Int32.not_lt, -Int64.not_le, -Int64.not_lt]; done) | (simp_all [bi, sml]; intros; simp only [il, ile, jl, jle] at *; simp at *; omega) | (simp_all [bi, sml]; intros; simp only [il, ile, jl, jle] at *; omega) | (simp_all [bi, sml, -Int32.not_le, -Int32.not_lt, -Int64.not_le, -Int64.not_lt]; intros; simp only [il, ile, jl, jle] at *; omega)
  · refine go_lload_n 7 dX9_smaller_6 rfl rfl ?_
    refine go_goto 11 dX9_smaller_7 (by decide) ?_
    refine go_lreturn dX9_smaller_11 rfl (Nat.le_of_ble_eq_true rfl) (Nat.le_of_ble_eq_true rfl) ?_
    refine ⟨?_, rfl⟩
    (try simp only [cmp_lt, cmp_gt, cmp_le, cmp_ge, cmp_eq, bi0, bi1, Classical.not_not, Option.some.injEq, Value.int.injEq, Value.long.injEq] at *)
    first | (simp_all [bi, sml]; done) | (simp_all [bi, sml, -Int32.not_le, -Int32.not_lt, -Int64.not_le, -Int64.not_lt]; done) | (simp_all [bi, sml]; intros; simp only [il, ile, jl, jle] at *; simp at *; omega) | (simp_all [bi, sml]; intros; simp only [il, ile, jl, jle] at *; omega) | (simp_all [bi, sml, -Int32.not_le, -Int32.not_lt, -Int64.not_le, -Int64.not_lt]; intros; simp only [il, ile, jl, jle] at *; omega)

set_option maxRecDepth 100000 in
set_option maxHeartbeats 4000000 in
theorem ct_X9_larger (S : gS) (a c : Int64) : gF mX9_larger [.long a, .long c] S (some (.long (lrg a c))) S := by
  refine go_enter [.long a, .long c] [(0, .long a), (2, .long c)] (by decide +kernel) rfl rfl (Nat.le_of_ble_eq_true rfl) rfl ?_
  refine go_lload_n 1 dX9_larger_0 rfl rfl ?_
  refine go_lload_n 2 dX9_larger_1 rfl rfl ?_
  refine go_lcmp 3 dX9_larger_2 rfl ?_
  refine go_if_le 6 10 dX9_larger_3 rfl (by decide) (fun hc1 => ?_) (fun hc1 => ?_)
  · refine go_lload_n 11 dX9_larger_10 rfl rfl ?_
    refine go_lreturn dX9_larger_11 rfl (Nat.le_of_ble_eq_true rfl) (Nat.le_of_ble_eq_true rfl) ?_
    refine ⟨?_, rfl⟩
    (try simp only [cmp_lt, cmp_gt, cmp_le, cmp_ge, cmp_eq, bi0, bi1, Classical.not_not, Option.some.injEq, Value.int.injEq, Value.long.injEq] at *)
    first | (simp_all [bi, lrg]; done) | (simp_all [bi, lrg, -Int32.not_le, -Int32.not_lt, -Int64.not_le, -Int64.not_lt]; done) | (simp_all [bi, lrg]; intros; simp only [il, ile, jl, jle] at *; simp at *; omega) | (simp_all [bi, lrg]; intros; simp only [il, ile, jl, jle] at *; omega) | (simp_all [bi, lrg, -Int32.not_le, -Int32.not_lt, -Int64.not_le, -Int64.not_lt]; intros; simp only [il, ile, jl, jle] at *; omega)
  · refine go_lload_n 7 dX9_larger_6 rfl rfl ?_
    refine go_goto 11 dX9_larger_7 (by decide) ?_
    refine go_lreturn dX9_larger_11 rfl (Nat.le_of_ble_eq_true rfl) (Nat.le_of_ble_eq_true rfl) ?_
    refine ⟨?_, rfl⟩
    (try simp only [cmp_lt, cmp_gt, cmp_le, cmp_ge, cmp_eq, bi0, bi1, Classical.not_not, Option.some.injEq, Value.int.injEq, Value.long.injEq] at *)
    first | (simp_all [bi, lrg]; done) | (simp_all [bi, lrg, -Int32.not_le, -Int32.not_lt, -Int64.not_le, -Int64.not_lt]; done) | (simp_all [bi, lrg]; intros; simp only [il, ile, jl, jle] at *; simp at *; omega) | (simp_all [bi, lrg]; intros; simp only [il, ile, jl, jle] at *; omega) | (simp_all [bi, lrg, -Int32.not_le, -Int32.not_lt, -Int64.not_le, -Int64.not_lt]; intros; simp only [il, ile, jl, jle] at *; omega)

set_option maxRecDepth 100000 in
set_option maxHeartbeats 4000000 in
theorem ct_X9_result (S : gS) (is : Int32) (a c : Int64) : gF mX9_result [.int is, .long a, .long c] S (some (.long (resF is a c))) S := by
  refine go_enter [.int is, .long a, .long c] [(0, .int is), (1, .long a), (3, .long c)] (by decide +kernel) rfl rfl (Nat.le_of_ble_eq_true rfl) rfl ?_
  refine go_iload_n 1 dX9_result_0 rfl rfl ?_
  refine go_iconst 2 (3) dX9_result_1 rfl (by decide) ?_
  refine go_icmp_ne 5 11 dX9_result_2 rfl (by decide) (fun hc1 => ?_) (fun hc1 => ?_)
  · refine go_iload_n 12 dX9_result_11 rfl rfl ?_
    refine go_iconst 13 (4) dX9_result_12 rfl (by decide) ?_
    refine go_icmp_ne 16 22 dX9_result_13 rfl (by decide) (fun hc2 => ?_) (fun hc2 => ?_)
    · refine go_lload_n 23 dX9_result_22 rfl rfl ?_
      refine go_lload_n 24 dX9_result_23 rfl rfl ?_
      refine go_lmul 25 dX9_result_24 rfl ?_
      refine go_lreturn dX9_result_25 rfl (Nat.le_of_ble_eq_true rfl) (Nat.le_of_ble_eq_true rfl) ?_
      refine ⟨?_, rfl⟩
      (try simp only [cmp_lt, cmp_gt, cmp_le, cmp_ge, cmp_eq, bi0, bi1, Classical.not_not, Option.some.injEq, Value.int.injEq, Value.long.injEq] at *)
      first | (simp_all [bi, resF]; done) | (simp_all [bi, resF, -Int32.not_le, -Int32.not_lt, -Int64.not_le, -Int64.not_lt]; done) | (simp_all [bi, resF]; intros; simp only [il, ile, jl, jle] at *; simp at *; omega) | (simp_all [bi, resF]; intros; simp only [il, ile, jl, jle] at *; omega) | (simp_all [bi, resF, -Int32.not_le, -Int32.not_lt, -Int64.not_le, -Int64.not_lt]; intros; simp only [il, ile, jl, jle] at *; omega)
    · refine go_lload_n 17 dX9_result_16 rfl rfl ?_
      refine go_lload_n 18 dX9_result_17 rfl rfl ?_
      refine go_lsub 19 dX9_result_18 rfl ?_
      refine go_goto 25 dX9_result_19 (by decide) ?_
      refine go_lreturn dX9_result_25 rfl (Nat.le_of_ble_eq_true rfl) (Nat.le_of_ble_eq_true rfl) ?_
      refine ⟨?_, rfl⟩
      (try simp only [cmp_lt, cmp_gt, cmp_le, cmp_ge, cmp_eq, bi0, bi1, Classical.not_not, Option.some.injEq, Value.int.injEq, Value.long.injEq] at *)
      first | (simp_all [bi, resF]; done) | (simp_all [bi, resF, -Int32.not_le, -Int32.not_lt, -Int64.not_le, -Int64.not_lt]; done) | (simp_all [bi, resF]; intros; simp only [il, ile, jl, jle] at *; simp at *; omega) | (simp_all [bi, resF]; intros; simp only [il, ile, jl, jle] at *; omega) | (simp_all [bi, resF, -Int32.not_le, -Int32.not_lt, -Int64.not_le, -Int64.not_lt]; intros; simp only [il, ile, jl, jle] at *; omega)
  · refine go_lload_n 6 dX9_result_5 rfl rfl ?_
    refine go_lload_n 7 dX9_result_6 rfl rfl ?_
    refine go_ladd 8 dX9_result_7 rfl ?_
    refine go_goto 25 dX9_result_8 (by decide) ?_
    refine go_lreturn dX9_result_25 rfl (Nat.le_of_ble_eq_true rfl) (Nat.le_of_ble_eq_true rfl) ?_
    refine ⟨?_, rfl⟩
    (try simp only [cmp_lt, cmp_gt, cmp_le, cmp_ge, cmp_eq, bi0, bi1, Classical.not_not, Option.some.injEq, Value.int.injEq, Value.long.injEq] at *)
    first | (simp_all [bi, resF]; done) | (simp_all [bi, resF, -Int32.not_le, -Int32.not_lt, -Int64.not_le, -Int64.not_lt]; done) | (simp_all [bi, resF]; intros; simp only [il, ile, jl, jle] at *; simp at *; omega) | (simp_all [bi, resF]; intros; simp only [il, ile, jl, jle] at *; omega) | (simp_all [bi, resF, -Int32.not_le, -Int32.not_lt, -Int64.not_le, -Int64.not_lt]; intros; simp only [il, ile, jl, jle] at *; omega)

set_option maxRecDepth 100000 in
set_option maxHeartbeats 4000000 in
theorem lp_X9_upTo (S : gS) (v : Int64) : ∀ i, i ≤ lg v.toInt → Go mX9_upTo false (go_Qm mX9_upTo false (fun v9 h9 => v9 = (some (.long (upL v))) ∧ h9 = hp S) go_no) 0 0 2 [(2, .long (onL i)), (0, .long v)] [] (hp ((fun _ => S) i)) := by
  refine g_dn _ (lg v.toInt) (fun i hi ih => ?_)
  refine go_lload_n 3 dX9_upTo_2 rfl rfl ?_
  refine go_lload_n 4 dX9_upTo_3 rfl rfl ?_
  refine go_lcmp 5 dX9_upTo_4 rfl ?_
  refine go_if_ge 8 19 dX9_upTo_5 rfl (by decide) (fun hc1 => ?_) (fun hc1 => ?_)
  · refine go_lload_n 20 dX9_upTo_19 rfl rfl ?_
    refine go_lreturn dX9_upTo_20 rfl (Nat.le_of_ble_eq_true rfl) (Nat.le_of_ble_eq_true rfl) ?_
    have hv : i = lg v.toInt := by
      simp only [cmp_ge] at hc1
      have h9 : ¬ onL i < v := by rw [Int64.not_lt]; exact hc1
      rw [onL_c hi] at h9
      omega
    subst hv
    exact ⟨rfl, rfl⟩
  · have hv : i < lg v.toInt := by
      simp only [cmp_ge, Int64.not_le] at hc1
      exact (onL_c hi).mp hc1
    refine go_ldc2 11 (2) dX9_upTo_8 rfl wK_RX9_161 ?_
    refine go_lload_n 12 dX9_upTo_11 rfl rfl ?_
    refine go_lmul 13 dX9_upTo_12 rfl ?_
    refine go_lconst 14 (1) dX9_upTo_13 rfl (by decide) ?_
    refine go_ladd 15 dX9_upTo_14 rfl ?_
    refine go_topl (onL (i + 1)) onL_s ?_
    refine go_lstore_n 16 [(2, .long _), (0, .long _)] dX9_upTo_15 rfl (Nat.le_of_ble_eq_true rfl) rfl ?_
    refine go_goto 2 dX9_upTo_16 (by decide) ?_
    exact ih (by omega)

set_option maxRecDepth 100000 in
set_option maxHeartbeats 4000000 in
theorem ct_X9_upTo (S : gS) (v : Int64) : gF mX9_upTo [.long v] S (some (.long (upL v))) S := by
  refine go_enter [.long v] [(0, .long v)] (by decide +kernel) rfl rfl (Nat.le_of_ble_eq_true rfl) rfl ?_
  refine go_lconst 1 (0) dX9_upTo_0 rfl (by decide) ?_
  refine go_lstore_n 2 [(2, .long _), (0, .long _)] dX9_upTo_1 rfl (Nat.le_of_ble_eq_true rfl) rfl ?_
  exact lp_X9_upTo S v 0 (Nat.zero_le _)

set_option maxRecDepth 100000 in
set_option maxHeartbeats 4000000 in
theorem lp_X9_downTo (S : gS) (v : Int64) : ∀ i, i ≤ lg (-v.toInt - 1) → Go mX9_downTo false (go_Qm mX9_downTo false (fun v9 h9 => v9 = (some (.long (dnL v))) ∧ h9 = hp S) go_no) 0 0 4 [(2, .long (mnL i)), (0, .long v)] [] (hp ((fun _ => S) i)) := by
  refine g_dn _ (lg (-v.toInt - 1)) (fun i hi ih => ?_)
  refine go_lload_n 5 dX9_downTo_4 rfl rfl ?_
  refine go_lload_n 6 dX9_downTo_5 rfl rfl ?_
  refine go_lcmp 7 dX9_downTo_6 rfl ?_
  refine go_if_le 10 19 dX9_downTo_7 rfl (by decide) (fun hc1 => ?_) (fun hc1 => ?_)
  · refine go_lload_n 20 dX9_downTo_19 rfl rfl ?_
    refine go_lreturn dX9_downTo_20 rfl (Nat.le_of_ble_eq_true rfl) (Nat.le_of_ble_eq_true rfl) ?_
    have hv : i = lg (-v.toInt - 1) := by
      simp only [cmp_le] at hc1
      have h9 : ¬ v < mnL i := by rw [Int64.not_lt]; exact hc1
      rw [mnL_c hi] at h9
      omega
    subst hv
    exact ⟨rfl, rfl⟩
  · have hv : i < lg (-v.toInt - 1) := by
      simp only [cmp_le, Int64.not_le] at hc1
      exact (mnL_c hi).mp hc1
    refine go_ldc2 13 (2) dX9_downTo_10 rfl wK_RX9_161 ?_
    refine go_lload_n 14 dX9_downTo_13 rfl rfl ?_
    refine go_lmul 15 dX9_downTo_14 rfl ?_
    refine go_topl (mnL (i + 1)) mnL_s ?_
    refine go_lstore_n 16 [(2, .long _), (0, .long _)] dX9_downTo_15 rfl (Nat.le_of_ble_eq_true rfl) rfl ?_
    refine go_goto 4 dX9_downTo_16 (by decide) ?_
    exact ih (by omega)

set_option maxRecDepth 100000 in
set_option maxHeartbeats 4000000 in
theorem ct_X9_downTo (S : gS) (v : Int64) : gF mX9_downTo [.long v] S (some (.long (dnL v))) S := by
  refine go_enter [.long v] [(0, .long v)] (by decide +kernel) rfl rfl (Nat.le_of_ble_eq_true rfl) rfl ?_
  refine go_ldc2 3 (-1) dX9_downTo_0 rfl wK_RX9_163 ?_
  refine go_lstore_n 4 [(2, .long _), (0, .long _)] dX9_downTo_3 rfl (Nat.le_of_ble_eq_true rfl) rfl ?_
  exact lp_X9_downTo S v 0 (Nat.zero_le _)

set_option maxRecDepth 100000 in
set_option maxHeartbeats 4000000 in
theorem ct_X9_findsWithin (S : gS) (l m : Int64) : gF mX9_findsWithin [.ref 115, .long l, .long m] S none (witF S l m) := by
  refine go_enter [.ref 115, .long l, .long m] [(0, .ref 115), (1, .long l), (3, .long m)] (by decide +kernel) rfl rfl (Nat.le_of_ble_eq_true rfl) rfl ?_
  refine go_lload_n 1 dX9_findsWithin_0 rfl rfl ?_
  refine go_ldc2 4 (-2147483648) dX9_findsWithin_1 rfl wK_RX9_180 ?_
  refine go_lcmp 5 dX9_findsWithin_4 rfl ?_
  refine go_if_lt 8 16 dX9_findsWithin_5 rfl (by decide) (fun hc1 => ?_) (fun hc1 => ?_)
  · refine go_aload_n 17 dX9_findsWithin_16 rfl rfl ?_
    refine go_ldc2 20 (-2147483648) dX9_findsWithin_17 rfl wK_RX9_180 ?_
    refine go_ldc2 23 (2147483647) dX9_findsWithin_20 rfl wK_RX9_182 ?_
    refine g_callV0 26 [.long _, .long _] [] dX9_findsWithin_23 rfl (ct_X9_finds _ _ _) rfl sV_X9_findsWithin_184 rfl ly_115 rfl rfl (Nat.le_of_ble_eq_true rfl) (Nat.le_of_ble_eq_true rfl) (Nat.le_of_ble_eq_true rfl) ?_
    refine go_goto 35 dX9_findsWithin_26 (by decide) ?_
    refine go_return dX9_findsWithin_35 rfl (Nat.le_of_ble_eq_true rfl) (Nat.le_of_ble_eq_true rfl) ?_
    refine ⟨rfl, congrArg hp ?_⟩
    simp only [cmp_lt, cmp_le] at *
    simp_all [witF, -Int32.not_le, -Int32.not_lt, -Int64.not_le, -Int64.not_lt]
  · refine go_lload_n 9 dX9_findsWithin_8 rfl rfl ?_
    refine go_ldc2 12 (2147483647) dX9_findsWithin_9 rfl wK_RX9_182 ?_
    refine go_lcmp 13 dX9_findsWithin_12 rfl ?_
    refine go_if_le 16 29 dX9_findsWithin_13 rfl (by decide) (fun hc2 => ?_) (fun hc2 => ?_)
    · refine go_aload_n 30 dX9_findsWithin_29 rfl rfl ?_
      refine go_lload_n 31 dX9_findsWithin_30 rfl rfl ?_
      refine go_lload_n 32 dX9_findsWithin_31 rfl rfl ?_
      refine g_callV0 35 [.long _, .long _] [] dX9_findsWithin_32 rfl (ct_X9_finds _ _ _) rfl sV_X9_findsWithin_184 rfl ly_115 rfl rfl (Nat.le_of_ble_eq_true rfl) (Nat.le_of_ble_eq_true rfl) (Nat.le_of_ble_eq_true rfl) ?_
      refine go_return dX9_findsWithin_35 rfl (Nat.le_of_ble_eq_true rfl) (Nat.le_of_ble_eq_true rfl) ?_
      refine ⟨rfl, congrArg hp ?_⟩
      simp only [cmp_lt, cmp_le] at *
      simp_all [witF, -Int32.not_le, -Int32.not_lt, -Int64.not_le, -Int64.not_lt]
    · refine go_aload_n 17 dX9_findsWithin_16 rfl rfl ?_
      refine go_ldc2 20 (-2147483648) dX9_findsWithin_17 rfl wK_RX9_180 ?_
      refine go_ldc2 23 (2147483647) dX9_findsWithin_20 rfl wK_RX9_182 ?_
      refine g_callV0 26 [.long _, .long _] [] dX9_findsWithin_23 rfl (ct_X9_finds _ _ _) rfl sV_X9_findsWithin_184 rfl ly_115 rfl rfl (Nat.le_of_ble_eq_true rfl) (Nat.le_of_ble_eq_true rfl) (Nat.le_of_ble_eq_true rfl) ?_
      refine go_goto 35 dX9_findsWithin_26 (by decide) ?_
      refine go_return dX9_findsWithin_35 rfl (Nat.le_of_ble_eq_true rfl) (Nat.le_of_ble_eq_true rfl) ?_
      refine ⟨rfl, congrArg hp ?_⟩
      simp only [cmp_lt, cmp_le] at *
      simp_all [witF, -Int32.not_le, -Int32.not_lt, -Int64.not_le, -Int64.not_lt]

set_option maxRecDepth 100000 in
set_option maxHeartbeats 4000000 in
theorem ct_X9_findsArithmetic (S : gS) (is a c : Int32) (ha : vp_in a 24) (hc : vp_in c 24) : gF mX9_findsArithmetic [.ref 115, .int is, .int a, .int c] S none (ariF S is (rL S 125 a.toNatClampNeg) (rL S 126 a.toNatClampNeg) (rL S 125 c.toNatClampNeg) (rL S 126 c.toNatClampNeg)) := by
  refine go_enter [.ref 115, .int is, .int a, .int c] [(0, .ref 115), (1, .int is), (2, .int a), (3, .int c)] (by decide +kernel) rfl rfl (Nat.le_of_ble_eq_true rfl) rfl ?_
  refine go_iload_n 1 dX9_findsArithmetic_0 rfl rfl ?_
  refine go_aload_n 2 dX9_findsArithmetic_1 rfl rfl ?_
  refine g_getR 5 dX9_findsArithmetic_2 rfl fF_RX9_37 ly_115 rfl ?_
  refine go_iload_n 6 dX9_findsArithmetic_5 rfl rfl ?_
  refine g_lald 7 dX9_findsArithmetic_6 rfl ly_125 ha ?_
  refine go_aload_n 8 dX9_findsArithmetic_7 rfl rfl ?_
  refine g_getR 11 dX9_findsArithmetic_8 rfl fF_RX9_37 ly_115 rfl ?_
  refine go_iload_n 12 dX9_findsArithmetic_11 rfl rfl ?_
  refine g_lald 13 dX9_findsArithmetic_12 rfl ly_125 hc ?_
  refine g_callS 16 [.int _, .long _, .long _] [] dX9_findsArithmetic_13 rfl (ct_X9_result _ _ _ _) rfl sV_X9_findsArithmetic_165 rfl (Nat.le_of_ble_eq_true rfl) (Nat.le_of_ble_eq_true rfl) (Nat.le_of_ble_eq_true rfl) ?_
  refine go_lstore 18 [(4, .long _), (0, .ref 115), (1, .int _), (2, .int _), (3, .int _)] dX9_findsArithmetic_16 rfl (Nat.le_of_ble_eq_true rfl) rfl ?_
  refine go_iload_n 19 dX9_findsArithmetic_18 rfl rfl ?_
  refine go_aload_n 20 dX9_findsArithmetic_19 rfl rfl ?_
  refine g_getR 23 dX9_findsArithmetic_20 rfl fF_RX9_37 ly_115 rfl ?_
  refine go_iload_n 24 dX9_findsArithmetic_23 rfl rfl ?_
  refine g_lald 25 dX9_findsArithmetic_24 rfl ly_125 ha ?_
  refine go_aload_n 26 dX9_findsArithmetic_25 rfl rfl ?_
  refine g_getR 29 dX9_findsArithmetic_26 rfl fF_RX9_41 ly_115 rfl ?_
  refine go_iload_n 30 dX9_findsArithmetic_29 rfl rfl ?_
  refine g_lald 31 dX9_findsArithmetic_30 rfl ly_126 hc ?_
  refine g_callS 34 [.int _, .long _, .long _] [] dX9_findsArithmetic_31 rfl (ct_X9_result _ _ _ _) rfl sV_X9_findsArithmetic_165 rfl (Nat.le_of_ble_eq_true rfl) (Nat.le_of_ble_eq_true rfl) (Nat.le_of_ble_eq_true rfl) ?_
  refine go_lstore 36 [(6, .long _), (4, .long _), (0, .ref 115), (1, .int _), (2, .int _), (3, .int _)] dX9_findsArithmetic_34 rfl (Nat.le_of_ble_eq_true rfl) rfl ?_
  refine go_iload_n 37 dX9_findsArithmetic_36 rfl rfl ?_
  refine go_aload_n 38 dX9_findsArithmetic_37 rfl rfl ?_
  refine g_getR 41 dX9_findsArithmetic_38 rfl fF_RX9_41 ly_115 rfl ?_
  refine go_iload_n 42 dX9_findsArithmetic_41 rfl rfl ?_
  refine g_lald 43 dX9_findsArithmetic_42 rfl ly_126 ha ?_
  refine go_aload_n 44 dX9_findsArithmetic_43 rfl rfl ?_
  refine g_getR 47 dX9_findsArithmetic_44 rfl fF_RX9_37 ly_115 rfl ?_
  refine go_iload_n 48 dX9_findsArithmetic_47 rfl rfl ?_
  refine g_lald 49 dX9_findsArithmetic_48 rfl ly_125 hc ?_
  refine g_callS 52 [.int _, .long _, .long _] [] dX9_findsArithmetic_49 rfl (ct_X9_result _ _ _ _) rfl sV_X9_findsArithmetic_165 rfl (Nat.le_of_ble_eq_true rfl) (Nat.le_of_ble_eq_true rfl) (Nat.le_of_ble_eq_true rfl) ?_
  refine go_lstore 54 [(8, .long _), (6, .long _), (4, .long _), (0, .ref 115), (1, .int _), (2, .int _), (3, .int _)] dX9_findsArithmetic_52 rfl (Nat.le_of_ble_eq_true rfl) rfl ?_
  refine go_iload_n 55 dX9_findsArithmetic_54 rfl rfl ?_
  refine go_aload_n 56 dX9_findsArithmetic_55 rfl rfl ?_
  refine g_getR 59 dX9_findsArithmetic_56 rfl fF_RX9_41 ly_115 rfl ?_
  refine go_iload_n 60 dX9_findsArithmetic_59 rfl rfl ?_
  refine g_lald 61 dX9_findsArithmetic_60 rfl ly_126 ha ?_
  refine go_aload_n 62 dX9_findsArithmetic_61 rfl rfl ?_
  refine g_getR 65 dX9_findsArithmetic_62 rfl fF_RX9_41 ly_115 rfl ?_
  refine go_iload_n 66 dX9_findsArithmetic_65 rfl rfl ?_
  refine g_lald 67 dX9_findsArithmetic_66 rfl ly_126 hc ?_
  refine g_callS 70 [.int _, .long _, .long _] [] dX9_findsArithmetic_67 rfl (ct_X9_result _ _ _ _) rfl sV_X9_findsArithmetic_165 rfl (Nat.le_of_ble_eq_true rfl) (Nat.le_of_ble_eq_true rfl) (Nat.le_of_ble_eq_true rfl) ?_
  refine go_lstore 72 [(10, .long _), (8, .long _), (6, .long _), (4, .long _), (0, .ref 115), (1, .int _), (2, .int _), (3, .int _)] dX9_findsArithmetic_70 rfl (Nat.le_of_ble_eq_true rfl) rfl ?_
  refine go_aload_n 73 dX9_findsArithmetic_72 rfl rfl ?_
  refine go_lload 75 dX9_findsArithmetic_73 rfl rfl ?_
  refine go_lload 77 dX9_findsArithmetic_75 rfl rfl ?_
  refine g_callS 80 [.long _, .long _] [.ref 115] dX9_findsArithmetic_77 rfl (ct_X9_smaller _ _ _) rfl sV_X9_findsArithmetic_169 rfl (Nat.le_of_ble_eq_true rfl) (Nat.le_of_ble_eq_true rfl) (Nat.le_of_ble_eq_true rfl) ?_
  refine go_lload 82 dX9_findsArithmetic_80 rfl rfl ?_
  refine go_lload 84 dX9_findsArithmetic_82 rfl rfl ?_
  refine g_callS 87 [.long _, .long _] [.long _, .ref 115] dX9_findsArithmetic_84 rfl (ct_X9_smaller _ _ _) rfl sV_X9_findsArithmetic_169 rfl (Nat.le_of_ble_eq_true rfl) (Nat.le_of_ble_eq_true rfl) (Nat.le_of_ble_eq_true rfl) ?_
  refine g_callS 90 [.long _, .long _] [.ref 115] dX9_findsArithmetic_87 rfl (ct_X9_smaller _ _ _) rfl sV_X9_findsArithmetic_169 rfl (Nat.le_of_ble_eq_true rfl) (Nat.le_of_ble_eq_true rfl) (Nat.le_of_ble_eq_true rfl) ?_
  refine go_lload 92 dX9_findsArithmetic_90 rfl rfl ?_
  refine go_lload 94 dX9_findsArithmetic_92 rfl rfl ?_
  refine g_callS 97 [.long _, .long _] [.long _, .ref 115] dX9_findsArithmetic_94 rfl (ct_X9_larger _ _ _) rfl sV_X9_findsArithmetic_173 rfl (Nat.le_of_ble_eq_true rfl) (Nat.le_of_ble_eq_true rfl) (Nat.le_of_ble_eq_true rfl) ?_
  refine go_lload 99 dX9_findsArithmetic_97 rfl rfl ?_
  refine go_lload 101 dX9_findsArithmetic_99 rfl rfl ?_
  refine g_callS 104 [.long _, .long _] [.long _, .long _, .ref 115] dX9_findsArithmetic_101 rfl (ct_X9_larger _ _ _) rfl sV_X9_findsArithmetic_173 rfl (Nat.le_of_ble_eq_true rfl) (Nat.le_of_ble_eq_true rfl) (Nat.le_of_ble_eq_true rfl) ?_
  refine g_callS 107 [.long _, .long _] [.long _, .ref 115] dX9_findsArithmetic_104 rfl (ct_X9_larger _ _ _) rfl sV_X9_findsArithmetic_173 rfl (Nat.le_of_ble_eq_true rfl) (Nat.le_of_ble_eq_true rfl) (Nat.le_of_ble_eq_true rfl) ?_
  refine g_callV0 110 [.long _, .long _] [] dX9_findsArithmetic_107 rfl (ct_X9_findsWithin _ _ _) rfl sV_X9_findsArithmetic_176 rfl ly_115 rfl rfl (Nat.le_of_ble_eq_true rfl) (Nat.le_of_ble_eq_true rfl) (Nat.le_of_ble_eq_true rfl) ?_
  refine go_return dX9_findsArithmetic_110 rfl (Nat.le_of_ble_eq_true rfl) (Nat.le_of_ble_eq_true rfl) ?_
  exact ⟨rfl, rfl⟩

set_option maxRecDepth 100000 in
set_option maxHeartbeats 4000000 in
theorem ct_X9_findsLogic (S : gS) (is a c : Int32) (ha : vp_in a 24) (hc : vp_in c 24) : gF mX9_findsLogic [.ref 115, .int is, .int a, .int c] S none (logF S is (rL S 125 a.toNatClampNeg) (rL S 126 a.toNatClampNeg) (rL S 125 c.toNatClampNeg) (rL S 126 c.toNatClampNeg)) := by
  refine go_enter [.ref 115, .int is, .int a, .int c] [(0, .ref 115), (1, .int is), (2, .int a), (3, .int c)] (by decide +kernel) rfl rfl (Nat.le_of_ble_eq_true rfl) rfl ?_
  refine go_aload_n 1 dX9_findsLogic_0 rfl rfl ?_
  refine g_getR 4 dX9_findsLogic_1 rfl fF_RX9_37 ly_115 rfl ?_
  refine go_iload_n 5 dX9_findsLogic_4 rfl rfl ?_
  refine g_lald 6 dX9_findsLogic_5 rfl ly_125 ha ?_
  refine go_lconst 7 (0) dX9_findsLogic_6 rfl (by decide) ?_
  refine go_lcmp 8 dX9_findsLogic_7 rfl ?_
  refine go_if_lt 11 72 dX9_findsLogic_8 rfl (by decide) (fun hc1 => ?_) (fun hc1 => ?_)
  · refine go_iload_n 73 dX9_findsLogic_72 rfl rfl ?_
    refine go_bipush 75 (6) dX9_findsLogic_73 rfl (by decide) ?_
    refine go_icmp_ne 78 134 dX9_findsLogic_75 rfl (by decide) (fun hc2 => ?_) (fun hc2 => ?_)
    · refine go_aload_n 135 dX9_findsLogic_134 rfl rfl ?_
      refine g_getR 138 dX9_findsLogic_135 rfl fF_RX9_37 ly_115 rfl ?_
      refine go_iload_n 139 dX9_findsLogic_138 rfl rfl ?_
      refine g_lald 140 dX9_findsLogic_139 rfl ly_125 ha ?_
      refine go_aload_n 141 dX9_findsLogic_140 rfl rfl ?_
      refine g_getR 144 dX9_findsLogic_141 rfl fF_RX9_37 ly_115 rfl ?_
      refine go_iload_n 145 dX9_findsLogic_144 rfl rfl ?_
      refine g_lald 146 dX9_findsLogic_145 rfl ly_125 hc ?_
      refine g_callS 149 [.long _, .long _] [] dX9_findsLogic_146 rfl (ct_X9_smaller _ _ _) rfl sV_X9_findsLogic_169 rfl (Nat.le_of_ble_eq_true rfl) (Nat.le_of_ble_eq_true rfl) (Nat.le_of_ble_eq_true rfl) ?_
      refine go_aload_n 150 dX9_findsLogic_149 rfl rfl ?_
      refine g_getR 153 dX9_findsLogic_150 rfl fF_RX9_41 ly_115 rfl ?_
      refine go_iload_n 154 dX9_findsLogic_153 rfl rfl ?_
      refine g_lald 155 dX9_findsLogic_154 rfl ly_126 ha ?_
      refine go_aload_n 156 dX9_findsLogic_155 rfl rfl ?_
      refine g_getR 159 dX9_findsLogic_156 rfl fF_RX9_41 ly_115 rfl ?_
      refine go_iload_n 160 dX9_findsLogic_159 rfl rfl ?_
      refine g_lald 161 dX9_findsLogic_160 rfl ly_126 hc ?_
      refine g_callS 164 [.long _, .long _] [.long _] dX9_findsLogic_161 rfl (ct_X9_larger _ _ _) rfl sV_X9_findsLogic_173 rfl (Nat.le_of_ble_eq_true rfl) (Nat.le_of_ble_eq_true rfl) (Nat.le_of_ble_eq_true rfl) ?_
      refine go_lneg 165 dX9_findsLogic_164 rfl ?_
      refine go_lconst 166 (1) dX9_findsLogic_165 rfl (by decide) ?_
      refine go_lsub 167 dX9_findsLogic_166 rfl ?_
      refine g_callS 170 [.long _, .long _] [] dX9_findsLogic_167 rfl (ct_X9_smaller _ _ _) rfl sV_X9_findsLogic_169 rfl (Nat.le_of_ble_eq_true rfl) (Nat.le_of_ble_eq_true rfl) (Nat.le_of_ble_eq_true rfl) ?_
      refine g_callS 173 [.long _] [] dX9_findsLogic_170 rfl (ct_X9_downTo _ _) rfl sV_X9_findsLogic_191 rfl (Nat.le_of_ble_eq_true rfl) (Nat.le_of_ble_eq_true rfl) (Nat.le_of_ble_eq_true rfl) ?_
      refine go_lstore 175 [(4, .long _), (0, .ref 115), (1, .int _), (2, .int _), (3, .int _)] dX9_findsLogic_173 rfl (Nat.le_of_ble_eq_true rfl) rfl ?_
      refine go_aload_n 176 dX9_findsLogic_175 rfl rfl ?_
      refine go_lload 178 dX9_findsLogic_176 rfl rfl ?_
      refine go_lload 180 dX9_findsLogic_178 rfl rfl ?_
      refine go_lneg 181 dX9_findsLogic_180 rfl ?_
      refine go_lconst 182 (1) dX9_findsLogic_181 rfl (by decide) ?_
      refine go_lsub 183 dX9_findsLogic_182 rfl ?_
      refine g_callV0 186 [.long _, .long _] [] dX9_findsLogic_183 rfl (ct_X9_finds _ _ _) rfl sV_X9_findsLogic_184 rfl ly_115 rfl rfl (Nat.le_of_ble_eq_true rfl) (Nat.le_of_ble_eq_true rfl) (Nat.le_of_ble_eq_true rfl) ?_
      refine go_return dX9_findsLogic_186 rfl (Nat.le_of_ble_eq_true rfl) (Nat.le_of_ble_eq_true rfl) ?_
      refine ⟨rfl, congrArg hp ?_⟩
      unfold logF
      (try simp only [cmp_lt, cmp_le, cmp_ge, cmp_gt, cmp_eq, bi0, bi1, Classical.not_not, ← Int64.not_lt, ← Int32.not_lt] at *)
      simp_all [-Int32.not_le, -Int32.not_lt, -Int64.not_le, -Int64.not_lt]
    · refine go_aload_n 79 dX9_findsLogic_78 rfl rfl ?_
      refine g_getR 82 dX9_findsLogic_79 rfl fF_RX9_37 ly_115 rfl ?_
      refine go_iload_n 83 dX9_findsLogic_82 rfl rfl ?_
      refine g_lald 84 dX9_findsLogic_83 rfl ly_125 ha ?_
      refine go_lconst 85 (0) dX9_findsLogic_84 rfl (by decide) ?_
      refine go_lcmp 86 dX9_findsLogic_85 rfl ?_
      refine go_if_ge 89 100 dX9_findsLogic_86 rfl (by decide) (fun hc3 => ?_) (fun hc3 => ?_)
      · refine go_aload_n 101 dX9_findsLogic_100 rfl rfl ?_
        refine go_lconst 102 (0) dX9_findsLogic_101 rfl (by decide) ?_
        refine go_aload_n 103 dX9_findsLogic_102 rfl rfl ?_
        refine g_getR 106 dX9_findsLogic_103 rfl fF_RX9_37 ly_115 rfl ?_
        refine go_iload_n 107 dX9_findsLogic_106 rfl rfl ?_
        refine g_lald 108 dX9_findsLogic_107 rfl ly_125 ha ?_
        refine go_lconst 109 (0) dX9_findsLogic_108 rfl (by decide) ?_
        refine go_lcmp 110 dX9_findsLogic_109 rfl ?_
        refine go_if_lt 113 122 dX9_findsLogic_110 rfl (by decide) (fun hc4 => ?_) (fun hc4 => ?_)
        · refine go_aload_n 123 dX9_findsLogic_122 rfl rfl ?_
          refine g_getR 126 dX9_findsLogic_123 rfl fF_RX9_41 ly_115 rfl ?_
          refine go_iload_n 127 dX9_findsLogic_126 rfl rfl ?_
          refine g_lald 128 dX9_findsLogic_127 rfl ly_126 hc ?_
          refine g_callV0 131 [.long _, .long _] [] dX9_findsLogic_128 rfl (ct_X9_finds _ _ _) rfl sV_X9_findsLogic_184 rfl ly_115 rfl rfl (Nat.le_of_ble_eq_true rfl) (Nat.le_of_ble_eq_true rfl) (Nat.le_of_ble_eq_true rfl) ?_
          refine go_goto 186 dX9_findsLogic_131 (by decide) ?_
          refine go_return dX9_findsLogic_186 rfl (Nat.le_of_ble_eq_true rfl) (Nat.le_of_ble_eq_true rfl) ?_
          refine ⟨rfl, congrArg hp ?_⟩
          unfold logF
          (try simp only [cmp_lt, cmp_le, cmp_ge, cmp_gt, cmp_eq, bi0, bi1, Classical.not_not, ← Int64.not_lt, ← Int32.not_lt] at *)
          simp_all [-Int32.not_le, -Int32.not_lt, -Int64.not_le, -Int64.not_lt]
        · refine go_aload_n 114 dX9_findsLogic_113 rfl rfl ?_
          refine g_getR 117 dX9_findsLogic_114 rfl fF_RX9_41 ly_115 rfl ?_
          refine go_iload_n 118 dX9_findsLogic_117 rfl rfl ?_
          refine g_lald 119 dX9_findsLogic_118 rfl ly_126 ha ?_
          refine go_goto 128 dX9_findsLogic_119 (by decide) ?_
          refine g_callV0 131 [.long _, .long _] [] dX9_findsLogic_128 rfl (ct_X9_finds _ _ _) rfl sV_X9_findsLogic_184 rfl ly_115 rfl rfl (Nat.le_of_ble_eq_true rfl) (Nat.le_of_ble_eq_true rfl) (Nat.le_of_ble_eq_true rfl) ?_
          refine go_goto 186 dX9_findsLogic_131 (by decide) ?_
          refine go_return dX9_findsLogic_186 rfl (Nat.le_of_ble_eq_true rfl) (Nat.le_of_ble_eq_true rfl) ?_
          refine ⟨rfl, congrArg hp ?_⟩
          unfold logF
          (try simp only [cmp_lt, cmp_le, cmp_ge, cmp_gt, cmp_eq, bi0, bi1, Classical.not_not, ← Int64.not_lt, ← Int32.not_lt] at *)
          simp_all [-Int32.not_le, -Int32.not_lt, -Int64.not_le, -Int64.not_lt]
      · refine go_aload_n 90 dX9_findsLogic_89 rfl rfl ?_
        refine g_getR 93 dX9_findsLogic_90 rfl fF_RX9_37 ly_115 rfl ?_
        refine go_iload_n 94 dX9_findsLogic_93 rfl rfl ?_
        refine g_lald 95 dX9_findsLogic_94 rfl ly_125 hc ?_
        refine go_lconst 96 (0) dX9_findsLogic_95 rfl (by decide) ?_
        refine go_lcmp 97 dX9_findsLogic_96 rfl ?_
        refine go_if_lt 100 134 dX9_findsLogic_97 rfl (by decide) (fun hc5 => ?_) (fun hc5 => ?_)
        · refine go_aload_n 135 dX9_findsLogic_134 rfl rfl ?_
          refine g_getR 138 dX9_findsLogic_135 rfl fF_RX9_37 ly_115 rfl ?_
          refine go_iload_n 139 dX9_findsLogic_138 rfl rfl ?_
          refine g_lald 140 dX9_findsLogic_139 rfl ly_125 ha ?_
          refine go_aload_n 141 dX9_findsLogic_140 rfl rfl ?_
          refine g_getR 144 dX9_findsLogic_141 rfl fF_RX9_37 ly_115 rfl ?_
          refine go_iload_n 145 dX9_findsLogic_144 rfl rfl ?_
          refine g_lald 146 dX9_findsLogic_145 rfl ly_125 hc ?_
          refine g_callS 149 [.long _, .long _] [] dX9_findsLogic_146 rfl (ct_X9_smaller _ _ _) rfl sV_X9_findsLogic_169 rfl (Nat.le_of_ble_eq_true rfl) (Nat.le_of_ble_eq_true rfl) (Nat.le_of_ble_eq_true rfl) ?_
          refine go_aload_n 150 dX9_findsLogic_149 rfl rfl ?_
          refine g_getR 153 dX9_findsLogic_150 rfl fF_RX9_41 ly_115 rfl ?_
          refine go_iload_n 154 dX9_findsLogic_153 rfl rfl ?_
          refine g_lald 155 dX9_findsLogic_154 rfl ly_126 ha ?_
          refine go_aload_n 156 dX9_findsLogic_155 rfl rfl ?_
          refine g_getR 159 dX9_findsLogic_156 rfl fF_RX9_41 ly_115 rfl ?_
          refine go_iload_n 160 dX9_findsLogic_159 rfl rfl ?_
          refine g_lald 161 dX9_findsLogic_160 rfl ly_126 hc ?_
          refine g_callS 164 [.long _, .long _] [.long _] dX9_findsLogic_161 rfl (ct_X9_larger _ _ _) rfl sV_X9_findsLogic_173 rfl (Nat.le_of_ble_eq_true rfl) (Nat.le_of_ble_eq_true rfl) (Nat.le_of_ble_eq_true rfl) ?_
          refine go_lneg 165 dX9_findsLogic_164 rfl ?_
          refine go_lconst 166 (1) dX9_findsLogic_165 rfl (by decide) ?_
          refine go_lsub 167 dX9_findsLogic_166 rfl ?_
          refine g_callS 170 [.long _, .long _] [] dX9_findsLogic_167 rfl (ct_X9_smaller _ _ _) rfl sV_X9_findsLogic_169 rfl (Nat.le_of_ble_eq_true rfl) (Nat.le_of_ble_eq_true rfl) (Nat.le_of_ble_eq_true rfl) ?_
          refine g_callS 173 [.long _] [] dX9_findsLogic_170 rfl (ct_X9_downTo _ _) rfl sV_X9_findsLogic_191 rfl (Nat.le_of_ble_eq_true rfl) (Nat.le_of_ble_eq_true rfl) (Nat.le_of_ble_eq_true rfl) ?_
          refine go_lstore 175 [(4, .long _), (0, .ref 115), (1, .int _), (2, .int _), (3, .int _)] dX9_findsLogic_173 rfl (Nat.le_of_ble_eq_true rfl) rfl ?_
          refine go_aload_n 176 dX9_findsLogic_175 rfl rfl ?_
          refine go_lload 178 dX9_findsLogic_176 rfl rfl ?_
          refine go_lload 180 dX9_findsLogic_178 rfl rfl ?_
          refine go_lneg 181 dX9_findsLogic_180 rfl ?_
          refine go_lconst 182 (1) dX9_findsLogic_181 rfl (by decide) ?_
          refine go_lsub 183 dX9_findsLogic_182 rfl ?_
          refine g_callV0 186 [.long _, .long _] [] dX9_findsLogic_183 rfl (ct_X9_finds _ _ _) rfl sV_X9_findsLogic_184 rfl ly_115 rfl rfl (Nat.le_of_ble_eq_true rfl) (Nat.le_of_ble_eq_true rfl) (Nat.le_of_ble_eq_true rfl) ?_
          refine go_return dX9_findsLogic_186 rfl (Nat.le_of_ble_eq_true rfl) (Nat.le_of_ble_eq_true rfl) ?_
          refine ⟨rfl, congrArg hp ?_⟩
          unfold logF
          (try simp only [cmp_lt, cmp_le, cmp_ge, cmp_gt, cmp_eq, bi0, bi1, Classical.not_not, ← Int64.not_lt, ← Int32.not_lt] at *)
          simp_all [-Int32.not_le, -Int32.not_lt, -Int64.not_le, -Int64.not_lt]
        · refine go_aload_n 101 dX9_findsLogic_100 rfl rfl ?_
          refine go_lconst 102 (0) dX9_findsLogic_101 rfl (by decide) ?_
          refine go_aload_n 103 dX9_findsLogic_102 rfl rfl ?_
          refine g_getR 106 dX9_findsLogic_103 rfl fF_RX9_37 ly_115 rfl ?_
          refine go_iload_n 107 dX9_findsLogic_106 rfl rfl ?_
          refine g_lald 108 dX9_findsLogic_107 rfl ly_125 ha ?_
          refine go_lconst 109 (0) dX9_findsLogic_108 rfl (by decide) ?_
          refine go_lcmp 110 dX9_findsLogic_109 rfl ?_
          refine go_if_lt 113 122 dX9_findsLogic_110 rfl (by decide) (fun hc6 => ?_) (fun hc6 => ?_)
          · refine go_aload_n 123 dX9_findsLogic_122 rfl rfl ?_
            refine g_getR 126 dX9_findsLogic_123 rfl fF_RX9_41 ly_115 rfl ?_
            refine go_iload_n 127 dX9_findsLogic_126 rfl rfl ?_
            refine g_lald 128 dX9_findsLogic_127 rfl ly_126 hc ?_
            refine g_callV0 131 [.long _, .long _] [] dX9_findsLogic_128 rfl (ct_X9_finds _ _ _) rfl sV_X9_findsLogic_184 rfl ly_115 rfl rfl (Nat.le_of_ble_eq_true rfl) (Nat.le_of_ble_eq_true rfl) (Nat.le_of_ble_eq_true rfl) ?_
            refine go_goto 186 dX9_findsLogic_131 (by decide) ?_
            refine go_return dX9_findsLogic_186 rfl (Nat.le_of_ble_eq_true rfl) (Nat.le_of_ble_eq_true rfl) ?_
            refine ⟨rfl, congrArg hp ?_⟩
            unfold logF
            (try simp only [cmp_lt, cmp_le, cmp_ge, cmp_gt, cmp_eq, bi0, bi1, Classical.not_not, ← Int64.not_lt, ← Int32.not_lt] at *)
            simp_all [-Int32.not_le, -Int32.not_lt, -Int64.not_le, -Int64.not_lt]
          · refine go_aload_n 114 dX9_findsLogic_113 rfl rfl ?_
            refine g_getR 117 dX9_findsLogic_114 rfl fF_RX9_41 ly_115 rfl ?_
            refine go_iload_n 118 dX9_findsLogic_117 rfl rfl ?_
            refine g_lald 119 dX9_findsLogic_118 rfl ly_126 ha ?_
            refine go_goto 128 dX9_findsLogic_119 (by decide) ?_
            refine g_callV0 131 [.long _, .long _] [] dX9_findsLogic_128 rfl (ct_X9_finds _ _ _) rfl sV_X9_findsLogic_184 rfl ly_115 rfl rfl (Nat.le_of_ble_eq_true rfl) (Nat.le_of_ble_eq_true rfl) (Nat.le_of_ble_eq_true rfl) ?_
            refine go_goto 186 dX9_findsLogic_131 (by decide) ?_
            refine go_return dX9_findsLogic_186 rfl (Nat.le_of_ble_eq_true rfl) (Nat.le_of_ble_eq_true rfl) ?_
            refine ⟨rfl, congrArg hp ?_⟩
            unfold logF
            (try simp only [cmp_lt, cmp_le, cmp_ge, cmp_gt, cmp_eq, bi0, bi1, Classical.not_not, ← Int64.not_lt, ← Int32.not_lt] at *)
            simp_all [-Int32.not_le, -Int32.not_lt, -Int64.not_le, -Int64.not_lt]
  · refine go_aload_n 12 dX9_findsLogic_11 rfl rfl ?_
    refine g_getR 15 dX9_findsLogic_12 rfl fF_RX9_37 ly_115 rfl ?_
    refine go_iload_n 16 dX9_findsLogic_15 rfl rfl ?_
    refine g_lald 17 dX9_findsLogic_16 rfl ly_125 hc ?_
    refine go_lconst 18 (0) dX9_findsLogic_17 rfl (by decide) ?_
    refine go_lcmp 19 dX9_findsLogic_18 rfl ?_
    refine go_if_lt 22 72 dX9_findsLogic_19 rfl (by decide) (fun hc7 => ?_) (fun hc7 => ?_)
    · refine go_iload_n 73 dX9_findsLogic_72 rfl rfl ?_
      refine go_bipush 75 (6) dX9_findsLogic_73 rfl (by decide) ?_
      refine go_icmp_ne 78 134 dX9_findsLogic_75 rfl (by decide) (fun hc8 => ?_) (fun hc8 => ?_)
      · refine go_aload_n 135 dX9_findsLogic_134 rfl rfl ?_
        refine g_getR 138 dX9_findsLogic_135 rfl fF_RX9_37 ly_115 rfl ?_
        refine go_iload_n 139 dX9_findsLogic_138 rfl rfl ?_
        refine g_lald 140 dX9_findsLogic_139 rfl ly_125 ha ?_
        refine go_aload_n 141 dX9_findsLogic_140 rfl rfl ?_
        refine g_getR 144 dX9_findsLogic_141 rfl fF_RX9_37 ly_115 rfl ?_
        refine go_iload_n 145 dX9_findsLogic_144 rfl rfl ?_
        refine g_lald 146 dX9_findsLogic_145 rfl ly_125 hc ?_
        refine g_callS 149 [.long _, .long _] [] dX9_findsLogic_146 rfl (ct_X9_smaller _ _ _) rfl sV_X9_findsLogic_169 rfl (Nat.le_of_ble_eq_true rfl) (Nat.le_of_ble_eq_true rfl) (Nat.le_of_ble_eq_true rfl) ?_
        refine go_aload_n 150 dX9_findsLogic_149 rfl rfl ?_
        refine g_getR 153 dX9_findsLogic_150 rfl fF_RX9_41 ly_115 rfl ?_
        refine go_iload_n 154 dX9_findsLogic_153 rfl rfl ?_
        refine g_lald 155 dX9_findsLogic_154 rfl ly_126 ha ?_
        refine go_aload_n 156 dX9_findsLogic_155 rfl rfl ?_
        refine g_getR 159 dX9_findsLogic_156 rfl fF_RX9_41 ly_115 rfl ?_
        refine go_iload_n 160 dX9_findsLogic_159 rfl rfl ?_
        refine g_lald 161 dX9_findsLogic_160 rfl ly_126 hc ?_
        refine g_callS 164 [.long _, .long _] [.long _] dX9_findsLogic_161 rfl (ct_X9_larger _ _ _) rfl sV_X9_findsLogic_173 rfl (Nat.le_of_ble_eq_true rfl) (Nat.le_of_ble_eq_true rfl) (Nat.le_of_ble_eq_true rfl) ?_
        refine go_lneg 165 dX9_findsLogic_164 rfl ?_
        refine go_lconst 166 (1) dX9_findsLogic_165 rfl (by decide) ?_
        refine go_lsub 167 dX9_findsLogic_166 rfl ?_
        refine g_callS 170 [.long _, .long _] [] dX9_findsLogic_167 rfl (ct_X9_smaller _ _ _) rfl sV_X9_findsLogic_169 rfl (Nat.le_of_ble_eq_true rfl) (Nat.le_of_ble_eq_true rfl) (Nat.le_of_ble_eq_true rfl) ?_
        refine g_callS 173 [.long _] [] dX9_findsLogic_170 rfl (ct_X9_downTo _ _) rfl sV_X9_findsLogic_191 rfl (Nat.le_of_ble_eq_true rfl) (Nat.le_of_ble_eq_true rfl) (Nat.le_of_ble_eq_true rfl) ?_
        refine go_lstore 175 [(4, .long _), (0, .ref 115), (1, .int _), (2, .int _), (3, .int _)] dX9_findsLogic_173 rfl (Nat.le_of_ble_eq_true rfl) rfl ?_
        refine go_aload_n 176 dX9_findsLogic_175 rfl rfl ?_
        refine go_lload 178 dX9_findsLogic_176 rfl rfl ?_
        refine go_lload 180 dX9_findsLogic_178 rfl rfl ?_
        refine go_lneg 181 dX9_findsLogic_180 rfl ?_
        refine go_lconst 182 (1) dX9_findsLogic_181 rfl (by decide) ?_
        refine go_lsub 183 dX9_findsLogic_182 rfl ?_
        refine g_callV0 186 [.long _, .long _] [] dX9_findsLogic_183 rfl (ct_X9_finds _ _ _) rfl sV_X9_findsLogic_184 rfl ly_115 rfl rfl (Nat.le_of_ble_eq_true rfl) (Nat.le_of_ble_eq_true rfl) (Nat.le_of_ble_eq_true rfl) ?_
        refine go_return dX9_findsLogic_186 rfl (Nat.le_of_ble_eq_true rfl) (Nat.le_of_ble_eq_true rfl) ?_
        refine ⟨rfl, congrArg hp ?_⟩
        unfold logF
        (try simp only [cmp_lt, cmp_le, cmp_ge, cmp_gt, cmp_eq, bi0, bi1, Classical.not_not, ← Int64.not_lt, ← Int32.not_lt] at *)
        simp_all [-Int32.not_le, -Int32.not_lt, -Int64.not_le, -Int64.not_lt]
      · refine go_aload_n 79 dX9_findsLogic_78 rfl rfl ?_
        refine g_getR 82 dX9_findsLogic_79 rfl fF_RX9_37 ly_115 rfl ?_
        refine go_iload_n 83 dX9_findsLogic_82 rfl rfl ?_
        refine g_lald 84 dX9_findsLogic_83 rfl ly_125 ha ?_
        refine go_lconst 85 (0) dX9_findsLogic_84 rfl (by decide) ?_
        refine go_lcmp 86 dX9_findsLogic_85 rfl ?_
        refine go_if_ge 89 100 dX9_findsLogic_86 rfl (by decide) (fun hc9 => ?_) (fun hc9 => ?_)
        · refine go_aload_n 101 dX9_findsLogic_100 rfl rfl ?_
          refine go_lconst 102 (0) dX9_findsLogic_101 rfl (by decide) ?_
          refine go_aload_n 103 dX9_findsLogic_102 rfl rfl ?_
          refine g_getR 106 dX9_findsLogic_103 rfl fF_RX9_37 ly_115 rfl ?_
          refine go_iload_n 107 dX9_findsLogic_106 rfl rfl ?_
          refine g_lald 108 dX9_findsLogic_107 rfl ly_125 ha ?_
          refine go_lconst 109 (0) dX9_findsLogic_108 rfl (by decide) ?_
          refine go_lcmp 110 dX9_findsLogic_109 rfl ?_
          refine go_if_lt 113 122 dX9_findsLogic_110 rfl (by decide) (fun hc10 => ?_) (fun hc10 => ?_)
          · refine go_aload_n 123 dX9_findsLogic_122 rfl rfl ?_
            refine g_getR 126 dX9_findsLogic_123 rfl fF_RX9_41 ly_115 rfl ?_
            refine go_iload_n 127 dX9_findsLogic_126 rfl rfl ?_
            refine g_lald 128 dX9_findsLogic_127 rfl ly_126 hc ?_
            refine g_callV0 131 [.long _, .long _] [] dX9_findsLogic_128 rfl (ct_X9_finds _ _ _) rfl sV_X9_findsLogic_184 rfl ly_115 rfl rfl (Nat.le_of_ble_eq_true rfl) (Nat.le_of_ble_eq_true rfl) (Nat.le_of_ble_eq_true rfl) ?_
            refine go_goto 186 dX9_findsLogic_131 (by decide) ?_
            refine go_return dX9_findsLogic_186 rfl (Nat.le_of_ble_eq_true rfl) (Nat.le_of_ble_eq_true rfl) ?_
            refine ⟨rfl, congrArg hp ?_⟩
            unfold logF
            (try simp only [cmp_lt, cmp_le, cmp_ge, cmp_gt, cmp_eq, bi0, bi1, Classical.not_not, ← Int64.not_lt, ← Int32.not_lt] at *)
            simp_all [-Int32.not_le, -Int32.not_lt, -Int64.not_le, -Int64.not_lt]
          · refine go_aload_n 114 dX9_findsLogic_113 rfl rfl ?_
            refine g_getR 117 dX9_findsLogic_114 rfl fF_RX9_41 ly_115 rfl ?_
            refine go_iload_n 118 dX9_findsLogic_117 rfl rfl ?_
            refine g_lald 119 dX9_findsLogic_118 rfl ly_126 ha ?_
            refine go_goto 128 dX9_findsLogic_119 (by decide) ?_
            refine g_callV0 131 [.long _, .long _] [] dX9_findsLogic_128 rfl (ct_X9_finds _ _ _) rfl sV_X9_findsLogic_184 rfl ly_115 rfl rfl (Nat.le_of_ble_eq_true rfl) (Nat.le_of_ble_eq_true rfl) (Nat.le_of_ble_eq_true rfl) ?_
            refine go_goto 186 dX9_findsLogic_131 (by decide) ?_
            refine go_return dX9_findsLogic_186 rfl (Nat.le_of_ble_eq_true rfl) (Nat.le_of_ble_eq_true rfl) ?_
            refine ⟨rfl, congrArg hp ?_⟩
            unfold logF
            (try simp only [cmp_lt, cmp_le, cmp_ge, cmp_gt, cmp_eq, bi0, bi1, Classical.not_not, ← Int64.not_lt, ← Int32.not_lt] at *)
            simp_all [-Int32.not_le, -Int32.not_lt, -Int64.not_le, -Int64.not_lt]
        · refine go_aload_n 90 dX9_findsLogic_89 rfl rfl ?_
          refine g_getR 93 dX9_findsLogic_90 rfl fF_RX9_37 ly_115 rfl ?_
          refine go_iload_n 94 dX9_findsLogic_93 rfl rfl ?_
          refine g_lald 95 dX9_findsLogic_94 rfl ly_125 hc ?_
          refine go_lconst 96 (0) dX9_findsLogic_95 rfl (by decide) ?_
          refine go_lcmp 97 dX9_findsLogic_96 rfl ?_
          refine go_if_lt 100 134 dX9_findsLogic_97 rfl (by decide) (fun hc11 => ?_) (fun hc11 => ?_)
          · refine go_aload_n 135 dX9_findsLogic_134 rfl rfl ?_
            refine g_getR 138 dX9_findsLogic_135 rfl fF_RX9_37 ly_115 rfl ?_
            refine go_iload_n 139 dX9_findsLogic_138 rfl rfl ?_
            refine g_lald 140 dX9_findsLogic_139 rfl ly_125 ha ?_
            refine go_aload_n 141 dX9_findsLogic_140 rfl rfl ?_
            refine g_getR 144 dX9_findsLogic_141 rfl fF_RX9_37 ly_115 rfl ?_
            refine go_iload_n 145 dX9_findsLogic_144 rfl rfl ?_
            refine g_lald 146 dX9_findsLogic_145 rfl ly_125 hc ?_
            refine g_callS 149 [.long _, .long _] [] dX9_findsLogic_146 rfl (ct_X9_smaller _ _ _) rfl sV_X9_findsLogic_169 rfl (Nat.le_of_ble_eq_true rfl) (Nat.le_of_ble_eq_true rfl) (Nat.le_of_ble_eq_true rfl) ?_
            refine go_aload_n 150 dX9_findsLogic_149 rfl rfl ?_
            refine g_getR 153 dX9_findsLogic_150 rfl fF_RX9_41 ly_115 rfl ?_
            refine go_iload_n 154 dX9_findsLogic_153 rfl rfl ?_
            refine g_lald 155 dX9_findsLogic_154 rfl ly_126 ha ?_
            refine go_aload_n 156 dX9_findsLogic_155 rfl rfl ?_
            refine g_getR 159 dX9_findsLogic_156 rfl fF_RX9_41 ly_115 rfl ?_
            refine go_iload_n 160 dX9_findsLogic_159 rfl rfl ?_
            refine g_lald 161 dX9_findsLogic_160 rfl ly_126 hc ?_
            refine g_callS 164 [.long _, .long _] [.long _] dX9_findsLogic_161 rfl (ct_X9_larger _ _ _) rfl sV_X9_findsLogic_173 rfl (Nat.le_of_ble_eq_true rfl) (Nat.le_of_ble_eq_true rfl) (Nat.le_of_ble_eq_true rfl) ?_
            refine go_lneg 165 dX9_findsLogic_164 rfl ?_
            refine go_lconst 166 (1) dX9_findsLogic_165 rfl (by decide) ?_
            refine go_lsub 167 dX9_findsLogic_166 rfl ?_
            refine g_callS 170 [.long _, .long _] [] dX9_findsLogic_167 rfl (ct_X9_smaller _ _ _) rfl sV_X9_findsLogic_169 rfl (Nat.le_of_ble_eq_true rfl) (Nat.le_of_ble_eq_true rfl) (Nat.le_of_ble_eq_true rfl) ?_
            refine g_callS 173 [.long _] [] dX9_findsLogic_170 rfl (ct_X9_downTo _ _) rfl sV_X9_findsLogic_191 rfl (Nat.le_of_ble_eq_true rfl) (Nat.le_of_ble_eq_true rfl) (Nat.le_of_ble_eq_true rfl) ?_
            refine go_lstore 175 [(4, .long _), (0, .ref 115), (1, .int _), (2, .int _), (3, .int _)] dX9_findsLogic_173 rfl (Nat.le_of_ble_eq_true rfl) rfl ?_
            refine go_aload_n 176 dX9_findsLogic_175 rfl rfl ?_
            refine go_lload 178 dX9_findsLogic_176 rfl rfl ?_
            refine go_lload 180 dX9_findsLogic_178 rfl rfl ?_
            refine go_lneg 181 dX9_findsLogic_180 rfl ?_
            refine go_lconst 182 (1) dX9_findsLogic_181 rfl (by decide) ?_
            refine go_lsub 183 dX9_findsLogic_182 rfl ?_
            refine g_callV0 186 [.long _, .long _] [] dX9_findsLogic_183 rfl (ct_X9_finds _ _ _) rfl sV_X9_findsLogic_184 rfl ly_115 rfl rfl (Nat.le_of_ble_eq_true rfl) (Nat.le_of_ble_eq_true rfl) (Nat.le_of_ble_eq_true rfl) ?_
            refine go_return dX9_findsLogic_186 rfl (Nat.le_of_ble_eq_true rfl) (Nat.le_of_ble_eq_true rfl) ?_
            refine ⟨rfl, congrArg hp ?_⟩
            unfold logF
            (try simp only [cmp_lt, cmp_le, cmp_ge, cmp_gt, cmp_eq, bi0, bi1, Classical.not_not, ← Int64.not_lt, ← Int32.not_lt] at *)
            simp_all [-Int32.not_le, -Int32.not_lt, -Int64.not_le, -Int64.not_lt]
          · refine go_aload_n 101 dX9_findsLogic_100 rfl rfl ?_
            refine go_lconst 102 (0) dX9_findsLogic_101 rfl (by decide) ?_
            refine go_aload_n 103 dX9_findsLogic_102 rfl rfl ?_
            refine g_getR 106 dX9_findsLogic_103 rfl fF_RX9_37 ly_115 rfl ?_
            refine go_iload_n 107 dX9_findsLogic_106 rfl rfl ?_
            refine g_lald 108 dX9_findsLogic_107 rfl ly_125 ha ?_
            refine go_lconst 109 (0) dX9_findsLogic_108 rfl (by decide) ?_
            refine go_lcmp 110 dX9_findsLogic_109 rfl ?_
            refine go_if_lt 113 122 dX9_findsLogic_110 rfl (by decide) (fun hc12 => ?_) (fun hc12 => ?_)
            · refine go_aload_n 123 dX9_findsLogic_122 rfl rfl ?_
              refine g_getR 126 dX9_findsLogic_123 rfl fF_RX9_41 ly_115 rfl ?_
              refine go_iload_n 127 dX9_findsLogic_126 rfl rfl ?_
              refine g_lald 128 dX9_findsLogic_127 rfl ly_126 hc ?_
              refine g_callV0 131 [.long _, .long _] [] dX9_findsLogic_128 rfl (ct_X9_finds _ _ _) rfl sV_X9_findsLogic_184 rfl ly_115 rfl rfl (Nat.le_of_ble_eq_true rfl) (Nat.le_of_ble_eq_true rfl) (Nat.le_of_ble_eq_true rfl) ?_
              refine go_goto 186 dX9_findsLogic_131 (by decide) ?_
              refine go_return dX9_findsLogic_186 rfl (Nat.le_of_ble_eq_true rfl) (Nat.le_of_ble_eq_true rfl) ?_
              refine ⟨rfl, congrArg hp ?_⟩
              unfold logF
              (try simp only [cmp_lt, cmp_le, cmp_ge, cmp_gt, cmp_eq, bi0, bi1, Classical.not_not, ← Int64.not_lt, ← Int32.not_lt] at *)
              simp_all [-Int32.not_le, -Int32.not_lt, -Int64.not_le, -Int64.not_lt]
            · refine go_aload_n 114 dX9_findsLogic_113 rfl rfl ?_
              refine g_getR 117 dX9_findsLogic_114 rfl fF_RX9_41 ly_115 rfl ?_
              refine go_iload_n 118 dX9_findsLogic_117 rfl rfl ?_
              refine g_lald 119 dX9_findsLogic_118 rfl ly_126 ha ?_
              refine go_goto 128 dX9_findsLogic_119 (by decide) ?_
              refine g_callV0 131 [.long _, .long _] [] dX9_findsLogic_128 rfl (ct_X9_finds _ _ _) rfl sV_X9_findsLogic_184 rfl ly_115 rfl rfl (Nat.le_of_ble_eq_true rfl) (Nat.le_of_ble_eq_true rfl) (Nat.le_of_ble_eq_true rfl) ?_
              refine go_goto 186 dX9_findsLogic_131 (by decide) ?_
              refine go_return dX9_findsLogic_186 rfl (Nat.le_of_ble_eq_true rfl) (Nat.le_of_ble_eq_true rfl) ?_
              refine ⟨rfl, congrArg hp ?_⟩
              unfold logF
              (try simp only [cmp_lt, cmp_le, cmp_ge, cmp_gt, cmp_eq, bi0, bi1, Classical.not_not, ← Int64.not_lt, ← Int32.not_lt] at *)
              simp_all [-Int32.not_le, -Int32.not_lt, -Int64.not_le, -Int64.not_lt]
    · refine go_aload_n 23 dX9_findsLogic_22 rfl rfl ?_
      refine go_lconst 24 (0) dX9_findsLogic_23 rfl (by decide) ?_
      refine go_iload_n 25 dX9_findsLogic_24 rfl rfl ?_
      refine go_bipush 27 (6) dX9_findsLogic_25 rfl (by decide) ?_
      refine go_icmp_ne 30 48 dX9_findsLogic_27 rfl (by decide) (fun hc13 => ?_) (fun hc13 => ?_)
      · refine go_aload_n 49 dX9_findsLogic_48 rfl rfl ?_
        refine g_getR 52 dX9_findsLogic_49 rfl fF_RX9_41 ly_115 rfl ?_
        refine go_iload_n 53 dX9_findsLogic_52 rfl rfl ?_
        refine g_lald 54 dX9_findsLogic_53 rfl ly_126 ha ?_
        refine go_aload_n 55 dX9_findsLogic_54 rfl rfl ?_
        refine g_getR 58 dX9_findsLogic_55 rfl fF_RX9_41 ly_115 rfl ?_
        refine go_iload_n 59 dX9_findsLogic_58 rfl rfl ?_
        refine g_lald 60 dX9_findsLogic_59 rfl ly_126 hc ?_
        refine g_callS 63 [.long _, .long _] [.long _, .ref 115] dX9_findsLogic_60 rfl (ct_X9_larger _ _ _) rfl sV_X9_findsLogic_173 rfl (Nat.le_of_ble_eq_true rfl) (Nat.le_of_ble_eq_true rfl) (Nat.le_of_ble_eq_true rfl) ?_
        refine g_callS 66 [.long _] [.long _, .ref 115] dX9_findsLogic_63 rfl (ct_X9_upTo _ _) rfl sV_X9_findsLogic_187 rfl (Nat.le_of_ble_eq_true rfl) (Nat.le_of_ble_eq_true rfl) (Nat.le_of_ble_eq_true rfl) ?_
        refine g_callV0 69 [.long _, .long _] [] dX9_findsLogic_66 rfl (ct_X9_finds _ _ _) rfl sV_X9_findsLogic_184 rfl ly_115 rfl rfl (Nat.le_of_ble_eq_true rfl) (Nat.le_of_ble_eq_true rfl) (Nat.le_of_ble_eq_true rfl) ?_
        refine go_goto 186 dX9_findsLogic_69 (by decide) ?_
        refine go_return dX9_findsLogic_186 rfl (Nat.le_of_ble_eq_true rfl) (Nat.le_of_ble_eq_true rfl) ?_
        refine ⟨rfl, congrArg hp ?_⟩
        unfold logF
        (try simp only [cmp_lt, cmp_le, cmp_ge, cmp_gt, cmp_eq, bi0, bi1, Classical.not_not, ← Int64.not_lt, ← Int32.not_lt] at *)
        simp_all [-Int32.not_le, -Int32.not_lt, -Int64.not_le, -Int64.not_lt]
      · refine go_aload_n 31 dX9_findsLogic_30 rfl rfl ?_
        refine g_getR 34 dX9_findsLogic_31 rfl fF_RX9_41 ly_115 rfl ?_
        refine go_iload_n 35 dX9_findsLogic_34 rfl rfl ?_
        refine g_lald 36 dX9_findsLogic_35 rfl ly_126 ha ?_
        refine go_aload_n 37 dX9_findsLogic_36 rfl rfl ?_
        refine g_getR 40 dX9_findsLogic_37 rfl fF_RX9_41 ly_115 rfl ?_
        refine go_iload_n 41 dX9_findsLogic_40 rfl rfl ?_
        refine g_lald 42 dX9_findsLogic_41 rfl ly_126 hc ?_
        refine g_callS 45 [.long _, .long _] [.long _, .ref 115] dX9_findsLogic_42 rfl (ct_X9_smaller _ _ _) rfl sV_X9_findsLogic_169 rfl (Nat.le_of_ble_eq_true rfl) (Nat.le_of_ble_eq_true rfl) (Nat.le_of_ble_eq_true rfl) ?_
        refine go_goto 66 dX9_findsLogic_45 (by decide) ?_
        refine g_callV0 69 [.long _, .long _] [] dX9_findsLogic_66 rfl (ct_X9_finds _ _ _) rfl sV_X9_findsLogic_184 rfl ly_115 rfl rfl (Nat.le_of_ble_eq_true rfl) (Nat.le_of_ble_eq_true rfl) (Nat.le_of_ble_eq_true rfl) ?_
        refine go_goto 186 dX9_findsLogic_69 (by decide) ?_
        refine go_return dX9_findsLogic_186 rfl (Nat.le_of_ble_eq_true rfl) (Nat.le_of_ble_eq_true rfl) ?_
        refine ⟨rfl, congrArg hp ?_⟩
        unfold logF
        (try simp only [cmp_lt, cmp_le, cmp_ge, cmp_gt, cmp_eq, bi0, bi1, Classical.not_not, ← Int64.not_lt, ← Int32.not_lt] at *)
        simp_all [-Int32.not_le, -Int32.not_lt, -Int64.not_le, -Int64.not_lt]

set_option maxRecDepth 100000 in
set_option maxHeartbeats 4000000 in
theorem ct_X9_findsChoice (S : gS) (a c d : Int32) (ha : vp_in a 24) (hc : vp_in c 24) (hd : vp_in d 24) : gF mX9_findsChoice [.ref 115, .int a, .int c, .int d] S none (choF S (rL S 125 a.toNatClampNeg) (rL S 126 a.toNatClampNeg) (rL S 125 c.toNatClampNeg) (rL S 126 c.toNatClampNeg) (rL S 125 d.toNatClampNeg) (rL S 126 d.toNatClampNeg)) := by
  refine go_enter [.ref 115, .int a, .int c, .int d] [(0, .ref 115), (1, .int a), (2, .int c), (3, .int d)] (by decide +kernel) rfl rfl (Nat.le_of_ble_eq_true rfl) rfl ?_
  refine go_aload_n 1 dX9_findsChoice_0 rfl rfl ?_
  refine g_getR 4 dX9_findsChoice_1 rfl fF_RX9_37 ly_115 rfl ?_
  refine go_iload_n 5 dX9_findsChoice_4 rfl rfl ?_
  refine g_lald 6 dX9_findsChoice_5 rfl ly_125 ha ?_
  refine go_lconst 7 (0) dX9_findsChoice_6 rfl (by decide) ?_
  refine go_lcmp 8 dX9_findsChoice_7 rfl ?_
  refine go_if_gt 11 22 dX9_findsChoice_8 rfl (by decide) (fun hc1 => ?_) (fun hc1 => ?_)
  · refine go_aload_n 23 dX9_findsChoice_22 rfl rfl ?_
    refine go_aload_n 24 dX9_findsChoice_23 rfl rfl ?_
    refine g_getR 27 dX9_findsChoice_24 rfl fF_RX9_37 ly_115 rfl ?_
    refine go_iload_n 28 dX9_findsChoice_27 rfl rfl ?_
    refine g_lald 29 dX9_findsChoice_28 rfl ly_125 hc ?_
    refine go_aload_n 30 dX9_findsChoice_29 rfl rfl ?_
    refine g_getR 33 dX9_findsChoice_30 rfl fF_RX9_41 ly_115 rfl ?_
    refine go_iload_n 34 dX9_findsChoice_33 rfl rfl ?_
    refine g_lald 35 dX9_findsChoice_34 rfl ly_126 hc ?_
    refine g_callV0 38 [.long _, .long _] [] dX9_findsChoice_35 rfl (ct_X9_finds _ _ _) rfl sV_X9_findsChoice_184 rfl ly_115 rfl rfl (Nat.le_of_ble_eq_true rfl) (Nat.le_of_ble_eq_true rfl) (Nat.le_of_ble_eq_true rfl) ?_
    refine go_goto 116 dX9_findsChoice_38 (by decide) ?_
    refine go_return dX9_findsChoice_116 rfl (Nat.le_of_ble_eq_true rfl) (Nat.le_of_ble_eq_true rfl) ?_
    refine ⟨rfl, congrArg hp ?_⟩
    unfold choF
    (try simp only [cmp_lt, cmp_le, cmp_ge, cmp_gt, cmp_eq, bi0, bi1, Classical.not_not, ← Int64.not_lt, ← Int32.not_lt] at *)
    simp_all [-Int32.not_le, -Int32.not_lt, -Int64.not_le, -Int64.not_lt]
  · refine go_aload_n 12 dX9_findsChoice_11 rfl rfl ?_
    refine g_getR 15 dX9_findsChoice_12 rfl fF_RX9_41 ly_115 rfl ?_
    refine go_iload_n 16 dX9_findsChoice_15 rfl rfl ?_
    refine g_lald 17 dX9_findsChoice_16 rfl ly_126 ha ?_
    refine go_lconst 18 (0) dX9_findsChoice_17 rfl (by decide) ?_
    refine go_lcmp 19 dX9_findsChoice_18 rfl ?_
    refine go_if_ge 22 41 dX9_findsChoice_19 rfl (by decide) (fun hc2 => ?_) (fun hc2 => ?_)
    · refine go_aload_n 42 dX9_findsChoice_41 rfl rfl ?_
      refine g_getR 45 dX9_findsChoice_42 rfl fF_RX9_37 ly_115 rfl ?_
      refine go_iload_n 46 dX9_findsChoice_45 rfl rfl ?_
      refine g_lald 47 dX9_findsChoice_46 rfl ly_125 ha ?_
      refine go_lconst 48 (0) dX9_findsChoice_47 rfl (by decide) ?_
      refine go_lcmp 49 dX9_findsChoice_48 rfl ?_
      refine go_if_ne 52 82 dX9_findsChoice_49 rfl (by decide) (fun hc3 => ?_) (fun hc3 => ?_)
      · refine go_aload_n 83 dX9_findsChoice_82 rfl rfl ?_
        refine go_aload_n 84 dX9_findsChoice_83 rfl rfl ?_
        refine g_getR 87 dX9_findsChoice_84 rfl fF_RX9_37 ly_115 rfl ?_
        refine go_iload_n 88 dX9_findsChoice_87 rfl rfl ?_
        refine g_lald 89 dX9_findsChoice_88 rfl ly_125 hc ?_
        refine go_aload_n 90 dX9_findsChoice_89 rfl rfl ?_
        refine g_getR 93 dX9_findsChoice_90 rfl fF_RX9_37 ly_115 rfl ?_
        refine go_iload_n 94 dX9_findsChoice_93 rfl rfl ?_
        refine g_lald 95 dX9_findsChoice_94 rfl ly_125 hd ?_
        refine g_callS 98 [.long _, .long _] [.ref 115] dX9_findsChoice_95 rfl (ct_X9_smaller _ _ _) rfl sV_X9_findsChoice_169 rfl (Nat.le_of_ble_eq_true rfl) (Nat.le_of_ble_eq_true rfl) (Nat.le_of_ble_eq_true rfl) ?_
        refine go_aload_n 99 dX9_findsChoice_98 rfl rfl ?_
        refine g_getR 102 dX9_findsChoice_99 rfl fF_RX9_41 ly_115 rfl ?_
        refine go_iload_n 103 dX9_findsChoice_102 rfl rfl ?_
        refine g_lald 104 dX9_findsChoice_103 rfl ly_126 hc ?_
        refine go_aload_n 105 dX9_findsChoice_104 rfl rfl ?_
        refine g_getR 108 dX9_findsChoice_105 rfl fF_RX9_41 ly_115 rfl ?_
        refine go_iload_n 109 dX9_findsChoice_108 rfl rfl ?_
        refine g_lald 110 dX9_findsChoice_109 rfl ly_126 hd ?_
        refine g_callS 113 [.long _, .long _] [.long _, .ref 115] dX9_findsChoice_110 rfl (ct_X9_larger _ _ _) rfl sV_X9_findsChoice_173 rfl (Nat.le_of_ble_eq_true rfl) (Nat.le_of_ble_eq_true rfl) (Nat.le_of_ble_eq_true rfl) ?_
        refine g_callV0 116 [.long _, .long _] [] dX9_findsChoice_113 rfl (ct_X9_finds _ _ _) rfl sV_X9_findsChoice_184 rfl ly_115 rfl rfl (Nat.le_of_ble_eq_true rfl) (Nat.le_of_ble_eq_true rfl) (Nat.le_of_ble_eq_true rfl) ?_
        refine go_return dX9_findsChoice_116 rfl (Nat.le_of_ble_eq_true rfl) (Nat.le_of_ble_eq_true rfl) ?_
        refine ⟨rfl, congrArg hp ?_⟩
        unfold choF
        (try simp only [cmp_lt, cmp_le, cmp_ge, cmp_gt, cmp_eq, bi0, bi1, Classical.not_not, ← Int64.not_lt, ← Int32.not_lt] at *)
        simp_all [-Int32.not_le, -Int32.not_lt, -Int64.not_le, -Int64.not_lt]
      · refine go_aload_n 53 dX9_findsChoice_52 rfl rfl ?_
        refine g_getR 56 dX9_findsChoice_53 rfl fF_RX9_41 ly_115 rfl ?_
        refine go_iload_n 57 dX9_findsChoice_56 rfl rfl ?_
        refine g_lald 58 dX9_findsChoice_57 rfl ly_126 ha ?_
        refine go_lconst 59 (0) dX9_findsChoice_58 rfl (by decide) ?_
        refine go_lcmp 60 dX9_findsChoice_59 rfl ?_
        refine go_if_ne 63 82 dX9_findsChoice_60 rfl (by decide) (fun hc4 => ?_) (fun hc4 => ?_)
        · refine go_aload_n 83 dX9_findsChoice_82 rfl rfl ?_
          refine go_aload_n 84 dX9_findsChoice_83 rfl rfl ?_
          refine g_getR 87 dX9_findsChoice_84 rfl fF_RX9_37 ly_115 rfl ?_
          refine go_iload_n 88 dX9_findsChoice_87 rfl rfl ?_
          refine g_lald 89 dX9_findsChoice_88 rfl ly_125 hc ?_
          refine go_aload_n 90 dX9_findsChoice_89 rfl rfl ?_
          refine g_getR 93 dX9_findsChoice_90 rfl fF_RX9_37 ly_115 rfl ?_
          refine go_iload_n 94 dX9_findsChoice_93 rfl rfl ?_
          refine g_lald 95 dX9_findsChoice_94 rfl ly_125 hd ?_
          refine g_callS 98 [.long _, .long _] [.ref 115] dX9_findsChoice_95 rfl (ct_X9_smaller _ _ _) rfl sV_X9_findsChoice_169 rfl (Nat.le_of_ble_eq_true rfl) (Nat.le_of_ble_eq_true rfl) (Nat.le_of_ble_eq_true rfl) ?_
          refine go_aload_n 99 dX9_findsChoice_98 rfl rfl ?_
          refine g_getR 102 dX9_findsChoice_99 rfl fF_RX9_41 ly_115 rfl ?_
          refine go_iload_n 103 dX9_findsChoice_102 rfl rfl ?_
          refine g_lald 104 dX9_findsChoice_103 rfl ly_126 hc ?_
          refine go_aload_n 105 dX9_findsChoice_104 rfl rfl ?_
          refine g_getR 108 dX9_findsChoice_105 rfl fF_RX9_41 ly_115 rfl ?_
          refine go_iload_n 109 dX9_findsChoice_108 rfl rfl ?_
          refine g_lald 110 dX9_findsChoice_109 rfl ly_126 hd ?_
          refine g_callS 113 [.long _, .long _] [.long _, .ref 115] dX9_findsChoice_110 rfl (ct_X9_larger _ _ _) rfl sV_X9_findsChoice_173 rfl (Nat.le_of_ble_eq_true rfl) (Nat.le_of_ble_eq_true rfl) (Nat.le_of_ble_eq_true rfl) ?_
          refine g_callV0 116 [.long _, .long _] [] dX9_findsChoice_113 rfl (ct_X9_finds _ _ _) rfl sV_X9_findsChoice_184 rfl ly_115 rfl rfl (Nat.le_of_ble_eq_true rfl) (Nat.le_of_ble_eq_true rfl) (Nat.le_of_ble_eq_true rfl) ?_
          refine go_return dX9_findsChoice_116 rfl (Nat.le_of_ble_eq_true rfl) (Nat.le_of_ble_eq_true rfl) ?_
          refine ⟨rfl, congrArg hp ?_⟩
          unfold choF
          (try simp only [cmp_lt, cmp_le, cmp_ge, cmp_gt, cmp_eq, bi0, bi1, Classical.not_not, ← Int64.not_lt, ← Int32.not_lt] at *)
          simp_all [-Int32.not_le, -Int32.not_lt, -Int64.not_le, -Int64.not_lt]
        · refine go_aload_n 64 dX9_findsChoice_63 rfl rfl ?_
          refine go_aload_n 65 dX9_findsChoice_64 rfl rfl ?_
          refine g_getR 68 dX9_findsChoice_65 rfl fF_RX9_37 ly_115 rfl ?_
          refine go_iload_n 69 dX9_findsChoice_68 rfl rfl ?_
          refine g_lald 70 dX9_findsChoice_69 rfl ly_125 hd ?_
          refine go_aload_n 71 dX9_findsChoice_70 rfl rfl ?_
          refine g_getR 74 dX9_findsChoice_71 rfl fF_RX9_41 ly_115 rfl ?_
          refine go_iload_n 75 dX9_findsChoice_74 rfl rfl ?_
          refine g_lald 76 dX9_findsChoice_75 rfl ly_126 hd ?_
          refine g_callV0 79 [.long _, .long _] [] dX9_findsChoice_76 rfl (ct_X9_finds _ _ _) rfl sV_X9_findsChoice_184 rfl ly_115 rfl rfl (Nat.le_of_ble_eq_true rfl) (Nat.le_of_ble_eq_true rfl) (Nat.le_of_ble_eq_true rfl) ?_
          refine go_goto 116 dX9_findsChoice_79 (by decide) ?_
          refine go_return dX9_findsChoice_116 rfl (Nat.le_of_ble_eq_true rfl) (Nat.le_of_ble_eq_true rfl) ?_
          refine ⟨rfl, congrArg hp ?_⟩
          unfold choF
          (try simp only [cmp_lt, cmp_le, cmp_ge, cmp_gt, cmp_eq, bi0, bi1, Classical.not_not, ← Int64.not_lt, ← Int32.not_lt] at *)
          simp_all [-Int32.not_le, -Int32.not_lt, -Int64.not_le, -Int64.not_lt]
    · refine go_aload_n 23 dX9_findsChoice_22 rfl rfl ?_
      refine go_aload_n 24 dX9_findsChoice_23 rfl rfl ?_
      refine g_getR 27 dX9_findsChoice_24 rfl fF_RX9_37 ly_115 rfl ?_
      refine go_iload_n 28 dX9_findsChoice_27 rfl rfl ?_
      refine g_lald 29 dX9_findsChoice_28 rfl ly_125 hc ?_
      refine go_aload_n 30 dX9_findsChoice_29 rfl rfl ?_
      refine g_getR 33 dX9_findsChoice_30 rfl fF_RX9_41 ly_115 rfl ?_
      refine go_iload_n 34 dX9_findsChoice_33 rfl rfl ?_
      refine g_lald 35 dX9_findsChoice_34 rfl ly_126 hc ?_
      refine g_callV0 38 [.long _, .long _] [] dX9_findsChoice_35 rfl (ct_X9_finds _ _ _) rfl sV_X9_findsChoice_184 rfl ly_115 rfl rfl (Nat.le_of_ble_eq_true rfl) (Nat.le_of_ble_eq_true rfl) (Nat.le_of_ble_eq_true rfl) ?_
      refine go_goto 116 dX9_findsChoice_38 (by decide) ?_
      refine go_return dX9_findsChoice_116 rfl (Nat.le_of_ble_eq_true rfl) (Nat.le_of_ble_eq_true rfl) ?_
      refine ⟨rfl, congrArg hp ?_⟩
      unfold choF
      (try simp only [cmp_lt, cmp_le, cmp_ge, cmp_gt, cmp_eq, bi0, bi1, Classical.not_not, ← Int64.not_lt, ← Int32.not_lt] at *)
      simp_all [-Int32.not_le, -Int32.not_lt, -Int64.not_le, -Int64.not_lt]
