set_option maxRecDepth 100000 in
set_option maxHeartbeats 4000000 in
theorem ct_X9_isRangeSigned (S : gS) (s : Int32) (hs : vp_in s 24) : gF mX9_isRangeSigned [.ref 115, .int s] S (some (.int (bi (rL S 125 s.toNatClampNeg < 0)))) S := by
  refine go_enter [.ref 115, .int s] [(0, .ref 115), (1, .int s)] (by decide +kernel) rfl rfl (Nat.le_of_ble_eq_true rfl) rfl ?_
  refine go_aload_n 1 dX9_isRangeSigned_0 rfl rfl ?_
  refine g_getR 4 dX9_isRangeSigned_1 rfl fF_RX9_37 ly_115 rfl ?_
  refine go_iload_n 5 dX9_isRangeSigned_4 rfl rfl ?_
  refine g_lald 6 dX9_isRangeSigned_5 rfl ly_125 hs ?_
  refine go_lconst 7 (0) dX9_isRangeSigned_6 rfl (by decide) ?_
  refine go_lcmp 8 dX9_isRangeSigned_7 rfl ?_
  refine go_if_ge 11 15 dX9_isRangeSigned_8 rfl (by decide) (fun hc1 => ?_) (fun hc1 => ?_)
  · refine go_iconst 16 (0) dX9_isRangeSigned_15 rfl (by decide) ?_
    refine go_ireturn dX9_isRangeSigned_16 rfl (by first | rfl | exact bi_nar) (Nat.le_of_ble_eq_true rfl) (Nat.le_of_ble_eq_true rfl) ?_
    refine ⟨?_, rfl⟩
    (try simp only [cmp_lt, cmp_gt, cmp_le, cmp_ge, cmp_eq, bi0, bi1, Classical.not_not, Option.some.injEq, Value.int.injEq, Value.long.injEq] at *)
    first | (simp_all [bi]; done) | (simp_all [bi, -Int32.not_le, -Int32.not_lt, -Int64.not_le, -Int64.not_lt]; done) | (simp_all [bi]; intros; simp only [il, ile, jl, jle] at *; simp at *; omega) | (simp_all [bi]; intros; simp only [il, ile, jl, jle] at *; omega) | (simp_all [bi, -Int32.not_le, -Int32.not_lt, -Int64.not_le, -Int64.not_lt]; intros; simp only [il, ile, jl, jle] at *; omega)
  · refine go_iconst 12 (1) dX9_isRangeSigned_11 rfl (by decide) ?_
    refine go_goto 16 dX9_isRangeSigned_12 (by decide) ?_
    refine go_ireturn dX9_isRangeSigned_16 rfl (by first | rfl | exact bi_nar) (Nat.le_of_ble_eq_true rfl) (Nat.le_of_ble_eq_true rfl) ?_
    refine ⟨?_, rfl⟩
    (try simp only [cmp_lt, cmp_gt, cmp_le, cmp_ge, cmp_eq, bi0, bi1, Classical.not_not, Option.some.injEq, Value.int.injEq, Value.long.injEq] at *)
    first | (simp_all [bi]; done) | (simp_all [bi, -Int32.not_le, -Int32.not_lt, -Int64.not_le, -Int64.not_lt]; done) | (simp_all [bi]; intros; simp only [il, ile, jl, jle] at *; simp at *; omega) | (simp_all [bi]; intros; simp only [il, ile, jl, jle] at *; omega) | (simp_all [bi, -Int32.not_le, -Int32.not_lt, -Int64.not_le, -Int64.not_lt]; intros; simp only [il, ile, jl, jle] at *; omega)

set_option maxRecDepth 100000 in
set_option maxHeartbeats 4000000 in
theorem ct_X9_asks (S : gS) (s bits : Int32) (hs : vp_in s 24) : gF mX9_asks [.ref 115, .int s, .int bits] S (some (.int (akF S s.toNatClampNeg bits).1)) (akF S s.toNatClampNeg bits).2 := by
  refine go_enter [.ref 115, .int s, .int bits] [(0, .ref 115), (1, .int s), (2, .int bits)] (by decide +kernel) rfl rfl (Nat.le_of_ble_eq_true rfl) rfl ?_
  refine go_aload_n 1 dX9_asks_0 rfl rfl ?_
  refine g_getR 4 dX9_asks_1 rfl fF_RX9_44 ly_115 rfl ?_
  refine go_iload_n 5 dX9_asks_4 rfl rfl ?_
  refine g_iald 6 dX9_asks_5 rfl ly_127 hs ?_
  refine go_istore_n 7 [(3, .int _), (0, .ref 115), (1, .int _), (2, .int _)] dX9_asks_6 rfl (Nat.le_of_ble_eq_true rfl) rfl ?_
  refine go_iload_n 8 dX9_asks_7 rfl rfl ?_
  refine go_bipush 10 (32) dX9_asks_8 rfl (by decide) ?_
  refine go_icmp_ne 13 17 dX9_asks_10 rfl (by decide) (fun hc1 => ?_) (fun hc1 => ?_)
  · refine go_iload_n 18 dX9_asks_17 rfl rfl ?_
    refine go_iconst 19 (1) dX9_asks_18 rfl (by decide) ?_
    refine go_iload_n 20 dX9_asks_19 rfl rfl ?_
    refine go_ishl 21 dX9_asks_20 rfl ?_
    refine go_iconst 22 (1) dX9_asks_21 rfl (by decide) ?_
    refine go_isub 23 dX9_asks_22 rfl ?_
    refine go_iand 24 dX9_asks_23 rfl ?_
    refine go_istore 26 [(4, .int _), (3, .int _), (0, .ref 115), (1, .int _), (2, .int _)] dX9_asks_24 rfl (Nat.le_of_ble_eq_true rfl) rfl ?_
    refine go_aload_n 27 dX9_asks_26 rfl rfl ?_
    refine go_iload_n 28 dX9_asks_27 rfl rfl ?_
    refine g_callV 31 [.int _] [] dX9_asks_28 rfl (ct_X9_isRangeSigned _ _ hs) rfl sV_X9_asks_214 rfl ly_115 rfl rfl (Nat.le_of_ble_eq_true rfl) (Nat.le_of_ble_eq_true rfl) (Nat.le_of_ble_eq_true rfl) ?_
    refine go_if_eq 34 52 dX9_asks_31 rfl (by decide) (fun hc2 => ?_) (fun hc2 => ?_)
    · refine go_iload 54 dX9_asks_52 rfl rfl ?_
      refine go_aload_n 55 dX9_asks_54 rfl rfl ?_
      refine g_getR 58 dX9_asks_55 rfl fF_RX9_47 ly_115 rfl ?_
      refine go_iload_n 59 dX9_asks_58 rfl rfl ?_
      refine g_iald 60 dX9_asks_59 rfl ly_128 hs ?_
      refine go_iconst 61 (-1) dX9_asks_60 rfl (by decide) ?_
      refine go_ixor 62 dX9_asks_61 rfl ?_
      refine go_iand 63 dX9_asks_62 rfl ?_
      refine go_if_eq 66 70 dX9_asks_63 rfl (by decide) (fun hc3 => ?_) (fun hc3 => ?_)
      · refine go_iconst 71 (0) dX9_asks_70 rfl (by decide) ?_
        refine go_istore 73 [(5, .int _), (4, .int _), (3, .int _), (0, .ref 115), (1, .int _), (2, .int _)] dX9_asks_71 rfl (Nat.le_of_ble_eq_true rfl) rfl ?_
        refine go_aload_n 74 dX9_asks_73 rfl rfl ?_
        refine g_getR 77 dX9_asks_74 rfl fF_RX9_47 ly_115 rfl ?_
        refine go_iload_n 78 dX9_asks_77 rfl rfl ?_
        refine go_dup2 79 dX9_asks_78 rfl rfl rfl ?_
        refine g_iald 80 dX9_asks_79 rfl ly_128 hs ?_
        refine go_iload 82 dX9_asks_80 rfl rfl ?_
        refine go_ior 83 dX9_asks_82 rfl ?_
        refine g_iast 84 dX9_asks_83 rfl ly_128 hs ?_
        refine go_iload 86 dX9_asks_84 rfl rfl ?_
        refine go_ireturn dX9_asks_86 rfl (by first | rfl | exact bi_nar) (Nat.le_of_ble_eq_true rfl) (Nat.le_of_ble_eq_true rfl) ?_
        (try simp only [bi0, bi1, Classical.not_not] at *)
        simp only [akF, akK, ushr]
        refine ⟨?_, congrArg hp ?_⟩ <;> simp_all [bi, ushr, -Int32.not_le, -Int32.not_lt, -Int64.not_le, -Int64.not_lt]
      · refine go_iconst 67 (1) dX9_asks_66 rfl (by decide) ?_
        refine go_goto 71 dX9_asks_67 (by decide) ?_
        refine go_istore 73 [(5, .int _), (4, .int _), (3, .int _), (0, .ref 115), (1, .int _), (2, .int _)] dX9_asks_71 rfl (Nat.le_of_ble_eq_true rfl) rfl ?_
        refine go_aload_n 74 dX9_asks_73 rfl rfl ?_
        refine g_getR 77 dX9_asks_74 rfl fF_RX9_47 ly_115 rfl ?_
        refine go_iload_n 78 dX9_asks_77 rfl rfl ?_
        refine go_dup2 79 dX9_asks_78 rfl rfl rfl ?_
        refine g_iald 80 dX9_asks_79 rfl ly_128 hs ?_
        refine go_iload 82 dX9_asks_80 rfl rfl ?_
        refine go_ior 83 dX9_asks_82 rfl ?_
        refine g_iast 84 dX9_asks_83 rfl ly_128 hs ?_
        refine go_iload 86 dX9_asks_84 rfl rfl ?_
        refine go_ireturn dX9_asks_86 rfl (by first | rfl | exact bi_nar) (Nat.le_of_ble_eq_true rfl) (Nat.le_of_ble_eq_true rfl) ?_
        (try simp only [bi0, bi1, Classical.not_not] at *)
        simp only [akF, akK, ushr]
        refine ⟨?_, congrArg hp ?_⟩ <;> simp_all [bi, ushr, -Int32.not_le, -Int32.not_lt, -Int64.not_le, -Int64.not_lt]
    · refine go_iload_n 35 dX9_asks_34 rfl rfl ?_
      refine go_iload_n 36 dX9_asks_35 rfl rfl ?_
      refine go_iconst 37 (1) dX9_asks_36 rfl (by decide) ?_
      refine go_isub 38 dX9_asks_37 rfl ?_
      refine go_iushr 39 dX9_asks_38 rfl ?_
      refine go_if_eq 42 52 dX9_asks_39 rfl (by decide) (fun hc4 => ?_) (fun hc4 => ?_)
      · refine go_iload 54 dX9_asks_52 rfl rfl ?_
        refine go_aload_n 55 dX9_asks_54 rfl rfl ?_
        refine g_getR 58 dX9_asks_55 rfl fF_RX9_47 ly_115 rfl ?_
        refine go_iload_n 59 dX9_asks_58 rfl rfl ?_
        refine g_iald 60 dX9_asks_59 rfl ly_128 hs ?_
        refine go_iconst 61 (-1) dX9_asks_60 rfl (by decide) ?_
        refine go_ixor 62 dX9_asks_61 rfl ?_
        refine go_iand 63 dX9_asks_62 rfl ?_
        refine go_if_eq 66 70 dX9_asks_63 rfl (by decide) (fun hc5 => ?_) (fun hc5 => ?_)
        · refine go_iconst 71 (0) dX9_asks_70 rfl (by decide) ?_
          refine go_istore 73 [(5, .int _), (4, .int _), (3, .int _), (0, .ref 115), (1, .int _), (2, .int _)] dX9_asks_71 rfl (Nat.le_of_ble_eq_true rfl) rfl ?_
          refine go_aload_n 74 dX9_asks_73 rfl rfl ?_
          refine g_getR 77 dX9_asks_74 rfl fF_RX9_47 ly_115 rfl ?_
          refine go_iload_n 78 dX9_asks_77 rfl rfl ?_
          refine go_dup2 79 dX9_asks_78 rfl rfl rfl ?_
          refine g_iald 80 dX9_asks_79 rfl ly_128 hs ?_
          refine go_iload 82 dX9_asks_80 rfl rfl ?_
          refine go_ior 83 dX9_asks_82 rfl ?_
          refine g_iast 84 dX9_asks_83 rfl ly_128 hs ?_
          refine go_iload 86 dX9_asks_84 rfl rfl ?_
          refine go_ireturn dX9_asks_86 rfl (by first | rfl | exact bi_nar) (Nat.le_of_ble_eq_true rfl) (Nat.le_of_ble_eq_true rfl) ?_
          (try simp only [bi0, bi1, Classical.not_not] at *)
          simp only [akF, akK, ushr]
          refine ⟨?_, congrArg hp ?_⟩ <;> simp_all [bi, ushr, -Int32.not_le, -Int32.not_lt, -Int64.not_le, -Int64.not_lt]
        · refine go_iconst 67 (1) dX9_asks_66 rfl (by decide) ?_
          refine go_goto 71 dX9_asks_67 (by decide) ?_
          refine go_istore 73 [(5, .int _), (4, .int _), (3, .int _), (0, .ref 115), (1, .int _), (2, .int _)] dX9_asks_71 rfl (Nat.le_of_ble_eq_true rfl) rfl ?_
          refine go_aload_n 74 dX9_asks_73 rfl rfl ?_
          refine g_getR 77 dX9_asks_74 rfl fF_RX9_47 ly_115 rfl ?_
          refine go_iload_n 78 dX9_asks_77 rfl rfl ?_
          refine go_dup2 79 dX9_asks_78 rfl rfl rfl ?_
          refine g_iald 80 dX9_asks_79 rfl ly_128 hs ?_
          refine go_iload 82 dX9_asks_80 rfl rfl ?_
          refine go_ior 83 dX9_asks_82 rfl ?_
          refine g_iast 84 dX9_asks_83 rfl ly_128 hs ?_
          refine go_iload 86 dX9_asks_84 rfl rfl ?_
          refine go_ireturn dX9_asks_86 rfl (by first | rfl | exact bi_nar) (Nat.le_of_ble_eq_true rfl) (Nat.le_of_ble_eq_true rfl) ?_
          (try simp only [bi0, bi1, Classical.not_not] at *)
          simp only [akF, akK, ushr]
          refine ⟨?_, congrArg hp ?_⟩ <;> simp_all [bi, ushr, -Int32.not_le, -Int32.not_lt, -Int64.not_le, -Int64.not_lt]
      · refine go_iload 44 dX9_asks_42 rfl rfl ?_
        refine go_iconst 45 (1) dX9_asks_44 rfl (by decide) ?_
        refine go_iload_n 46 dX9_asks_45 rfl rfl ?_
        refine go_iconst 47 (1) dX9_asks_46 rfl (by decide) ?_
        refine go_isub 48 dX9_asks_47 rfl ?_
        refine go_ishl 49 dX9_asks_48 rfl ?_
        refine go_ior 50 dX9_asks_49 rfl ?_
        refine go_istore 52 [(4, .int _), (3, .int _), (0, .ref 115), (1, .int _), (2, .int _)] dX9_asks_50 rfl (Nat.le_of_ble_eq_true rfl) rfl ?_
        refine go_iload 54 dX9_asks_52 rfl rfl ?_
        refine go_aload_n 55 dX9_asks_54 rfl rfl ?_
        refine g_getR 58 dX9_asks_55 rfl fF_RX9_47 ly_115 rfl ?_
        refine go_iload_n 59 dX9_asks_58 rfl rfl ?_
        refine g_iald 60 dX9_asks_59 rfl ly_128 hs ?_
        refine go_iconst 61 (-1) dX9_asks_60 rfl (by decide) ?_
        refine go_ixor 62 dX9_asks_61 rfl ?_
        refine go_iand 63 dX9_asks_62 rfl ?_
        refine go_if_eq 66 70 dX9_asks_63 rfl (by decide) (fun hc6 => ?_) (fun hc6 => ?_)
        · refine go_iconst 71 (0) dX9_asks_70 rfl (by decide) ?_
          refine go_istore 73 [(5, .int _), (4, .int _), (3, .int _), (0, .ref 115), (1, .int _), (2, .int _)] dX9_asks_71 rfl (Nat.le_of_ble_eq_true rfl) rfl ?_
          refine go_aload_n 74 dX9_asks_73 rfl rfl ?_
          refine g_getR 77 dX9_asks_74 rfl fF_RX9_47 ly_115 rfl ?_
          refine go_iload_n 78 dX9_asks_77 rfl rfl ?_
          refine go_dup2 79 dX9_asks_78 rfl rfl rfl ?_
          refine g_iald 80 dX9_asks_79 rfl ly_128 hs ?_
          refine go_iload 82 dX9_asks_80 rfl rfl ?_
          refine go_ior 83 dX9_asks_82 rfl ?_
          refine g_iast 84 dX9_asks_83 rfl ly_128 hs ?_
          refine go_iload 86 dX9_asks_84 rfl rfl ?_
          refine go_ireturn dX9_asks_86 rfl (by first | rfl | exact bi_nar) (Nat.le_of_ble_eq_true rfl) (Nat.le_of_ble_eq_true rfl) ?_
          (try simp only [bi0, bi1, Classical.not_not] at *)
          simp only [akF, akK, ushr]
          refine ⟨?_, congrArg hp ?_⟩ <;> simp_all [bi, ushr, -Int32.not_le, -Int32.not_lt, -Int64.not_le, -Int64.not_lt]
        · refine go_iconst 67 (1) dX9_asks_66 rfl (by decide) ?_
          refine go_goto 71 dX9_asks_67 (by decide) ?_
          refine go_istore 73 [(5, .int _), (4, .int _), (3, .int _), (0, .ref 115), (1, .int _), (2, .int _)] dX9_asks_71 rfl (Nat.le_of_ble_eq_true rfl) rfl ?_
          refine go_aload_n 74 dX9_asks_73 rfl rfl ?_
          refine g_getR 77 dX9_asks_74 rfl fF_RX9_47 ly_115 rfl ?_
          refine go_iload_n 78 dX9_asks_77 rfl rfl ?_
          refine go_dup2 79 dX9_asks_78 rfl rfl rfl ?_
          refine g_iald 80 dX9_asks_79 rfl ly_128 hs ?_
          refine go_iload 82 dX9_asks_80 rfl rfl ?_
          refine go_ior 83 dX9_asks_82 rfl ?_
          refine g_iast 84 dX9_asks_83 rfl ly_128 hs ?_
          refine go_iload 86 dX9_asks_84 rfl rfl ?_
          refine go_ireturn dX9_asks_86 rfl (by first | rfl | exact bi_nar) (Nat.le_of_ble_eq_true rfl) (Nat.le_of_ble_eq_true rfl) ?_
          (try simp only [bi0, bi1, Classical.not_not] at *)
          simp only [akF, akK, ushr]
          refine ⟨?_, congrArg hp ?_⟩ <;> simp_all [bi, ushr, -Int32.not_le, -Int32.not_lt, -Int64.not_le, -Int64.not_lt]
  · refine go_iload_n 14 dX9_asks_13 rfl rfl ?_
    refine go_goto 24 dX9_asks_14 (by decide) ?_
    refine go_istore 26 [(4, .int _), (3, .int _), (0, .ref 115), (1, .int _), (2, .int _)] dX9_asks_24 rfl (Nat.le_of_ble_eq_true rfl) rfl ?_
    refine go_aload_n 27 dX9_asks_26 rfl rfl ?_
    refine go_iload_n 28 dX9_asks_27 rfl rfl ?_
    refine g_callV 31 [.int _] [] dX9_asks_28 rfl (ct_X9_isRangeSigned _ _ hs) rfl sV_X9_asks_214 rfl ly_115 rfl rfl (Nat.le_of_ble_eq_true rfl) (Nat.le_of_ble_eq_true rfl) (Nat.le_of_ble_eq_true rfl) ?_
    refine go_if_eq 34 52 dX9_asks_31 rfl (by decide) (fun hc7 => ?_) (fun hc7 => ?_)
    · refine go_iload 54 dX9_asks_52 rfl rfl ?_
      refine go_aload_n 55 dX9_asks_54 rfl rfl ?_
      refine g_getR 58 dX9_asks_55 rfl fF_RX9_47 ly_115 rfl ?_
      refine go_iload_n 59 dX9_asks_58 rfl rfl ?_
      refine g_iald 60 dX9_asks_59 rfl ly_128 hs ?_
      refine go_iconst 61 (-1) dX9_asks_60 rfl (by decide) ?_
      refine go_ixor 62 dX9_asks_61 rfl ?_
      refine go_iand 63 dX9_asks_62 rfl ?_
      refine go_if_eq 66 70 dX9_asks_63 rfl (by decide) (fun hc8 => ?_) (fun hc8 => ?_)
      · refine go_iconst 71 (0) dX9_asks_70 rfl (by decide) ?_
        refine go_istore 73 [(5, .int _), (4, .int _), (3, .int _), (0, .ref 115), (1, .int _), (2, .int _)] dX9_asks_71 rfl (Nat.le_of_ble_eq_true rfl) rfl ?_
        refine go_aload_n 74 dX9_asks_73 rfl rfl ?_
        refine g_getR 77 dX9_asks_74 rfl fF_RX9_47 ly_115 rfl ?_
        refine go_iload_n 78 dX9_asks_77 rfl rfl ?_
        refine go_dup2 79 dX9_asks_78 rfl rfl rfl ?_
        refine g_iald 80 dX9_asks_79 rfl ly_128 hs ?_
        refine go_iload 82 dX9_asks_80 rfl rfl ?_
        refine go_ior 83 dX9_asks_82 rfl ?_
        refine g_iast 84 dX9_asks_83 rfl ly_128 hs ?_
        refine go_iload 86 dX9_asks_84 rfl rfl ?_
        refine go_ireturn dX9_asks_86 rfl (by first | rfl | exact bi_nar) (Nat.le_of_ble_eq_true rfl) (Nat.le_of_ble_eq_true rfl) ?_
        (try simp only [bi0, bi1, Classical.not_not] at *)
        simp only [akF, akK, ushr]
        refine ⟨?_, congrArg hp ?_⟩ <;> simp_all [bi, ushr, -Int32.not_le, -Int32.not_lt, -Int64.not_le, -Int64.not_lt]
      · refine go_iconst 67 (1) dX9_asks_66 rfl (by decide) ?_
        refine go_goto 71 dX9_asks_67 (by decide) ?_
        refine go_istore 73 [(5, .int _), (4, .int _), (3, .int _), (0, .ref 115), (1, .int _), (2, .int _)] dX9_asks_71 rfl (Nat.le_of_ble_eq_true rfl) rfl ?_
        refine go_aload_n 74 dX9_asks_73 rfl rfl ?_
        refine g_getR 77 dX9_asks_74 rfl fF_RX9_47 ly_115 rfl ?_
        refine go_iload_n 78 dX9_asks_77 rfl rfl ?_
        refine go_dup2 79 dX9_asks_78 rfl rfl rfl ?_
        refine g_iald 80 dX9_asks_79 rfl ly_128 hs ?_
        refine go_iload 82 dX9_asks_80 rfl rfl ?_
        refine go_ior 83 dX9_asks_82 rfl ?_
        refine g_iast 84 dX9_asks_83 rfl ly_128 hs ?_
        refine go_iload 86 dX9_asks_84 rfl rfl ?_
        refine go_ireturn dX9_asks_86 rfl (by first | rfl | exact bi_nar) (Nat.le_of_ble_eq_true rfl) (Nat.le_of_ble_eq_true rfl) ?_
        (try simp only [bi0, bi1, Classical.not_not] at *)
        simp only [akF, akK, ushr]
        refine ⟨?_, congrArg hp ?_⟩ <;> simp_all [bi, ushr, -Int32.not_le, -Int32.not_lt, -Int64.not_le, -Int64.not_lt]
    · refine go_iload_n 35 dX9_asks_34 rfl rfl ?_
      refine go_iload_n 36 dX9_asks_35 rfl rfl ?_
      refine go_iconst 37 (1) dX9_asks_36 rfl (by decide) ?_
      refine go_isub 38 dX9_asks_37 rfl ?_
      refine go_iushr 39 dX9_asks_38 rfl ?_
      refine go_if_eq 42 52 dX9_asks_39 rfl (by decide) (fun hc9 => ?_) (fun hc9 => ?_)
      · refine go_iload 54 dX9_asks_52 rfl rfl ?_
        refine go_aload_n 55 dX9_asks_54 rfl rfl ?_
        refine g_getR 58 dX9_asks_55 rfl fF_RX9_47 ly_115 rfl ?_
        refine go_iload_n 59 dX9_asks_58 rfl rfl ?_
        refine g_iald 60 dX9_asks_59 rfl ly_128 hs ?_
        refine go_iconst 61 (-1) dX9_asks_60 rfl (by decide) ?_
        refine go_ixor 62 dX9_asks_61 rfl ?_
        refine go_iand 63 dX9_asks_62 rfl ?_
        refine go_if_eq 66 70 dX9_asks_63 rfl (by decide) (fun hc10 => ?_) (fun hc10 => ?_)
        · refine go_iconst 71 (0) dX9_asks_70 rfl (by decide) ?_
          refine go_istore 73 [(5, .int _), (4, .int _), (3, .int _), (0, .ref 115), (1, .int _), (2, .int _)] dX9_asks_71 rfl (Nat.le_of_ble_eq_true rfl) rfl ?_
          refine go_aload_n 74 dX9_asks_73 rfl rfl ?_
          refine g_getR 77 dX9_asks_74 rfl fF_RX9_47 ly_115 rfl ?_
          refine go_iload_n 78 dX9_asks_77 rfl rfl ?_
          refine go_dup2 79 dX9_asks_78 rfl rfl rfl ?_
          refine g_iald 80 dX9_asks_79 rfl ly_128 hs ?_
          refine go_iload 82 dX9_asks_80 rfl rfl ?_
          refine go_ior 83 dX9_asks_82 rfl ?_
          refine g_iast 84 dX9_asks_83 rfl ly_128 hs ?_
          refine go_iload 86 dX9_asks_84 rfl rfl ?_
          refine go_ireturn dX9_asks_86 rfl (by first | rfl | exact bi_nar) (Nat.le_of_ble_eq_true rfl) (Nat.le_of_ble_eq_true rfl) ?_
          (try simp only [bi0, bi1, Classical.not_not] at *)
          simp only [akF, akK, ushr]
          refine ⟨?_, congrArg hp ?_⟩ <;> simp_all [bi, ushr, -Int32.not_le, -Int32.not_lt, -Int64.not_le, -Int64.not_lt]
        · refine go_iconst 67 (1) dX9_asks_66 rfl (by decide) ?_
          refine go_goto 71 dX9_asks_67 (by decide) ?_
          refine go_istore 73 [(5, .int _), (4, .int _), (3, .int _), (0, .ref 115), (1, .int _), (2, .int _)] dX9_asks_71 rfl (Nat.le_of_ble_eq_true rfl) rfl ?_
          refine go_aload_n 74 dX9_asks_73 rfl rfl ?_
          refine g_getR 77 dX9_asks_74 rfl fF_RX9_47 ly_115 rfl ?_
          refine go_iload_n 78 dX9_asks_77 rfl rfl ?_
          refine go_dup2 79 dX9_asks_78 rfl rfl rfl ?_
          refine g_iald 80 dX9_asks_79 rfl ly_128 hs ?_
          refine go_iload 82 dX9_asks_80 rfl rfl ?_
          refine go_ior 83 dX9_asks_82 rfl ?_
          refine g_iast 84 dX9_asks_83 rfl ly_128 hs ?_
          refine go_iload 86 dX9_asks_84 rfl rfl ?_
          refine go_ireturn dX9_asks_86 rfl (by first | rfl | exact bi_nar) (Nat.le_of_ble_eq_true rfl) (Nat.le_of_ble_eq_true rfl) ?_
          (try simp only [bi0, bi1, Classical.not_not] at *)
          simp only [akF, akK, ushr]
          refine ⟨?_, congrArg hp ?_⟩ <;> simp_all [bi, ushr, -Int32.not_le, -Int32.not_lt, -Int64.not_le, -Int64.not_lt]
      · refine go_iload 44 dX9_asks_42 rfl rfl ?_
        refine go_iconst 45 (1) dX9_asks_44 rfl (by decide) ?_
        refine go_iload_n 46 dX9_asks_45 rfl rfl ?_
        refine go_iconst 47 (1) dX9_asks_46 rfl (by decide) ?_
        refine go_isub 48 dX9_asks_47 rfl ?_
        refine go_ishl 49 dX9_asks_48 rfl ?_
        refine go_ior 50 dX9_asks_49 rfl ?_
        refine go_istore 52 [(4, .int _), (3, .int _), (0, .ref 115), (1, .int _), (2, .int _)] dX9_asks_50 rfl (Nat.le_of_ble_eq_true rfl) rfl ?_
        refine go_iload 54 dX9_asks_52 rfl rfl ?_
        refine go_aload_n 55 dX9_asks_54 rfl rfl ?_
        refine g_getR 58 dX9_asks_55 rfl fF_RX9_47 ly_115 rfl ?_
        refine go_iload_n 59 dX9_asks_58 rfl rfl ?_
        refine g_iald 60 dX9_asks_59 rfl ly_128 hs ?_
        refine go_iconst 61 (-1) dX9_asks_60 rfl (by decide) ?_
        refine go_ixor 62 dX9_asks_61 rfl ?_
        refine go_iand 63 dX9_asks_62 rfl ?_
        refine go_if_eq 66 70 dX9_asks_63 rfl (by decide) (fun hc11 => ?_) (fun hc11 => ?_)
        · refine go_iconst 71 (0) dX9_asks_70 rfl (by decide) ?_
          refine go_istore 73 [(5, .int _), (4, .int _), (3, .int _), (0, .ref 115), (1, .int _), (2, .int _)] dX9_asks_71 rfl (Nat.le_of_ble_eq_true rfl) rfl ?_
          refine go_aload_n 74 dX9_asks_73 rfl rfl ?_
          refine g_getR 77 dX9_asks_74 rfl fF_RX9_47 ly_115 rfl ?_
          refine go_iload_n 78 dX9_asks_77 rfl rfl ?_
          refine go_dup2 79 dX9_asks_78 rfl rfl rfl ?_
          refine g_iald 80 dX9_asks_79 rfl ly_128 hs ?_
          refine go_iload 82 dX9_asks_80 rfl rfl ?_
          refine go_ior 83 dX9_asks_82 rfl ?_
          refine g_iast 84 dX9_asks_83 rfl ly_128 hs ?_
          refine go_iload 86 dX9_asks_84 rfl rfl ?_
          refine go_ireturn dX9_asks_86 rfl (by first | rfl | exact bi_nar) (Nat.le_of_ble_eq_true rfl) (Nat.le_of_ble_eq_true rfl) ?_
          (try simp only [bi0, bi1, Classical.not_not] at *)
          simp only [akF, akK, ushr]
          refine ⟨?_, congrArg hp ?_⟩ <;> simp_all [bi, ushr, -Int32.not_le, -Int32.not_lt, -Int64.not_le, -Int64.not_lt]
        · refine go_iconst 67 (1) dX9_asks_66 rfl (by decide) ?_
          refine go_goto 71 dX9_asks_67 (by decide) ?_
          refine go_istore 73 [(5, .int _), (4, .int _), (3, .int _), (0, .ref 115), (1, .int _), (2, .int _)] dX9_asks_71 rfl (Nat.le_of_ble_eq_true rfl) rfl ?_
          refine go_aload_n 74 dX9_asks_73 rfl rfl ?_
          refine g_getR 77 dX9_asks_74 rfl fF_RX9_47 ly_115 rfl ?_
          refine go_iload_n 78 dX9_asks_77 rfl rfl ?_
          refine go_dup2 79 dX9_asks_78 rfl rfl rfl ?_
          refine g_iald 80 dX9_asks_79 rfl ly_128 hs ?_
          refine go_iload 82 dX9_asks_80 rfl rfl ?_
          refine go_ior 83 dX9_asks_82 rfl ?_
          refine g_iast 84 dX9_asks_83 rfl ly_128 hs ?_
          refine go_iload 86 dX9_asks_84 rfl rfl ?_
          refine go_ireturn dX9_asks_86 rfl (by first | rfl | exact bi_nar) (Nat.le_of_ble_eq_true rfl) (Nat.le_of_ble_eq_true rfl) ?_
          (try simp only [bi0, bi1, Classical.not_not] at *)
          simp only [akF, akK, ushr]
          refine ⟨?_, congrArg hp ?_⟩ <;> simp_all [bi, ushr, -Int32.not_le, -Int32.not_lt, -Int64.not_le, -Int64.not_lt]

set_option maxRecDepth 100000 in
set_option maxHeartbeats 4000000 in
theorem lp_X9_highest (S : gS) (v : Int32) : ∀ i, i ≤ 31 - hiN v → Go mX9_highest false (go_Qm mX9_highest false (fun v9 h9 => v9 = (some (.int (nI (hiN v)))) ∧ h9 = hp S) go_no) 0 0 3 [(1, .int (nI (31 - i))), (0, .int v)] [] (hp ((fun _ => S) i)) := by
  refine g_dn _ (31 - hiN v) (fun i hi ih => ?_)
  have h31 := hiN_lt v
  have hle : (nI (31 - i) ≤ 0) ↔ 31 - i = 0 := by
    rw [show (0 : Int32) = nI 0 from rfl, nI_le2 (by omega) (by omega)]
    omega
  refine go_iload_n 4 dX9_highest_3 rfl rfl ?_
  refine go_if_le 7 21 dX9_highest_4 rfl (by decide) (fun hc1 => ?_) (fun hc1 => ?_)
  · refine go_iload_n 22 dX9_highest_21 rfl rfl ?_
    refine go_ireturn dX9_highest_22 rfl (by first | rfl | exact bi_nar) (Nat.le_of_ble_eq_true rfl) (Nat.le_of_ble_eq_true rfl) ?_
    refine ⟨?_, rfl⟩
    have hv : 31 - i = hiN v := by
      rcases Nat.lt_or_ge i (31 - hiN v) with q | q
      · exfalso
        first
          | (rw [hle] at hc1; omega)
          | exact hc2 ((bit_at v (by omega)).mpr (hi_above v (by omega)))
      · omega
    rw [hv]
  · refine go_iload_n 8 dX9_highest_7 rfl rfl ?_
    refine go_iload_n 9 dX9_highest_8 rfl rfl ?_
    refine go_iushr 10 dX9_highest_9 rfl ?_
    refine go_iconst 11 (1) dX9_highest_10 rfl (by decide) ?_
    refine go_iand 12 dX9_highest_11 rfl ?_
    refine go_if_ne 15 21 dX9_highest_12 rfl (by decide) (fun hc2 => ?_) (fun hc2 => ?_)
    · refine go_iload_n 22 dX9_highest_21 rfl rfl ?_
      refine go_ireturn dX9_highest_22 rfl (by first | rfl | exact bi_nar) (Nat.le_of_ble_eq_true rfl) (Nat.le_of_ble_eq_true rfl) ?_
      refine ⟨?_, rfl⟩
      have hv : 31 - i = hiN v := by
        rcases Nat.lt_or_ge i (31 - hiN v) with q | q
        · exfalso
          first
            | (rw [hle] at hc1; omega)
            | exact hc2 ((bit_at v (by omega)).mpr (hi_above v (by omega)))
        · omega
      rw [hv]
    · have hv : i < 31 - hiN v := by
        rcases Nat.lt_or_ge i (31 - hiN v) with q | q
        · exact q
        · have e9 : 31 - i = hiN v := by omega
          have h1 := hc2
          rw [e9] at h1
          rw [hle] at hc1
          exact absurd ((bit_at v (by omega)).mp h1) (hi_at v (by omega))
      have hdec : nI (31 - i) + Int32.ofInt (-1) = nI (31 - (i + 1)) := by
        rw [show 31 - i = 31 - (i + 1) + 1 by omega]
        exact nI_dec _
      refine go_iinc 18 [(1, .int _), (0, .int _)] (nI (31 - (i + 1))) dX9_highest_15 rfl (Nat.le_of_ble_eq_true rfl) rfl hdec rfl ?_
      refine go_goto 3 dX9_highest_18 (by decide) ?_
      exact ih (by omega)

set_option maxRecDepth 100000 in
set_option maxHeartbeats 4000000 in
theorem ct_X9_highest (S : gS) (v : Int32) : gF mX9_highest [.int v] S (some (.int (nI (hiN v)))) S := by
  refine go_enter [.int v] [(0, .int v)] (by decide +kernel) rfl rfl (Nat.le_of_ble_eq_true rfl) rfl ?_
  refine go_bipush 2 (31) dX9_highest_0 rfl (by decide) ?_
  refine go_istore_n 3 [(1, .int _), (0, .int _)] dX9_highest_2 rfl (Nat.le_of_ble_eq_true rfl) rfl ?_
  exact lp_X9_highest S v 0 (Nat.zero_le _)
