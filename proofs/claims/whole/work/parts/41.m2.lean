abbrev cst (v : Int32) : Prop := (-4096 : Int64) ≤ v.toInt64 ∧ v.toInt64 ≤ 4095
abbrev sgn (n s : Int32) : Prop := 0 ≤ s ∧ s < n
abbrev opS (kind place : Int32) : Prop := 3 ≤ kind ∧ (place = 0 ∨ (place = 1 ∧ kind ≠ 9 ∧ kind ≠ 10) ∨ (place = 2 ∧ kind = 12))
def bcF (kind a c : Int32) : Int32 := if kind ≤ 2 ∧ ¬ cst a then 0 else if kind = 0 ∧ (¬ cst c ∨ c < a) then 1 else if (kind = 9 ∨ kind = 10) ∧ ¬ ((0 : Int64) ≤ c.toInt64 ∧ c.toInt64 ≤ 15) then 1 else -1
def bsF (n kind a c d : Int32) : Int32 := if opS kind 0 ∧ ¬ sgn n a then 0 else if opS kind 1 ∧ ¬ sgn n c then 1 else if opS kind 2 ∧ ¬ sgn n d then 2 else -1
set_option maxRecDepth 100000 in
set_option maxHeartbeats 4000000 in
theorem ct_X9_badConstant (S : gS) (kind a c : Int32) : gF mX9_badConstant [.int kind, .int a, .int c] S (some (.int (bcF kind a c))) S := by
  refine go_enter [.int kind, .int a, .int c] [(0, .int kind), (1, .int a), (2, .int c)] (by decide +kernel) rfl rfl (Nat.le_of_ble_eq_true rfl) rfl ?_
  refine go_iload_n 1 dX9_badConstant_0 rfl rfl ?_
  refine go_iconst 2 (2) dX9_badConstant_1 rfl (by decide) ?_
  refine go_icmp_gt 5 14 dX9_badConstant_2 rfl (by decide) (fun hc1 => ?_) (fun hc1 => ?_)
  · refine go_iload_n 15 dX9_badConstant_14 rfl rfl ?_
    refine go_if_ne 18 32 dX9_badConstant_15 rfl (by decide) (fun hc2 => ?_) (fun hc2 => ?_)
    · refine go_iload_n 33 dX9_badConstant_32 rfl rfl ?_
      refine go_bipush 35 (9) dX9_badConstant_33 rfl (by decide) ?_
      refine go_icmp_eq 38 44 dX9_badConstant_35 rfl (by decide) (fun hc3 => ?_) (fun hc3 => ?_)
      · refine go_iload_n 45 dX9_badConstant_44 rfl rfl ?_
        refine go_i2l 46 dX9_badConstant_45 rfl ?_
        refine go_lconst 47 (0) dX9_badConstant_46 rfl (by decide) ?_
        refine go_ldc2 50 (15) dX9_badConstant_47 rfl wK_RX9_117 ?_
        refine g_callS 53 [.long _, .long _, .long _] [] dX9_badConstant_50 rfl (ct_X9_isBetween _ _ _ _) rfl sV_X9_badConstant_109 rfl (Nat.le_of_ble_eq_true rfl) (Nat.le_of_ble_eq_true rfl) (Nat.le_of_ble_eq_true rfl) ?_
        refine go_if_ne 56 60 dX9_badConstant_53 rfl (by decide) (fun hc4 => ?_) (fun hc4 => ?_)
        · refine go_iconst 61 (-1) dX9_badConstant_60 rfl (by decide) ?_
          refine go_ireturn dX9_badConstant_61 rfl (by first | rfl | exact bi_nar) (Nat.le_of_ble_eq_true rfl) (Nat.le_of_ble_eq_true rfl) ?_
          refine ⟨?_, rfl⟩
          (try simp only [cmp_lt, cmp_gt, cmp_le, cmp_ge, cmp_eq, bi0, bi1, Classical.not_not, Option.some.injEq, Value.int.injEq, Value.long.injEq] at *)
          first | (simp_all [bi, bcF, bsF, cst, sgn, opS]; done) | (simp_all [bi, bcF, bsF, cst, sgn, opS, -Int32.not_le, -Int32.not_lt, -Int64.not_le, -Int64.not_lt]; done) | (simp_all [bi, bcF, bsF, cst, sgn, opS]; intros; simp only [il, ile, jl, jle] at *; simp at *; omega) | (simp_all [bi, bcF, bsF, cst, sgn, opS]; intros; simp only [il, ile, jl, jle] at *; omega) | (simp_all [bi, bcF, bsF, cst, sgn, opS, -Int32.not_le, -Int32.not_lt, -Int64.not_le, -Int64.not_lt]; intros; simp only [il, ile, jl, jle] at *; omega)
        · refine go_iconst 57 (1) dX9_badConstant_56 rfl (by decide) ?_
          refine go_goto 61 dX9_badConstant_57 (by decide) ?_
          refine go_ireturn dX9_badConstant_61 rfl (by first | rfl | exact bi_nar) (Nat.le_of_ble_eq_true rfl) (Nat.le_of_ble_eq_true rfl) ?_
          refine ⟨?_, rfl⟩
          (try simp only [cmp_lt, cmp_gt, cmp_le, cmp_ge, cmp_eq, bi0, bi1, Classical.not_not, Option.some.injEq, Value.int.injEq, Value.long.injEq] at *)
          first | (simp_all [bi, bcF, bsF, cst, sgn, opS]; done) | (simp_all [bi, bcF, bsF, cst, sgn, opS, -Int32.not_le, -Int32.not_lt, -Int64.not_le, -Int64.not_lt]; done) | (simp_all [bi, bcF, bsF, cst, sgn, opS]; intros; simp only [il, ile, jl, jle] at *; simp at *; omega) | (simp_all [bi, bcF, bsF, cst, sgn, opS]; intros; simp only [il, ile, jl, jle] at *; omega) | (simp_all [bi, bcF, bsF, cst, sgn, opS, -Int32.not_le, -Int32.not_lt, -Int64.not_le, -Int64.not_lt]; intros; simp only [il, ile, jl, jle] at *; omega)
      · refine go_iload_n 39 dX9_badConstant_38 rfl rfl ?_
        refine go_bipush 41 (10) dX9_badConstant_39 rfl (by decide) ?_
        refine go_icmp_ne 44 60 dX9_badConstant_41 rfl (by decide) (fun hc5 => ?_) (fun hc5 => ?_)
        · refine go_iconst 61 (-1) dX9_badConstant_60 rfl (by decide) ?_
          refine go_ireturn dX9_badConstant_61 rfl (by first | rfl | exact bi_nar) (Nat.le_of_ble_eq_true rfl) (Nat.le_of_ble_eq_true rfl) ?_
          refine ⟨?_, rfl⟩
          (try simp only [cmp_lt, cmp_gt, cmp_le, cmp_ge, cmp_eq, bi0, bi1, Classical.not_not, Option.some.injEq, Value.int.injEq, Value.long.injEq] at *)
          first | (simp_all [bi, bcF, bsF, cst, sgn, opS]; done) | (simp_all [bi, bcF, bsF, cst, sgn, opS, -Int32.not_le, -Int32.not_lt, -Int64.not_le, -Int64.not_lt]; done) | (simp_all [bi, bcF, bsF, cst, sgn, opS]; intros; simp only [il, ile, jl, jle] at *; simp at *; omega) | (simp_all [bi, bcF, bsF, cst, sgn, opS]; intros; simp only [il, ile, jl, jle] at *; omega) | (simp_all [bi, bcF, bsF, cst, sgn, opS, -Int32.not_le, -Int32.not_lt, -Int64.not_le, -Int64.not_lt]; intros; simp only [il, ile, jl, jle] at *; omega)
        · refine go_iload_n 45 dX9_badConstant_44 rfl rfl ?_
          refine go_i2l 46 dX9_badConstant_45 rfl ?_
          refine go_lconst 47 (0) dX9_badConstant_46 rfl (by decide) ?_
          refine go_ldc2 50 (15) dX9_badConstant_47 rfl wK_RX9_117 ?_
          refine g_callS 53 [.long _, .long _, .long _] [] dX9_badConstant_50 rfl (ct_X9_isBetween _ _ _ _) rfl sV_X9_badConstant_109 rfl (Nat.le_of_ble_eq_true rfl) (Nat.le_of_ble_eq_true rfl) (Nat.le_of_ble_eq_true rfl) ?_
          refine go_if_ne 56 60 dX9_badConstant_53 rfl (by decide) (fun hc6 => ?_) (fun hc6 => ?_)
          · refine go_iconst 61 (-1) dX9_badConstant_60 rfl (by decide) ?_
            refine go_ireturn dX9_badConstant_61 rfl (by first | rfl | exact bi_nar) (Nat.le_of_ble_eq_true rfl) (Nat.le_of_ble_eq_true rfl) ?_
            refine ⟨?_, rfl⟩
            (try simp only [cmp_lt, cmp_gt, cmp_le, cmp_ge, cmp_eq, bi0, bi1, Classical.not_not, Option.some.injEq, Value.int.injEq, Value.long.injEq] at *)
            first | (simp_all [bi, bcF, bsF, cst, sgn, opS]; done) | (simp_all [bi, bcF, bsF, cst, sgn, opS, -Int32.not_le, -Int32.not_lt, -Int64.not_le, -Int64.not_lt]; done) | (simp_all [bi, bcF, bsF, cst, sgn, opS]; intros; simp only [il, ile, jl, jle] at *; simp at *; omega) | (simp_all [bi, bcF, bsF, cst, sgn, opS]; intros; simp only [il, ile, jl, jle] at *; omega) | (simp_all [bi, bcF, bsF, cst, sgn, opS, -Int32.not_le, -Int32.not_lt, -Int64.not_le, -Int64.not_lt]; intros; simp only [il, ile, jl, jle] at *; omega)
          · refine go_iconst 57 (1) dX9_badConstant_56 rfl (by decide) ?_
            refine go_goto 61 dX9_badConstant_57 (by decide) ?_
            refine go_ireturn dX9_badConstant_61 rfl (by first | rfl | exact bi_nar) (Nat.le_of_ble_eq_true rfl) (Nat.le_of_ble_eq_true rfl) ?_
            refine ⟨?_, rfl⟩
            (try simp only [cmp_lt, cmp_gt, cmp_le, cmp_ge, cmp_eq, bi0, bi1, Classical.not_not, Option.some.injEq, Value.int.injEq, Value.long.injEq] at *)
            first | (simp_all [bi, bcF, bsF, cst, sgn, opS]; done) | (simp_all [bi, bcF, bsF, cst, sgn, opS, -Int32.not_le, -Int32.not_lt, -Int64.not_le, -Int64.not_lt]; done) | (simp_all [bi, bcF, bsF, cst, sgn, opS]; intros; simp only [il, ile, jl, jle] at *; simp at *; omega) | (simp_all [bi, bcF, bsF, cst, sgn, opS]; intros; simp only [il, ile, jl, jle] at *; omega) | (simp_all [bi, bcF, bsF, cst, sgn, opS, -Int32.not_le, -Int32.not_lt, -Int64.not_le, -Int64.not_lt]; intros; simp only [il, ile, jl, jle] at *; omega)
    · refine go_iload_n 19 dX9_badConstant_18 rfl rfl ?_
      refine g_callS 22 [.int _] [] dX9_badConstant_19 rfl (ct_X9_isConstant _ _) rfl sV_X9_badConstant_113 rfl (Nat.le_of_ble_eq_true rfl) (Nat.le_of_ble_eq_true rfl) (Nat.le_of_ble_eq_true rfl) ?_
      refine go_if_eq 25 30 dX9_badConstant_22 rfl (by decide) (fun hc7 => ?_) (fun hc7 => ?_)
      · refine go_iconst 31 (1) dX9_badConstant_30 rfl (by decide) ?_
        refine go_ireturn dX9_badConstant_31 rfl (by first | rfl | exact bi_nar) (Nat.le_of_ble_eq_true rfl) (Nat.le_of_ble_eq_true rfl) ?_
        refine ⟨?_, rfl⟩
        (try simp only [cmp_lt, cmp_gt, cmp_le, cmp_ge, cmp_eq, bi0, bi1, Classical.not_not, Option.some.injEq, Value.int.injEq, Value.long.injEq] at *)
        first | (simp_all [bi, bcF, bsF, cst, sgn, opS]; done) | (simp_all [bi, bcF, bsF, cst, sgn, opS, -Int32.not_le, -Int32.not_lt, -Int64.not_le, -Int64.not_lt]; done) | (simp_all [bi, bcF, bsF, cst, sgn, opS]; intros; simp only [il, ile, jl, jle] at *; simp at *; omega) | (simp_all [bi, bcF, bsF, cst, sgn, opS]; intros; simp only [il, ile, jl, jle] at *; omega) | (simp_all [bi, bcF, bsF, cst, sgn, opS, -Int32.not_le, -Int32.not_lt, -Int64.not_le, -Int64.not_lt]; intros; simp only [il, ile, jl, jle] at *; omega)
      · refine go_iload_n 26 dX9_badConstant_25 rfl rfl ?_
        refine go_iload_n 27 dX9_badConstant_26 rfl rfl ?_
        refine go_icmp_le 30 32 dX9_badConstant_27 rfl (by decide) (fun hc8 => ?_) (fun hc8 => ?_)
        · refine go_iload_n 33 dX9_badConstant_32 rfl rfl ?_
          refine go_bipush 35 (9) dX9_badConstant_33 rfl (by decide) ?_
          refine go_icmp_eq 38 44 dX9_badConstant_35 rfl (by decide) (fun hc9 => ?_) (fun hc9 => ?_)
          · refine go_iload_n 45 dX9_badConstant_44 rfl rfl ?_
            refine go_i2l 46 dX9_badConstant_45 rfl ?_
            refine go_lconst 47 (0) dX9_badConstant_46 rfl (by decide) ?_
            refine go_ldc2 50 (15) dX9_badConstant_47 rfl wK_RX9_117 ?_
            refine g_callS 53 [.long _, .long _, .long _] [] dX9_badConstant_50 rfl (ct_X9_isBetween _ _ _ _) rfl sV_X9_badConstant_109 rfl (Nat.le_of_ble_eq_true rfl) (Nat.le_of_ble_eq_true rfl) (Nat.le_of_ble_eq_true rfl) ?_
            refine go_if_ne 56 60 dX9_badConstant_53 rfl (by decide) (fun hc10 => ?_) (fun hc10 => ?_)
            · refine go_iconst 61 (-1) dX9_badConstant_60 rfl (by decide) ?_
              refine go_ireturn dX9_badConstant_61 rfl (by first | rfl | exact bi_nar) (Nat.le_of_ble_eq_true rfl) (Nat.le_of_ble_eq_true rfl) ?_
              refine ⟨?_, rfl⟩
              (try simp only [cmp_lt, cmp_gt, cmp_le, cmp_ge, cmp_eq, bi0, bi1, Classical.not_not, Option.some.injEq, Value.int.injEq, Value.long.injEq] at *)
              first | (simp_all [bi, bcF, bsF, cst, sgn, opS]; done) | (simp_all [bi, bcF, bsF, cst, sgn, opS, -Int32.not_le, -Int32.not_lt, -Int64.not_le, -Int64.not_lt]; done) | (simp_all [bi, bcF, bsF, cst, sgn, opS]; intros; simp only [il, ile, jl, jle] at *; simp at *; omega) | (simp_all [bi, bcF, bsF, cst, sgn, opS]; intros; simp only [il, ile, jl, jle] at *; omega) | (simp_all [bi, bcF, bsF, cst, sgn, opS, -Int32.not_le, -Int32.not_lt, -Int64.not_le, -Int64.not_lt]; intros; simp only [il, ile, jl, jle] at *; omega)
            · refine go_iconst 57 (1) dX9_badConstant_56 rfl (by decide) ?_
              refine go_goto 61 dX9_badConstant_57 (by decide) ?_
              refine go_ireturn dX9_badConstant_61 rfl (by first | rfl | exact bi_nar) (Nat.le_of_ble_eq_true rfl) (Nat.le_of_ble_eq_true rfl) ?_
              refine ⟨?_, rfl⟩
              (try simp only [cmp_lt, cmp_gt, cmp_le, cmp_ge, cmp_eq, bi0, bi1, Classical.not_not, Option.some.injEq, Value.int.injEq, Value.long.injEq] at *)
              first | (simp_all [bi, bcF, bsF, cst, sgn, opS]; done) | (simp_all [bi, bcF, bsF, cst, sgn, opS, -Int32.not_le, -Int32.not_lt, -Int64.not_le, -Int64.not_lt]; done) | (simp_all [bi, bcF, bsF, cst, sgn, opS]; intros; simp only [il, ile, jl, jle] at *; simp at *; omega) | (simp_all [bi, bcF, bsF, cst, sgn, opS]; intros; simp only [il, ile, jl, jle] at *; omega) | (simp_all [bi, bcF, bsF, cst, sgn, opS, -Int32.not_le, -Int32.not_lt, -Int64.not_le, -Int64.not_lt]; intros; simp only [il, ile, jl, jle] at *; omega)
          · refine go_iload_n 39 dX9_badConstant_38 rfl rfl ?_
            refine go_bipush 41 (10) dX9_badConstant_39 rfl (by decide) ?_
            refine go_icmp_ne 44 60 dX9_badConstant_41 rfl (by decide) (fun hc11 => ?_) (fun hc11 => ?_)
            · refine go_iconst 61 (-1) dX9_badConstant_60 rfl (by decide) ?_
              refine go_ireturn dX9_badConstant_61 rfl (by first | rfl | exact bi_nar) (Nat.le_of_ble_eq_true rfl) (Nat.le_of_ble_eq_true rfl) ?_
              refine ⟨?_, rfl⟩
              (try simp only [cmp_lt, cmp_gt, cmp_le, cmp_ge, cmp_eq, bi0, bi1, Classical.not_not, Option.some.injEq, Value.int.injEq, Value.long.injEq] at *)
              first | (simp_all [bi, bcF, bsF, cst, sgn, opS]; done) | (simp_all [bi, bcF, bsF, cst, sgn, opS, -Int32.not_le, -Int32.not_lt, -Int64.not_le, -Int64.not_lt]; done) | (simp_all [bi, bcF, bsF, cst, sgn, opS]; intros; simp only [il, ile, jl, jle] at *; simp at *; omega) | (simp_all [bi, bcF, bsF, cst, sgn, opS]; intros; simp only [il, ile, jl, jle] at *; omega) | (simp_all [bi, bcF, bsF, cst, sgn, opS, -Int32.not_le, -Int32.not_lt, -Int64.not_le, -Int64.not_lt]; intros; simp only [il, ile, jl, jle] at *; omega)
            · refine go_iload_n 45 dX9_badConstant_44 rfl rfl ?_
              refine go_i2l 46 dX9_badConstant_45 rfl ?_
              refine go_lconst 47 (0) dX9_badConstant_46 rfl (by decide) ?_
              refine go_ldc2 50 (15) dX9_badConstant_47 rfl wK_RX9_117 ?_
              refine g_callS 53 [.long _, .long _, .long _] [] dX9_badConstant_50 rfl (ct_X9_isBetween _ _ _ _) rfl sV_X9_badConstant_109 rfl (Nat.le_of_ble_eq_true rfl) (Nat.le_of_ble_eq_true rfl) (Nat.le_of_ble_eq_true rfl) ?_
              refine go_if_ne 56 60 dX9_badConstant_53 rfl (by decide) (fun hc12 => ?_) (fun hc12 => ?_)
              · refine go_iconst 61 (-1) dX9_badConstant_60 rfl (by decide) ?_
                refine go_ireturn dX9_badConstant_61 rfl (by first | rfl | exact bi_nar) (Nat.le_of_ble_eq_true rfl) (Nat.le_of_ble_eq_true rfl) ?_
                refine ⟨?_, rfl⟩
                (try simp only [cmp_lt, cmp_gt, cmp_le, cmp_ge, cmp_eq, bi0, bi1, Classical.not_not, Option.some.injEq, Value.int.injEq, Value.long.injEq] at *)
                first | (simp_all [bi, bcF, bsF, cst, sgn, opS]; done) | (simp_all [bi, bcF, bsF, cst, sgn, opS, -Int32.not_le, -Int32.not_lt, -Int64.not_le, -Int64.not_lt]; done) | (simp_all [bi, bcF, bsF, cst, sgn, opS]; intros; simp only [il, ile, jl, jle] at *; simp at *; omega) | (simp_all [bi, bcF, bsF, cst, sgn, opS]; intros; simp only [il, ile, jl, jle] at *; omega) | (simp_all [bi, bcF, bsF, cst, sgn, opS, -Int32.not_le, -Int32.not_lt, -Int64.not_le, -Int64.not_lt]; intros; simp only [il, ile, jl, jle] at *; omega)
              · refine go_iconst 57 (1) dX9_badConstant_56 rfl (by decide) ?_
                refine go_goto 61 dX9_badConstant_57 (by decide) ?_
                refine go_ireturn dX9_badConstant_61 rfl (by first | rfl | exact bi_nar) (Nat.le_of_ble_eq_true rfl) (Nat.le_of_ble_eq_true rfl) ?_
                refine ⟨?_, rfl⟩
                (try simp only [cmp_lt, cmp_gt, cmp_le, cmp_ge, cmp_eq, bi0, bi1, Classical.not_not, Option.some.injEq, Value.int.injEq, Value.long.injEq] at *)
                first | (simp_all [bi, bcF, bsF, cst, sgn, opS]; done) | (simp_all [bi, bcF, bsF, cst, sgn, opS, -Int32.not_le, -Int32.not_lt, -Int64.not_le, -Int64.not_lt]; done) | (simp_all [bi, bcF, bsF, cst, sgn, opS]; intros; simp only [il, ile, jl, jle] at *; simp at *; omega) | (simp_all [bi, bcF, bsF, cst, sgn, opS]; intros; simp only [il, ile, jl, jle] at *; omega) | (simp_all [bi, bcF, bsF, cst, sgn, opS, -Int32.not_le, -Int32.not_lt, -Int64.not_le, -Int64.not_lt]; intros; simp only [il, ile, jl, jle] at *; omega)
        · refine go_iconst 31 (1) dX9_badConstant_30 rfl (by decide) ?_
          refine go_ireturn dX9_badConstant_31 rfl (by first | rfl | exact bi_nar) (Nat.le_of_ble_eq_true rfl) (Nat.le_of_ble_eq_true rfl) ?_
          refine ⟨?_, rfl⟩
          (try simp only [cmp_lt, cmp_gt, cmp_le, cmp_ge, cmp_eq, bi0, bi1, Classical.not_not, Option.some.injEq, Value.int.injEq, Value.long.injEq] at *)
          first | (simp_all [bi, bcF, bsF, cst, sgn, opS]; done) | (simp_all [bi, bcF, bsF, cst, sgn, opS, -Int32.not_le, -Int32.not_lt, -Int64.not_le, -Int64.not_lt]; done) | (simp_all [bi, bcF, bsF, cst, sgn, opS]; intros; simp only [il, ile, jl, jle] at *; simp at *; omega) | (simp_all [bi, bcF, bsF, cst, sgn, opS]; intros; simp only [il, ile, jl, jle] at *; omega) | (simp_all [bi, bcF, bsF, cst, sgn, opS, -Int32.not_le, -Int32.not_lt, -Int64.not_le, -Int64.not_lt]; intros; simp only [il, ile, jl, jle] at *; omega)
  · refine go_iload_n 6 dX9_badConstant_5 rfl rfl ?_
    refine g_callS 9 [.int _] [] dX9_badConstant_6 rfl (ct_X9_isConstant _ _) rfl sV_X9_badConstant_113 rfl (Nat.le_of_ble_eq_true rfl) (Nat.le_of_ble_eq_true rfl) (Nat.le_of_ble_eq_true rfl) ?_
    refine go_if_ne 12 14 dX9_badConstant_9 rfl (by decide) (fun hc13 => ?_) (fun hc13 => ?_)
    · refine go_iload_n 15 dX9_badConstant_14 rfl rfl ?_
      refine go_if_ne 18 32 dX9_badConstant_15 rfl (by decide) (fun hc14 => ?_) (fun hc14 => ?_)
      · refine go_iload_n 33 dX9_badConstant_32 rfl rfl ?_
        refine go_bipush 35 (9) dX9_badConstant_33 rfl (by decide) ?_
        refine go_icmp_eq 38 44 dX9_badConstant_35 rfl (by decide) (fun hc15 => ?_) (fun hc15 => ?_)
        · refine go_iload_n 45 dX9_badConstant_44 rfl rfl ?_
          refine go_i2l 46 dX9_badConstant_45 rfl ?_
          refine go_lconst 47 (0) dX9_badConstant_46 rfl (by decide) ?_
          refine go_ldc2 50 (15) dX9_badConstant_47 rfl wK_RX9_117 ?_
          refine g_callS 53 [.long _, .long _, .long _] [] dX9_badConstant_50 rfl (ct_X9_isBetween _ _ _ _) rfl sV_X9_badConstant_109 rfl (Nat.le_of_ble_eq_true rfl) (Nat.le_of_ble_eq_true rfl) (Nat.le_of_ble_eq_true rfl) ?_
          refine go_if_ne 56 60 dX9_badConstant_53 rfl (by decide) (fun hc16 => ?_) (fun hc16 => ?_)
          · refine go_iconst 61 (-1) dX9_badConstant_60 rfl (by decide) ?_
            refine go_ireturn dX9_badConstant_61 rfl (by first | rfl | exact bi_nar) (Nat.le_of_ble_eq_true rfl) (Nat.le_of_ble_eq_true rfl) ?_
            refine ⟨?_, rfl⟩
            (try simp only [cmp_lt, cmp_gt, cmp_le, cmp_ge, cmp_eq, bi0, bi1, Classical.not_not, Option.some.injEq, Value.int.injEq, Value.long.injEq] at *)
            first | (simp_all [bi, bcF, bsF, cst, sgn, opS]; done) | (simp_all [bi, bcF, bsF, cst, sgn, opS, -Int32.not_le, -Int32.not_lt, -Int64.not_le, -Int64.not_lt]; done) | (simp_all [bi, bcF, bsF, cst, sgn, opS]; intros; simp only [il, ile, jl, jle] at *; simp at *; omega) | (simp_all [bi, bcF, bsF, cst, sgn, opS]; intros; simp only [il, ile, jl, jle] at *; omega) | (simp_all [bi, bcF, bsF, cst, sgn, opS, -Int32.not_le, -Int32.not_lt, -Int64.not_le, -Int64.not_lt]; intros; simp only [il, ile, jl, jle] at *; omega)
          · refine go_iconst 57 (1) dX9_badConstant_56 rfl (by decide) ?_
            refine go_goto 61 dX9_badConstant_57 (by decide) ?_
            refine go_ireturn dX9_badConstant_61 rfl (by first | rfl | exact bi_nar) (Nat.le_of_ble_eq_true rfl) (Nat.le_of_ble_eq_true rfl) ?_
            refine ⟨?_, rfl⟩
            (try simp only [cmp_lt, cmp_gt, cmp_le, cmp_ge, cmp_eq, bi0, bi1, Classical.not_not, Option.some.injEq, Value.int.injEq, Value.long.injEq] at *)
            first | (simp_all [bi, bcF, bsF, cst, sgn, opS]; done) | (simp_all [bi, bcF, bsF, cst, sgn, opS, -Int32.not_le, -Int32.not_lt, -Int64.not_le, -Int64.not_lt]; done) | (simp_all [bi, bcF, bsF, cst, sgn, opS]; intros; simp only [il, ile, jl, jle] at *; simp at *; omega) | (simp_all [bi, bcF, bsF, cst, sgn, opS]; intros; simp only [il, ile, jl, jle] at *; omega) | (simp_all [bi, bcF, bsF, cst, sgn, opS, -Int32.not_le, -Int32.not_lt, -Int64.not_le, -Int64.not_lt]; intros; simp only [il, ile, jl, jle] at *; omega)
        · refine go_iload_n 39 dX9_badConstant_38 rfl rfl ?_
          refine go_bipush 41 (10) dX9_badConstant_39 rfl (by decide) ?_
          refine go_icmp_ne 44 60 dX9_badConstant_41 rfl (by decide) (fun hc17 => ?_) (fun hc17 => ?_)
          · refine go_iconst 61 (-1) dX9_badConstant_60 rfl (by decide) ?_
            refine go_ireturn dX9_badConstant_61 rfl (by first | rfl | exact bi_nar) (Nat.le_of_ble_eq_true rfl) (Nat.le_of_ble_eq_true rfl) ?_
            refine ⟨?_, rfl⟩
            (try simp only [cmp_lt, cmp_gt, cmp_le, cmp_ge, cmp_eq, bi0, bi1, Classical.not_not, Option.some.injEq, Value.int.injEq, Value.long.injEq] at *)
            first | (simp_all [bi, bcF, bsF, cst, sgn, opS]; done) | (simp_all [bi, bcF, bsF, cst, sgn, opS, -Int32.not_le, -Int32.not_lt, -Int64.not_le, -Int64.not_lt]; done) | (simp_all [bi, bcF, bsF, cst, sgn, opS]; intros; simp only [il, ile, jl, jle] at *; simp at *; omega) | (simp_all [bi, bcF, bsF, cst, sgn, opS]; intros; simp only [il, ile, jl, jle] at *; omega) | (simp_all [bi, bcF, bsF, cst, sgn, opS, -Int32.not_le, -Int32.not_lt, -Int64.not_le, -Int64.not_lt]; intros; simp only [il, ile, jl, jle] at *; omega)
          · refine go_iload_n 45 dX9_badConstant_44 rfl rfl ?_
            refine go_i2l 46 dX9_badConstant_45 rfl ?_
            refine go_lconst 47 (0) dX9_badConstant_46 rfl (by decide) ?_
            refine go_ldc2 50 (15) dX9_badConstant_47 rfl wK_RX9_117 ?_
            refine g_callS 53 [.long _, .long _, .long _] [] dX9_badConstant_50 rfl (ct_X9_isBetween _ _ _ _) rfl sV_X9_badConstant_109 rfl (Nat.le_of_ble_eq_true rfl) (Nat.le_of_ble_eq_true rfl) (Nat.le_of_ble_eq_true rfl) ?_
            refine go_if_ne 56 60 dX9_badConstant_53 rfl (by decide) (fun hc18 => ?_) (fun hc18 => ?_)
            · refine go_iconst 61 (-1) dX9_badConstant_60 rfl (by decide) ?_
              refine go_ireturn dX9_badConstant_61 rfl (by first | rfl | exact bi_nar) (Nat.le_of_ble_eq_true rfl) (Nat.le_of_ble_eq_true rfl) ?_
              refine ⟨?_, rfl⟩
              (try simp only [cmp_lt, cmp_gt, cmp_le, cmp_ge, cmp_eq, bi0, bi1, Classical.not_not, Option.some.injEq, Value.int.injEq, Value.long.injEq] at *)
              first | (simp_all [bi, bcF, bsF, cst, sgn, opS]; done) | (simp_all [bi, bcF, bsF, cst, sgn, opS, -Int32.not_le, -Int32.not_lt, -Int64.not_le, -Int64.not_lt]; done) | (simp_all [bi, bcF, bsF, cst, sgn, opS]; intros; simp only [il, ile, jl, jle] at *; simp at *; omega) | (simp_all [bi, bcF, bsF, cst, sgn, opS]; intros; simp only [il, ile, jl, jle] at *; omega) | (simp_all [bi, bcF, bsF, cst, sgn, opS, -Int32.not_le, -Int32.not_lt, -Int64.not_le, -Int64.not_lt]; intros; simp only [il, ile, jl, jle] at *; omega)
            · refine go_iconst 57 (1) dX9_badConstant_56 rfl (by decide) ?_
              refine go_goto 61 dX9_badConstant_57 (by decide) ?_
              refine go_ireturn dX9_badConstant_61 rfl (by first | rfl | exact bi_nar) (Nat.le_of_ble_eq_true rfl) (Nat.le_of_ble_eq_true rfl) ?_
              refine ⟨?_, rfl⟩
              (try simp only [cmp_lt, cmp_gt, cmp_le, cmp_ge, cmp_eq, bi0, bi1, Classical.not_not, Option.some.injEq, Value.int.injEq, Value.long.injEq] at *)
              first | (simp_all [bi, bcF, bsF, cst, sgn, opS]; done) | (simp_all [bi, bcF, bsF, cst, sgn, opS, -Int32.not_le, -Int32.not_lt, -Int64.not_le, -Int64.not_lt]; done) | (simp_all [bi, bcF, bsF, cst, sgn, opS]; intros; simp only [il, ile, jl, jle] at *; simp at *; omega) | (simp_all [bi, bcF, bsF, cst, sgn, opS]; intros; simp only [il, ile, jl, jle] at *; omega) | (simp_all [bi, bcF, bsF, cst, sgn, opS, -Int32.not_le, -Int32.not_lt, -Int64.not_le, -Int64.not_lt]; intros; simp only [il, ile, jl, jle] at *; omega)
      · refine go_iload_n 19 dX9_badConstant_18 rfl rfl ?_
        refine g_callS 22 [.int _] [] dX9_badConstant_19 rfl (ct_X9_isConstant _ _) rfl sV_X9_badConstant_113 rfl (Nat.le_of_ble_eq_true rfl) (Nat.le_of_ble_eq_true rfl) (Nat.le_of_ble_eq_true rfl) ?_
        refine go_if_eq 25 30 dX9_badConstant_22 rfl (by decide) (fun hc19 => ?_) (fun hc19 => ?_)
        · refine go_iconst 31 (1) dX9_badConstant_30 rfl (by decide) ?_
          refine go_ireturn dX9_badConstant_31 rfl (by first | rfl | exact bi_nar) (Nat.le_of_ble_eq_true rfl) (Nat.le_of_ble_eq_true rfl) ?_
          refine ⟨?_, rfl⟩
          (try simp only [cmp_lt, cmp_gt, cmp_le, cmp_ge, cmp_eq, bi0, bi1, Classical.not_not, Option.some.injEq, Value.int.injEq, Value.long.injEq] at *)
          first | (simp_all [bi, bcF, bsF, cst, sgn, opS]; done) | (simp_all [bi, bcF, bsF, cst, sgn, opS, -Int32.not_le, -Int32.not_lt, -Int64.not_le, -Int64.not_lt]; done) | (simp_all [bi, bcF, bsF, cst, sgn, opS]; intros; simp only [il, ile, jl, jle] at *; simp at *; omega) | (simp_all [bi, bcF, bsF, cst, sgn, opS]; intros; simp only [il, ile, jl, jle] at *; omega) | (simp_all [bi, bcF, bsF, cst, sgn, opS, -Int32.not_le, -Int32.not_lt, -Int64.not_le, -Int64.not_lt]; intros; simp only [il, ile, jl, jle] at *; omega)
        · refine go_iload_n 26 dX9_badConstant_25 rfl rfl ?_
          refine go_iload_n 27 dX9_badConstant_26 rfl rfl ?_
          refine go_icmp_le 30 32 dX9_badConstant_27 rfl (by decide) (fun hc20 => ?_) (fun hc20 => ?_)
          · refine go_iload_n 33 dX9_badConstant_32 rfl rfl ?_
            refine go_bipush 35 (9) dX9_badConstant_33 rfl (by decide) ?_
            refine go_icmp_eq 38 44 dX9_badConstant_35 rfl (by decide) (fun hc21 => ?_) (fun hc21 => ?_)
            · refine go_iload_n 45 dX9_badConstant_44 rfl rfl ?_
              refine go_i2l 46 dX9_badConstant_45 rfl ?_
              refine go_lconst 47 (0) dX9_badConstant_46 rfl (by decide) ?_
              refine go_ldc2 50 (15) dX9_badConstant_47 rfl wK_RX9_117 ?_
              refine g_callS 53 [.long _, .long _, .long _] [] dX9_badConstant_50 rfl (ct_X9_isBetween _ _ _ _) rfl sV_X9_badConstant_109 rfl (Nat.le_of_ble_eq_true rfl) (Nat.le_of_ble_eq_true rfl) (Nat.le_of_ble_eq_true rfl) ?_
              refine go_if_ne 56 60 dX9_badConstant_53 rfl (by decide) (fun hc22 => ?_) (fun hc22 => ?_)
              · refine go_iconst 61 (-1) dX9_badConstant_60 rfl (by decide) ?_
                refine go_ireturn dX9_badConstant_61 rfl (by first | rfl | exact bi_nar) (Nat.le_of_ble_eq_true rfl) (Nat.le_of_ble_eq_true rfl) ?_
                refine ⟨?_, rfl⟩
                (try simp only [cmp_lt, cmp_gt, cmp_le, cmp_ge, cmp_eq, bi0, bi1, Classical.not_not, Option.some.injEq, Value.int.injEq, Value.long.injEq] at *)
                first | (simp_all [bi, bcF, bsF, cst, sgn, opS]; done) | (simp_all [bi, bcF, bsF, cst, sgn, opS, -Int32.not_le, -Int32.not_lt, -Int64.not_le, -Int64.not_lt]; done) | (simp_all [bi, bcF, bsF, cst, sgn, opS]; intros; simp only [il, ile, jl, jle] at *; simp at *; omega) | (simp_all [bi, bcF, bsF, cst, sgn, opS]; intros; simp only [il, ile, jl, jle] at *; omega) | (simp_all [bi, bcF, bsF, cst, sgn, opS, -Int32.not_le, -Int32.not_lt, -Int64.not_le, -Int64.not_lt]; intros; simp only [il, ile, jl, jle] at *; omega)
              · refine go_iconst 57 (1) dX9_badConstant_56 rfl (by decide) ?_
                refine go_goto 61 dX9_badConstant_57 (by decide) ?_
                refine go_ireturn dX9_badConstant_61 rfl (by first | rfl | exact bi_nar) (Nat.le_of_ble_eq_true rfl) (Nat.le_of_ble_eq_true rfl) ?_
                refine ⟨?_, rfl⟩
                (try simp only [cmp_lt, cmp_gt, cmp_le, cmp_ge, cmp_eq, bi0, bi1, Classical.not_not, Option.some.injEq, Value.int.injEq, Value.long.injEq] at *)
                first | (simp_all [bi, bcF, bsF, cst, sgn, opS]; done) | (simp_all [bi, bcF, bsF, cst, sgn, opS, -Int32.not_le, -Int32.not_lt, -Int64.not_le, -Int64.not_lt]; done) | (simp_all [bi, bcF, bsF, cst, sgn, opS]; intros; simp only [il, ile, jl, jle] at *; simp at *; omega) | (simp_all [bi, bcF, bsF, cst, sgn, opS]; intros; simp only [il, ile, jl, jle] at *; omega) | (simp_all [bi, bcF, bsF, cst, sgn, opS, -Int32.not_le, -Int32.not_lt, -Int64.not_le, -Int64.not_lt]; intros; simp only [il, ile, jl, jle] at *; omega)
            · refine go_iload_n 39 dX9_badConstant_38 rfl rfl ?_
              refine go_bipush 41 (10) dX9_badConstant_39 rfl (by decide) ?_
              refine go_icmp_ne 44 60 dX9_badConstant_41 rfl (by decide) (fun hc23 => ?_) (fun hc23 => ?_)
              · refine go_iconst 61 (-1) dX9_badConstant_60 rfl (by decide) ?_
                refine go_ireturn dX9_badConstant_61 rfl (by first | rfl | exact bi_nar) (Nat.le_of_ble_eq_true rfl) (Nat.le_of_ble_eq_true rfl) ?_
                refine ⟨?_, rfl⟩
                (try simp only [cmp_lt, cmp_gt, cmp_le, cmp_ge, cmp_eq, bi0, bi1, Classical.not_not, Option.some.injEq, Value.int.injEq, Value.long.injEq] at *)
                first | (simp_all [bi, bcF, bsF, cst, sgn, opS]; done) | (simp_all [bi, bcF, bsF, cst, sgn, opS, -Int32.not_le, -Int32.not_lt, -Int64.not_le, -Int64.not_lt]; done) | (simp_all [bi, bcF, bsF, cst, sgn, opS]; intros; simp only [il, ile, jl, jle] at *; simp at *; omega) | (simp_all [bi, bcF, bsF, cst, sgn, opS]; intros; simp only [il, ile, jl, jle] at *; omega) | (simp_all [bi, bcF, bsF, cst, sgn, opS, -Int32.not_le, -Int32.not_lt, -Int64.not_le, -Int64.not_lt]; intros; simp only [il, ile, jl, jle] at *; omega)
              · refine go_iload_n 45 dX9_badConstant_44 rfl rfl ?_
                refine go_i2l 46 dX9_badConstant_45 rfl ?_
                refine go_lconst 47 (0) dX9_badConstant_46 rfl (by decide) ?_
                refine go_ldc2 50 (15) dX9_badConstant_47 rfl wK_RX9_117 ?_
                refine g_callS 53 [.long _, .long _, .long _] [] dX9_badConstant_50 rfl (ct_X9_isBetween _ _ _ _) rfl sV_X9_badConstant_109 rfl (Nat.le_of_ble_eq_true rfl) (Nat.le_of_ble_eq_true rfl) (Nat.le_of_ble_eq_true rfl) ?_
                refine go_if_ne 56 60 dX9_badConstant_53 rfl (by decide) (fun hc24 => ?_) (fun hc24 => ?_)
                · refine go_iconst 61 (-1) dX9_badConstant_60 rfl (by decide) ?_
                  refine go_ireturn dX9_badConstant_61 rfl (by first | rfl | exact bi_nar) (Nat.le_of_ble_eq_true rfl) (Nat.le_of_ble_eq_true rfl) ?_
                  refine ⟨?_, rfl⟩
                  (try simp only [cmp_lt, cmp_gt, cmp_le, cmp_ge, cmp_eq, bi0, bi1, Classical.not_not, Option.some.injEq, Value.int.injEq, Value.long.injEq] at *)
                  first | (simp_all [bi, bcF, bsF, cst, sgn, opS]; done) | (simp_all [bi, bcF, bsF, cst, sgn, opS, -Int32.not_le, -Int32.not_lt, -Int64.not_le, -Int64.not_lt]; done) | (simp_all [bi, bcF, bsF, cst, sgn, opS]; intros; simp only [il, ile, jl, jle] at *; simp at *; omega) | (simp_all [bi, bcF, bsF, cst, sgn, opS]; intros; simp only [il, ile, jl, jle] at *; omega) | (simp_all [bi, bcF, bsF, cst, sgn, opS, -Int32.not_le, -Int32.not_lt, -Int64.not_le, -Int64.not_lt]; intros; simp only [il, ile, jl, jle] at *; omega)
                · refine go_iconst 57 (1) dX9_badConstant_56 rfl (by decide) ?_
                  refine go_goto 61 dX9_badConstant_57 (by decide) ?_
                  refine go_ireturn dX9_badConstant_61 rfl (by first | rfl | exact bi_nar) (Nat.le_of_ble_eq_true rfl) (Nat.le_of_ble_eq_true rfl) ?_
                  refine ⟨?_, rfl⟩
                  (try simp only [cmp_lt, cmp_gt, cmp_le, cmp_ge, cmp_eq, bi0, bi1, Classical.not_not, Option.some.injEq, Value.int.injEq, Value.long.injEq] at *)
                  first | (simp_all [bi, bcF, bsF, cst, sgn, opS]; done) | (simp_all [bi, bcF, bsF, cst, sgn, opS, -Int32.not_le, -Int32.not_lt, -Int64.not_le, -Int64.not_lt]; done) | (simp_all [bi, bcF, bsF, cst, sgn, opS]; intros; simp only [il, ile, jl, jle] at *; simp at *; omega) | (simp_all [bi, bcF, bsF, cst, sgn, opS]; intros; simp only [il, ile, jl, jle] at *; omega) | (simp_all [bi, bcF, bsF, cst, sgn, opS, -Int32.not_le, -Int32.not_lt, -Int64.not_le, -Int64.not_lt]; intros; simp only [il, ile, jl, jle] at *; omega)
          · refine go_iconst 31 (1) dX9_badConstant_30 rfl (by decide) ?_
            refine go_ireturn dX9_badConstant_31 rfl (by first | rfl | exact bi_nar) (Nat.le_of_ble_eq_true rfl) (Nat.le_of_ble_eq_true rfl) ?_
            refine ⟨?_, rfl⟩
            (try simp only [cmp_lt, cmp_gt, cmp_le, cmp_ge, cmp_eq, bi0, bi1, Classical.not_not, Option.some.injEq, Value.int.injEq, Value.long.injEq] at *)
            first | (simp_all [bi, bcF, bsF, cst, sgn, opS]; done) | (simp_all [bi, bcF, bsF, cst, sgn, opS, -Int32.not_le, -Int32.not_lt, -Int64.not_le, -Int64.not_lt]; done) | (simp_all [bi, bcF, bsF, cst, sgn, opS]; intros; simp only [il, ile, jl, jle] at *; simp at *; omega) | (simp_all [bi, bcF, bsF, cst, sgn, opS]; intros; simp only [il, ile, jl, jle] at *; omega) | (simp_all [bi, bcF, bsF, cst, sgn, opS, -Int32.not_le, -Int32.not_lt, -Int64.not_le, -Int64.not_lt]; intros; simp only [il, ile, jl, jle] at *; omega)
    · refine go_iconst 13 (0) dX9_badConstant_12 rfl (by decide) ?_
      refine go_ireturn dX9_badConstant_13 rfl (by first | rfl | exact bi_nar) (Nat.le_of_ble_eq_true rfl) (Nat.le_of_ble_eq_true rfl) ?_
      refine ⟨?_, rfl⟩
      (try simp only [cmp_lt, cmp_gt, cmp_le, cmp_ge, cmp_eq, bi0, bi1, Classical.not_not, Option.some.injEq, Value.int.injEq, Value.long.injEq] at *)
      first | (simp_all [bi, bcF, bsF, cst, sgn, opS]; done) | (simp_all [bi, bcF, bsF, cst, sgn, opS, -Int32.not_le, -Int32.not_lt, -Int64.not_le, -Int64.not_lt]; done) | (simp_all [bi, bcF, bsF, cst, sgn, opS]; intros; simp only [il, ile, jl, jle] at *; simp at *; omega) | (simp_all [bi, bcF, bsF, cst, sgn, opS]; intros; simp only [il, ile, jl, jle] at *; omega) | (simp_all [bi, bcF, bsF, cst, sgn, opS, -Int32.not_le, -Int32.not_lt, -Int64.not_le, -Int64.not_lt]; intros; simp only [il, ile, jl, jle] at *; omega)

set_option maxRecDepth 100000 in
set_option maxHeartbeats 4000000 in
theorem ct_X9_badSignal (S : gS) (kind a c d : Int32) : gF mX9_badSignal [.ref 115, .int kind, .int a, .int c, .int d] S (some (.int (bsF (rI S 115 10) kind a c d))) S := by
  refine go_enter [.ref 115, .int kind, .int a, .int c, .int d] [(0, .ref 115), (1, .int kind), (2, .int a), (3, .int c), (4, .int d)] (by decide +kernel) rfl rfl (Nat.le_of_ble_eq_true rfl) rfl ?_
  refine go_iload_n 1 dX9_badSignal_0 rfl rfl ?_
  refine go_iconst 2 (0) dX9_badSignal_1 rfl (by decide) ?_
  refine g_callS 5 [.int _, .int _] [] dX9_badSignal_2 rfl (ct_X9_isOperandSignal _ _ _) rfl sV_X9_badSignal_119 rfl (Nat.le_of_ble_eq_true rfl) (Nat.le_of_ble_eq_true rfl) (Nat.le_of_ble_eq_true rfl) ?_
  refine go_if_eq 8 18 dX9_badSignal_5 rfl (by decide) (fun hc1 => ?_) (fun hc1 => ?_)
  · refine go_iload_n 19 dX9_badSignal_18 rfl rfl ?_
    refine go_iconst 20 (1) dX9_badSignal_19 rfl (by decide) ?_
    refine g_callS 23 [.int _, .int _] [] dX9_badSignal_20 rfl (ct_X9_isOperandSignal _ _ _) rfl sV_X9_badSignal_119 rfl (Nat.le_of_ble_eq_true rfl) (Nat.le_of_ble_eq_true rfl) (Nat.le_of_ble_eq_true rfl) ?_
    refine go_if_eq 26 36 dX9_badSignal_23 rfl (by decide) (fun hc2 => ?_) (fun hc2 => ?_)
    · refine go_iload_n 37 dX9_badSignal_36 rfl rfl ?_
      refine go_iconst 38 (2) dX9_badSignal_37 rfl (by decide) ?_
      refine g_callS 41 [.int _, .int _] [] dX9_badSignal_38 rfl (ct_X9_isOperandSignal _ _ _) rfl sV_X9_badSignal_119 rfl (Nat.le_of_ble_eq_true rfl) (Nat.le_of_ble_eq_true rfl) (Nat.le_of_ble_eq_true rfl) ?_
      refine go_if_eq 44 57 dX9_badSignal_41 rfl (by decide) (fun hc3 => ?_) (fun hc3 => ?_)
      · refine go_iconst 58 (-1) dX9_badSignal_57 rfl (by decide) ?_
        refine go_ireturn dX9_badSignal_58 rfl (by first | rfl | exact bi_nar) (Nat.le_of_ble_eq_true rfl) (Nat.le_of_ble_eq_true rfl) ?_
        refine ⟨?_, rfl⟩
        (try simp only [cmp_lt, cmp_gt, cmp_le, cmp_ge, cmp_eq, bi0, bi1, Classical.not_not, Option.some.injEq, Value.int.injEq, Value.long.injEq] at *)
        first | (simp_all [bi, bcF, bsF, cst, sgn, opS]; done) | (simp_all [bi, bcF, bsF, cst, sgn, opS, -Int32.not_le, -Int32.not_lt, -Int64.not_le, -Int64.not_lt]; done) | (simp_all [bi, bcF, bsF, cst, sgn, opS]; intros; simp only [il, ile, jl, jle] at *; simp at *; omega) | (simp_all [bi, bcF, bsF, cst, sgn, opS]; intros; simp only [il, ile, jl, jle] at *; omega) | (simp_all [bi, bcF, bsF, cst, sgn, opS, -Int32.not_le, -Int32.not_lt, -Int64.not_le, -Int64.not_lt]; intros; simp only [il, ile, jl, jle] at *; omega)
      · refine go_aload_n 45 dX9_badSignal_44 rfl rfl ?_
        refine go_iload 47 dX9_badSignal_45 rfl rfl ?_
        refine g_callV 50 [.int _] [] dX9_badSignal_47 rfl (ct_X9_isSignal _ _) rfl sV_X9_badSignal_123 rfl ly_115 rfl rfl (Nat.le_of_ble_eq_true rfl) (Nat.le_of_ble_eq_true rfl) (Nat.le_of_ble_eq_true rfl) ?_
        refine go_if_ne 53 57 dX9_badSignal_50 rfl (by decide) (fun hc4 => ?_) (fun hc4 => ?_)
        · refine go_iconst 58 (-1) dX9_badSignal_57 rfl (by decide) ?_
          refine go_ireturn dX9_badSignal_58 rfl (by first | rfl | exact bi_nar) (Nat.le_of_ble_eq_true rfl) (Nat.le_of_ble_eq_true rfl) ?_
          refine ⟨?_, rfl⟩
          (try simp only [cmp_lt, cmp_gt, cmp_le, cmp_ge, cmp_eq, bi0, bi1, Classical.not_not, Option.some.injEq, Value.int.injEq, Value.long.injEq] at *)
          first | (simp_all [bi, bcF, bsF, cst, sgn, opS]; done) | (simp_all [bi, bcF, bsF, cst, sgn, opS, -Int32.not_le, -Int32.not_lt, -Int64.not_le, -Int64.not_lt]; done) | (simp_all [bi, bcF, bsF, cst, sgn, opS]; intros; simp only [il, ile, jl, jle] at *; simp at *; omega) | (simp_all [bi, bcF, bsF, cst, sgn, opS]; intros; simp only [il, ile, jl, jle] at *; omega) | (simp_all [bi, bcF, bsF, cst, sgn, opS, -Int32.not_le, -Int32.not_lt, -Int64.not_le, -Int64.not_lt]; intros; simp only [il, ile, jl, jle] at *; omega)
        · refine go_iconst 54 (2) dX9_badSignal_53 rfl (by decide) ?_
          refine go_goto 58 dX9_badSignal_54 (by decide) ?_
          refine go_ireturn dX9_badSignal_58 rfl (by first | rfl | exact bi_nar) (Nat.le_of_ble_eq_true rfl) (Nat.le_of_ble_eq_true rfl) ?_
          refine ⟨?_, rfl⟩
          (try simp only [cmp_lt, cmp_gt, cmp_le, cmp_ge, cmp_eq, bi0, bi1, Classical.not_not, Option.some.injEq, Value.int.injEq, Value.long.injEq] at *)
          first | (simp_all [bi, bcF, bsF, cst, sgn, opS]; done) | (simp_all [bi, bcF, bsF, cst, sgn, opS, -Int32.not_le, -Int32.not_lt, -Int64.not_le, -Int64.not_lt]; done) | (simp_all [bi, bcF, bsF, cst, sgn, opS]; intros; simp only [il, ile, jl, jle] at *; simp at *; omega) | (simp_all [bi, bcF, bsF, cst, sgn, opS]; intros; simp only [il, ile, jl, jle] at *; omega) | (simp_all [bi, bcF, bsF, cst, sgn, opS, -Int32.not_le, -Int32.not_lt, -Int64.not_le, -Int64.not_lt]; intros; simp only [il, ile, jl, jle] at *; omega)
    · refine go_aload_n 27 dX9_badSignal_26 rfl rfl ?_
      refine go_iload_n 28 dX9_badSignal_27 rfl rfl ?_
      refine g_callV 31 [.int _] [] dX9_badSignal_28 rfl (ct_X9_isSignal _ _) rfl sV_X9_badSignal_123 rfl ly_115 rfl rfl (Nat.le_of_ble_eq_true rfl) (Nat.le_of_ble_eq_true rfl) (Nat.le_of_ble_eq_true rfl) ?_
      refine go_if_ne 34 36 dX9_badSignal_31 rfl (by decide) (fun hc5 => ?_) (fun hc5 => ?_)
      · refine go_iload_n 37 dX9_badSignal_36 rfl rfl ?_
        refine go_iconst 38 (2) dX9_badSignal_37 rfl (by decide) ?_
        refine g_callS 41 [.int _, .int _] [] dX9_badSignal_38 rfl (ct_X9_isOperandSignal _ _ _) rfl sV_X9_badSignal_119 rfl (Nat.le_of_ble_eq_true rfl) (Nat.le_of_ble_eq_true rfl) (Nat.le_of_ble_eq_true rfl) ?_
        refine go_if_eq 44 57 dX9_badSignal_41 rfl (by decide) (fun hc6 => ?_) (fun hc6 => ?_)
        · refine go_iconst 58 (-1) dX9_badSignal_57 rfl (by decide) ?_
          refine go_ireturn dX9_badSignal_58 rfl (by first | rfl | exact bi_nar) (Nat.le_of_ble_eq_true rfl) (Nat.le_of_ble_eq_true rfl) ?_
          refine ⟨?_, rfl⟩
          (try simp only [cmp_lt, cmp_gt, cmp_le, cmp_ge, cmp_eq, bi0, bi1, Classical.not_not, Option.some.injEq, Value.int.injEq, Value.long.injEq] at *)
          first | (simp_all [bi, bcF, bsF, cst, sgn, opS]; done) | (simp_all [bi, bcF, bsF, cst, sgn, opS, -Int32.not_le, -Int32.not_lt, -Int64.not_le, -Int64.not_lt]; done) | (simp_all [bi, bcF, bsF, cst, sgn, opS]; intros; simp only [il, ile, jl, jle] at *; simp at *; omega) | (simp_all [bi, bcF, bsF, cst, sgn, opS]; intros; simp only [il, ile, jl, jle] at *; omega) | (simp_all [bi, bcF, bsF, cst, sgn, opS, -Int32.not_le, -Int32.not_lt, -Int64.not_le, -Int64.not_lt]; intros; simp only [il, ile, jl, jle] at *; omega)
        · refine go_aload_n 45 dX9_badSignal_44 rfl rfl ?_
          refine go_iload 47 dX9_badSignal_45 rfl rfl ?_
          refine g_callV 50 [.int _] [] dX9_badSignal_47 rfl (ct_X9_isSignal _ _) rfl sV_X9_badSignal_123 rfl ly_115 rfl rfl (Nat.le_of_ble_eq_true rfl) (Nat.le_of_ble_eq_true rfl) (Nat.le_of_ble_eq_true rfl) ?_
          refine go_if_ne 53 57 dX9_badSignal_50 rfl (by decide) (fun hc7 => ?_) (fun hc7 => ?_)
          · refine go_iconst 58 (-1) dX9_badSignal_57 rfl (by decide) ?_
            refine go_ireturn dX9_badSignal_58 rfl (by first | rfl | exact bi_nar) (Nat.le_of_ble_eq_true rfl) (Nat.le_of_ble_eq_true rfl) ?_
            refine ⟨?_, rfl⟩
            (try simp only [cmp_lt, cmp_gt, cmp_le, cmp_ge, cmp_eq, bi0, bi1, Classical.not_not, Option.some.injEq, Value.int.injEq, Value.long.injEq] at *)
            first | (simp_all [bi, bcF, bsF, cst, sgn, opS]; done) | (simp_all [bi, bcF, bsF, cst, sgn, opS, -Int32.not_le, -Int32.not_lt, -Int64.not_le, -Int64.not_lt]; done) | (simp_all [bi, bcF, bsF, cst, sgn, opS]; intros; simp only [il, ile, jl, jle] at *; simp at *; omega) | (simp_all [bi, bcF, bsF, cst, sgn, opS]; intros; simp only [il, ile, jl, jle] at *; omega) | (simp_all [bi, bcF, bsF, cst, sgn, opS, -Int32.not_le, -Int32.not_lt, -Int64.not_le, -Int64.not_lt]; intros; simp only [il, ile, jl, jle] at *; omega)
          · refine go_iconst 54 (2) dX9_badSignal_53 rfl (by decide) ?_
            refine go_goto 58 dX9_badSignal_54 (by decide) ?_
            refine go_ireturn dX9_badSignal_58 rfl (by first | rfl | exact bi_nar) (Nat.le_of_ble_eq_true rfl) (Nat.le_of_ble_eq_true rfl) ?_
            refine ⟨?_, rfl⟩
            (try simp only [cmp_lt, cmp_gt, cmp_le, cmp_ge, cmp_eq, bi0, bi1, Classical.not_not, Option.some.injEq, Value.int.injEq, Value.long.injEq] at *)
            first | (simp_all [bi, bcF, bsF, cst, sgn, opS]; done) | (simp_all [bi, bcF, bsF, cst, sgn, opS, -Int32.not_le, -Int32.not_lt, -Int64.not_le, -Int64.not_lt]; done) | (simp_all [bi, bcF, bsF, cst, sgn, opS]; intros; simp only [il, ile, jl, jle] at *; simp at *; omega) | (simp_all [bi, bcF, bsF, cst, sgn, opS]; intros; simp only [il, ile, jl, jle] at *; omega) | (simp_all [bi, bcF, bsF, cst, sgn, opS, -Int32.not_le, -Int32.not_lt, -Int64.not_le, -Int64.not_lt]; intros; simp only [il, ile, jl, jle] at *; omega)
      · refine go_iconst 35 (1) dX9_badSignal_34 rfl (by decide) ?_
        refine go_ireturn dX9_badSignal_35 rfl (by first | rfl | exact bi_nar) (Nat.le_of_ble_eq_true rfl) (Nat.le_of_ble_eq_true rfl) ?_
        refine ⟨?_, rfl⟩
        (try simp only [cmp_lt, cmp_gt, cmp_le, cmp_ge, cmp_eq, bi0, bi1, Classical.not_not, Option.some.injEq, Value.int.injEq, Value.long.injEq] at *)
        first | (simp_all [bi, bcF, bsF, cst, sgn, opS]; done) | (simp_all [bi, bcF, bsF, cst, sgn, opS, -Int32.not_le, -Int32.not_lt, -Int64.not_le, -Int64.not_lt]; done) | (simp_all [bi, bcF, bsF, cst, sgn, opS]; intros; simp only [il, ile, jl, jle] at *; simp at *; omega) | (simp_all [bi, bcF, bsF, cst, sgn, opS]; intros; simp only [il, ile, jl, jle] at *; omega) | (simp_all [bi, bcF, bsF, cst, sgn, opS, -Int32.not_le, -Int32.not_lt, -Int64.not_le, -Int64.not_lt]; intros; simp only [il, ile, jl, jle] at *; omega)
  · refine go_aload_n 9 dX9_badSignal_8 rfl rfl ?_
    refine go_iload_n 10 dX9_badSignal_9 rfl rfl ?_
    refine g_callV 13 [.int _] [] dX9_badSignal_10 rfl (ct_X9_isSignal _ _) rfl sV_X9_badSignal_123 rfl ly_115 rfl rfl (Nat.le_of_ble_eq_true rfl) (Nat.le_of_ble_eq_true rfl) (Nat.le_of_ble_eq_true rfl) ?_
    refine go_if_ne 16 18 dX9_badSignal_13 rfl (by decide) (fun hc8 => ?_) (fun hc8 => ?_)
    · refine go_iload_n 19 dX9_badSignal_18 rfl rfl ?_
      refine go_iconst 20 (1) dX9_badSignal_19 rfl (by decide) ?_
      refine g_callS 23 [.int _, .int _] [] dX9_badSignal_20 rfl (ct_X9_isOperandSignal _ _ _) rfl sV_X9_badSignal_119 rfl (Nat.le_of_ble_eq_true rfl) (Nat.le_of_ble_eq_true rfl) (Nat.le_of_ble_eq_true rfl) ?_
      refine go_if_eq 26 36 dX9_badSignal_23 rfl (by decide) (fun hc9 => ?_) (fun hc9 => ?_)
      · refine go_iload_n 37 dX9_badSignal_36 rfl rfl ?_
        refine go_iconst 38 (2) dX9_badSignal_37 rfl (by decide) ?_
        refine g_callS 41 [.int _, .int _] [] dX9_badSignal_38 rfl (ct_X9_isOperandSignal _ _ _) rfl sV_X9_badSignal_119 rfl (Nat.le_of_ble_eq_true rfl) (Nat.le_of_ble_eq_true rfl) (Nat.le_of_ble_eq_true rfl) ?_
        refine go_if_eq 44 57 dX9_badSignal_41 rfl (by decide) (fun hc10 => ?_) (fun hc10 => ?_)
        · refine go_iconst 58 (-1) dX9_badSignal_57 rfl (by decide) ?_
          refine go_ireturn dX9_badSignal_58 rfl (by first | rfl | exact bi_nar) (Nat.le_of_ble_eq_true rfl) (Nat.le_of_ble_eq_true rfl) ?_
          refine ⟨?_, rfl⟩
          (try simp only [cmp_lt, cmp_gt, cmp_le, cmp_ge, cmp_eq, bi0, bi1, Classical.not_not, Option.some.injEq, Value.int.injEq, Value.long.injEq] at *)
          first | (simp_all [bi, bcF, bsF, cst, sgn, opS]; done) | (simp_all [bi, bcF, bsF, cst, sgn, opS, -Int32.not_le, -Int32.not_lt, -Int64.not_le, -Int64.not_lt]; done) | (simp_all [bi, bcF, bsF, cst, sgn, opS]; intros; simp only [il, ile, jl, jle] at *; simp at *; omega) | (simp_all [bi, bcF, bsF, cst, sgn, opS]; intros; simp only [il, ile, jl, jle] at *; omega) | (simp_all [bi, bcF, bsF, cst, sgn, opS, -Int32.not_le, -Int32.not_lt, -Int64.not_le, -Int64.not_lt]; intros; simp only [il, ile, jl, jle] at *; omega)
        · refine go_aload_n 45 dX9_badSignal_44 rfl rfl ?_
          refine go_iload 47 dX9_badSignal_45 rfl rfl ?_
          refine g_callV 50 [.int _] [] dX9_badSignal_47 rfl (ct_X9_isSignal _ _) rfl sV_X9_badSignal_123 rfl ly_115 rfl rfl (Nat.le_of_ble_eq_true rfl) (Nat.le_of_ble_eq_true rfl) (Nat.le_of_ble_eq_true rfl) ?_
          refine go_if_ne 53 57 dX9_badSignal_50 rfl (by decide) (fun hc11 => ?_) (fun hc11 => ?_)
          · refine go_iconst 58 (-1) dX9_badSignal_57 rfl (by decide) ?_
            refine go_ireturn dX9_badSignal_58 rfl (by first | rfl | exact bi_nar) (Nat.le_of_ble_eq_true rfl) (Nat.le_of_ble_eq_true rfl) ?_
            refine ⟨?_, rfl⟩
            (try simp only [cmp_lt, cmp_gt, cmp_le, cmp_ge, cmp_eq, bi0, bi1, Classical.not_not, Option.some.injEq, Value.int.injEq, Value.long.injEq] at *)
            first | (simp_all [bi, bcF, bsF, cst, sgn, opS]; done) | (simp_all [bi, bcF, bsF, cst, sgn, opS, -Int32.not_le, -Int32.not_lt, -Int64.not_le, -Int64.not_lt]; done) | (simp_all [bi, bcF, bsF, cst, sgn, opS]; intros; simp only [il, ile, jl, jle] at *; simp at *; omega) | (simp_all [bi, bcF, bsF, cst, sgn, opS]; intros; simp only [il, ile, jl, jle] at *; omega) | (simp_all [bi, bcF, bsF, cst, sgn, opS, -Int32.not_le, -Int32.not_lt, -Int64.not_le, -Int64.not_lt]; intros; simp only [il, ile, jl, jle] at *; omega)
          · refine go_iconst 54 (2) dX9_badSignal_53 rfl (by decide) ?_
            refine go_goto 58 dX9_badSignal_54 (by decide) ?_
            refine go_ireturn dX9_badSignal_58 rfl (by first | rfl | exact bi_nar) (Nat.le_of_ble_eq_true rfl) (Nat.le_of_ble_eq_true rfl) ?_
            refine ⟨?_, rfl⟩
            (try simp only [cmp_lt, cmp_gt, cmp_le, cmp_ge, cmp_eq, bi0, bi1, Classical.not_not, Option.some.injEq, Value.int.injEq, Value.long.injEq] at *)
            first | (simp_all [bi, bcF, bsF, cst, sgn, opS]; done) | (simp_all [bi, bcF, bsF, cst, sgn, opS, -Int32.not_le, -Int32.not_lt, -Int64.not_le, -Int64.not_lt]; done) | (simp_all [bi, bcF, bsF, cst, sgn, opS]; intros; simp only [il, ile, jl, jle] at *; simp at *; omega) | (simp_all [bi, bcF, bsF, cst, sgn, opS]; intros; simp only [il, ile, jl, jle] at *; omega) | (simp_all [bi, bcF, bsF, cst, sgn, opS, -Int32.not_le, -Int32.not_lt, -Int64.not_le, -Int64.not_lt]; intros; simp only [il, ile, jl, jle] at *; omega)
      · refine go_aload_n 27 dX9_badSignal_26 rfl rfl ?_
        refine go_iload_n 28 dX9_badSignal_27 rfl rfl ?_
        refine g_callV 31 [.int _] [] dX9_badSignal_28 rfl (ct_X9_isSignal _ _) rfl sV_X9_badSignal_123 rfl ly_115 rfl rfl (Nat.le_of_ble_eq_true rfl) (Nat.le_of_ble_eq_true rfl) (Nat.le_of_ble_eq_true rfl) ?_
        refine go_if_ne 34 36 dX9_badSignal_31 rfl (by decide) (fun hc12 => ?_) (fun hc12 => ?_)
        · refine go_iload_n 37 dX9_badSignal_36 rfl rfl ?_
          refine go_iconst 38 (2) dX9_badSignal_37 rfl (by decide) ?_
          refine g_callS 41 [.int _, .int _] [] dX9_badSignal_38 rfl (ct_X9_isOperandSignal _ _ _) rfl sV_X9_badSignal_119 rfl (Nat.le_of_ble_eq_true rfl) (Nat.le_of_ble_eq_true rfl) (Nat.le_of_ble_eq_true rfl) ?_
          refine go_if_eq 44 57 dX9_badSignal_41 rfl (by decide) (fun hc13 => ?_) (fun hc13 => ?_)
          · refine go_iconst 58 (-1) dX9_badSignal_57 rfl (by decide) ?_
            refine go_ireturn dX9_badSignal_58 rfl (by first | rfl | exact bi_nar) (Nat.le_of_ble_eq_true rfl) (Nat.le_of_ble_eq_true rfl) ?_
            refine ⟨?_, rfl⟩
            (try simp only [cmp_lt, cmp_gt, cmp_le, cmp_ge, cmp_eq, bi0, bi1, Classical.not_not, Option.some.injEq, Value.int.injEq, Value.long.injEq] at *)
            first | (simp_all [bi, bcF, bsF, cst, sgn, opS]; done) | (simp_all [bi, bcF, bsF, cst, sgn, opS, -Int32.not_le, -Int32.not_lt, -Int64.not_le, -Int64.not_lt]; done) | (simp_all [bi, bcF, bsF, cst, sgn, opS]; intros; simp only [il, ile, jl, jle] at *; simp at *; omega) | (simp_all [bi, bcF, bsF, cst, sgn, opS]; intros; simp only [il, ile, jl, jle] at *; omega) | (simp_all [bi, bcF, bsF, cst, sgn, opS, -Int32.not_le, -Int32.not_lt, -Int64.not_le, -Int64.not_lt]; intros; simp only [il, ile, jl, jle] at *; omega)
          · refine go_aload_n 45 dX9_badSignal_44 rfl rfl ?_
            refine go_iload 47 dX9_badSignal_45 rfl rfl ?_
            refine g_callV 50 [.int _] [] dX9_badSignal_47 rfl (ct_X9_isSignal _ _) rfl sV_X9_badSignal_123 rfl ly_115 rfl rfl (Nat.le_of_ble_eq_true rfl) (Nat.le_of_ble_eq_true rfl) (Nat.le_of_ble_eq_true rfl) ?_
            refine go_if_ne 53 57 dX9_badSignal_50 rfl (by decide) (fun hc14 => ?_) (fun hc14 => ?_)
            · refine go_iconst 58 (-1) dX9_badSignal_57 rfl (by decide) ?_
              refine go_ireturn dX9_badSignal_58 rfl (by first | rfl | exact bi_nar) (Nat.le_of_ble_eq_true rfl) (Nat.le_of_ble_eq_true rfl) ?_
              refine ⟨?_, rfl⟩
              (try simp only [cmp_lt, cmp_gt, cmp_le, cmp_ge, cmp_eq, bi0, bi1, Classical.not_not, Option.some.injEq, Value.int.injEq, Value.long.injEq] at *)
              first | (simp_all [bi, bcF, bsF, cst, sgn, opS]; done) | (simp_all [bi, bcF, bsF, cst, sgn, opS, -Int32.not_le, -Int32.not_lt, -Int64.not_le, -Int64.not_lt]; done) | (simp_all [bi, bcF, bsF, cst, sgn, opS]; intros; simp only [il, ile, jl, jle] at *; simp at *; omega) | (simp_all [bi, bcF, bsF, cst, sgn, opS]; intros; simp only [il, ile, jl, jle] at *; omega) | (simp_all [bi, bcF, bsF, cst, sgn, opS, -Int32.not_le, -Int32.not_lt, -Int64.not_le, -Int64.not_lt]; intros; simp only [il, ile, jl, jle] at *; omega)
            · refine go_iconst 54 (2) dX9_badSignal_53 rfl (by decide) ?_
              refine go_goto 58 dX9_badSignal_54 (by decide) ?_
              refine go_ireturn dX9_badSignal_58 rfl (by first | rfl | exact bi_nar) (Nat.le_of_ble_eq_true rfl) (Nat.le_of_ble_eq_true rfl) ?_
              refine ⟨?_, rfl⟩
              (try simp only [cmp_lt, cmp_gt, cmp_le, cmp_ge, cmp_eq, bi0, bi1, Classical.not_not, Option.some.injEq, Value.int.injEq, Value.long.injEq] at *)
              first | (simp_all [bi, bcF, bsF, cst, sgn, opS]; done) | (simp_all [bi, bcF, bsF, cst, sgn, opS, -Int32.not_le, -Int32.not_lt, -Int64.not_le, -Int64.not_lt]; done) | (simp_all [bi, bcF, bsF, cst, sgn, opS]; intros; simp only [il, ile, jl, jle] at *; simp at *; omega) | (simp_all [bi, bcF, bsF, cst, sgn, opS]; intros; simp only [il, ile, jl, jle] at *; omega) | (simp_all [bi, bcF, bsF, cst, sgn, opS, -Int32.not_le, -Int32.not_lt, -Int64.not_le, -Int64.not_lt]; intros; simp only [il, ile, jl, jle] at *; omega)
        · refine go_iconst 35 (1) dX9_badSignal_34 rfl (by decide) ?_
          refine go_ireturn dX9_badSignal_35 rfl (by first | rfl | exact bi_nar) (Nat.le_of_ble_eq_true rfl) (Nat.le_of_ble_eq_true rfl) ?_
          refine ⟨?_, rfl⟩
          (try simp only [cmp_lt, cmp_gt, cmp_le, cmp_ge, cmp_eq, bi0, bi1, Classical.not_not, Option.some.injEq, Value.int.injEq, Value.long.injEq] at *)
          first | (simp_all [bi, bcF, bsF, cst, sgn, opS]; done) | (simp_all [bi, bcF, bsF, cst, sgn, opS, -Int32.not_le, -Int32.not_lt, -Int64.not_le, -Int64.not_lt]; done) | (simp_all [bi, bcF, bsF, cst, sgn, opS]; intros; simp only [il, ile, jl, jle] at *; simp at *; omega) | (simp_all [bi, bcF, bsF, cst, sgn, opS]; intros; simp only [il, ile, jl, jle] at *; omega) | (simp_all [bi, bcF, bsF, cst, sgn, opS, -Int32.not_le, -Int32.not_lt, -Int64.not_le, -Int64.not_lt]; intros; simp only [il, ile, jl, jle] at *; omega)
    · refine go_iconst 17 (0) dX9_badSignal_16 rfl (by decide) ?_
      refine go_ireturn dX9_badSignal_17 rfl (by first | rfl | exact bi_nar) (Nat.le_of_ble_eq_true rfl) (Nat.le_of_ble_eq_true rfl) ?_
      refine ⟨?_, rfl⟩
      (try simp only [cmp_lt, cmp_gt, cmp_le, cmp_ge, cmp_eq, bi0, bi1, Classical.not_not, Option.some.injEq, Value.int.injEq, Value.long.injEq] at *)
      first | (simp_all [bi, bcF, bsF, cst, sgn, opS]; done) | (simp_all [bi, bcF, bsF, cst, sgn, opS, -Int32.not_le, -Int32.not_lt, -Int64.not_le, -Int64.not_lt]; done) | (simp_all [bi, bcF, bsF, cst, sgn, opS]; intros; simp only [il, ile, jl, jle] at *; simp at *; omega) | (simp_all [bi, bcF, bsF, cst, sgn, opS]; intros; simp only [il, ile, jl, jle] at *; omega) | (simp_all [bi, bcF, bsF, cst, sgn, opS, -Int32.not_le, -Int32.not_lt, -Int64.not_le, -Int64.not_lt]; intros; simp only [il, ile, jl, jle] at *; omega)

def adF (S : gS) (is a c d : Int32) : gS := (wI (wI (wI (wI (wI (wI (wI (wI (wI S 116 (rI S 115 10).toNatClampNeg is) 117 (rI S 115 10).toNatClampNeg a) 118 (rI S 115 10).toNatClampNeg (if is = 1 ∨ is = 2 then 0 else c)) 119 (rI S 115 10).toNatClampNeg (if is = 12 then d else 0)) 120 (rI S 115 10).toNatClampNeg (if is = 2 then rI S 115 10 else -1)) 121 (rI S 115 10).toNatClampNeg 0) 122 (rI S 115 10).toNatClampNeg 0) 123 (rI S 115 10).toNatClampNeg a) 115 10 (rI S 115 10 + 1))
set_option maxRecDepth 100000 in
set_option maxHeartbeats 4000000 in
theorem ct_X9_adds (S : gS) (is a c d : Int32) (hm : vp_in (rI S 115 10) 24) : gF mX9_adds [.ref 115, .int is, .int a, .int c, .int d] S none (adF S is a c d) := by
  refine go_enter [.ref 115, .int is, .int a, .int c, .int d] [(0, .ref 115), (1, .int is), (2, .int a), (3, .int c), (4, .int d)] (by decide +kernel) rfl rfl (Nat.le_of_ble_eq_true rfl) rfl ?_
  refine go_aload_n 1 dX9_adds_0 rfl rfl ?_
  refine g_getR 4 dX9_adds_1 rfl fF_RX9_7 ly_115 rfl ?_
  refine go_aload_n 5 dX9_adds_4 rfl rfl ?_
  refine g_getI 8 dX9_adds_5 rfl fF_RX9_102 ly_115 rfl ?_
  refine go_iload_n 9 dX9_adds_8 rfl rfl ?_
  refine g_iast 10 dX9_adds_9 rfl ly_116 hm ?_
  refine go_aload_n 11 dX9_adds_10 rfl rfl ?_
  refine g_getR 14 dX9_adds_11 rfl fF_RX9_13 ly_115 rfl ?_
  refine go_aload_n 15 dX9_adds_14 rfl rfl ?_
  refine g_getI 18 dX9_adds_15 rfl fF_RX9_102 ly_115 rfl ?_
  refine go_iload_n 19 dX9_adds_18 rfl rfl ?_
  refine g_iast 20 dX9_adds_19 rfl ly_117 hm ?_
  refine go_aload_n 21 dX9_adds_20 rfl rfl ?_
  refine g_getR 24 dX9_adds_21 rfl fF_RX9_16 ly_115 rfl ?_
  refine go_aload_n 25 dX9_adds_24 rfl rfl ?_
  refine g_getI 28 dX9_adds_25 rfl fF_RX9_102 ly_115 rfl ?_
  refine go_iload_n 29 dX9_adds_28 rfl rfl ?_
  refine go_iconst 30 (1) dX9_adds_29 rfl (by decide) ?_
  refine go_icmp_eq 33 38 dX9_adds_30 rfl (by decide) (fun hc1 => ?_) (fun hc1 => ?_)
  · refine go_iconst 39 (0) dX9_adds_38 rfl (by decide) ?_
    refine go_goto 43 dX9_adds_39 (by decide) ?_
    refine g_iast 44 dX9_adds_43 rfl ly_118 hm ?_
    refine go_aload_n 45 dX9_adds_44 rfl rfl ?_
    refine g_getR 48 dX9_adds_45 rfl fF_RX9_19 ly_115 rfl ?_
    refine go_aload_n 49 dX9_adds_48 rfl rfl ?_
    refine g_getI 52 dX9_adds_49 rfl fF_RX9_102 ly_115 rfl ?_
    refine go_iload_n 53 dX9_adds_52 rfl rfl ?_
    refine go_bipush 55 (12) dX9_adds_53 rfl (by decide) ?_
    refine go_icmp_ne 58 63 dX9_adds_55 rfl (by decide) (fun hc2 => ?_) (fun hc2 => ?_)
    · refine go_iconst 64 (0) dX9_adds_63 rfl (by decide) ?_
      refine g_iast 65 dX9_adds_64 rfl ly_119 hm ?_
      refine go_aload_n 66 dX9_adds_65 rfl rfl ?_
      refine g_getR 69 dX9_adds_66 rfl fF_RX9_22 ly_115 rfl ?_
      refine go_aload_n 70 dX9_adds_69 rfl rfl ?_
      refine g_getI 73 dX9_adds_70 rfl fF_RX9_102 ly_115 rfl ?_
      refine go_iload_n 74 dX9_adds_73 rfl rfl ?_
      refine go_iconst 75 (2) dX9_adds_74 rfl (by decide) ?_
      refine go_icmp_ne 78 85 dX9_adds_75 rfl (by decide) (fun hc3 => ?_) (fun hc3 => ?_)
      · refine go_iconst 86 (-1) dX9_adds_85 rfl (by decide) ?_
        refine g_iast 87 dX9_adds_86 rfl ly_120 hm ?_
        refine go_aload_n 88 dX9_adds_87 rfl rfl ?_
        refine g_getR 91 dX9_adds_88 rfl fF_RX9_25 ly_115 rfl ?_
        refine go_aload_n 92 dX9_adds_91 rfl rfl ?_
        refine g_getI 95 dX9_adds_92 rfl fF_RX9_102 ly_115 rfl ?_
        refine go_iconst 96 (0) dX9_adds_95 rfl (by decide) ?_
        refine g_iast 97 dX9_adds_96 rfl ly_121 hm ?_
        refine go_aload_n 98 dX9_adds_97 rfl rfl ?_
        refine g_getR 101 dX9_adds_98 rfl fF_RX9_28 ly_115 rfl ?_
        refine go_aload_n 102 dX9_adds_101 rfl rfl ?_
        refine g_getI 105 dX9_adds_102 rfl fF_RX9_102 ly_115 rfl ?_
        refine go_iconst 106 (0) dX9_adds_105 rfl (by decide) ?_
        refine g_iast 107 dX9_adds_106 rfl ly_122 hm ?_
        refine go_aload_n 108 dX9_adds_107 rfl rfl ?_
        refine g_getR 111 dX9_adds_108 rfl fF_RX9_31 ly_115 rfl ?_
        refine go_aload_n 112 dX9_adds_111 rfl rfl ?_
        refine g_getI 115 dX9_adds_112 rfl fF_RX9_102 ly_115 rfl ?_
        refine go_iload_n 116 dX9_adds_115 rfl rfl ?_
        refine g_iast 117 dX9_adds_116 rfl ly_123 hm ?_
        refine go_aload_n 118 dX9_adds_117 rfl rfl ?_
        refine go_dup 119 dX9_adds_118 rfl rfl ?_
        refine g_getI 122 dX9_adds_119 rfl fF_RX9_102 ly_115 rfl ?_
        refine go_iconst 123 (1) dX9_adds_122 rfl (by decide) ?_
        refine go_iadd 124 dX9_adds_123 rfl ?_
        refine g_putI 127 dX9_adds_124 rfl fF_RX9_102 ly_115 rfl (fun q hq => by cases hq; rfl) rfl rfl ?_
        refine go_return dX9_adds_127 rfl (Nat.le_of_ble_eq_true rfl) (Nat.le_of_ble_eq_true rfl) ?_
        refine ⟨rfl, congrArg hp ?_⟩
        simp only [adF]
        simp_all
        first | rfl | done
      · refine go_aload_n 79 dX9_adds_78 rfl rfl ?_
        refine g_getI 82 dX9_adds_79 rfl fF_RX9_102 ly_115 rfl ?_
        refine go_goto 86 dX9_adds_82 (by decide) ?_
        refine g_iast 87 dX9_adds_86 rfl ly_120 hm ?_
        refine go_aload_n 88 dX9_adds_87 rfl rfl ?_
        refine g_getR 91 dX9_adds_88 rfl fF_RX9_25 ly_115 rfl ?_
        refine go_aload_n 92 dX9_adds_91 rfl rfl ?_
        refine g_getI 95 dX9_adds_92 rfl fF_RX9_102 ly_115 rfl ?_
        refine go_iconst 96 (0) dX9_adds_95 rfl (by decide) ?_
        refine g_iast 97 dX9_adds_96 rfl ly_121 hm ?_
        refine go_aload_n 98 dX9_adds_97 rfl rfl ?_
        refine g_getR 101 dX9_adds_98 rfl fF_RX9_28 ly_115 rfl ?_
        refine go_aload_n 102 dX9_adds_101 rfl rfl ?_
        refine g_getI 105 dX9_adds_102 rfl fF_RX9_102 ly_115 rfl ?_
        refine go_iconst 106 (0) dX9_adds_105 rfl (by decide) ?_
        refine g_iast 107 dX9_adds_106 rfl ly_122 hm ?_
        refine go_aload_n 108 dX9_adds_107 rfl rfl ?_
        refine g_getR 111 dX9_adds_108 rfl fF_RX9_31 ly_115 rfl ?_
        refine go_aload_n 112 dX9_adds_111 rfl rfl ?_
        refine g_getI 115 dX9_adds_112 rfl fF_RX9_102 ly_115 rfl ?_
        refine go_iload_n 116 dX9_adds_115 rfl rfl ?_
        refine g_iast 117 dX9_adds_116 rfl ly_123 hm ?_
        refine go_aload_n 118 dX9_adds_117 rfl rfl ?_
        refine go_dup 119 dX9_adds_118 rfl rfl ?_
        refine g_getI 122 dX9_adds_119 rfl fF_RX9_102 ly_115 rfl ?_
        refine go_iconst 123 (1) dX9_adds_122 rfl (by decide) ?_
        refine go_iadd 124 dX9_adds_123 rfl ?_
        refine g_putI 127 dX9_adds_124 rfl fF_RX9_102 ly_115 rfl (fun q hq => by cases hq; rfl) rfl rfl ?_
        refine go_return dX9_adds_127 rfl (Nat.le_of_ble_eq_true rfl) (Nat.le_of_ble_eq_true rfl) ?_
        refine ⟨rfl, congrArg hp ?_⟩
        simp only [adF]
        simp_all
        first | rfl | done
    · refine go_iload 60 dX9_adds_58 rfl rfl ?_
      refine go_goto 64 dX9_adds_60 (by decide) ?_
      refine g_iast 65 dX9_adds_64 rfl ly_119 hm ?_
      refine go_aload_n 66 dX9_adds_65 rfl rfl ?_
      refine g_getR 69 dX9_adds_66 rfl fF_RX9_22 ly_115 rfl ?_
      refine go_aload_n 70 dX9_adds_69 rfl rfl ?_
      refine g_getI 73 dX9_adds_70 rfl fF_RX9_102 ly_115 rfl ?_
      refine go_iload_n 74 dX9_adds_73 rfl rfl ?_
      refine go_iconst 75 (2) dX9_adds_74 rfl (by decide) ?_
      refine go_icmp_ne 78 85 dX9_adds_75 rfl (by decide) (fun hc4 => ?_) (fun hc4 => ?_)
      · refine go_iconst 86 (-1) dX9_adds_85 rfl (by decide) ?_
        refine g_iast 87 dX9_adds_86 rfl ly_120 hm ?_
        refine go_aload_n 88 dX9_adds_87 rfl rfl ?_
        refine g_getR 91 dX9_adds_88 rfl fF_RX9_25 ly_115 rfl ?_
        refine go_aload_n 92 dX9_adds_91 rfl rfl ?_
        refine g_getI 95 dX9_adds_92 rfl fF_RX9_102 ly_115 rfl ?_
        refine go_iconst 96 (0) dX9_adds_95 rfl (by decide) ?_
        refine g_iast 97 dX9_adds_96 rfl ly_121 hm ?_
        refine go_aload_n 98 dX9_adds_97 rfl rfl ?_
        refine g_getR 101 dX9_adds_98 rfl fF_RX9_28 ly_115 rfl ?_
        refine go_aload_n 102 dX9_adds_101 rfl rfl ?_
        refine g_getI 105 dX9_adds_102 rfl fF_RX9_102 ly_115 rfl ?_
        refine go_iconst 106 (0) dX9_adds_105 rfl (by decide) ?_
        refine g_iast 107 dX9_adds_106 rfl ly_122 hm ?_
        refine go_aload_n 108 dX9_adds_107 rfl rfl ?_
        refine g_getR 111 dX9_adds_108 rfl fF_RX9_31 ly_115 rfl ?_
        refine go_aload_n 112 dX9_adds_111 rfl rfl ?_
        refine g_getI 115 dX9_adds_112 rfl fF_RX9_102 ly_115 rfl ?_
        refine go_iload_n 116 dX9_adds_115 rfl rfl ?_
        refine g_iast 117 dX9_adds_116 rfl ly_123 hm ?_
        refine go_aload_n 118 dX9_adds_117 rfl rfl ?_
        refine go_dup 119 dX9_adds_118 rfl rfl ?_
        refine g_getI 122 dX9_adds_119 rfl fF_RX9_102 ly_115 rfl ?_
        refine go_iconst 123 (1) dX9_adds_122 rfl (by decide) ?_
        refine go_iadd 124 dX9_adds_123 rfl ?_
        refine g_putI 127 dX9_adds_124 rfl fF_RX9_102 ly_115 rfl (fun q hq => by cases hq; rfl) rfl rfl ?_
        refine go_return dX9_adds_127 rfl (Nat.le_of_ble_eq_true rfl) (Nat.le_of_ble_eq_true rfl) ?_
        refine ⟨rfl, congrArg hp ?_⟩
        simp only [adF]
        simp_all
        first | rfl | done
      · refine go_aload_n 79 dX9_adds_78 rfl rfl ?_
        refine g_getI 82 dX9_adds_79 rfl fF_RX9_102 ly_115 rfl ?_
        refine go_goto 86 dX9_adds_82 (by decide) ?_
        refine g_iast 87 dX9_adds_86 rfl ly_120 hm ?_
        refine go_aload_n 88 dX9_adds_87 rfl rfl ?_
        refine g_getR 91 dX9_adds_88 rfl fF_RX9_25 ly_115 rfl ?_
        refine go_aload_n 92 dX9_adds_91 rfl rfl ?_
        refine g_getI 95 dX9_adds_92 rfl fF_RX9_102 ly_115 rfl ?_
        refine go_iconst 96 (0) dX9_adds_95 rfl (by decide) ?_
        refine g_iast 97 dX9_adds_96 rfl ly_121 hm ?_
        refine go_aload_n 98 dX9_adds_97 rfl rfl ?_
        refine g_getR 101 dX9_adds_98 rfl fF_RX9_28 ly_115 rfl ?_
        refine go_aload_n 102 dX9_adds_101 rfl rfl ?_
        refine g_getI 105 dX9_adds_102 rfl fF_RX9_102 ly_115 rfl ?_
        refine go_iconst 106 (0) dX9_adds_105 rfl (by decide) ?_
        refine g_iast 107 dX9_adds_106 rfl ly_122 hm ?_
        refine go_aload_n 108 dX9_adds_107 rfl rfl ?_
        refine g_getR 111 dX9_adds_108 rfl fF_RX9_31 ly_115 rfl ?_
        refine go_aload_n 112 dX9_adds_111 rfl rfl ?_
        refine g_getI 115 dX9_adds_112 rfl fF_RX9_102 ly_115 rfl ?_
        refine go_iload_n 116 dX9_adds_115 rfl rfl ?_
        refine g_iast 117 dX9_adds_116 rfl ly_123 hm ?_
        refine go_aload_n 118 dX9_adds_117 rfl rfl ?_
        refine go_dup 119 dX9_adds_118 rfl rfl ?_
        refine g_getI 122 dX9_adds_119 rfl fF_RX9_102 ly_115 rfl ?_
        refine go_iconst 123 (1) dX9_adds_122 rfl (by decide) ?_
        refine go_iadd 124 dX9_adds_123 rfl ?_
        refine g_putI 127 dX9_adds_124 rfl fF_RX9_102 ly_115 rfl (fun q hq => by cases hq; rfl) rfl rfl ?_
        refine go_return dX9_adds_127 rfl (Nat.le_of_ble_eq_true rfl) (Nat.le_of_ble_eq_true rfl) ?_
        refine ⟨rfl, congrArg hp ?_⟩
        simp only [adF]
        simp_all
        first | rfl | done
  · refine go_iload_n 34 dX9_adds_33 rfl rfl ?_
    refine go_iconst 35 (2) dX9_adds_34 rfl (by decide) ?_
    refine go_icmp_ne 38 42 dX9_adds_35 rfl (by decide) (fun hc5 => ?_) (fun hc5 => ?_)
    · refine go_iload_n 43 dX9_adds_42 rfl rfl ?_
      refine g_iast 44 dX9_adds_43 rfl ly_118 hm ?_
      refine go_aload_n 45 dX9_adds_44 rfl rfl ?_
      refine g_getR 48 dX9_adds_45 rfl fF_RX9_19 ly_115 rfl ?_
      refine go_aload_n 49 dX9_adds_48 rfl rfl ?_
      refine g_getI 52 dX9_adds_49 rfl fF_RX9_102 ly_115 rfl ?_
      refine go_iload_n 53 dX9_adds_52 rfl rfl ?_
      refine go_bipush 55 (12) dX9_adds_53 rfl (by decide) ?_
      refine go_icmp_ne 58 63 dX9_adds_55 rfl (by decide) (fun hc6 => ?_) (fun hc6 => ?_)
      · refine go_iconst 64 (0) dX9_adds_63 rfl (by decide) ?_
        refine g_iast 65 dX9_adds_64 rfl ly_119 hm ?_
        refine go_aload_n 66 dX9_adds_65 rfl rfl ?_
        refine g_getR 69 dX9_adds_66 rfl fF_RX9_22 ly_115 rfl ?_
        refine go_aload_n 70 dX9_adds_69 rfl rfl ?_
        refine g_getI 73 dX9_adds_70 rfl fF_RX9_102 ly_115 rfl ?_
        refine go_iload_n 74 dX9_adds_73 rfl rfl ?_
        refine go_iconst 75 (2) dX9_adds_74 rfl (by decide) ?_
        refine go_icmp_ne 78 85 dX9_adds_75 rfl (by decide) (fun hc7 => ?_) (fun hc7 => ?_)
        · refine go_iconst 86 (-1) dX9_adds_85 rfl (by decide) ?_
          refine g_iast 87 dX9_adds_86 rfl ly_120 hm ?_
          refine go_aload_n 88 dX9_adds_87 rfl rfl ?_
          refine g_getR 91 dX9_adds_88 rfl fF_RX9_25 ly_115 rfl ?_
          refine go_aload_n 92 dX9_adds_91 rfl rfl ?_
          refine g_getI 95 dX9_adds_92 rfl fF_RX9_102 ly_115 rfl ?_
          refine go_iconst 96 (0) dX9_adds_95 rfl (by decide) ?_
          refine g_iast 97 dX9_adds_96 rfl ly_121 hm ?_
          refine go_aload_n 98 dX9_adds_97 rfl rfl ?_
          refine g_getR 101 dX9_adds_98 rfl fF_RX9_28 ly_115 rfl ?_
          refine go_aload_n 102 dX9_adds_101 rfl rfl ?_
          refine g_getI 105 dX9_adds_102 rfl fF_RX9_102 ly_115 rfl ?_
          refine go_iconst 106 (0) dX9_adds_105 rfl (by decide) ?_
          refine g_iast 107 dX9_adds_106 rfl ly_122 hm ?_
          refine go_aload_n 108 dX9_adds_107 rfl rfl ?_
          refine g_getR 111 dX9_adds_108 rfl fF_RX9_31 ly_115 rfl ?_
          refine go_aload_n 112 dX9_adds_111 rfl rfl ?_
          refine g_getI 115 dX9_adds_112 rfl fF_RX9_102 ly_115 rfl ?_
          refine go_iload_n 116 dX9_adds_115 rfl rfl ?_
          refine g_iast 117 dX9_adds_116 rfl ly_123 hm ?_
          refine go_aload_n 118 dX9_adds_117 rfl rfl ?_
          refine go_dup 119 dX9_adds_118 rfl rfl ?_
          refine g_getI 122 dX9_adds_119 rfl fF_RX9_102 ly_115 rfl ?_
          refine go_iconst 123 (1) dX9_adds_122 rfl (by decide) ?_
          refine go_iadd 124 dX9_adds_123 rfl ?_
          refine g_putI 127 dX9_adds_124 rfl fF_RX9_102 ly_115 rfl (fun q hq => by cases hq; rfl) rfl rfl ?_
          refine go_return dX9_adds_127 rfl (Nat.le_of_ble_eq_true rfl) (Nat.le_of_ble_eq_true rfl) ?_
          refine ⟨rfl, congrArg hp ?_⟩
          simp only [adF]
          simp_all
          first | rfl | done
        · refine go_aload_n 79 dX9_adds_78 rfl rfl ?_
          refine g_getI 82 dX9_adds_79 rfl fF_RX9_102 ly_115 rfl ?_
          refine go_goto 86 dX9_adds_82 (by decide) ?_
          refine g_iast 87 dX9_adds_86 rfl ly_120 hm ?_
          refine go_aload_n 88 dX9_adds_87 rfl rfl ?_
          refine g_getR 91 dX9_adds_88 rfl fF_RX9_25 ly_115 rfl ?_
          refine go_aload_n 92 dX9_adds_91 rfl rfl ?_
          refine g_getI 95 dX9_adds_92 rfl fF_RX9_102 ly_115 rfl ?_
          refine go_iconst 96 (0) dX9_adds_95 rfl (by decide) ?_
          refine g_iast 97 dX9_adds_96 rfl ly_121 hm ?_
          refine go_aload_n 98 dX9_adds_97 rfl rfl ?_
          refine g_getR 101 dX9_adds_98 rfl fF_RX9_28 ly_115 rfl ?_
          refine go_aload_n 102 dX9_adds_101 rfl rfl ?_
          refine g_getI 105 dX9_adds_102 rfl fF_RX9_102 ly_115 rfl ?_
          refine go_iconst 106 (0) dX9_adds_105 rfl (by decide) ?_
          refine g_iast 107 dX9_adds_106 rfl ly_122 hm ?_
          refine go_aload_n 108 dX9_adds_107 rfl rfl ?_
          refine g_getR 111 dX9_adds_108 rfl fF_RX9_31 ly_115 rfl ?_
          refine go_aload_n 112 dX9_adds_111 rfl rfl ?_
          refine g_getI 115 dX9_adds_112 rfl fF_RX9_102 ly_115 rfl ?_
          refine go_iload_n 116 dX9_adds_115 rfl rfl ?_
          refine g_iast 117 dX9_adds_116 rfl ly_123 hm ?_
          refine go_aload_n 118 dX9_adds_117 rfl rfl ?_
          refine go_dup 119 dX9_adds_118 rfl rfl ?_
          refine g_getI 122 dX9_adds_119 rfl fF_RX9_102 ly_115 rfl ?_
          refine go_iconst 123 (1) dX9_adds_122 rfl (by decide) ?_
          refine go_iadd 124 dX9_adds_123 rfl ?_
          refine g_putI 127 dX9_adds_124 rfl fF_RX9_102 ly_115 rfl (fun q hq => by cases hq; rfl) rfl rfl ?_
          refine go_return dX9_adds_127 rfl (Nat.le_of_ble_eq_true rfl) (Nat.le_of_ble_eq_true rfl) ?_
          refine ⟨rfl, congrArg hp ?_⟩
          simp only [adF]
          simp_all
          first | rfl | done
      · refine go_iload 60 dX9_adds_58 rfl rfl ?_
        refine go_goto 64 dX9_adds_60 (by decide) ?_
        refine g_iast 65 dX9_adds_64 rfl ly_119 hm ?_
        refine go_aload_n 66 dX9_adds_65 rfl rfl ?_
        refine g_getR 69 dX9_adds_66 rfl fF_RX9_22 ly_115 rfl ?_
        refine go_aload_n 70 dX9_adds_69 rfl rfl ?_
        refine g_getI 73 dX9_adds_70 rfl fF_RX9_102 ly_115 rfl ?_
        refine go_iload_n 74 dX9_adds_73 rfl rfl ?_
        refine go_iconst 75 (2) dX9_adds_74 rfl (by decide) ?_
        refine go_icmp_ne 78 85 dX9_adds_75 rfl (by decide) (fun hc8 => ?_) (fun hc8 => ?_)
        · refine go_iconst 86 (-1) dX9_adds_85 rfl (by decide) ?_
          refine g_iast 87 dX9_adds_86 rfl ly_120 hm ?_
          refine go_aload_n 88 dX9_adds_87 rfl rfl ?_
          refine g_getR 91 dX9_adds_88 rfl fF_RX9_25 ly_115 rfl ?_
          refine go_aload_n 92 dX9_adds_91 rfl rfl ?_
          refine g_getI 95 dX9_adds_92 rfl fF_RX9_102 ly_115 rfl ?_
          refine go_iconst 96 (0) dX9_adds_95 rfl (by decide) ?_
          refine g_iast 97 dX9_adds_96 rfl ly_121 hm ?_
          refine go_aload_n 98 dX9_adds_97 rfl rfl ?_
          refine g_getR 101 dX9_adds_98 rfl fF_RX9_28 ly_115 rfl ?_
          refine go_aload_n 102 dX9_adds_101 rfl rfl ?_
          refine g_getI 105 dX9_adds_102 rfl fF_RX9_102 ly_115 rfl ?_
          refine go_iconst 106 (0) dX9_adds_105 rfl (by decide) ?_
          refine g_iast 107 dX9_adds_106 rfl ly_122 hm ?_
          refine go_aload_n 108 dX9_adds_107 rfl rfl ?_
          refine g_getR 111 dX9_adds_108 rfl fF_RX9_31 ly_115 rfl ?_
          refine go_aload_n 112 dX9_adds_111 rfl rfl ?_
          refine g_getI 115 dX9_adds_112 rfl fF_RX9_102 ly_115 rfl ?_
          refine go_iload_n 116 dX9_adds_115 rfl rfl ?_
          refine g_iast 117 dX9_adds_116 rfl ly_123 hm ?_
          refine go_aload_n 118 dX9_adds_117 rfl rfl ?_
          refine go_dup 119 dX9_adds_118 rfl rfl ?_
          refine g_getI 122 dX9_adds_119 rfl fF_RX9_102 ly_115 rfl ?_
          refine go_iconst 123 (1) dX9_adds_122 rfl (by decide) ?_
          refine go_iadd 124 dX9_adds_123 rfl ?_
          refine g_putI 127 dX9_adds_124 rfl fF_RX9_102 ly_115 rfl (fun q hq => by cases hq; rfl) rfl rfl ?_
          refine go_return dX9_adds_127 rfl (Nat.le_of_ble_eq_true rfl) (Nat.le_of_ble_eq_true rfl) ?_
          refine ⟨rfl, congrArg hp ?_⟩
          simp only [adF]
          simp_all
          first | rfl | done
        · refine go_aload_n 79 dX9_adds_78 rfl rfl ?_
          refine g_getI 82 dX9_adds_79 rfl fF_RX9_102 ly_115 rfl ?_
          refine go_goto 86 dX9_adds_82 (by decide) ?_
          refine g_iast 87 dX9_adds_86 rfl ly_120 hm ?_
          refine go_aload_n 88 dX9_adds_87 rfl rfl ?_
          refine g_getR 91 dX9_adds_88 rfl fF_RX9_25 ly_115 rfl ?_
          refine go_aload_n 92 dX9_adds_91 rfl rfl ?_
          refine g_getI 95 dX9_adds_92 rfl fF_RX9_102 ly_115 rfl ?_
          refine go_iconst 96 (0) dX9_adds_95 rfl (by decide) ?_
          refine g_iast 97 dX9_adds_96 rfl ly_121 hm ?_
          refine go_aload_n 98 dX9_adds_97 rfl rfl ?_
          refine g_getR 101 dX9_adds_98 rfl fF_RX9_28 ly_115 rfl ?_
          refine go_aload_n 102 dX9_adds_101 rfl rfl ?_
          refine g_getI 105 dX9_adds_102 rfl fF_RX9_102 ly_115 rfl ?_
          refine go_iconst 106 (0) dX9_adds_105 rfl (by decide) ?_
          refine g_iast 107 dX9_adds_106 rfl ly_122 hm ?_
          refine go_aload_n 108 dX9_adds_107 rfl rfl ?_
          refine g_getR 111 dX9_adds_108 rfl fF_RX9_31 ly_115 rfl ?_
          refine go_aload_n 112 dX9_adds_111 rfl rfl ?_
          refine g_getI 115 dX9_adds_112 rfl fF_RX9_102 ly_115 rfl ?_
          refine go_iload_n 116 dX9_adds_115 rfl rfl ?_
          refine g_iast 117 dX9_adds_116 rfl ly_123 hm ?_
          refine go_aload_n 118 dX9_adds_117 rfl rfl ?_
          refine go_dup 119 dX9_adds_118 rfl rfl ?_
          refine g_getI 122 dX9_adds_119 rfl fF_RX9_102 ly_115 rfl ?_
          refine go_iconst 123 (1) dX9_adds_122 rfl (by decide) ?_
          refine go_iadd 124 dX9_adds_123 rfl ?_
          refine g_putI 127 dX9_adds_124 rfl fF_RX9_102 ly_115 rfl (fun q hq => by cases hq; rfl) rfl rfl ?_
          refine go_return dX9_adds_127 rfl (Nat.le_of_ble_eq_true rfl) (Nat.le_of_ble_eq_true rfl) ?_
          refine ⟨rfl, congrArg hp ?_⟩
          simp only [adF]
          simp_all
          first | rfl | done
    · refine go_iconst 39 (0) dX9_adds_38 rfl (by decide) ?_
      refine go_goto 43 dX9_adds_39 (by decide) ?_
      refine g_iast 44 dX9_adds_43 rfl ly_118 hm ?_
      refine go_aload_n 45 dX9_adds_44 rfl rfl ?_
      refine g_getR 48 dX9_adds_45 rfl fF_RX9_19 ly_115 rfl ?_
      refine go_aload_n 49 dX9_adds_48 rfl rfl ?_
      refine g_getI 52 dX9_adds_49 rfl fF_RX9_102 ly_115 rfl ?_
      refine go_iload_n 53 dX9_adds_52 rfl rfl ?_
      refine go_bipush 55 (12) dX9_adds_53 rfl (by decide) ?_
      refine go_icmp_ne 58 63 dX9_adds_55 rfl (by decide) (fun hc9 => ?_) (fun hc9 => ?_)
      · refine go_iconst 64 (0) dX9_adds_63 rfl (by decide) ?_
        refine g_iast 65 dX9_adds_64 rfl ly_119 hm ?_
        refine go_aload_n 66 dX9_adds_65 rfl rfl ?_
        refine g_getR 69 dX9_adds_66 rfl fF_RX9_22 ly_115 rfl ?_
        refine go_aload_n 70 dX9_adds_69 rfl rfl ?_
        refine g_getI 73 dX9_adds_70 rfl fF_RX9_102 ly_115 rfl ?_
        refine go_iload_n 74 dX9_adds_73 rfl rfl ?_
        refine go_iconst 75 (2) dX9_adds_74 rfl (by decide) ?_
        refine go_icmp_ne 78 85 dX9_adds_75 rfl (by decide) (fun hc10 => ?_) (fun hc10 => ?_)
        · refine go_iconst 86 (-1) dX9_adds_85 rfl (by decide) ?_
          refine g_iast 87 dX9_adds_86 rfl ly_120 hm ?_
          refine go_aload_n 88 dX9_adds_87 rfl rfl ?_
          refine g_getR 91 dX9_adds_88 rfl fF_RX9_25 ly_115 rfl ?_
          refine go_aload_n 92 dX9_adds_91 rfl rfl ?_
          refine g_getI 95 dX9_adds_92 rfl fF_RX9_102 ly_115 rfl ?_
          refine go_iconst 96 (0) dX9_adds_95 rfl (by decide) ?_
          refine g_iast 97 dX9_adds_96 rfl ly_121 hm ?_
          refine go_aload_n 98 dX9_adds_97 rfl rfl ?_
          refine g_getR 101 dX9_adds_98 rfl fF_RX9_28 ly_115 rfl ?_
          refine go_aload_n 102 dX9_adds_101 rfl rfl ?_
          refine g_getI 105 dX9_adds_102 rfl fF_RX9_102 ly_115 rfl ?_
          refine go_iconst 106 (0) dX9_adds_105 rfl (by decide) ?_
          refine g_iast 107 dX9_adds_106 rfl ly_122 hm ?_
          refine go_aload_n 108 dX9_adds_107 rfl rfl ?_
          refine g_getR 111 dX9_adds_108 rfl fF_RX9_31 ly_115 rfl ?_
          refine go_aload_n 112 dX9_adds_111 rfl rfl ?_
          refine g_getI 115 dX9_adds_112 rfl fF_RX9_102 ly_115 rfl ?_
          refine go_iload_n 116 dX9_adds_115 rfl rfl ?_
          refine g_iast 117 dX9_adds_116 rfl ly_123 hm ?_
          refine go_aload_n 118 dX9_adds_117 rfl rfl ?_
          refine go_dup 119 dX9_adds_118 rfl rfl ?_
          refine g_getI 122 dX9_adds_119 rfl fF_RX9_102 ly_115 rfl ?_
          refine go_iconst 123 (1) dX9_adds_122 rfl (by decide) ?_
          refine go_iadd 124 dX9_adds_123 rfl ?_
          refine g_putI 127 dX9_adds_124 rfl fF_RX9_102 ly_115 rfl (fun q hq => by cases hq; rfl) rfl rfl ?_
          refine go_return dX9_adds_127 rfl (Nat.le_of_ble_eq_true rfl) (Nat.le_of_ble_eq_true rfl) ?_
          refine ⟨rfl, congrArg hp ?_⟩
          simp only [adF]
          simp_all
          first | rfl | done
        · refine go_aload_n 79 dX9_adds_78 rfl rfl ?_
          refine g_getI 82 dX9_adds_79 rfl fF_RX9_102 ly_115 rfl ?_
          refine go_goto 86 dX9_adds_82 (by decide) ?_
          refine g_iast 87 dX9_adds_86 rfl ly_120 hm ?_
          refine go_aload_n 88 dX9_adds_87 rfl rfl ?_
          refine g_getR 91 dX9_adds_88 rfl fF_RX9_25 ly_115 rfl ?_
          refine go_aload_n 92 dX9_adds_91 rfl rfl ?_
          refine g_getI 95 dX9_adds_92 rfl fF_RX9_102 ly_115 rfl ?_
          refine go_iconst 96 (0) dX9_adds_95 rfl (by decide) ?_
          refine g_iast 97 dX9_adds_96 rfl ly_121 hm ?_
          refine go_aload_n 98 dX9_adds_97 rfl rfl ?_
          refine g_getR 101 dX9_adds_98 rfl fF_RX9_28 ly_115 rfl ?_
          refine go_aload_n 102 dX9_adds_101 rfl rfl ?_
          refine g_getI 105 dX9_adds_102 rfl fF_RX9_102 ly_115 rfl ?_
          refine go_iconst 106 (0) dX9_adds_105 rfl (by decide) ?_
          refine g_iast 107 dX9_adds_106 rfl ly_122 hm ?_
          refine go_aload_n 108 dX9_adds_107 rfl rfl ?_
          refine g_getR 111 dX9_adds_108 rfl fF_RX9_31 ly_115 rfl ?_
          refine go_aload_n 112 dX9_adds_111 rfl rfl ?_
          refine g_getI 115 dX9_adds_112 rfl fF_RX9_102 ly_115 rfl ?_
          refine go_iload_n 116 dX9_adds_115 rfl rfl ?_
          refine g_iast 117 dX9_adds_116 rfl ly_123 hm ?_
          refine go_aload_n 118 dX9_adds_117 rfl rfl ?_
          refine go_dup 119 dX9_adds_118 rfl rfl ?_
          refine g_getI 122 dX9_adds_119 rfl fF_RX9_102 ly_115 rfl ?_
          refine go_iconst 123 (1) dX9_adds_122 rfl (by decide) ?_
          refine go_iadd 124 dX9_adds_123 rfl ?_
          refine g_putI 127 dX9_adds_124 rfl fF_RX9_102 ly_115 rfl (fun q hq => by cases hq; rfl) rfl rfl ?_
          refine go_return dX9_adds_127 rfl (Nat.le_of_ble_eq_true rfl) (Nat.le_of_ble_eq_true rfl) ?_
          refine ⟨rfl, congrArg hp ?_⟩
          simp only [adF]
          simp_all
          first | rfl | done
      · refine go_iload 60 dX9_adds_58 rfl rfl ?_
        refine go_goto 64 dX9_adds_60 (by decide) ?_
        refine g_iast 65 dX9_adds_64 rfl ly_119 hm ?_
        refine go_aload_n 66 dX9_adds_65 rfl rfl ?_
        refine g_getR 69 dX9_adds_66 rfl fF_RX9_22 ly_115 rfl ?_
        refine go_aload_n 70 dX9_adds_69 rfl rfl ?_
        refine g_getI 73 dX9_adds_70 rfl fF_RX9_102 ly_115 rfl ?_
        refine go_iload_n 74 dX9_adds_73 rfl rfl ?_
        refine go_iconst 75 (2) dX9_adds_74 rfl (by decide) ?_
        refine go_icmp_ne 78 85 dX9_adds_75 rfl (by decide) (fun hc11 => ?_) (fun hc11 => ?_)
        · refine go_iconst 86 (-1) dX9_adds_85 rfl (by decide) ?_
          refine g_iast 87 dX9_adds_86 rfl ly_120 hm ?_
          refine go_aload_n 88 dX9_adds_87 rfl rfl ?_
          refine g_getR 91 dX9_adds_88 rfl fF_RX9_25 ly_115 rfl ?_
          refine go_aload_n 92 dX9_adds_91 rfl rfl ?_
          refine g_getI 95 dX9_adds_92 rfl fF_RX9_102 ly_115 rfl ?_
          refine go_iconst 96 (0) dX9_adds_95 rfl (by decide) ?_
          refine g_iast 97 dX9_adds_96 rfl ly_121 hm ?_
          refine go_aload_n 98 dX9_adds_97 rfl rfl ?_
          refine g_getR 101 dX9_adds_98 rfl fF_RX9_28 ly_115 rfl ?_
          refine go_aload_n 102 dX9_adds_101 rfl rfl ?_
          refine g_getI 105 dX9_adds_102 rfl fF_RX9_102 ly_115 rfl ?_
          refine go_iconst 106 (0) dX9_adds_105 rfl (by decide) ?_
          refine g_iast 107 dX9_adds_106 rfl ly_122 hm ?_
          refine go_aload_n 108 dX9_adds_107 rfl rfl ?_
          refine g_getR 111 dX9_adds_108 rfl fF_RX9_31 ly_115 rfl ?_
          refine go_aload_n 112 dX9_adds_111 rfl rfl ?_
          refine g_getI 115 dX9_adds_112 rfl fF_RX9_102 ly_115 rfl ?_
          refine go_iload_n 116 dX9_adds_115 rfl rfl ?_
          refine g_iast 117 dX9_adds_116 rfl ly_123 hm ?_
          refine go_aload_n 118 dX9_adds_117 rfl rfl ?_
          refine go_dup 119 dX9_adds_118 rfl rfl ?_
          refine g_getI 122 dX9_adds_119 rfl fF_RX9_102 ly_115 rfl ?_
          refine go_iconst 123 (1) dX9_adds_122 rfl (by decide) ?_
          refine go_iadd 124 dX9_adds_123 rfl ?_
          refine g_putI 127 dX9_adds_124 rfl fF_RX9_102 ly_115 rfl (fun q hq => by cases hq; rfl) rfl rfl ?_
          refine go_return dX9_adds_127 rfl (Nat.le_of_ble_eq_true rfl) (Nat.le_of_ble_eq_true rfl) ?_
          refine ⟨rfl, congrArg hp ?_⟩
          simp only [adF]
          simp_all
          first | rfl | done
        · refine go_aload_n 79 dX9_adds_78 rfl rfl ?_
          refine g_getI 82 dX9_adds_79 rfl fF_RX9_102 ly_115 rfl ?_
          refine go_goto 86 dX9_adds_82 (by decide) ?_
          refine g_iast 87 dX9_adds_86 rfl ly_120 hm ?_
          refine go_aload_n 88 dX9_adds_87 rfl rfl ?_
          refine g_getR 91 dX9_adds_88 rfl fF_RX9_25 ly_115 rfl ?_
          refine go_aload_n 92 dX9_adds_91 rfl rfl ?_
          refine g_getI 95 dX9_adds_92 rfl fF_RX9_102 ly_115 rfl ?_
          refine go_iconst 96 (0) dX9_adds_95 rfl (by decide) ?_
          refine g_iast 97 dX9_adds_96 rfl ly_121 hm ?_
          refine go_aload_n 98 dX9_adds_97 rfl rfl ?_
          refine g_getR 101 dX9_adds_98 rfl fF_RX9_28 ly_115 rfl ?_
          refine go_aload_n 102 dX9_adds_101 rfl rfl ?_
          refine g_getI 105 dX9_adds_102 rfl fF_RX9_102 ly_115 rfl ?_
          refine go_iconst 106 (0) dX9_adds_105 rfl (by decide) ?_
          refine g_iast 107 dX9_adds_106 rfl ly_122 hm ?_
          refine go_aload_n 108 dX9_adds_107 rfl rfl ?_
          refine g_getR 111 dX9_adds_108 rfl fF_RX9_31 ly_115 rfl ?_
          refine go_aload_n 112 dX9_adds_111 rfl rfl ?_
          refine g_getI 115 dX9_adds_112 rfl fF_RX9_102 ly_115 rfl ?_
          refine go_iload_n 116 dX9_adds_115 rfl rfl ?_
          refine g_iast 117 dX9_adds_116 rfl ly_123 hm ?_
          refine go_aload_n 118 dX9_adds_117 rfl rfl ?_
          refine go_dup 119 dX9_adds_118 rfl rfl ?_
          refine g_getI 122 dX9_adds_119 rfl fF_RX9_102 ly_115 rfl ?_
          refine go_iconst 123 (1) dX9_adds_122 rfl (by decide) ?_
          refine go_iadd 124 dX9_adds_123 rfl ?_
          refine g_putI 127 dX9_adds_124 rfl fF_RX9_102 ly_115 rfl (fun q hq => by cases hq; rfl) rfl rfl ?_
          refine go_return dX9_adds_127 rfl (Nat.le_of_ble_eq_true rfl) (Nat.le_of_ble_eq_true rfl) ?_
          refine ⟨rfl, congrArg hp ?_⟩
          simp only [adF]
          simp_all
          first | rfl | done

def rsF (S : gS) (i : Nat) : gS := wR (wR (wI (wI S 115 15 0) 115 11 0) 123 (fun c => if c < i ∧ rI S 116 c = 2 then rI S 117 c else rI S 123 c)) 124 (fun c => if c < i ∧ rI S 116 c = 2 then rI S 117 c else rI S 124 c)
set_option maxRecDepth 100000 in
set_option maxHeartbeats 4000000 in
theorem lp_X9_restarts (S : gS) (n : Nat) (hn : rI S 115 10 = nI n) (h24 : n ≤ 24) : ∀ i, i ≤ n → Go mX9_restarts false (go_Qm mX9_restarts false (fun v h => v = none ∧ h = hp (rsF S n)) go_no) 0 0 12 [(1, .int (nI i)), (0, .ref 115)] [] (hp (rsF S i)) := by
  refine g_dn _ n (fun i hi ih => ?_)
  have hcl := nI_c (n := i) (by omega)
  refine go_iload_n 13 dX9_restarts_12 rfl rfl ?_
  refine go_aload_n 14 dX9_restarts_13 rfl rfl ?_
  refine g_getI 17 dX9_restarts_14 rfl fF_RX9_102 ly_115 rfl ?_
  refine go_icmp_ge 20 63 dX9_restarts_17 rfl (by decide) (fun hc1 => ?_) (fun hc1 => ?_)
  · refine go_return dX9_restarts_63 rfl (Nat.le_of_ble_eq_true rfl) (Nat.le_of_ble_eq_true rfl) ?_
    have hv : i = n := by
      have h9 : rI S 115 10 ≤ nI i := hc1
      rw [hn, nI_le2 (by omega) (by omega)] at h9
      omega
    subst hv
    exact ⟨rfl, rfl⟩
  · have hv : i < n := by
      have h9 : ¬ rI S 115 10 ≤ nI i := hc1
      rw [hn, nI_le2 (by omega) (by omega)] at h9
      omega
    refine go_aload_n 21 dX9_restarts_20 rfl rfl ?_
    refine g_getR 24 dX9_restarts_21 rfl fF_RX9_7 ly_115 rfl ?_
    refine go_iload_n 25 dX9_restarts_24 rfl rfl ?_
    refine g_iald 26 dX9_restarts_25 rfl ly_116 (nI_i (by have := hv; omega) (by omega)) ?_
    refine go_iconst 27 (2) dX9_restarts_26 rfl (by decide) ?_
    refine go_icmp_eq 30 33 dX9_restarts_27 rfl (by decide) (fun hc2 => ?_) (fun hc2 => ?_)
    · refine go_aload_n 34 dX9_restarts_33 rfl rfl ?_
      refine g_getR 37 dX9_restarts_34 rfl fF_RX9_31 ly_115 rfl ?_
      refine go_iload_n 38 dX9_restarts_37 rfl rfl ?_
      refine go_aload_n 39 dX9_restarts_38 rfl rfl ?_
      refine g_getR 42 dX9_restarts_39 rfl fF_RX9_13 ly_115 rfl ?_
      refine go_iload_n 43 dX9_restarts_42 rfl rfl ?_
      refine g_iald 44 dX9_restarts_43 rfl ly_117 (nI_i (by have := hv; omega) (by omega)) ?_
      refine g_iast 45 dX9_restarts_44 rfl ly_123 (nI_i (by have := hv; omega) (by omega)) ?_
      refine go_aload_n 46 dX9_restarts_45 rfl rfl ?_
      refine g_getR 49 dX9_restarts_46 rfl fF_RX9_34 ly_115 rfl ?_
      refine go_iload_n 50 dX9_restarts_49 rfl rfl ?_
      refine go_aload_n 51 dX9_restarts_50 rfl rfl ?_
      refine g_getR 54 dX9_restarts_51 rfl fF_RX9_13 ly_115 rfl ?_
      refine go_iload_n 55 dX9_restarts_54 rfl rfl ?_
      refine g_iald 56 dX9_restarts_55 rfl ly_117 (nI_i (by have := hv; omega) (by omega)) ?_
      refine g_iast 57 dX9_restarts_56 rfl ly_124 (nI_i (by have := hv; omega) (by omega)) ?_
      refine go_iinc 60 [(1, .int _), (0, .ref 115)] (nI (i + 1)) dX9_restarts_57 rfl (Nat.le_of_ble_eq_true rfl) rfl (nI_inc i) rfl ?_
      refine go_goto 12 dX9_restarts_60 (by decide) ?_
      refine g_st ?_ (ih (by omega))
      simp [rsF, rI_wI, rI_wR, hcl] at hc2
      unfold rsF
      refine gS_ext (fun a c => ?_) (fun a c => ?_) (fun a c => ?_)
      · clear ih
        by_cases hci : c = i
        · subst hci
          have hl1 : c < c + 1 := Nat.lt_succ_self c
          have hl2 : ¬ c < c := Nat.lt_irrefl c
          simp only [rI_wI, rI_wR, rI_wL, rI_wD, rL_wI, rL_wR, rL_wL, rL_wD, rD_wI, rD_wR, rD_wL, rD_wD, *] <;> (try rfl) <;> (repeat' split) <;> simp_all <;> (try omega)
        · have hl1 : c < i + 1 ↔ c < i := by omega
          simp only [rI_wI, rI_wR, rI_wL, rI_wD, rL_wI, rL_wR, rL_wL, rL_wD, rD_wI, rD_wR, rD_wL, rD_wD, *] <;> (try rfl) <;> (repeat' split) <;> simp_all <;> (try omega)
      · rfl
      · rfl
    · refine go_goto 57 dX9_restarts_30 (by decide) ?_
      refine go_iinc 60 [(1, .int _), (0, .ref 115)] (nI (i + 1)) dX9_restarts_57 rfl (Nat.le_of_ble_eq_true rfl) rfl (nI_inc i) rfl ?_
      refine go_goto 12 dX9_restarts_60 (by decide) ?_
      refine g_st ?_ (ih (by omega))
      simp [rsF, rI_wI, rI_wR, hcl] at hc2
      unfold rsF
      refine gS_ext (fun a c => ?_) (fun a c => ?_) (fun a c => ?_)
      · clear ih
        by_cases hci : c = i
        · subst hci
          have hl1 : c < c + 1 := Nat.lt_succ_self c
          have hl2 : ¬ c < c := Nat.lt_irrefl c
          simp only [rI_wI, rI_wR, rI_wL, rI_wD, rL_wI, rL_wR, rL_wL, rL_wD, rD_wI, rD_wR, rD_wL, rD_wD, *] <;> (try rfl) <;> (repeat' split) <;> simp_all <;> (try omega)
        · have hl1 : c < i + 1 ↔ c < i := by omega
          simp only [rI_wI, rI_wR, rI_wL, rI_wD, rL_wI, rL_wR, rL_wL, rL_wD, rD_wI, rD_wR, rD_wL, rD_wD, *] <;> (try rfl) <;> (repeat' split) <;> simp_all <;> (try omega)
      · rfl
      · rfl

set_option maxRecDepth 100000 in
set_option maxHeartbeats 4000000 in
theorem ct_X9_restarts (S : gS) (n : Nat) (hn : rI S 115 10 = nI n) (h24 : n ≤ 24) : gF mX9_restarts [.ref 115] S none (rsF S n) := by
  refine go_enter [.ref 115] [(0, .ref 115)] (by decide +kernel) rfl rfl (Nat.le_of_ble_eq_true rfl) rfl ?_
  refine go_aload_n 1 dX9_restarts_0 rfl rfl ?_
  refine go_iconst 2 (0) dX9_restarts_1 rfl (by decide) ?_
  refine g_putI 5 dX9_restarts_2 rfl fF_RX9_227 ly_115 rfl (fun q hq => by cases hq; rfl) rfl rfl ?_
  refine go_aload_n 6 dX9_restarts_5 rfl rfl ?_
  refine go_iconst 7 (0) dX9_restarts_6 rfl (by decide) ?_
  refine g_putI 10 dX9_restarts_7 rfl fF_RX9_283 ly_115 rfl (fun q hq => by cases hq; rfl) rfl rfl ?_
  refine go_iconst 11 (0) dX9_restarts_10 rfl (by decide) ?_
  refine go_istore_n 12 [(1, .int _), (0, .ref 115)] dX9_restarts_11 rfl (Nat.le_of_ble_eq_true rfl) rfl ?_
  refine g_st ?_ (lp_X9_restarts S n hn h24 0 (Nat.zero_le _))
  unfold rsF
  refine gS_ext (fun a c => ?_) (fun a c => ?_) (fun a c => ?_)
  · simp only [rI_wI, rI_wR, rI_wL, rI_wD, rL_wI, rL_wR, rL_wL, rL_wD, rD_wI, rD_wR, rD_wL, rD_wD, *] <;> (try rfl) <;> (repeat' split) <;> simp_all <;> (try omega)
  · rfl
  · rfl
