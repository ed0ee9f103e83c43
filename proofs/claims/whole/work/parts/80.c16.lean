-- needs 
theorem isF_in {S : gS} {s : Int32} {n : Nat} (hn : rI S 115 10 = nI n) (h24 : n ≤ 24) (h : ¬ isF S s = 0) : vp_in s 24 := by
  have h9 := bi1.mp h
  rw [hn] at h9
  exact vin_of h9 h24
def f_X9_notDone (S : gS) (k : Nat) : Int32 × gS := (if (rI S 138 k) < 13 then (if (0 : Int32) ≤ (bcF ((rI S 138 k)) ((rI S 139 k)) ((rI S 140 k))) then (if (bsG (wI S 115 40 0) ((rI S 138 k)) ((rI S 139 k)) ((rI S 140 k)) ((rI S 141 k))) < 0 then (4, (wI (wI S 115 40 0) 115 40 ((bcF ((rI S 138 k)) ((rI S 139 k)) ((rI S 140 k)))))) else (if (bcF ((rI S 138 k)) ((rI S 139 k)) ((rI S 140 k))) < 0 then (5, (wI (wI S 115 40 0) 115 40 ((bsG (wI S 115 40 0) ((rI S 138 k)) ((rI S 139 k)) ((rI S 140 k)) ((rI S 141 k)))))) else (if (bsG (wI S 115 40 0) ((rI S 138 k)) ((rI S 139 k)) ((rI S 140 k)) ((rI S 141 k))) ≤ (bcF ((rI S 138 k)) ((rI S 139 k)) ((rI S 140 k))) then (5, (wI (wI S 115 40 0) 115 40 ((bsG (wI S 115 40 0) ((rI S 138 k)) ((rI S 139 k)) ((rI S 140 k)) ((rI S 141 k)))))) else (4, (wI (wI S 115 40 0) 115 40 ((bcF ((rI S 138 k)) ((rI S 139 k)) ((rI S 140 k))))))))) else (if (0 : Int32) ≤ (bsG (wI S 115 40 0) ((rI S 138 k)) ((rI S 139 k)) ((rI S 140 k)) ((rI S 141 k))) then (if (bsG (wI S 115 40 0) ((rI S 138 k)) ((rI S 139 k)) ((rI S 140 k)) ((rI S 141 k))) < 0 then (4, (wI (wI S 115 40 0) 115 40 ((bcF ((rI S 138 k)) ((rI S 139 k)) ((rI S 140 k)))))) else (if (bcF ((rI S 138 k)) ((rI S 139 k)) ((rI S 140 k))) < 0 then (5, (wI (wI S 115 40 0) 115 40 ((bsG (wI S 115 40 0) ((rI S 138 k)) ((rI S 139 k)) ((rI S 140 k)) ((rI S 141 k)))))) else (if (bsG (wI S 115 40 0) ((rI S 138 k)) ((rI S 139 k)) ((rI S 140 k)) ((rI S 141 k))) ≤ (bcF ((rI S 138 k)) ((rI S 139 k)) ((rI S 140 k))) then (5, (wI (wI S 115 40 0) 115 40 ((bsG (wI S 115 40 0) ((rI S 138 k)) ((rI S 139 k)) ((rI S 140 k)) ((rI S 141 k)))))) else (4, (wI (wI S 115 40 0) 115 40 ((bcF ((rI S 138 k)) ((rI S 139 k)) ((rI S 140 k))))))))) else (if (rI S 115 10) = 24 then (6, (wI S 115 40 0)) else (0, (wI S 115 40 0))))) else (if (isF (wI S 115 40 0) ((rI S 139 k))) = 0 then (5, (wI (wI S 115 40 0) 115 40 0)) else (if (rI S 138 k) = 14 then (if (rI S 138 k) = 13 then (if (rI S 116 ((rI S 139 k)).toNatClampNeg) = 2 then (0, (wI S 115 40 0)) else (7, (wI S 115 40 0))) else (0, (wI S 115 40 0))) else (if (isF (wI S 115 40 0) ((rI S 140 k))) = 0 then (5, (wI (wI S 115 40 0) 115 40 1)) else (if (rI S 138 k) = 13 then (if (rI S 116 ((rI S 139 k)).toNatClampNeg) = 2 then (0, (wI S 115 40 0)) else (7, (wI S 115 40 0))) else (0, (wI S 115 40 0)))))))
set_option maxRecDepth 100000 in
set_option maxHeartbeats 1000000 in
theorem ct_X9_notDone (S : gS) (k : Nat) (hk : k < 40) (n : Nat) (hn : rI S 115 10 = nI n) (h24 : n ≤ 24) : gF mX9_notDone [.ref 115, .int (nI k)] S (some (.int (f_X9_notDone S k).1)) (f_X9_notDone S k).2 := by
  have hcl := nI_c (n := k) (by omega)
  refine go_enter [.ref 115, .int (nI k)] [(0, .ref 115), (1, .int (nI k))] (by decide +kernel) rfl rfl (Nat.le_of_ble_eq_true rfl) rfl ?_
  refine go_aload_n 1 dX9_notDone_0 rfl rfl ?_
  refine g_getR 4 dX9_notDone_1 rfl fF_RX9_80 ly_115 rfl ?_
  refine go_iload_n 5 dX9_notDone_4 rfl rfl ?_
  refine g_iald2 6 k dX9_notDone_5 rfl ly_139 (nI_i hk (by omega)) hcl ?_
  refine go_istore_n 7 [(2, .int _), (0, .ref 115), (1, .int _)] dX9_notDone_6 rfl (Nat.le_of_ble_eq_true rfl) rfl ?_
  refine go_aload_n 8 dX9_notDone_7 rfl rfl ?_
  refine g_getR 11 dX9_notDone_8 rfl fF_RX9_83 ly_115 rfl ?_
  refine go_iload_n 12 dX9_notDone_11 rfl rfl ?_
  refine g_iald2 13 k dX9_notDone_12 rfl ly_140 (nI_i hk (by omega)) hcl ?_
  refine go_istore_n 14 [(3, .int _), (2, .int _), (0, .ref 115), (1, .int _)] dX9_notDone_13 rfl (Nat.le_of_ble_eq_true rfl) rfl ?_
  refine go_aload_n 15 dX9_notDone_14 rfl rfl ?_
  refine go_iconst 16 (0) dX9_notDone_15 rfl (by decide) ?_
  refine g_putI 19 dX9_notDone_16 rfl fF_RX9_343 ly_115 rfl (fun q hq => by cases hq; rfl) rfl rfl ?_
  refine go_aload_n 20 dX9_notDone_19 rfl rfl ?_
  refine g_getR 23 dX9_notDone_20 rfl fF_RX9_77 ly_115 rfl ?_
  refine go_iload_n 24 dX9_notDone_23 rfl rfl ?_
  refine g_iald2 25 k dX9_notDone_24 rfl ly_138 (nI_i hk (by omega)) hcl ?_
  refine go_topi (rI S 138 k) (rI_wIk (by decide) _ _ _) ?_
  refine go_bipush 27 (13) dX9_notDone_25 rfl (by decide) ?_
  refine go_icmp_lt 30 104 dX9_notDone_27 rfl (by decide) (fun hc1 => ?_) (fun hc1 => ?_)
  · refine go_aload_n 105 dX9_notDone_104 rfl rfl ?_
    refine g_getR 108 dX9_notDone_105 rfl fF_RX9_77 ly_115 rfl ?_
    refine go_iload_n 109 dX9_notDone_108 rfl rfl ?_
    refine g_iald2 110 k dX9_notDone_109 rfl ly_138 (nI_i hk (by omega)) hcl ?_
    refine go_topi (rI S 138 k) (rI_wIk (by decide) _ _ _) ?_
    refine go_iload_n 111 dX9_notDone_110 rfl rfl ?_
    refine go_iload_n 112 dX9_notDone_111 rfl rfl ?_
    refine g_callS 115 [.int _, .int _, .int _] [] dX9_notDone_112 rfl (ct_X9_badConstant _ _ _ _) rfl sV_X9_notDone_128 rfl (Nat.le_of_ble_eq_true rfl) (Nat.le_of_ble_eq_true rfl) (Nat.le_of_ble_eq_true rfl) ?_
    refine go_istore 117 [(4, .int _), (3, .int _), (2, .int _), (0, .ref 115), (1, .int _)] dX9_notDone_115 rfl (Nat.le_of_ble_eq_true rfl) rfl ?_
    refine go_aload_n 118 dX9_notDone_117 rfl rfl ?_
    refine go_aload_n 119 dX9_notDone_118 rfl rfl ?_
    refine g_getR 122 dX9_notDone_119 rfl fF_RX9_77 ly_115 rfl ?_
    refine go_iload_n 123 dX9_notDone_122 rfl rfl ?_
    refine g_iald2 124 k dX9_notDone_123 rfl ly_138 (nI_i hk (by omega)) hcl ?_
    refine go_topi (rI S 138 k) (rI_wIk (by decide) _ _ _) ?_
    refine go_iload_n 125 dX9_notDone_124 rfl rfl ?_
    refine go_iload_n 126 dX9_notDone_125 rfl rfl ?_
    refine go_aload_n 127 dX9_notDone_126 rfl rfl ?_
    refine g_getR 130 dX9_notDone_127 rfl fF_RX9_86 ly_115 rfl ?_
    refine go_iload_n 131 dX9_notDone_130 rfl rfl ?_
    refine g_iald2 132 k dX9_notDone_131 rfl ly_141 (nI_i hk (by omega)) hcl ?_
    refine go_topi (rI S 141 k) (rI_wIk (by decide) _ _ _) ?_
    refine g_callV 135 [.int _, .int _, .int _, .int _] [] dX9_notDone_132 rfl (ct_bs _ _ _ _ _) rfl sV_X9_notDone_136 rfl ly_115 rfl rfl (Nat.le_of_ble_eq_true rfl) (Nat.le_of_ble_eq_true rfl) (Nat.le_of_ble_eq_true rfl) ?_
    refine go_istore 137 [(5, .int _), (4, .int _), (3, .int _), (2, .int _), (0, .ref 115), (1, .int _)] dX9_notDone_135 rfl (Nat.le_of_ble_eq_true rfl) rfl ?_
    refine go_iload 139 dX9_notDone_137 rfl rfl ?_
    refine go_if_ge 142 163 dX9_notDone_139 rfl (by decide) (fun hc2 => ?_) (fun hc2 => ?_)
    · refine go_iload 165 dX9_notDone_163 rfl rfl ?_
      refine go_if_lt 168 180 dX9_notDone_165 rfl (by decide) (fun hc3 => ?_) (fun hc3 => ?_)
      · refine go_iconst 181 (1) dX9_notDone_180 rfl (by decide) ?_
        refine go_goto 185 dX9_notDone_181 (by decide) ?_
        refine go_istore 187 [(6, .int _), (5, .int _), (4, .int _), (3, .int _), (2, .int _), (0, .ref 115), (1, .int _)] dX9_notDone_185 rfl (Nat.le_of_ble_eq_true rfl) rfl ?_
        refine go_aload_n 188 dX9_notDone_187 rfl rfl ?_
        refine go_iload 190 dX9_notDone_188 rfl rfl ?_
        refine go_if_eq 193 198 dX9_notDone_190 rfl (by decide) (fun hc4 => absurd hc4 (by decide)) (fun _ => ?_)
        refine go_iload 195 dX9_notDone_193 rfl rfl ?_
        refine go_goto 200 dX9_notDone_195 (by decide) ?_
        refine g_putI 203 dX9_notDone_200 rfl fF_RX9_343 ly_115 rfl (fun q hq => by cases hq; rfl) rfl rfl ?_
        refine go_iload 205 dX9_notDone_203 rfl rfl ?_
        refine go_if_eq 208 212 dX9_notDone_205 rfl (by decide) (fun hc5 => absurd hc5 (by decide)) (fun _ => ?_)
        refine go_iconst 209 (4) dX9_notDone_208 rfl (by decide) ?_
        refine go_goto 213 dX9_notDone_209 (by decide) ?_
        refine go_ireturn dX9_notDone_213 rfl (by first | rfl | exact bi_nar) (Nat.le_of_ble_eq_true rfl) (Nat.le_of_ble_eq_true rfl) ?_
        exact ⟨congrArg (fun z => some (Value.int z)) (by unfold f_X9_notDone; simp only [if_pos hc1, if_pos hc2, if_pos hc3]; try first | rfl | contradiction), congrArg hp (by unfold f_X9_notDone; simp only [if_pos hc1, if_pos hc2, if_pos hc3]; try first | rfl | contradiction)⟩
      · refine go_iload 170 dX9_notDone_168 rfl rfl ?_
        refine go_if_lt 173 184 dX9_notDone_170 rfl (by decide) (fun hc6 => ?_) (fun hc6 => ?_)
        · refine go_iconst 185 (0) dX9_notDone_184 rfl (by decide) ?_
          refine go_istore 187 [(6, .int _), (5, .int _), (4, .int _), (3, .int _), (2, .int _), (0, .ref 115), (1, .int _)] dX9_notDone_185 rfl (Nat.le_of_ble_eq_true rfl) rfl ?_
          refine go_aload_n 188 dX9_notDone_187 rfl rfl ?_
          refine go_iload 190 dX9_notDone_188 rfl rfl ?_
          refine go_if_eq 193 198 dX9_notDone_190 rfl (by decide) (fun _ => ?_) (fun hc7 => absurd hc7 (by decide))
          refine go_iload 200 dX9_notDone_198 rfl rfl ?_
          refine g_putI 203 dX9_notDone_200 rfl fF_RX9_343 ly_115 rfl (fun q hq => by cases hq; rfl) rfl rfl ?_
          refine go_iload 205 dX9_notDone_203 rfl rfl ?_
          refine go_if_eq 208 212 dX9_notDone_205 rfl (by decide) (fun _ => ?_) (fun hc8 => absurd hc8 (by decide))
          refine go_iconst 213 (5) dX9_notDone_212 rfl (by decide) ?_
          refine go_ireturn dX9_notDone_213 rfl (by first | rfl | exact bi_nar) (Nat.le_of_ble_eq_true rfl) (Nat.le_of_ble_eq_true rfl) ?_
          exact ⟨congrArg (fun z => some (Value.int z)) (by unfold f_X9_notDone; simp only [if_pos hc1, if_pos hc2, if_neg hc3, if_pos hc6]; try first | rfl | contradiction), congrArg hp (by unfold f_X9_notDone; simp only [if_pos hc1, if_pos hc2, if_neg hc3, if_pos hc6]; try first | rfl | contradiction)⟩
        · refine go_iload 175 dX9_notDone_173 rfl rfl ?_
          refine go_iload 177 dX9_notDone_175 rfl rfl ?_
          refine go_icmp_ge 180 184 dX9_notDone_177 rfl (by decide) (fun hc9 => ?_) (fun hc9 => ?_)
          · refine go_iconst 185 (0) dX9_notDone_184 rfl (by decide) ?_
            refine go_istore 187 [(6, .int _), (5, .int _), (4, .int _), (3, .int _), (2, .int _), (0, .ref 115), (1, .int _)] dX9_notDone_185 rfl (Nat.le_of_ble_eq_true rfl) rfl ?_
            refine go_aload_n 188 dX9_notDone_187 rfl rfl ?_
            refine go_iload 190 dX9_notDone_188 rfl rfl ?_
            refine go_if_eq 193 198 dX9_notDone_190 rfl (by decide) (fun _ => ?_) (fun hc10 => absurd hc10 (by decide))
            refine go_iload 200 dX9_notDone_198 rfl rfl ?_
            refine g_putI 203 dX9_notDone_200 rfl fF_RX9_343 ly_115 rfl (fun q hq => by cases hq; rfl) rfl rfl ?_
            refine go_iload 205 dX9_notDone_203 rfl rfl ?_
            refine go_if_eq 208 212 dX9_notDone_205 rfl (by decide) (fun _ => ?_) (fun hc11 => absurd hc11 (by decide))
            refine go_iconst 213 (5) dX9_notDone_212 rfl (by decide) ?_
            refine go_ireturn dX9_notDone_213 rfl (by first | rfl | exact bi_nar) (Nat.le_of_ble_eq_true rfl) (Nat.le_of_ble_eq_true rfl) ?_
            exact ⟨congrArg (fun z => some (Value.int z)) (by unfold f_X9_notDone; simp only [if_pos hc1, if_pos hc2, if_neg hc3, if_neg hc6, if_pos hc9]; try first | rfl | contradiction), congrArg hp (by unfold f_X9_notDone; simp only [if_pos hc1, if_pos hc2, if_neg hc3, if_neg hc6, if_pos hc9]; try first | rfl | contradiction)⟩
          · refine go_iconst 181 (1) dX9_notDone_180 rfl (by decide) ?_
            refine go_goto 185 dX9_notDone_181 (by decide) ?_
            refine go_istore 187 [(6, .int _), (5, .int _), (4, .int _), (3, .int _), (2, .int _), (0, .ref 115), (1, .int _)] dX9_notDone_185 rfl (Nat.le_of_ble_eq_true rfl) rfl ?_
            refine go_aload_n 188 dX9_notDone_187 rfl rfl ?_
            refine go_iload 190 dX9_notDone_188 rfl rfl ?_
            refine go_if_eq 193 198 dX9_notDone_190 rfl (by decide) (fun hc12 => absurd hc12 (by decide)) (fun _ => ?_)
            refine go_iload 195 dX9_notDone_193 rfl rfl ?_
            refine go_goto 200 dX9_notDone_195 (by decide) ?_
            refine g_putI 203 dX9_notDone_200 rfl fF_RX9_343 ly_115 rfl (fun q hq => by cases hq; rfl) rfl rfl ?_
            refine go_iload 205 dX9_notDone_203 rfl rfl ?_
            refine go_if_eq 208 212 dX9_notDone_205 rfl (by decide) (fun hc13 => absurd hc13 (by decide)) (fun _ => ?_)
            refine go_iconst 209 (4) dX9_notDone_208 rfl (by decide) ?_
            refine go_goto 213 dX9_notDone_209 (by decide) ?_
            refine go_ireturn dX9_notDone_213 rfl (by first | rfl | exact bi_nar) (Nat.le_of_ble_eq_true rfl) (Nat.le_of_ble_eq_true rfl) ?_
            exact ⟨congrArg (fun z => some (Value.int z)) (by unfold f_X9_notDone; simp only [if_pos hc1, if_pos hc2, if_neg hc3, if_neg hc6, if_neg hc9]; try first | rfl | contradiction), congrArg hp (by unfold f_X9_notDone; simp only [if_pos hc1, if_pos hc2, if_neg hc3, if_neg hc6, if_neg hc9]; try first | rfl | contradiction)⟩
    · refine go_iload 144 dX9_notDone_142 rfl rfl ?_
      refine go_if_ge 147 163 dX9_notDone_144 rfl (by decide) (fun hc14 => ?_) (fun hc14 => ?_)
      · refine go_iload 165 dX9_notDone_163 rfl rfl ?_
        refine go_if_lt 168 180 dX9_notDone_165 rfl (by decide) (fun hc15 => ?_) (fun hc15 => ?_)
        · refine go_iconst 181 (1) dX9_notDone_180 rfl (by decide) ?_
          refine go_goto 185 dX9_notDone_181 (by decide) ?_
          refine go_istore 187 [(6, .int _), (5, .int _), (4, .int _), (3, .int _), (2, .int _), (0, .ref 115), (1, .int _)] dX9_notDone_185 rfl (Nat.le_of_ble_eq_true rfl) rfl ?_
          refine go_aload_n 188 dX9_notDone_187 rfl rfl ?_
          refine go_iload 190 dX9_notDone_188 rfl rfl ?_
          refine go_if_eq 193 198 dX9_notDone_190 rfl (by decide) (fun hc16 => absurd hc16 (by decide)) (fun _ => ?_)
          refine go_iload 195 dX9_notDone_193 rfl rfl ?_
          refine go_goto 200 dX9_notDone_195 (by decide) ?_
          refine g_putI 203 dX9_notDone_200 rfl fF_RX9_343 ly_115 rfl (fun q hq => by cases hq; rfl) rfl rfl ?_
          refine go_iload 205 dX9_notDone_203 rfl rfl ?_
          refine go_if_eq 208 212 dX9_notDone_205 rfl (by decide) (fun hc17 => absurd hc17 (by decide)) (fun _ => ?_)
          refine go_iconst 209 (4) dX9_notDone_208 rfl (by decide) ?_
          refine go_goto 213 dX9_notDone_209 (by decide) ?_
          refine go_ireturn dX9_notDone_213 rfl (by first | rfl | exact bi_nar) (Nat.le_of_ble_eq_true rfl) (Nat.le_of_ble_eq_true rfl) ?_
          exact ⟨congrArg (fun z => some (Value.int z)) (by unfold f_X9_notDone; simp only [if_pos hc1, if_neg hc2, if_pos hc14, if_pos hc15]; try first | rfl | contradiction), congrArg hp (by unfold f_X9_notDone; simp only [if_pos hc1, if_neg hc2, if_pos hc14, if_pos hc15]; try first | rfl | contradiction)⟩
        · refine go_iload 170 dX9_notDone_168 rfl rfl ?_
          refine go_if_lt 173 184 dX9_notDone_170 rfl (by decide) (fun hc18 => ?_) (fun hc18 => ?_)
          · refine go_iconst 185 (0) dX9_notDone_184 rfl (by decide) ?_
            refine go_istore 187 [(6, .int _), (5, .int _), (4, .int _), (3, .int _), (2, .int _), (0, .ref 115), (1, .int _)] dX9_notDone_185 rfl (Nat.le_of_ble_eq_true rfl) rfl ?_
            refine go_aload_n 188 dX9_notDone_187 rfl rfl ?_
            refine go_iload 190 dX9_notDone_188 rfl rfl ?_
            refine go_if_eq 193 198 dX9_notDone_190 rfl (by decide) (fun _ => ?_) (fun hc19 => absurd hc19 (by decide))
            refine go_iload 200 dX9_notDone_198 rfl rfl ?_
            refine g_putI 203 dX9_notDone_200 rfl fF_RX9_343 ly_115 rfl (fun q hq => by cases hq; rfl) rfl rfl ?_
            refine go_iload 205 dX9_notDone_203 rfl rfl ?_
            refine go_if_eq 208 212 dX9_notDone_205 rfl (by decide) (fun _ => ?_) (fun hc20 => absurd hc20 (by decide))
            refine go_iconst 213 (5) dX9_notDone_212 rfl (by decide) ?_
            refine go_ireturn dX9_notDone_213 rfl (by first | rfl | exact bi_nar) (Nat.le_of_ble_eq_true rfl) (Nat.le_of_ble_eq_true rfl) ?_
            exact ⟨congrArg (fun z => some (Value.int z)) (by unfold f_X9_notDone; simp only [if_pos hc1, if_neg hc2, if_pos hc14, if_neg hc15, if_pos hc18]; try first | rfl | contradiction), congrArg hp (by unfold f_X9_notDone; simp only [if_pos hc1, if_neg hc2, if_pos hc14, if_neg hc15, if_pos hc18]; try first | rfl | contradiction)⟩
          · refine go_iload 175 dX9_notDone_173 rfl rfl ?_
            refine go_iload 177 dX9_notDone_175 rfl rfl ?_
            refine go_icmp_ge 180 184 dX9_notDone_177 rfl (by decide) (fun hc21 => ?_) (fun hc21 => ?_)
            · refine go_iconst 185 (0) dX9_notDone_184 rfl (by decide) ?_
              refine go_istore 187 [(6, .int _), (5, .int _), (4, .int _), (3, .int _), (2, .int _), (0, .ref 115), (1, .int _)] dX9_notDone_185 rfl (Nat.le_of_ble_eq_true rfl) rfl ?_
              refine go_aload_n 188 dX9_notDone_187 rfl rfl ?_
              refine go_iload 190 dX9_notDone_188 rfl rfl ?_
              refine go_if_eq 193 198 dX9_notDone_190 rfl (by decide) (fun _ => ?_) (fun hc22 => absurd hc22 (by decide))
              refine go_iload 200 dX9_notDone_198 rfl rfl ?_
              refine g_putI 203 dX9_notDone_200 rfl fF_RX9_343 ly_115 rfl (fun q hq => by cases hq; rfl) rfl rfl ?_
              refine go_iload 205 dX9_notDone_203 rfl rfl ?_
              refine go_if_eq 208 212 dX9_notDone_205 rfl (by decide) (fun _ => ?_) (fun hc23 => absurd hc23 (by decide))
              refine go_iconst 213 (5) dX9_notDone_212 rfl (by decide) ?_
              refine go_ireturn dX9_notDone_213 rfl (by first | rfl | exact bi_nar) (Nat.le_of_ble_eq_true rfl) (Nat.le_of_ble_eq_true rfl) ?_
              exact ⟨congrArg (fun z => some (Value.int z)) (by unfold f_X9_notDone; simp only [if_pos hc1, if_neg hc2, if_pos hc14, if_neg hc15, if_neg hc18, if_pos hc21]; try first | rfl | contradiction), congrArg hp (by unfold f_X9_notDone; simp only [if_pos hc1, if_neg hc2, if_pos hc14, if_neg hc15, if_neg hc18, if_pos hc21]; try first | rfl | contradiction)⟩
            · refine go_iconst 181 (1) dX9_notDone_180 rfl (by decide) ?_
              refine go_goto 185 dX9_notDone_181 (by decide) ?_
              refine go_istore 187 [(6, .int _), (5, .int _), (4, .int _), (3, .int _), (2, .int _), (0, .ref 115), (1, .int _)] dX9_notDone_185 rfl (Nat.le_of_ble_eq_true rfl) rfl ?_
              refine go_aload_n 188 dX9_notDone_187 rfl rfl ?_
              refine go_iload 190 dX9_notDone_188 rfl rfl ?_
              refine go_if_eq 193 198 dX9_notDone_190 rfl (by decide) (fun hc24 => absurd hc24 (by decide)) (fun _ => ?_)
              refine go_iload 195 dX9_notDone_193 rfl rfl ?_
              refine go_goto 200 dX9_notDone_195 (by decide) ?_
              refine g_putI 203 dX9_notDone_200 rfl fF_RX9_343 ly_115 rfl (fun q hq => by cases hq; rfl) rfl rfl ?_
              refine go_iload 205 dX9_notDone_203 rfl rfl ?_
              refine go_if_eq 208 212 dX9_notDone_205 rfl (by decide) (fun hc25 => absurd hc25 (by decide)) (fun _ => ?_)
              refine go_iconst 209 (4) dX9_notDone_208 rfl (by decide) ?_
              refine go_goto 213 dX9_notDone_209 (by decide) ?_
              refine go_ireturn dX9_notDone_213 rfl (by first | rfl | exact bi_nar) (Nat.le_of_ble_eq_true rfl) (Nat.le_of_ble_eq_true rfl) ?_
              exact ⟨congrArg (fun z => some (Value.int z)) (by unfold f_X9_notDone; simp only [if_pos hc1, if_neg hc2, if_pos hc14, if_neg hc15, if_neg hc18, if_neg hc21]; try first | rfl | contradiction), congrArg hp (by unfold f_X9_notDone; simp only [if_pos hc1, if_neg hc2, if_pos hc14, if_neg hc15, if_neg hc18, if_neg hc21]; try first | rfl | contradiction)⟩
      · refine go_aload_n 148 dX9_notDone_147 rfl rfl ?_
        refine g_getI 151 dX9_notDone_148 rfl fF_RX9_102 ly_115 rfl ?_
        refine go_topi (rI S 115 10) (rI_wIc (by decide) _ _) ?_
        refine go_bipush 153 (24) dX9_notDone_151 rfl (by decide) ?_
        refine go_icmp_ne 156 161 dX9_notDone_153 rfl (by decide) (fun hc26 => ?_) (fun hc26 => ?_)
        · refine go_iconst 162 (0) dX9_notDone_161 rfl (by decide) ?_
          refine go_ireturn dX9_notDone_162 rfl (by first | rfl | exact bi_nar) (Nat.le_of_ble_eq_true rfl) (Nat.le_of_ble_eq_true rfl) ?_
          exact ⟨congrArg (fun z => some (Value.int z)) (by unfold f_X9_notDone; simp only [if_pos hc1, if_neg hc2, if_neg hc14, if_neg hc26]; try first | rfl | contradiction), congrArg hp (by unfold f_X9_notDone; simp only [if_pos hc1, if_neg hc2, if_neg hc14, if_neg hc26]; try first | rfl | contradiction)⟩
        · refine go_bipush 158 (6) dX9_notDone_156 rfl (by decide) ?_
          refine go_goto 162 dX9_notDone_158 (by decide) ?_
          refine go_ireturn dX9_notDone_162 rfl (by first | rfl | exact bi_nar) (Nat.le_of_ble_eq_true rfl) (Nat.le_of_ble_eq_true rfl) ?_
          exact ⟨congrArg (fun z => some (Value.int z)) (by unfold f_X9_notDone; simp only [if_pos hc1, if_neg hc2, if_neg hc14, if_pos hc26]; try first | rfl | contradiction), congrArg hp (by unfold f_X9_notDone; simp only [if_pos hc1, if_neg hc2, if_neg hc14, if_pos hc26]; try first | rfl | contradiction)⟩
  · refine go_aload_n 31 dX9_notDone_30 rfl rfl ?_
    refine go_iload_n 32 dX9_notDone_31 rfl rfl ?_
    refine g_callV 35 [.int _] [] dX9_notDone_32 rfl (ct_is _ _) rfl sV_X9_notDone_123 rfl ly_115 rfl rfl (Nat.le_of_ble_eq_true rfl) (Nat.le_of_ble_eq_true rfl) (Nat.le_of_ble_eq_true rfl) ?_
    refine go_if_eq 38 85 dX9_notDone_35 rfl (by decide) (fun hc27 => ?_) (fun hc27 => ?_)
    · refine go_aload_n 86 dX9_notDone_85 rfl rfl ?_
      refine go_aload_n 87 dX9_notDone_86 rfl rfl ?_
      refine go_iload_n 88 dX9_notDone_87 rfl rfl ?_
      refine g_callV 91 [.int _] [.ref 115] dX9_notDone_88 rfl (ct_is _ _) rfl sV_X9_notDone_123 rfl ly_115 rfl rfl (Nat.le_of_ble_eq_true rfl) (Nat.le_of_ble_eq_true rfl) (Nat.le_of_ble_eq_true rfl) ?_
      refine go_if_eq 94 98 dX9_notDone_91 rfl (by decide) (fun _ => ?_) (fun hc28 => absurd hc27 hc28)
      refine go_iconst 99 (0) dX9_notDone_98 rfl (by decide) ?_
      refine g_putI 102 dX9_notDone_99 rfl fF_RX9_343 ly_115 rfl (fun q hq => by cases hq; rfl) rfl rfl ?_
      refine go_iconst 103 (5) dX9_notDone_102 rfl (by decide) ?_
      refine go_ireturn dX9_notDone_103 rfl (by first | rfl | exact bi_nar) (Nat.le_of_ble_eq_true rfl) (Nat.le_of_ble_eq_true rfl) ?_
      exact ⟨congrArg (fun z => some (Value.int z)) (by unfold f_X9_notDone; simp only [if_neg hc1, if_pos hc27]; try first | rfl | contradiction), congrArg hp (by unfold f_X9_notDone; simp only [if_neg hc1, if_pos hc27]; try first | rfl | contradiction)⟩
    · have hsg := isF_in (n := n) (S := wI S 115 40 0) ((rI_wIc (by decide) _ _).trans hn) h24 hc27
      refine go_aload_n 39 dX9_notDone_38 rfl rfl ?_
      refine g_getR 42 dX9_notDone_39 rfl fF_RX9_77 ly_115 rfl ?_
      refine go_iload_n 43 dX9_notDone_42 rfl rfl ?_
      refine g_iald2 44 k dX9_notDone_43 rfl ly_138 (nI_i hk (by omega)) hcl ?_
      refine go_topi (rI S 138 k) (rI_wIk (by decide) _ _ _) ?_
      refine go_bipush 46 (14) dX9_notDone_44 rfl (by decide) ?_
      refine go_icmp_eq 49 57 dX9_notDone_46 rfl (by decide) (fun hc29 => ?_) (fun hc29 => ?_)
      · refine go_aload_n 58 dX9_notDone_57 rfl rfl ?_
        refine g_getR 61 dX9_notDone_58 rfl fF_RX9_77 ly_115 rfl ?_
        refine go_iload_n 62 dX9_notDone_61 rfl rfl ?_
        refine g_iald2 63 k dX9_notDone_62 rfl ly_138 (nI_i hk (by omega)) hcl ?_
        refine go_topi (rI S 138 k) (rI_wIk (by decide) _ _ _) ?_
        refine go_bipush 65 (13) dX9_notDone_63 rfl (by decide) ?_
        refine go_icmp_ne 68 83 dX9_notDone_65 rfl (by decide) (fun hc30 => ?_) (fun hc30 => ?_)
        · refine go_iconst 84 (0) dX9_notDone_83 rfl (by decide) ?_
          refine go_ireturn dX9_notDone_84 rfl (by first | rfl | exact bi_nar) (Nat.le_of_ble_eq_true rfl) (Nat.le_of_ble_eq_true rfl) ?_
          exact ⟨congrArg (fun z => some (Value.int z)) (by unfold f_X9_notDone; simp only [if_neg hc1, if_neg hc27, if_pos hc29, if_neg hc30]; try first | rfl | contradiction), congrArg hp (by unfold f_X9_notDone; simp only [if_neg hc1, if_neg hc27, if_pos hc29, if_neg hc30]; try first | rfl | contradiction)⟩
        · refine go_aload_n 69 dX9_notDone_68 rfl rfl ?_
          refine g_getR 72 dX9_notDone_69 rfl fF_RX9_7 ly_115 rfl ?_
          refine go_iload_n 73 dX9_notDone_72 rfl rfl ?_
          refine g_iald2 74 _ dX9_notDone_73 rfl ly_116 hsg rfl ?_
          refine go_topi (rI S 116 ((rI S 139 k)).toNatClampNeg) (rI_wIk (by decide) _ _ _) ?_
          refine go_iconst 75 (2) dX9_notDone_74 rfl (by decide) ?_
          refine go_icmp_eq 78 83 dX9_notDone_75 rfl (by decide) (fun hc31 => ?_) (fun hc31 => ?_)
          · refine go_iconst 84 (0) dX9_notDone_83 rfl (by decide) ?_
            refine go_ireturn dX9_notDone_84 rfl (by first | rfl | exact bi_nar) (Nat.le_of_ble_eq_true rfl) (Nat.le_of_ble_eq_true rfl) ?_
            exact ⟨congrArg (fun z => some (Value.int z)) (by unfold f_X9_notDone; simp only [if_neg hc1, if_neg hc27, if_pos hc29, if_pos hc30, if_pos hc31]; try first | rfl | contradiction), congrArg hp (by unfold f_X9_notDone; simp only [if_neg hc1, if_neg hc27, if_pos hc29, if_pos hc30, if_pos hc31]; try first | rfl | contradiction)⟩
          · refine go_bipush 80 (7) dX9_notDone_78 rfl (by decide) ?_
            refine go_goto 84 dX9_notDone_80 (by decide) ?_
            refine go_ireturn dX9_notDone_84 rfl (by first | rfl | exact bi_nar) (Nat.le_of_ble_eq_true rfl) (Nat.le_of_ble_eq_true rfl) ?_
            exact ⟨congrArg (fun z => some (Value.int z)) (by unfold f_X9_notDone; simp only [if_neg hc1, if_neg hc27, if_pos hc29, if_pos hc30, if_neg hc31]; try first | rfl | contradiction), congrArg hp (by unfold f_X9_notDone; simp only [if_neg hc1, if_neg hc27, if_pos hc29, if_pos hc30, if_neg hc31]; try first | rfl | contradiction)⟩
      · refine go_aload_n 50 dX9_notDone_49 rfl rfl ?_
        refine go_iload_n 51 dX9_notDone_50 rfl rfl ?_
        refine g_callV 54 [.int _] [] dX9_notDone_51 rfl (ct_is _ _) rfl sV_X9_notDone_123 rfl ly_115 rfl rfl (Nat.le_of_ble_eq_true rfl) (Nat.le_of_ble_eq_true rfl) (Nat.le_of_ble_eq_true rfl) ?_
        refine go_if_eq 57 85 dX9_notDone_54 rfl (by decide) (fun hc32 => ?_) (fun hc32 => ?_)
        · refine go_aload_n 86 dX9_notDone_85 rfl rfl ?_
          refine go_aload_n 87 dX9_notDone_86 rfl rfl ?_
          refine go_iload_n 88 dX9_notDone_87 rfl rfl ?_
          refine g_callV 91 [.int _] [.ref 115] dX9_notDone_88 rfl (ct_is _ _) rfl sV_X9_notDone_123 rfl ly_115 rfl rfl (Nat.le_of_ble_eq_true rfl) (Nat.le_of_ble_eq_true rfl) (Nat.le_of_ble_eq_true rfl) ?_
          refine go_if_eq 94 98 dX9_notDone_91 rfl (by decide) (fun hc33 => absurd hc33 hc27) (fun _ => ?_)
          refine go_iconst 95 (1) dX9_notDone_94 rfl (by decide) ?_
          refine go_goto 99 dX9_notDone_95 (by decide) ?_
          refine g_putI 102 dX9_notDone_99 rfl fF_RX9_343 ly_115 rfl (fun q hq => by cases hq; rfl) rfl rfl ?_
          refine go_iconst 103 (5) dX9_notDone_102 rfl (by decide) ?_
          refine go_ireturn dX9_notDone_103 rfl (by first | rfl | exact bi_nar) (Nat.le_of_ble_eq_true rfl) (Nat.le_of_ble_eq_true rfl) ?_
          exact ⟨congrArg (fun z => some (Value.int z)) (by unfold f_X9_notDone; simp only [if_neg hc1, if_neg hc27, if_neg hc29, if_pos hc32]; try first | rfl | contradiction), congrArg hp (by unfold f_X9_notDone; simp only [if_neg hc1, if_neg hc27, if_neg hc29, if_pos hc32]; try first | rfl | contradiction)⟩
        · refine go_aload_n 58 dX9_notDone_57 rfl rfl ?_
          refine g_getR 61 dX9_notDone_58 rfl fF_RX9_77 ly_115 rfl ?_
          refine go_iload_n 62 dX9_notDone_61 rfl rfl ?_
          refine g_iald2 63 k dX9_notDone_62 rfl ly_138 (nI_i hk (by omega)) hcl ?_
          refine go_topi (rI S 138 k) (rI_wIk (by decide) _ _ _) ?_
          refine go_bipush 65 (13) dX9_notDone_63 rfl (by decide) ?_
          refine go_icmp_ne 68 83 dX9_notDone_65 rfl (by decide) (fun hc34 => ?_) (fun hc34 => ?_)
          · refine go_iconst 84 (0) dX9_notDone_83 rfl (by decide) ?_
            refine go_ireturn dX9_notDone_84 rfl (by first | rfl | exact bi_nar) (Nat.le_of_ble_eq_true rfl) (Nat.le_of_ble_eq_true rfl) ?_
            exact ⟨congrArg (fun z => some (Value.int z)) (by unfold f_X9_notDone; simp only [if_neg hc1, if_neg hc27, if_neg hc29, if_neg hc32, if_neg hc34]; try first | rfl | contradiction), congrArg hp (by unfold f_X9_notDone; simp only [if_neg hc1, if_neg hc27, if_neg hc29, if_neg hc32, if_neg hc34]; try first | rfl | contradiction)⟩
          · refine go_aload_n 69 dX9_notDone_68 rfl rfl ?_
            refine g_getR 72 dX9_notDone_69 rfl fF_RX9_7 ly_115 rfl ?_
            refine go_iload_n 73 dX9_notDone_72 rfl rfl ?_
            refine g_iald2 74 _ dX9_notDone_73 rfl ly_116 hsg rfl ?_
            refine go_topi (rI S 116 ((rI S 139 k)).toNatClampNeg) (rI_wIk (by decide) _ _ _) ?_
            refine go_iconst 75 (2) dX9_notDone_74 rfl (by decide) ?_
            refine go_icmp_eq 78 83 dX9_notDone_75 rfl (by decide) (fun hc35 => ?_) (fun hc35 => ?_)
            · refine go_iconst 84 (0) dX9_notDone_83 rfl (by decide) ?_
              refine go_ireturn dX9_notDone_84 rfl (by first | rfl | exact bi_nar) (Nat.le_of_ble_eq_true rfl) (Nat.le_of_ble_eq_true rfl) ?_
              exact ⟨congrArg (fun z => some (Value.int z)) (by unfold f_X9_notDone; simp only [if_neg hc1, if_neg hc27, if_neg hc29, if_neg hc32, if_pos hc34, if_pos hc35]; try first | rfl | contradiction), congrArg hp (by unfold f_X9_notDone; simp only [if_neg hc1, if_neg hc27, if_neg hc29, if_neg hc32, if_pos hc34, if_pos hc35]; try first | rfl | contradiction)⟩
            · refine go_bipush 80 (7) dX9_notDone_78 rfl (by decide) ?_
              refine go_goto 84 dX9_notDone_80 (by decide) ?_
              refine go_ireturn dX9_notDone_84 rfl (by first | rfl | exact bi_nar) (Nat.le_of_ble_eq_true rfl) (Nat.le_of_ble_eq_true rfl) ?_
              exact ⟨congrArg (fun z => some (Value.int z)) (by unfold f_X9_notDone; simp only [if_neg hc1, if_neg hc27, if_neg hc29, if_neg hc32, if_pos hc34, if_neg hc35]; try first | rfl | contradiction), congrArg hp (by unfold f_X9_notDone; simp only [if_neg hc1, if_neg hc27, if_neg hc29, if_neg hc32, if_pos hc34, if_neg hc35]; try first | rfl | contradiction)⟩

def f_X9_does (S : gS) (k : Nat) : gS := (if (rI S 138 k) = 13 then (wI S 120 ((rI S 139 k)).toNatClampNeg ((rI S 140 k))) else (if (rI S 138 k) = 14 then (wI S 121 ((rI S 139 k)).toNatClampNeg 1) else (adF S ((rI S 138 k)) ((rI S 139 k)) ((rI S 140 k)) ((rI S 141 k)))))
set_option maxRecDepth 100000 in
set_option maxHeartbeats 1000000 in
theorem ct_X9_does (S : gS) (k : Nat) (hk : k < 40) (h13 : rI S 138 k = 13 → vp_in (rI S 139 k) 24) (h14 : rI S 138 k = 14 → vp_in (rI S 139 k) 24) (hm : ¬ rI S 138 k = 13 → ¬ rI S 138 k = 14 → vp_in (rI S 115 10) 24) : gF mX9_does [.ref 115, .int (nI k)] S none (f_X9_does S k) := by
  have hcl := nI_c (n := k) (by omega)
  refine go_enter [.ref 115, .int (nI k)] [(0, .ref 115), (1, .int (nI k))] (by decide +kernel) rfl rfl (Nat.le_of_ble_eq_true rfl) rfl ?_
  refine go_aload_n 1 dX9_does_0 rfl rfl ?_
  refine g_getR 4 dX9_does_1 rfl fF_RX9_77 ly_115 rfl ?_
  refine go_iload_n 5 dX9_does_4 rfl rfl ?_
  refine g_iald2 6 k dX9_does_5 rfl ly_138 (nI_i hk (by omega)) hcl ?_
  refine go_bipush 8 (13) dX9_does_6 rfl (by decide) ?_
  refine go_icmp_ne 11 31 dX9_does_8 rfl (by decide) (fun hc1 => ?_) (fun hc1 => ?_)
  · refine go_aload_n 32 dX9_does_31 rfl rfl ?_
    refine g_getR 35 dX9_does_32 rfl fF_RX9_77 ly_115 rfl ?_
    refine go_iload_n 36 dX9_does_35 rfl rfl ?_
    refine g_iald2 37 k dX9_does_36 rfl ly_138 (nI_i hk (by omega)) hcl ?_
    refine go_bipush 39 (14) dX9_does_37 rfl (by decide) ?_
    refine go_icmp_ne 42 57 dX9_does_39 rfl (by decide) (fun hc2 => ?_) (fun hc2 => ?_)
    · refine go_aload_n 58 dX9_does_57 rfl rfl ?_
      refine go_aload_n 59 dX9_does_58 rfl rfl ?_
      refine g_getR 62 dX9_does_59 rfl fF_RX9_77 ly_115 rfl ?_
      refine go_iload_n 63 dX9_does_62 rfl rfl ?_
      refine g_iald2 64 k dX9_does_63 rfl ly_138 (nI_i hk (by omega)) hcl ?_
      refine go_aload_n 65 dX9_does_64 rfl rfl ?_
      refine g_getR 68 dX9_does_65 rfl fF_RX9_80 ly_115 rfl ?_
      refine go_iload_n 69 dX9_does_68 rfl rfl ?_
      refine g_iald2 70 k dX9_does_69 rfl ly_139 (nI_i hk (by omega)) hcl ?_
      refine go_aload_n 71 dX9_does_70 rfl rfl ?_
      refine g_getR 74 dX9_does_71 rfl fF_RX9_83 ly_115 rfl ?_
      refine go_iload_n 75 dX9_does_74 rfl rfl ?_
      refine g_iald2 76 k dX9_does_75 rfl ly_140 (nI_i hk (by omega)) hcl ?_
      refine go_aload_n 77 dX9_does_76 rfl rfl ?_
      refine g_getR 80 dX9_does_77 rfl fF_RX9_86 ly_115 rfl ?_
      refine go_iload_n 81 dX9_does_80 rfl rfl ?_
      refine g_iald2 82 k dX9_does_81 rfl ly_141 (nI_i hk (by omega)) hcl ?_
      refine g_callV0 85 [.int _, .int _, .int _, .int _] [] dX9_does_82 rfl (ct_X9_adds _ _ _ _ _ (hm hc1 hc2)) rfl sV_X9_does_140 rfl ly_115 rfl rfl (Nat.le_of_ble_eq_true rfl) (Nat.le_of_ble_eq_true rfl) (Nat.le_of_ble_eq_true rfl) ?_
      refine go_return dX9_does_85 rfl (Nat.le_of_ble_eq_true rfl) (Nat.le_of_ble_eq_true rfl) ?_
      exact ⟨rfl, congrArg hp (by unfold f_X9_does; simp only [if_neg hc1, if_neg hc2]; try first | rfl | contradiction)⟩
    · refine go_aload_n 43 dX9_does_42 rfl rfl ?_
      refine g_getR 46 dX9_does_43 rfl fF_RX9_25 ly_115 rfl ?_
      refine go_aload_n 47 dX9_does_46 rfl rfl ?_
      refine g_getR 50 dX9_does_47 rfl fF_RX9_80 ly_115 rfl ?_
      refine go_iload_n 51 dX9_does_50 rfl rfl ?_
      refine g_iald2 52 k dX9_does_51 rfl ly_139 (nI_i hk (by omega)) hcl ?_
      refine go_iconst 53 (1) dX9_does_52 rfl (by decide) ?_
      refine g_iast2 54 _ dX9_does_53 rfl ly_121 (h14 hc2) rfl ?_
      refine go_goto 85 dX9_does_54 (by decide) ?_
      refine go_return dX9_does_85 rfl (Nat.le_of_ble_eq_true rfl) (Nat.le_of_ble_eq_true rfl) ?_
      exact ⟨rfl, congrArg hp (by unfold f_X9_does; simp only [if_neg hc1, if_pos hc2]; try first | rfl | contradiction)⟩
  · refine go_aload_n 12 dX9_does_11 rfl rfl ?_
    refine g_getR 15 dX9_does_12 rfl fF_RX9_22 ly_115 rfl ?_
    refine go_aload_n 16 dX9_does_15 rfl rfl ?_
    refine g_getR 19 dX9_does_16 rfl fF_RX9_80 ly_115 rfl ?_
    refine go_iload_n 20 dX9_does_19 rfl rfl ?_
    refine g_iald2 21 k dX9_does_20 rfl ly_139 (nI_i hk (by omega)) hcl ?_
    refine go_aload_n 22 dX9_does_21 rfl rfl ?_
    refine g_getR 25 dX9_does_22 rfl fF_RX9_83 ly_115 rfl ?_
    refine go_iload_n 26 dX9_does_25 rfl rfl ?_
    refine g_iald2 27 k dX9_does_26 rfl ly_140 (nI_i hk (by omega)) hcl ?_
    refine g_iast2 28 _ dX9_does_27 rfl ly_120 (h13 hc1) rfl ?_
    refine go_goto 85 dX9_does_28 (by decide) ?_
    refine go_return dX9_does_85 rfl (Nat.le_of_ble_eq_true rfl) (Nat.le_of_ble_eq_true rfl) ?_
    exact ⟨rfl, congrArg hp (by unfold f_X9_does; simp only [if_pos hc1]; try first | rfl | contradiction)⟩

def bd_pas (k : Nat) (i : Nat) (p : gS) : gS := (if (rI p 115 43) = 0 then (wI (wI p k i ((rI p 144 ((rI p 115 44)).toNatClampNeg))) 115 44 (((rI (wI p k i ((rI p 144 ((rI p 115 44)).toNatClampNeg))) 115 44) + 1))) else (wI (wI p 144 ((rI p 115 44)).toNatClampNeg ((rI p k i))) 115 44 (((rI p 115 44) + 1))))
set_option maxRecDepth 100000 in
set_option maxHeartbeats 1000000 in
theorem lk_pas {Q : go_Q} (k : Nat) (c0 : Nat) (hk : ly[k]? = some (.inl (.int, 24, .inl (fun _ => 0)))) (s0 : gS)  (hI : ∀ i, i ≤ 24 → (rI (itr (bd_pas k) i s0) 115 44 = nI (c0 + i) ∧ c0 + 24 ≤ 440)) (kx : Go mX9_passes false Q 0 0 58 [(2, .int (nI 24)), (0, .ref 115), (1, .ref k)] [] (hp (itr (bd_pas k) 24 s0))) : ∀ i, i ≤ 24 → Go mX9_passes false Q 0 0 2 [(2, .int (nI i)), (0, .ref 115), (1, .ref k)] [] (hp (itr (bd_pas k) i s0)) := by
  refine g_dn _ (24) (fun i hi ih => ?_)
  have hT := hI i hi
  have ih2 : i < 24 → Go mX9_passes false Q 0 0 2 [(2, .int (nI (i + 1))), (0, .ref 115), (1, .ref k)] [] (hp ((bd_pas k) i (itr (bd_pas k) i s0))) := ih
  have kx2 : i = 24 → Go mX9_passes false Q 0 0 58 [(2, .int (nI i)), (0, .ref 115), (1, .ref k)] [] (hp (itr (bd_pas k) i s0)) := by
    rintro rfl
    exact kx
  clear ih kx hI
  revert hT ih2 kx2
  generalize itr (bd_pas k) i s0 = p
  intro hT ih2 kx2
  refine go_iload_n 3 dX9_passes_2 rfl rfl ?_
  refine go_aload_n 4 dX9_passes_3 rfl rfl ?_
  refine g_aleni 5 dX9_passes_4 rfl hk ?_
  refine go_icmp_ge 8 58 dX9_passes_5 rfl (by decide) (fun hc1 => ?_) (fun hc1 => ?_)
  · have hv : i = 24 := by
      have h8 := hc1
      rw [show nI 24 = nI 24 from rfl, nI_le2 (by omega) (by omega)] at h8
      omega
    refine go_ls [(2, .int _), (0, .ref 115), (1, .ref k)] (List.forall_mem_cons.mpr ⟨rfl, List.forall_mem_cons.mpr ⟨rfl, List.forall_mem_cons.mpr ⟨rfl, fun _ h => absurd h List.not_mem_nil⟩⟩⟩) ?_
    exact kx2 hv
  · have hv : i < 24 := by
      have h8 := hc1
      rw [show nI 24 = nI 24 from rfl, nI_le2 (by omega) (by omega)] at h8
      omega
    clear hc1
    have hcl := nI_c (n := i) (by omega)
    refine go_aload_n 9 dX9_passes_8 rfl rfl ?_
    refine g_getI 12 dX9_passes_9 rfl fF_RX9_363 ly_115 rfl ?_
    refine go_if_eq 15 30 dX9_passes_12 rfl (by decide) (fun hc2 => ?_) (fun hc2 => ?_)
    · refine go_aload_n 31 dX9_passes_30 rfl rfl ?_
      refine go_iload_n 32 dX9_passes_31 rfl rfl ?_
      refine go_aload_n 33 dX9_passes_32 rfl rfl ?_
      refine g_getR 36 dX9_passes_33 rfl fF_RX9_95 ly_115 rfl ?_
      refine go_aload_n 37 dX9_passes_36 rfl rfl ?_
      refine g_getI 40 dX9_passes_37 rfl fF_RX9_366 ly_115 rfl ?_
      refine g_iald2 41 _ dX9_passes_40 rfl ly_144 (by rw [hT.1]; exact nI_i (by omega) (by omega)) rfl ?_
      refine g_iast2 42 i dX9_passes_41 rfl hk (nI_i (by have := hv; omega) (by omega)) hcl ?_
      refine go_aload_n 43 dX9_passes_42 rfl rfl ?_
      refine go_dup 44 dX9_passes_43 rfl rfl ?_
      refine g_getI 47 dX9_passes_44 rfl fF_RX9_366 ly_115 rfl ?_
      refine go_iconst 48 (1) dX9_passes_47 rfl (by decide) ?_
      refine go_iadd 49 dX9_passes_48 rfl ?_
      refine g_putI 52 dX9_passes_49 rfl fF_RX9_366 ly_115 rfl (fun q hq => by cases hq; rfl) rfl rfl ?_
      refine go_iinc 55 [(2, .int _), (0, .ref 115), (1, .ref k)] (nI (i + 1)) dX9_passes_52 rfl (Nat.le_of_ble_eq_true rfl) rfl (nI_inc i) rfl ?_
      refine go_goto 2 dX9_passes_55 (by decide) ?_
      refine go_ls [(2, .int _), (0, .ref 115), (1, .ref k)] (List.forall_mem_cons.mpr ⟨rfl, List.forall_mem_cons.mpr ⟨rfl, List.forall_mem_cons.mpr ⟨rfl, fun _ h => absurd h List.not_mem_nil⟩⟩⟩) ?_
      refine g_st (T := bd_pas k i p) (by unfold bd_pas; simp only [if_pos hc2]; try first | rfl | contradiction) (ih2 (by omega))
    · refine go_aload_n 16 dX9_passes_15 rfl rfl ?_
      refine g_getR 19 dX9_passes_16 rfl fF_RX9_95 ly_115 rfl ?_
      refine go_aload_n 20 dX9_passes_19 rfl rfl ?_
      refine g_getI 23 dX9_passes_20 rfl fF_RX9_366 ly_115 rfl ?_
      refine go_aload_n 24 dX9_passes_23 rfl rfl ?_
      refine go_iload_n 25 dX9_passes_24 rfl rfl ?_
      refine g_iald2 26 i dX9_passes_25 rfl hk (nI_i (by have := hv; omega) (by omega)) hcl ?_
      refine g_iast2 27 _ dX9_passes_26 rfl ly_144 (by rw [hT.1]; exact nI_i (by omega) (by omega)) rfl ?_
      refine go_goto 42 dX9_passes_27 (by decide) ?_
      refine go_aload_n 43 dX9_passes_42 rfl rfl ?_
      refine go_dup 44 dX9_passes_43 rfl rfl ?_
      refine g_getI 47 dX9_passes_44 rfl fF_RX9_366 ly_115 rfl ?_
      refine go_topi (rI p 115 44) (rI_wIk (by decide) _ _ _) ?_
      refine go_iconst 48 (1) dX9_passes_47 rfl (by decide) ?_
      refine go_iadd 49 dX9_passes_48 rfl ?_
      refine g_putI 52 dX9_passes_49 rfl fF_RX9_366 ly_115 rfl (fun q hq => by cases hq; rfl) rfl rfl ?_
      refine go_iinc 55 [(2, .int _), (0, .ref 115), (1, .ref k)] (nI (i + 1)) dX9_passes_52 rfl (Nat.le_of_ble_eq_true rfl) rfl (nI_inc i) rfl ?_
      refine go_goto 2 dX9_passes_55 (by decide) ?_
      refine go_ls [(2, .int _), (0, .ref 115), (1, .ref k)] (List.forall_mem_cons.mpr ⟨rfl, List.forall_mem_cons.mpr ⟨rfl, List.forall_mem_cons.mpr ⟨rfl, fun _ h => absurd h List.not_mem_nil⟩⟩⟩) ?_
      refine g_st (T := bd_pas k i p) (by unfold bd_pas; simp only [if_neg hc2]; try first | rfl | contradiction) (ih2 (by omega))

theorem pas_cur {k : Nat} (hk9 : k ≠ 115) (c0 : Nat) (S : gS) (hc : rI S 115 44 = nI c0) (i : Nat) : rI (itr (bd_pas k) i S) 115 44 = nI (c0 + i) := by
  induction i with
  | zero => exact hc
  | succ i ih =>
    show rI (bd_pas k i (itr (bd_pas k) i S)) 115 44 = _
    revert ih
    generalize itr (bd_pas k) i S = p
    intro ih
    unfold bd_pas
    split
    · rw [rI_same, rI_wIk (fun q => hk9 q.symm), ih]
      exact nI_1 _
    · rw [rI_same, ih]
      exact nI_1 _
def f_X9_passes (S : gS) (k : Nat) : gS := (itr (bd_pas k) 24 S)
set_option maxRecDepth 100000 in
set_option maxHeartbeats 1000000 in
theorem ct_X9_passes (S : gS) (k : Nat) (hk : ly[k]? = some (.inl (.int, 24, .inl (fun _ => 0)))) (hk9 : k ≠ 115) (c0 : Nat) (hc : rI S 115 44 = nI c0) (h440 : c0 + 24 ≤ 440) : gF mX9_passes [.ref 115, .ref k] S none (f_X9_passes S k) := by
  refine go_enter [.ref 115, .ref k] [(0, .ref 115), (1, .ref k)] (by decide +kernel) rfl rfl (Nat.le_of_ble_eq_true rfl) rfl ?_
  refine go_iconst 1 (0) dX9_passes_0 rfl (by decide) ?_
  refine go_istore_n 2 [(2, .int _), (0, .ref 115), (1, .ref k)] dX9_passes_1 rfl (Nat.le_of_ble_eq_true rfl) rfl ?_
  refine go_ls [(2, .int _), (0, .ref 115), (1, .ref k)] (List.forall_mem_cons.mpr ⟨rfl, List.forall_mem_cons.mpr ⟨rfl, List.forall_mem_cons.mpr ⟨rfl, fun _ h => absurd h List.not_mem_nil⟩⟩⟩) ?_
  refine lk_pas k c0 hk S (fun i hi => ⟨pas_cur hk9 c0 S hc i, h440⟩) ?_ 0 (Nat.zero_le _)
  refine go_return dX9_passes_58 rfl (Nat.le_of_ble_eq_true rfl) (Nat.le_of_ble_eq_true rfl) ?_
  exact ⟨rfl, congrArg hp rfl⟩

theorem passes_cur {k : Nat} (hk9 : k ≠ 115) {c0 : Nat} {S : gS} (hc : rI S 115 44 = nI c0) : rI (f_X9_passes S k) 115 44 = nI (c0 + 24) := pas_cur hk9 c0 S hc 24
def f_X9_passOne (S : gS) (v : Int32) : Int32 × gS := (if (rI S 115 43) = 0 then ((rI S 144 ((rI S 115 44)).toNatClampNeg), (wI (wI S 144 ((rI S 115 44)).toNatClampNeg ((rI S 144 ((rI S 115 44)).toNatClampNeg))) 115 44 (((rI S 115 44) + 1)))) else (v, (wI (wI S 144 ((rI S 115 44)).toNatClampNeg v) 115 44 (((rI S 115 44) + 1)))))
set_option maxRecDepth 100000 in
set_option maxHeartbeats 1000000 in
theorem ct_X9_passOne (S : gS) (v : Int32) (c0 : Nat) (hc : rI S 115 44 = nI c0) (h440 : c0 < 440) : gF mX9_passOne [.ref 115, .int v] S (some (.int (f_X9_passOne S v).1)) (f_X9_passOne S v).2 := by
  refine go_enter [.ref 115, .int v] [(0, .ref 115), (1, .int v)] (by decide +kernel) rfl rfl (Nat.le_of_ble_eq_true rfl) rfl ?_
  refine go_aload_n 1 dX9_passOne_0 rfl rfl ?_
  refine g_getI 4 dX9_passOne_1 rfl fF_RX9_363 ly_115 rfl ?_
  refine go_if_eq 7 11 dX9_passOne_4 rfl (by decide) (fun hc1 => ?_) (fun hc1 => ?_)
  · refine go_aload_n 12 dX9_passOne_11 rfl rfl ?_
    refine g_getR 15 dX9_passOne_12 rfl fF_RX9_95 ly_115 rfl ?_
    refine go_aload_n 16 dX9_passOne_15 rfl rfl ?_
    refine g_getI 19 dX9_passOne_16 rfl fF_RX9_366 ly_115 rfl ?_
    refine g_iald2 20 _ dX9_passOne_19 rfl ly_144 (by rw [hc]; exact nI_i h440 (by omega)) rfl ?_
    refine go_istore_n 21 [(2, .int _), (0, .ref 115), (1, .int _)] dX9_passOne_20 rfl (Nat.le_of_ble_eq_true rfl) rfl ?_
    refine go_aload_n 22 dX9_passOne_21 rfl rfl ?_
    refine g_getR 25 dX9_passOne_22 rfl fF_RX9_95 ly_115 rfl ?_
    refine go_aload_n 26 dX9_passOne_25 rfl rfl ?_
    refine g_getI 29 dX9_passOne_26 rfl fF_RX9_366 ly_115 rfl ?_
    refine go_iload_n 30 dX9_passOne_29 rfl rfl ?_
    refine g_iast2 31 _ dX9_passOne_30 rfl ly_144 (by rw [hc]; exact nI_i h440 (by omega)) rfl ?_
    refine go_aload_n 32 dX9_passOne_31 rfl rfl ?_
    refine go_dup 33 dX9_passOne_32 rfl rfl ?_
    refine g_getI 36 dX9_passOne_33 rfl fF_RX9_366 ly_115 rfl ?_
    refine go_topi (rI S 115 44) (rI_wIk (by decide) _ _ _) ?_
    refine go_iconst 37 (1) dX9_passOne_36 rfl (by decide) ?_
    refine go_iadd 38 dX9_passOne_37 rfl ?_
    refine g_putI 41 dX9_passOne_38 rfl fF_RX9_366 ly_115 rfl (fun q hq => by cases hq; rfl) rfl rfl ?_
    refine go_iload_n 42 dX9_passOne_41 rfl rfl ?_
    refine go_ireturn dX9_passOne_42 rfl (by first | rfl | exact bi_nar) (Nat.le_of_ble_eq_true rfl) (Nat.le_of_ble_eq_true rfl) ?_
    exact ⟨congrArg (fun z => some (Value.int z)) (by unfold f_X9_passOne; simp only [if_pos hc1]; try first | rfl | contradiction), congrArg hp (by unfold f_X9_passOne; simp only [if_pos hc1]; try first | rfl | contradiction)⟩
  · refine go_iload_n 8 dX9_passOne_7 rfl rfl ?_
    refine go_goto 20 dX9_passOne_8 (by decide) ?_
    refine go_istore_n 21 [(2, .int _), (0, .ref 115), (1, .int _)] dX9_passOne_20 rfl (Nat.le_of_ble_eq_true rfl) rfl ?_
    refine go_aload_n 22 dX9_passOne_21 rfl rfl ?_
    refine g_getR 25 dX9_passOne_22 rfl fF_RX9_95 ly_115 rfl ?_
    refine go_aload_n 26 dX9_passOne_25 rfl rfl ?_
    refine g_getI 29 dX9_passOne_26 rfl fF_RX9_366 ly_115 rfl ?_
    refine go_iload_n 30 dX9_passOne_29 rfl rfl ?_
    refine g_iast2 31 _ dX9_passOne_30 rfl ly_144 (by rw [hc]; exact nI_i h440 (by omega)) rfl ?_
    refine go_aload_n 32 dX9_passOne_31 rfl rfl ?_
    refine go_dup 33 dX9_passOne_32 rfl rfl ?_
    refine g_getI 36 dX9_passOne_33 rfl fF_RX9_366 ly_115 rfl ?_
    refine go_topi (rI S 115 44) (rI_wIk (by decide) _ _ _) ?_
    refine go_iconst 37 (1) dX9_passOne_36 rfl (by decide) ?_
    refine go_iadd 38 dX9_passOne_37 rfl ?_
    refine g_putI 41 dX9_passOne_38 rfl fF_RX9_366 ly_115 rfl (fun q hq => by cases hq; rfl) rfl rfl ?_
    refine go_iload_n 42 dX9_passOne_41 rfl rfl ?_
    refine go_ireturn dX9_passOne_42 rfl (by first | rfl | exact bi_nar) (Nat.le_of_ble_eq_true rfl) (Nat.le_of_ble_eq_true rfl) ?_
    exact ⟨congrArg (fun z => some (Value.int z)) (by unfold f_X9_passOne; simp only [if_neg hc1]; try first | rfl | contradiction), congrArg hp (by unfold f_X9_passOne; simp only [if_neg hc1]; try first | rfl | contradiction)⟩

theorem passOne_cur {v : Int32} {c0 : Nat} {S : gS} (hc : rI S 115 44 = nI c0) : rI (f_X9_passOne S v).2 115 44 = nI (c0 + 1) := by
  unfold f_X9_passOne
  split <;> (rw [rI_same, hc]; exact nI_1 c0)
