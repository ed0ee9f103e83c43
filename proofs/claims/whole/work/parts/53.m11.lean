-- needs 50.units 52.exec 51.m10
set_option maxRecDepth 100000 in
set_option maxHeartbeats 4000000 in
theorem ct_X9_narrowed (S : gS) (s v : Int32) (hs : vp_in s 24) : gF mX9_narrowed [.ref 115, .int s, .int v] S (some (.int (naF S s.toNatClampNeg v))) S := by
  refine go_enter [.ref 115, .int s, .int v] [(0, .ref 115), (1, .int s), (2, .int v)] (by decide +kernel) rfl rfl (Nat.le_of_ble_eq_true rfl) rfl ?_
  refine go_aload_n 1 dX9_narrowed_0 rfl rfl ?_
  refine go_iload_n 2 dX9_narrowed_1 rfl rfl ?_
  refine g_callV 5 [.int _] [] dX9_narrowed_2 rfl (ct_X9_widthOf _ _ hs) rfl sV_X9_narrowed_240 rfl ly_115 rfl rfl (Nat.le_of_ble_eq_true rfl) (Nat.le_of_ble_eq_true rfl) (Nat.le_of_ble_eq_true rfl) ?_
  refine go_istore_n 6 [(3, .int _), (0, .ref 115), (1, .int _), (2, .int _)] dX9_narrowed_5 rfl (Nat.le_of_ble_eq_true rfl) rfl ?_
  refine go_iload_n 7 dX9_narrowed_6 rfl rfl ?_
  refine go_if_ne 10 12 dX9_narrowed_7 rfl (by decide) (fun hc1 => ?_) (fun hc1 => ?_)
  · refine go_iload_n 13 dX9_narrowed_12 rfl rfl ?_
    refine go_bipush 15 (32) dX9_narrowed_13 rfl (by decide) ?_
    refine go_icmp_ne 18 20 dX9_narrowed_15 rfl (by decide) (fun hc2 => ?_) (fun hc2 => ?_)
    · refine go_aload_n 21 dX9_narrowed_20 rfl rfl ?_
      refine go_iload_n 22 dX9_narrowed_21 rfl rfl ?_
      refine g_callV 25 [.int _] [] dX9_narrowed_22 rfl (ct_X9_isNarrowedSigned _ _ hs) rfl sV_X9_narrowed_246 rfl ly_115 rfl rfl (Nat.le_of_ble_eq_true rfl) (Nat.le_of_ble_eq_true rfl) (Nat.le_of_ble_eq_true rfl) ?_
      refine go_if_eq 28 42 dX9_narrowed_25 rfl (by decide) (fun hc3 => ?_) (fun hc3 => ?_)
      · refine go_iload_n 43 dX9_narrowed_42 rfl rfl ?_
        refine go_iconst 44 (1) dX9_narrowed_43 rfl (by decide) ?_
        refine go_iload_n 45 dX9_narrowed_44 rfl rfl ?_
        refine go_ishl 46 dX9_narrowed_45 rfl ?_
        refine go_iconst 47 (1) dX9_narrowed_46 rfl (by decide) ?_
        refine go_isub 48 dX9_narrowed_47 rfl ?_
        refine go_iand 49 dX9_narrowed_48 rfl ?_
        refine go_ireturn dX9_narrowed_49 rfl (by first | rfl | exact bi_nar) (Nat.le_of_ble_eq_true rfl) (Nat.le_of_ble_eq_true rfl) ?_
        refine ⟨?_, rfl⟩
        unfold naF
        (try simp only [bi0, bi1, Classical.not_not] at *)
        simp_all [-Int32.not_le, -Int32.not_lt, -Int64.not_le, -Int64.not_lt]
      · refine go_iload_n 29 dX9_narrowed_28 rfl rfl ?_
        refine go_bipush 31 (32) dX9_narrowed_29 rfl (by decide) ?_
        refine go_iload_n 32 dX9_narrowed_31 rfl rfl ?_
        refine go_isub 33 dX9_narrowed_32 rfl ?_
        refine go_ishl 34 dX9_narrowed_33 rfl ?_
        refine go_bipush 36 (32) dX9_narrowed_34 rfl (by decide) ?_
        refine go_iload_n 37 dX9_narrowed_36 rfl rfl ?_
        refine go_isub 38 dX9_narrowed_37 rfl ?_
        refine go_ishr 39 dX9_narrowed_38 rfl ?_
        refine go_goto 49 dX9_narrowed_39 (by decide) ?_
        refine go_ireturn dX9_narrowed_49 rfl (by first | rfl | exact bi_nar) (Nat.le_of_ble_eq_true rfl) (Nat.le_of_ble_eq_true rfl) ?_
        refine ⟨?_, rfl⟩
        unfold naF
        (try simp only [bi0, bi1, Classical.not_not] at *)
        simp_all [-Int32.not_le, -Int32.not_lt, -Int64.not_le, -Int64.not_lt]
    · refine go_iload_n 19 dX9_narrowed_18 rfl rfl ?_
      refine go_ireturn dX9_narrowed_19 rfl (by first | rfl | exact bi_nar) (Nat.le_of_ble_eq_true rfl) (Nat.le_of_ble_eq_true rfl) ?_
      refine ⟨?_, rfl⟩
      unfold naF
      (try simp only [bi0, bi1, Classical.not_not] at *)
      simp_all [-Int32.not_le, -Int32.not_lt, -Int64.not_le, -Int64.not_lt]
  · refine go_iconst 11 (0) dX9_narrowed_10 rfl (by decide) ?_
    refine go_ireturn dX9_narrowed_11 rfl (by first | rfl | exact bi_nar) (Nat.le_of_ble_eq_true rfl) (Nat.le_of_ble_eq_true rfl) ?_
    refine ⟨?_, rfl⟩
    unfold naF
    (try simp only [bi0, bi1, Classical.not_not] at *)
    simp_all [-Int32.not_le, -Int32.not_lt, -Int64.not_le, -Int64.not_lt]

set_option maxRecDepth 100000 in
set_option maxHeartbeats 4000000 in
theorem tl_cm60 (S : gS) (s : Int32) (hs : vp_in s 24) (hk : okS S s.toNatClampNeg) (h0 : rI S 116 s.toNatClampNeg ≠ 0) (h2 : rI S 116 s.toNatClampNeg ≠ 2) : Go mX9_computed false (go_Qm mX9_computed false (fun v9 h9 => v9 = (some (.int (cmF S s.toNatClampNeg))) ∧ h9 = hp S) go_no) 0 0 60 [(3, .int (cmY S s.toNatClampNeg)), (2, .int (cmX S s.toNatClampNeg)), (1, .int s), (0, .ref 115)] [] (hp S) := by
  refine go_aload_n 61 dX9_computed_60 rfl rfl ?_
  refine g_getR 64 dX9_computed_61 rfl fF_RX9_7 ly_115 rfl ?_
  refine go_iload_n 65 dX9_computed_64 rfl rfl ?_
  refine g_iald 66 dX9_computed_65 rfl ly_116 hs ?_
  refine go_tableN 1 [(1, 124), (2, 174), (3, 131), (4, 135), (5, 139), (6, 143), (7, 147), (8, 151), (9, 155), (10, 159), (11, 163)] 174 dX9_computed_66 rfl rfl (by decide) (by decide) rfl (by decide) (List.forall_mem_cons.mpr ⟨fun hc1 => ?_, List.forall_mem_cons.mpr ⟨fun hc1 => ?_, List.forall_mem_cons.mpr ⟨fun hc1 => ?_, List.forall_mem_cons.mpr ⟨fun hc1 => ?_, List.forall_mem_cons.mpr ⟨fun hc1 => ?_, List.forall_mem_cons.mpr ⟨fun hc1 => ?_, List.forall_mem_cons.mpr ⟨fun hc1 => ?_, List.forall_mem_cons.mpr ⟨fun hc1 => ?_, List.forall_mem_cons.mpr ⟨fun hc1 => ?_, List.forall_mem_cons.mpr ⟨fun hc1 => ?_, List.forall_mem_cons.mpr ⟨fun hc1 => ?_, fun _ h => absurd h List.not_mem_nil⟩⟩⟩⟩⟩⟩⟩⟩⟩⟩⟩) (fun hc1 => ?_)
  · refine go_aload_n 125 dX9_computed_124 rfl rfl ?_
    refine g_getR 128 dX9_computed_125 rfl fF_RX9_13 ly_115 rfl ?_
    refine go_iload_n 129 dX9_computed_128 rfl rfl ?_
    refine g_iald 130 dX9_computed_129 rfl ly_117 hs ?_
    refine go_ireturn dX9_computed_130 rfl (by first | rfl | exact bi_nar) (Nat.le_of_ble_eq_true rfl) (Nat.le_of_ble_eq_true rfl) ?_
    refine ⟨?_, rfl⟩
    unfold cmF
    simp [hc1]
  · have hk12 : rI S 116 s.toNatClampNeg = 12 := by
      first
        | exact (h2 hc1).elim
        | (have h5 := hk.2.2.2; simp only [List.mem_cons, List.not_mem_nil, or_false, forall_eq_or_imp, forall_eq] at hc1; clear hk; generalize rI S 116 s.toNatClampNeg = k at *; simp only [ne_eq, ieq, ile] at *; simp at *; omega)
    refine go_iload_n 175 dX9_computed_174 rfl rfl ?_
    refine go_if_eq 178 182 dX9_computed_175 rfl (by decide) (fun hc2 => ?_) (fun hc2 => ?_)
    · refine go_aload_n 183 dX9_computed_182 rfl rfl ?_
      refine g_getR 186 dX9_computed_183 rfl fF_RX9_68 ly_115 rfl ?_
      refine go_aload_n 187 dX9_computed_186 rfl rfl ?_
      refine g_getR 190 dX9_computed_187 rfl fF_RX9_19 ly_115 rfl ?_
      refine go_iload_n 191 dX9_computed_190 rfl rfl ?_
      refine g_iald 192 dX9_computed_191 rfl ly_119 hs ?_
      refine g_iald 193 dX9_computed_192 rfl ly_135 (hk.2.2.1 hk12) ?_
      refine go_ireturn dX9_computed_193 rfl (by first | rfl | exact bi_nar) (Nat.le_of_ble_eq_true rfl) (Nat.le_of_ble_eq_true rfl) ?_
      refine ⟨?_, rfl⟩
      unfold cmF
      rw [hk12]
      simp_all [-Int32.not_le, -Int32.not_lt, -Int64.not_le, -Int64.not_lt]
    · refine go_iload_n 179 dX9_computed_178 rfl rfl ?_
      refine go_goto 193 dX9_computed_179 (by decide) ?_
      refine go_ireturn dX9_computed_193 rfl (by first | rfl | exact bi_nar) (Nat.le_of_ble_eq_true rfl) (Nat.le_of_ble_eq_true rfl) ?_
      refine ⟨?_, rfl⟩
      unfold cmF
      rw [hk12]
      simp_all [-Int32.not_le, -Int32.not_lt, -Int64.not_le, -Int64.not_lt]
  · refine go_iload_n 132 dX9_computed_131 rfl rfl ?_
    refine go_iload_n 133 dX9_computed_132 rfl rfl ?_
    refine go_iadd 134 dX9_computed_133 rfl ?_
    refine go_ireturn dX9_computed_134 rfl (by first | rfl | exact bi_nar) (Nat.le_of_ble_eq_true rfl) (Nat.le_of_ble_eq_true rfl) ?_
    refine ⟨?_, rfl⟩
    unfold cmF
    simp [hc1]
  · refine go_iload_n 136 dX9_computed_135 rfl rfl ?_
    refine go_iload_n 137 dX9_computed_136 rfl rfl ?_
    refine go_isub 138 dX9_computed_137 rfl ?_
    refine go_ireturn dX9_computed_138 rfl (by first | rfl | exact bi_nar) (Nat.le_of_ble_eq_true rfl) (Nat.le_of_ble_eq_true rfl) ?_
    refine ⟨?_, rfl⟩
    unfold cmF
    simp [hc1]
  · refine go_iload_n 140 dX9_computed_139 rfl rfl ?_
    refine go_iload_n 141 dX9_computed_140 rfl rfl ?_
    refine go_imul 142 dX9_computed_141 rfl ?_
    refine go_ireturn dX9_computed_142 rfl (by first | rfl | exact bi_nar) (Nat.le_of_ble_eq_true rfl) (Nat.le_of_ble_eq_true rfl) ?_
    refine ⟨?_, rfl⟩
    unfold cmF
    simp [hc1]
  · refine go_iload_n 144 dX9_computed_143 rfl rfl ?_
    refine go_iload_n 145 dX9_computed_144 rfl rfl ?_
    refine go_iand 146 dX9_computed_145 rfl ?_
    refine go_ireturn dX9_computed_146 rfl (by first | rfl | exact bi_nar) (Nat.le_of_ble_eq_true rfl) (Nat.le_of_ble_eq_true rfl) ?_
    refine ⟨?_, rfl⟩
    unfold cmF
    simp [hc1]
  · refine go_iload_n 148 dX9_computed_147 rfl rfl ?_
    refine go_iload_n 149 dX9_computed_148 rfl rfl ?_
    refine go_ior 150 dX9_computed_149 rfl ?_
    refine go_ireturn dX9_computed_150 rfl (by first | rfl | exact bi_nar) (Nat.le_of_ble_eq_true rfl) (Nat.le_of_ble_eq_true rfl) ?_
    refine ⟨?_, rfl⟩
    unfold cmF
    simp [hc1]
  · refine go_iload_n 152 dX9_computed_151 rfl rfl ?_
    refine go_iload_n 153 dX9_computed_152 rfl rfl ?_
    refine go_ixor 154 dX9_computed_153 rfl ?_
    refine go_ireturn dX9_computed_154 rfl (by first | rfl | exact bi_nar) (Nat.le_of_ble_eq_true rfl) (Nat.le_of_ble_eq_true rfl) ?_
    refine ⟨?_, rfl⟩
    unfold cmF
    simp [hc1]
  · refine go_iload_n 156 dX9_computed_155 rfl rfl ?_
    refine go_iload_n 157 dX9_computed_156 rfl rfl ?_
    refine go_ishl 158 dX9_computed_157 rfl ?_
    refine go_ireturn dX9_computed_158 rfl (by first | rfl | exact bi_nar) (Nat.le_of_ble_eq_true rfl) (Nat.le_of_ble_eq_true rfl) ?_
    refine ⟨?_, rfl⟩
    unfold cmF
    simp [hc1]
  · refine go_iload_n 160 dX9_computed_159 rfl rfl ?_
    refine go_iload_n 161 dX9_computed_160 rfl rfl ?_
    refine go_ishr 162 dX9_computed_161 rfl ?_
    refine go_ireturn dX9_computed_162 rfl (by first | rfl | exact bi_nar) (Nat.le_of_ble_eq_true rfl) (Nat.le_of_ble_eq_true rfl) ?_
    refine ⟨?_, rfl⟩
    unfold cmF
    simp [hc1]
  · refine go_iload_n 164 dX9_computed_163 rfl rfl ?_
    refine go_iload_n 165 dX9_computed_164 rfl rfl ?_
    refine go_icmp_ge 168 172 dX9_computed_165 rfl (by decide) (fun hc3 => ?_) (fun hc3 => ?_)
    · refine go_iconst 173 (0) dX9_computed_172 rfl (by decide) ?_
      refine go_ireturn dX9_computed_173 rfl (by first | rfl | exact bi_nar) (Nat.le_of_ble_eq_true rfl) (Nat.le_of_ble_eq_true rfl) ?_
      refine ⟨?_, rfl⟩
      unfold cmF
      rw [hc1]
      simp_all [-Int32.not_le, -Int32.not_lt, -Int64.not_le, -Int64.not_lt]
    · refine go_iconst 169 (1) dX9_computed_168 rfl (by decide) ?_
      refine go_goto 173 dX9_computed_169 (by decide) ?_
      refine go_ireturn dX9_computed_173 rfl (by first | rfl | exact bi_nar) (Nat.le_of_ble_eq_true rfl) (Nat.le_of_ble_eq_true rfl) ?_
      refine ⟨?_, rfl⟩
      unfold cmF
      rw [hc1]
      simp_all [-Int32.not_le, -Int32.not_lt, -Int64.not_le, -Int64.not_lt]
  · have hk12 : rI S 116 s.toNatClampNeg = 12 := by
      first
        | exact (h2 hc1).elim
        | (have h5 := hk.2.2.2; simp only [List.mem_cons, List.not_mem_nil, or_false, forall_eq_or_imp, forall_eq] at hc1; clear hk; generalize rI S 116 s.toNatClampNeg = k at *; simp only [ne_eq, ieq, ile] at *; simp at *; omega)
    refine go_iload_n 175 dX9_computed_174 rfl rfl ?_
    refine go_if_eq 178 182 dX9_computed_175 rfl (by decide) (fun hc4 => ?_) (fun hc4 => ?_)
    · refine go_aload_n 183 dX9_computed_182 rfl rfl ?_
      refine g_getR 186 dX9_computed_183 rfl fF_RX9_68 ly_115 rfl ?_
      refine go_aload_n 187 dX9_computed_186 rfl rfl ?_
      refine g_getR 190 dX9_computed_187 rfl fF_RX9_19 ly_115 rfl ?_
      refine go_iload_n 191 dX9_computed_190 rfl rfl ?_
      refine g_iald 192 dX9_computed_191 rfl ly_119 hs ?_
      refine g_iald 193 dX9_computed_192 rfl ly_135 (hk.2.2.1 hk12) ?_
      refine go_ireturn dX9_computed_193 rfl (by first | rfl | exact bi_nar) (Nat.le_of_ble_eq_true rfl) (Nat.le_of_ble_eq_true rfl) ?_
      refine ⟨?_, rfl⟩
      unfold cmF
      rw [hk12]
      simp_all [-Int32.not_le, -Int32.not_lt, -Int64.not_le, -Int64.not_lt]
    · refine go_iload_n 179 dX9_computed_178 rfl rfl ?_
      refine go_goto 193 dX9_computed_179 (by decide) ?_
      refine go_ireturn dX9_computed_193 rfl (by first | rfl | exact bi_nar) (Nat.le_of_ble_eq_true rfl) (Nat.le_of_ble_eq_true rfl) ?_
      refine ⟨?_, rfl⟩
      unfold cmF
      rw [hk12]
      simp_all [-Int32.not_le, -Int32.not_lt, -Int64.not_le, -Int64.not_lt]

set_option maxRecDepth 100000 in
set_option maxHeartbeats 4000000 in
theorem tl_cm26 (S : gS) (s : Int32) (hs : vp_in s 24) (hk : okS S s.toNatClampNeg) (h0 : rI S 116 s.toNatClampNeg ≠ 0) (h2 : rI S 116 s.toNatClampNeg ≠ 2) : Go mX9_computed false (go_Qm mX9_computed false (fun v9 h9 => v9 = (some (.int (cmF S s.toNatClampNeg))) ∧ h9 = hp S) go_no) 0 0 26 [(2, .int (cmX S s.toNatClampNeg)), (1, .int s), (0, .ref 115)] [] (hp S) := by
  refine go_aload_n 27 dX9_computed_26 rfl rfl ?_
  refine g_getR 30 dX9_computed_27 rfl fF_RX9_7 ly_115 rfl ?_
  refine go_iload_n 31 dX9_computed_30 rfl rfl ?_
  refine g_iald 32 dX9_computed_31 rfl ly_116 hs ?_
  refine go_iconst 33 (1) dX9_computed_32 rfl (by decide) ?_
  refine g_callS 36 [.int _, .int _] [] dX9_computed_33 rfl (ct_X9_isOperandSignal _ _ _) rfl sV_X9_computed_119 rfl (Nat.le_of_ble_eq_true rfl) (Nat.le_of_ble_eq_true rfl) (Nat.le_of_ble_eq_true rfl) ?_
  refine go_if_eq 39 53 dX9_computed_36 rfl (by decide) (fun hc1 => ?_) (fun hc1 => ?_)
  · refine go_aload_n 54 dX9_computed_53 rfl rfl ?_
    refine g_getR 57 dX9_computed_54 rfl fF_RX9_16 ly_115 rfl ?_
    refine go_iload_n 58 dX9_computed_57 rfl rfl ?_
    refine g_iald 59 dX9_computed_58 rfl ly_118 hs ?_
    refine go_topi (cmY S s.toNatClampNeg) (by unfold cmY; first | (rw [if_pos (bi1.mp hc1)]; done) | (rw [if_neg (bi0.mp hc1)]; done)) ?_
    refine go_istore_n 60 [(3, .int _), (2, .int _), (1, .int _), (0, .ref 115)] dX9_computed_59 rfl (Nat.le_of_ble_eq_true rfl) rfl ?_
    refine go_ls [(3, .int _), (2, .int _), (1, .int s), (0, .ref 115)] (List.forall_mem_cons.mpr ⟨rfl, List.forall_mem_cons.mpr ⟨rfl, List.forall_mem_cons.mpr ⟨rfl, List.forall_mem_cons.mpr ⟨rfl, fun _ h => absurd h List.not_mem_nil⟩⟩⟩⟩) ?_
    exact tl_cm60 S s hs hk h0 h2
  · refine go_aload_n 40 dX9_computed_39 rfl rfl ?_
    refine g_getR 43 dX9_computed_40 rfl fF_RX9_68 ly_115 rfl ?_
    refine go_aload_n 44 dX9_computed_43 rfl rfl ?_
    refine g_getR 47 dX9_computed_44 rfl fF_RX9_16 ly_115 rfl ?_
    refine go_iload_n 48 dX9_computed_47 rfl rfl ?_
    refine g_iald 49 dX9_computed_48 rfl ly_118 hs ?_
    refine g_iald 50 dX9_computed_49 rfl ly_135 (hk.2.1 (bi1.mp hc1).1 (by have q := (bi1.mp hc1).2; simp at q; exact q.1) (by have q := (bi1.mp hc1).2; simp at q; exact q.2)) ?_
    refine go_goto 59 dX9_computed_50 (by decide) ?_
    refine go_topi (cmY S s.toNatClampNeg) (by unfold cmY; first | (rw [if_pos (bi1.mp hc1)]; done) | (rw [if_neg (bi0.mp hc1)]; done)) ?_
    refine go_istore_n 60 [(3, .int _), (2, .int _), (1, .int _), (0, .ref 115)] dX9_computed_59 rfl (Nat.le_of_ble_eq_true rfl) rfl ?_
    refine go_ls [(3, .int _), (2, .int _), (1, .int s), (0, .ref 115)] (List.forall_mem_cons.mpr ⟨rfl, List.forall_mem_cons.mpr ⟨rfl, List.forall_mem_cons.mpr ⟨rfl, List.forall_mem_cons.mpr ⟨rfl, fun _ h => absurd h List.not_mem_nil⟩⟩⟩⟩) ?_
    exact tl_cm60 S s hs hk h0 h2

set_option maxRecDepth 100000 in
set_option maxHeartbeats 4000000 in
theorem ct_X9_computed (S : gS) (s : Int32) (hs : vp_in s 24) (hk : okS S s.toNatClampNeg) (h0 : rI S 116 s.toNatClampNeg ≠ 0) (h2 : rI S 116 s.toNatClampNeg ≠ 2) : gF mX9_computed [.ref 115, .int s] S (some (.int (cmF S s.toNatClampNeg))) S := by
  refine go_enter [.ref 115, .int s] [(0, .ref 115), (1, .int s)] (by decide +kernel) rfl rfl (Nat.le_of_ble_eq_true rfl) rfl ?_
  refine go_aload_n 1 dX9_computed_0 rfl rfl ?_
  refine g_getR 4 dX9_computed_1 rfl fF_RX9_7 ly_115 rfl ?_
  refine go_iload_n 5 dX9_computed_4 rfl rfl ?_
  refine g_iald 6 dX9_computed_5 rfl ly_116 hs ?_
  refine go_iconst 7 (3) dX9_computed_6 rfl (by decide) ?_
  refine go_icmp_lt 10 24 dX9_computed_7 rfl (by decide) (fun hc1 => ?_) (fun hc1 => ?_)
  · refine go_iconst 25 (0) dX9_computed_24 rfl (by decide) ?_
    refine go_topi (cmX S s.toNatClampNeg) (by unfold cmX; first | (rw [if_pos hc1]; done) | (rw [if_neg hc1]; done)) ?_
    refine go_istore_n 26 [(2, .int _), (0, .ref 115), (1, .int _)] dX9_computed_25 rfl (Nat.le_of_ble_eq_true rfl) rfl ?_
    refine go_ls [(2, .int _), (1, .int s), (0, .ref 115)] (List.forall_mem_cons.mpr ⟨rfl, List.forall_mem_cons.mpr ⟨rfl, List.forall_mem_cons.mpr ⟨rfl, fun _ h => absurd h List.not_mem_nil⟩⟩⟩) ?_
    exact tl_cm26 S s hs hk h0 h2
  · refine go_aload_n 11 dX9_computed_10 rfl rfl ?_
    refine g_getR 14 dX9_computed_11 rfl fF_RX9_68 ly_115 rfl ?_
    refine go_aload_n 15 dX9_computed_14 rfl rfl ?_
    refine g_getR 18 dX9_computed_15 rfl fF_RX9_13 ly_115 rfl ?_
    refine go_iload_n 19 dX9_computed_18 rfl rfl ?_
    refine g_iald 20 dX9_computed_19 rfl ly_117 hs ?_
    refine g_iald 21 dX9_computed_20 rfl ly_135 (hk.1 (Int32.not_lt.mp hc1)) ?_
    refine go_goto 25 dX9_computed_21 (by decide) ?_
    refine go_topi (cmX S s.toNatClampNeg) (by unfold cmX; first | (rw [if_pos hc1]; done) | (rw [if_neg hc1]; done)) ?_
    refine go_istore_n 26 [(2, .int _), (0, .ref 115), (1, .int _)] dX9_computed_25 rfl (Nat.le_of_ble_eq_true rfl) rfl ?_
    refine go_ls [(2, .int _), (1, .int s), (0, .ref 115)] (List.forall_mem_cons.mpr ⟨rfl, List.forall_mem_cons.mpr ⟨rfl, List.forall_mem_cons.mpr ⟨rfl, fun _ h => absurd h List.not_mem_nil⟩⟩⟩) ?_
    exact tl_cm26 S s hs hk h0 h2
