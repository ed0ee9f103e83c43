set_option maxRecDepth 100000 in
set_option maxHeartbeats 4000000 in
theorem tl_fr243 (S : gS) (s : Int32) (hs : vp_in s 24) (T : gS) (a c : Int32) (hT : frF S s.toNatClampNeg = T) : Go mX9_findsRange false (go_Qm mX9_findsRange false (fun v9 h9 => v9 = none ∧ h9 = hp (frT S s.toNatClampNeg)) go_no) 0 0 243 [(3, .int c), (2, .int a), (1, .int s), (0, .ref 115)] [] (hp T) := by
  refine go_aload_n 244 dX9_findsRange_243 rfl rfl ?_
  refine g_getR 247 dX9_findsRange_244 rfl fF_RX9_37 ly_115 rfl ?_
  refine go_iload_n 248 dX9_findsRange_247 rfl rfl ?_
  refine go_aload_n 249 dX9_findsRange_248 rfl rfl ?_
  refine g_getJ 252 dX9_findsRange_249 rfl fF_RX9_154 ly_115 rfl ?_
  refine g_last 253 dX9_findsRange_252 rfl ly_125 hs ?_
  refine go_aload_n 254 dX9_findsRange_253 rfl rfl ?_
  refine g_getR 257 dX9_findsRange_254 rfl fF_RX9_41 ly_115 rfl ?_
  refine go_iload_n 258 dX9_findsRange_257 rfl rfl ?_
  refine go_aload_n 259 dX9_findsRange_258 rfl rfl ?_
  refine g_getJ 262 dX9_findsRange_259 rfl fF_RX9_158 ly_115 rfl ?_
  refine g_last 263 dX9_findsRange_262 rfl ly_126 hs ?_
  refine go_return dX9_findsRange_263 rfl (Nat.le_of_ble_eq_true rfl) (Nat.le_of_ble_eq_true rfl) ?_
  exact ⟨rfl, congrArg hp (Eq.symm (frT_eq hT))⟩

set_option maxRecDepth 100000 in
set_option maxHeartbeats 4000000 in
theorem ct_X9_findsRange (S : gS) (s : Int32) (hs : vp_in s 24) (hk : okS S s.toNatClampNeg) (h2 : rI S 116 s.toNatClampNeg ≠ 2) : gF mX9_findsRange [.ref 115, .int s] S none (frT S s.toNatClampNeg) := by
  refine go_enter [.ref 115, .int s] [(0, .ref 115), (1, .int s)] (by decide +kernel) rfl rfl (Nat.le_of_ble_eq_true rfl) rfl ?_
  refine go_aload_n 1 dX9_findsRange_0 rfl rfl ?_
  refine g_getR 4 dX9_findsRange_1 rfl fF_RX9_13 ly_115 rfl ?_
  refine go_iload_n 5 dX9_findsRange_4 rfl rfl ?_
  refine g_iald 6 dX9_findsRange_5 rfl ly_117 hs ?_
  refine go_istore_n 7 [(2, .int _), (0, .ref 115), (1, .int _)] dX9_findsRange_6 rfl (Nat.le_of_ble_eq_true rfl) rfl ?_
  refine go_aload_n 8 dX9_findsRange_7 rfl rfl ?_
  refine g_getR 11 dX9_findsRange_8 rfl fF_RX9_16 ly_115 rfl ?_
  refine go_iload_n 12 dX9_findsRange_11 rfl rfl ?_
  refine g_iald 13 dX9_findsRange_12 rfl ly_118 hs ?_
  refine go_istore_n 14 [(3, .int _), (2, .int _), (0, .ref 115), (1, .int _)] dX9_findsRange_13 rfl (Nat.le_of_ble_eq_true rfl) rfl ?_
  refine go_aload_n 15 dX9_findsRange_14 rfl rfl ?_
  refine g_getR 18 dX9_findsRange_15 rfl fF_RX9_7 ly_115 rfl ?_
  refine go_iload_n 19 dX9_findsRange_18 rfl rfl ?_
  refine g_iald 20 dX9_findsRange_19 rfl ly_116 hs ?_
  refine go_tableS [(0, 84), (1, 95), (2, 231), (3, 106), (4, 106), (5, 106), (6, 121), (7, 121), (8, 121), (9, 136), (10, 159), (11, 182)] 231 dX9_findsRange_20 rfl rfl (by decide) (by decide) rfl (by decide) (List.forall_mem_cons.mpr ⟨fun hc1 => ?_, List.forall_mem_cons.mpr ⟨fun hc1 => ?_, List.forall_mem_cons.mpr ⟨fun hc1 => ?_, List.forall_mem_cons.mpr ⟨fun hc1 => ?_, List.forall_mem_cons.mpr ⟨fun hc1 => ?_, List.forall_mem_cons.mpr ⟨fun hc1 => ?_, List.forall_mem_cons.mpr ⟨fun hc1 => ?_, List.forall_mem_cons.mpr ⟨fun hc1 => ?_, List.forall_mem_cons.mpr ⟨fun hc1 => ?_, List.forall_mem_cons.mpr ⟨fun hc1 => ?_, List.forall_mem_cons.mpr ⟨fun hc1 => ?_, List.forall_mem_cons.mpr ⟨fun hc1 => ?_, fun _ h => absurd h List.not_mem_nil⟩⟩⟩⟩⟩⟩⟩⟩⟩⟩⟩⟩) (fun hc1 => ?_)
  · refine go_aload_n 85 dX9_findsRange_84 rfl rfl ?_
    refine go_iload_n 86 dX9_findsRange_85 rfl rfl ?_
    refine go_i2l 87 dX9_findsRange_86 rfl ?_
    refine go_iload_n 88 dX9_findsRange_87 rfl rfl ?_
    refine go_i2l 89 dX9_findsRange_88 rfl ?_
    refine g_callV0 92 [.long _, .long _] [] dX9_findsRange_89 rfl (ct_X9_finds _ _ _) rfl sV_X9_findsRange_184 rfl ly_115 rfl rfl (Nat.le_of_ble_eq_true rfl) (Nat.le_of_ble_eq_true rfl) (Nat.le_of_ble_eq_true rfl) ?_
    refine go_goto 243 dX9_findsRange_92 (by decide) ?_
    refine go_ls [(3, .int _), (2, .int _), (1, .int s), (0, .ref 115)] (List.forall_mem_cons.mpr ⟨rfl, List.forall_mem_cons.mpr ⟨rfl, List.forall_mem_cons.mpr ⟨rfl, List.forall_mem_cons.mpr ⟨rfl, fun _ h => absurd h List.not_mem_nil⟩⟩⟩⟩) ?_
    exact tl_fr243 S s hs _ _ _ (frF_0 hc1)
  · refine go_aload_n 96 dX9_findsRange_95 rfl rfl ?_
    refine go_iload_n 97 dX9_findsRange_96 rfl rfl ?_
    refine go_i2l 98 dX9_findsRange_97 rfl ?_
    refine go_iload_n 99 dX9_findsRange_98 rfl rfl ?_
    refine go_i2l 100 dX9_findsRange_99 rfl ?_
    refine g_callV0 103 [.long _, .long _] [] dX9_findsRange_100 rfl (ct_X9_finds _ _ _) rfl sV_X9_findsRange_184 rfl ly_115 rfl rfl (Nat.le_of_ble_eq_true rfl) (Nat.le_of_ble_eq_true rfl) (Nat.le_of_ble_eq_true rfl) ?_
    refine go_goto 243 dX9_findsRange_103 (by decide) ?_
    refine go_ls [(3, .int _), (2, .int _), (1, .int s), (0, .ref 115)] (List.forall_mem_cons.mpr ⟨rfl, List.forall_mem_cons.mpr ⟨rfl, List.forall_mem_cons.mpr ⟨rfl, List.forall_mem_cons.mpr ⟨rfl, fun _ h => absurd h List.not_mem_nil⟩⟩⟩⟩) ?_
    exact tl_fr243 S s hs _ _ _ (frF_1 hc1)
  · have hk12 : rI S 116 s.toNatClampNeg = 12 := by
      first | exact (h2 hc1).elim | exact hk.twelve h2 hc1
    clear hc1
    have hc1 := hk12
    refine go_aload_n 232 dX9_findsRange_231 rfl rfl ?_
    refine go_iload_n 233 dX9_findsRange_232 rfl rfl ?_
    refine go_iload_n 234 dX9_findsRange_233 rfl rfl ?_
    refine go_aload_n 235 dX9_findsRange_234 rfl rfl ?_
    refine g_getR 238 dX9_findsRange_235 rfl fF_RX9_19 ly_115 rfl ?_
    refine go_iload_n 239 dX9_findsRange_238 rfl rfl ?_
    refine g_iald 240 dX9_findsRange_239 rfl ly_119 hs ?_
    refine g_callV0 243 [.int _, .int _, .int _] [] dX9_findsRange_240 rfl (ct_X9_findsChoice _ _ _ _ (hk.1 (by rw [hk12]; decide)) (hk.2.1 (by rw [hk12]; decide) (by rw [hk12]; decide) (by rw [hk12]; decide)) (hk.2.2.1 hk12)) rfl sV_X9_findsRange_201 rfl ly_115 rfl rfl (Nat.le_of_ble_eq_true rfl) (Nat.le_of_ble_eq_true rfl) (Nat.le_of_ble_eq_true rfl) ?_
    refine go_ls [(3, .int _), (2, .int _), (1, .int s), (0, .ref 115)] (List.forall_mem_cons.mpr ⟨rfl, List.forall_mem_cons.mpr ⟨rfl, List.forall_mem_cons.mpr ⟨rfl, List.forall_mem_cons.mpr ⟨rfl, fun _ h => absurd h List.not_mem_nil⟩⟩⟩⟩) ?_
    exact tl_fr243 S s hs _ _ _ (frF_12 hc1)
  · refine go_aload_n 107 dX9_findsRange_106 rfl rfl ?_
    refine go_aload_n 108 dX9_findsRange_107 rfl rfl ?_
    refine g_getR 111 dX9_findsRange_108 rfl fF_RX9_7 ly_115 rfl ?_
    refine go_iload_n 112 dX9_findsRange_111 rfl rfl ?_
    refine g_iald 113 dX9_findsRange_112 rfl ly_116 hs ?_
    refine go_iload_n 114 dX9_findsRange_113 rfl rfl ?_
    refine go_iload_n 115 dX9_findsRange_114 rfl rfl ?_
    refine g_callV0 118 [.int _, .int _, .int _] [] dX9_findsRange_115 rfl (ct_X9_findsArithmetic _ _ _ _ (hk.1 (by rw [hc1]; decide)) (hk.2.1 (by rw [hc1]; decide) (by rw [hc1]; decide) (by rw [hc1]; decide))) rfl sV_X9_findsRange_194 rfl ly_115 rfl rfl (Nat.le_of_ble_eq_true rfl) (Nat.le_of_ble_eq_true rfl) (Nat.le_of_ble_eq_true rfl) ?_
    refine go_goto 243 dX9_findsRange_118 (by decide) ?_
    refine go_ls [(3, .int _), (2, .int _), (1, .int s), (0, .ref 115)] (List.forall_mem_cons.mpr ⟨rfl, List.forall_mem_cons.mpr ⟨rfl, List.forall_mem_cons.mpr ⟨rfl, List.forall_mem_cons.mpr ⟨rfl, fun _ h => absurd h List.not_mem_nil⟩⟩⟩⟩) ?_
    exact tl_fr243 S s hs _ _ _ (frF_3 hc1)
  · refine go_aload_n 107 dX9_findsRange_106 rfl rfl ?_
    refine go_aload_n 108 dX9_findsRange_107 rfl rfl ?_
    refine g_getR 111 dX9_findsRange_108 rfl fF_RX9_7 ly_115 rfl ?_
    refine go_iload_n 112 dX9_findsRange_111 rfl rfl ?_
    refine g_iald 113 dX9_findsRange_112 rfl ly_116 hs ?_
    refine go_iload_n 114 dX9_findsRange_113 rfl rfl ?_
    refine go_iload_n 115 dX9_findsRange_114 rfl rfl ?_
    refine g_callV0 118 [.int _, .int _, .int _] [] dX9_findsRange_115 rfl (ct_X9_findsArithmetic _ _ _ _ (hk.1 (by rw [hc1]; decide)) (hk.2.1 (by rw [hc1]; decide) (by rw [hc1]; decide) (by rw [hc1]; decide))) rfl sV_X9_findsRange_194 rfl ly_115 rfl rfl (Nat.le_of_ble_eq_true rfl) (Nat.le_of_ble_eq_true rfl) (Nat.le_of_ble_eq_true rfl) ?_
    refine go_goto 243 dX9_findsRange_118 (by decide) ?_
    refine go_ls [(3, .int _), (2, .int _), (1, .int s), (0, .ref 115)] (List.forall_mem_cons.mpr ⟨rfl, List.forall_mem_cons.mpr ⟨rfl, List.forall_mem_cons.mpr ⟨rfl, List.forall_mem_cons.mpr ⟨rfl, fun _ h => absurd h List.not_mem_nil⟩⟩⟩⟩) ?_
    exact tl_fr243 S s hs _ _ _ (frF_4 hc1)
  · refine go_aload_n 107 dX9_findsRange_106 rfl rfl ?_
    refine go_aload_n 108 dX9_findsRange_107 rfl rfl ?_
    refine g_getR 111 dX9_findsRange_108 rfl fF_RX9_7 ly_115 rfl ?_
    refine go_iload_n 112 dX9_findsRange_111 rfl rfl ?_
    refine g_iald 113 dX9_findsRange_112 rfl ly_116 hs ?_
    refine go_iload_n 114 dX9_findsRange_113 rfl rfl ?_
    refine go_iload_n 115 dX9_findsRange_114 rfl rfl ?_
    refine g_callV0 118 [.int _, .int _, .int _] [] dX9_findsRange_115 rfl (ct_X9_findsArithmetic _ _ _ _ (hk.1 (by rw [hc1]; decide)) (hk.2.1 (by rw [hc1]; decide) (by rw [hc1]; decide) (by rw [hc1]; decide))) rfl sV_X9_findsRange_194 rfl ly_115 rfl rfl (Nat.le_of_ble_eq_true rfl) (Nat.le_of_ble_eq_true rfl) (Nat.le_of_ble_eq_true rfl) ?_
    refine go_goto 243 dX9_findsRange_118 (by decide) ?_
    refine go_ls [(3, .int _), (2, .int _), (1, .int s), (0, .ref 115)] (List.forall_mem_cons.mpr ⟨rfl, List.forall_mem_cons.mpr ⟨rfl, List.forall_mem_cons.mpr ⟨rfl, List.forall_mem_cons.mpr ⟨rfl, fun _ h => absurd h List.not_mem_nil⟩⟩⟩⟩) ?_
    exact tl_fr243 S s hs _ _ _ (frF_5 hc1)
  · refine go_aload_n 122 dX9_findsRange_121 rfl rfl ?_
    refine go_aload_n 123 dX9_findsRange_122 rfl rfl ?_
    refine g_getR 126 dX9_findsRange_123 rfl fF_RX9_7 ly_115 rfl ?_
    refine go_iload_n 127 dX9_findsRange_126 rfl rfl ?_
    refine g_iald 128 dX9_findsRange_127 rfl ly_116 hs ?_
    refine go_iload_n 129 dX9_findsRange_128 rfl rfl ?_
    refine go_iload_n 130 dX9_findsRange_129 rfl rfl ?_
    refine g_callV0 133 [.int _, .int _, .int _] [] dX9_findsRange_130 rfl (ct_X9_findsLogic _ _ _ _ (hk.1 (by rw [hc1]; decide)) (hk.2.1 (by rw [hc1]; decide) (by rw [hc1]; decide) (by rw [hc1]; decide))) rfl sV_X9_findsRange_198 rfl ly_115 rfl rfl (Nat.le_of_ble_eq_true rfl) (Nat.le_of_ble_eq_true rfl) (Nat.le_of_ble_eq_true rfl) ?_
    refine go_goto 243 dX9_findsRange_133 (by decide) ?_
    refine go_ls [(3, .int _), (2, .int _), (1, .int s), (0, .ref 115)] (List.forall_mem_cons.mpr ⟨rfl, List.forall_mem_cons.mpr ⟨rfl, List.forall_mem_cons.mpr ⟨rfl, List.forall_mem_cons.mpr ⟨rfl, fun _ h => absurd h List.not_mem_nil⟩⟩⟩⟩) ?_
    exact tl_fr243 S s hs _ _ _ (frF_6 hc1)
  · refine go_aload_n 122 dX9_findsRange_121 rfl rfl ?_
    refine go_aload_n 123 dX9_findsRange_122 rfl rfl ?_
    refine g_getR 126 dX9_findsRange_123 rfl fF_RX9_7 ly_115 rfl ?_
    refine go_iload_n 127 dX9_findsRange_126 rfl rfl ?_
    refine g_iald 128 dX9_findsRange_127 rfl ly_116 hs ?_
    refine go_iload_n 129 dX9_findsRange_128 rfl rfl ?_
    refine go_iload_n 130 dX9_findsRange_129 rfl rfl ?_
    refine g_callV0 133 [.int _, .int _, .int _] [] dX9_findsRange_130 rfl (ct_X9_findsLogic _ _ _ _ (hk.1 (by rw [hc1]; decide)) (hk.2.1 (by rw [hc1]; decide) (by rw [hc1]; decide) (by rw [hc1]; decide))) rfl sV_X9_findsRange_198 rfl ly_115 rfl rfl (Nat.le_of_ble_eq_true rfl) (Nat.le_of_ble_eq_true rfl) (Nat.le_of_ble_eq_true rfl) ?_
    refine go_goto 243 dX9_findsRange_133 (by decide) ?_
    refine go_ls [(3, .int _), (2, .int _), (1, .int s), (0, .ref 115)] (List.forall_mem_cons.mpr ⟨rfl, List.forall_mem_cons.mpr ⟨rfl, List.forall_mem_cons.mpr ⟨rfl, List.forall_mem_cons.mpr ⟨rfl, fun _ h => absurd h List.not_mem_nil⟩⟩⟩⟩) ?_
    exact tl_fr243 S s hs _ _ _ (frF_7 hc1)
  · refine go_aload_n 122 dX9_findsRange_121 rfl rfl ?_
    refine go_aload_n 123 dX9_findsRange_122 rfl rfl ?_
    refine g_getR 126 dX9_findsRange_123 rfl fF_RX9_7 ly_115 rfl ?_
    refine go_iload_n 127 dX9_findsRange_126 rfl rfl ?_
    refine g_iald 128 dX9_findsRange_127 rfl ly_116 hs ?_
    refine go_iload_n 129 dX9_findsRange_128 rfl rfl ?_
    refine go_iload_n 130 dX9_findsRange_129 rfl rfl ?_
    refine g_callV0 133 [.int _, .int _, .int _] [] dX9_findsRange_130 rfl (ct_X9_findsLogic _ _ _ _ (hk.1 (by rw [hc1]; decide)) (hk.2.1 (by rw [hc1]; decide) (by rw [hc1]; decide) (by rw [hc1]; decide))) rfl sV_X9_findsRange_198 rfl ly_115 rfl rfl (Nat.le_of_ble_eq_true rfl) (Nat.le_of_ble_eq_true rfl) (Nat.le_of_ble_eq_true rfl) ?_
    refine go_goto 243 dX9_findsRange_133 (by decide) ?_
    refine go_ls [(3, .int _), (2, .int _), (1, .int s), (0, .ref 115)] (List.forall_mem_cons.mpr ⟨rfl, List.forall_mem_cons.mpr ⟨rfl, List.forall_mem_cons.mpr ⟨rfl, List.forall_mem_cons.mpr ⟨rfl, fun _ h => absurd h List.not_mem_nil⟩⟩⟩⟩) ?_
    exact tl_fr243 S s hs _ _ _ (frF_8 hc1)
  · refine go_aload_n 137 dX9_findsRange_136 rfl rfl ?_
    refine go_aload_n 138 dX9_findsRange_137 rfl rfl ?_
    refine g_getR 141 dX9_findsRange_138 rfl fF_RX9_37 ly_115 rfl ?_
    refine go_iload_n 142 dX9_findsRange_141 rfl rfl ?_
    refine g_lald 143 dX9_findsRange_142 rfl ly_125 (hk.1 (by rw [hc1]; decide)) ?_
    refine go_iload_n 144 dX9_findsRange_143 rfl rfl ?_
    refine go_lshl 145 dX9_findsRange_144 rfl ?_
    refine go_aload_n 146 dX9_findsRange_145 rfl rfl ?_
    refine g_getR 149 dX9_findsRange_146 rfl fF_RX9_41 ly_115 rfl ?_
    refine go_iload_n 150 dX9_findsRange_149 rfl rfl ?_
    refine g_lald 151 dX9_findsRange_150 rfl ly_126 (hk.1 (by rw [hc1]; decide)) ?_
    refine go_iload_n 152 dX9_findsRange_151 rfl rfl ?_
    refine go_lshl 153 dX9_findsRange_152 rfl ?_
    refine g_callV0 156 [.long _, .long _] [] dX9_findsRange_153 rfl (ct_X9_findsWithin _ _ _) rfl sV_X9_findsRange_176 rfl ly_115 rfl rfl (Nat.le_of_ble_eq_true rfl) (Nat.le_of_ble_eq_true rfl) (Nat.le_of_ble_eq_true rfl) ?_
    refine go_goto 243 dX9_findsRange_156 (by decide) ?_
    refine go_ls [(3, .int _), (2, .int _), (1, .int s), (0, .ref 115)] (List.forall_mem_cons.mpr ⟨rfl, List.forall_mem_cons.mpr ⟨rfl, List.forall_mem_cons.mpr ⟨rfl, List.forall_mem_cons.mpr ⟨rfl, fun _ h => absurd h List.not_mem_nil⟩⟩⟩⟩) ?_
    exact tl_fr243 S s hs _ _ _ (frF_9 hc1)
  · refine go_aload_n 160 dX9_findsRange_159 rfl rfl ?_
    refine go_aload_n 161 dX9_findsRange_160 rfl rfl ?_
    refine g_getR 164 dX9_findsRange_161 rfl fF_RX9_37 ly_115 rfl ?_
    refine go_iload_n 165 dX9_findsRange_164 rfl rfl ?_
    refine g_lald 166 dX9_findsRange_165 rfl ly_125 (hk.1 (by rw [hc1]; decide)) ?_
    refine go_iload_n 167 dX9_findsRange_166 rfl rfl ?_
    refine go_lshr 168 dX9_findsRange_167 rfl ?_
    refine go_aload_n 169 dX9_findsRange_168 rfl rfl ?_
    refine g_getR 172 dX9_findsRange_169 rfl fF_RX9_41 ly_115 rfl ?_
    refine go_iload_n 173 dX9_findsRange_172 rfl rfl ?_
    refine g_lald 174 dX9_findsRange_173 rfl ly_126 (hk.1 (by rw [hc1]; decide)) ?_
    refine go_iload_n 175 dX9_findsRange_174 rfl rfl ?_
    refine go_lshr 176 dX9_findsRange_175 rfl ?_
    refine g_callV0 179 [.long _, .long _] [] dX9_findsRange_176 rfl (ct_X9_findsWithin _ _ _) rfl sV_X9_findsRange_176 rfl ly_115 rfl rfl (Nat.le_of_ble_eq_true rfl) (Nat.le_of_ble_eq_true rfl) (Nat.le_of_ble_eq_true rfl) ?_
    refine go_goto 243 dX9_findsRange_179 (by decide) ?_
    refine go_ls [(3, .int _), (2, .int _), (1, .int s), (0, .ref 115)] (List.forall_mem_cons.mpr ⟨rfl, List.forall_mem_cons.mpr ⟨rfl, List.forall_mem_cons.mpr ⟨rfl, List.forall_mem_cons.mpr ⟨rfl, fun _ h => absurd h List.not_mem_nil⟩⟩⟩⟩) ?_
    exact tl_fr243 S s hs _ _ _ (frF_10 hc1)
  · refine go_aload_n 183 dX9_findsRange_182 rfl rfl ?_
    refine go_aload_n 184 dX9_findsRange_183 rfl rfl ?_
    refine g_getR 187 dX9_findsRange_184 rfl fF_RX9_41 ly_115 rfl ?_
    refine go_iload_n 188 dX9_findsRange_187 rfl rfl ?_
    refine g_lald 189 dX9_findsRange_188 rfl ly_126 (hk.1 (by rw [hc1]; decide)) ?_
    refine go_aload_n 190 dX9_findsRange_189 rfl rfl ?_
    refine g_getR 193 dX9_findsRange_190 rfl fF_RX9_37 ly_115 rfl ?_
    refine go_iload_n 194 dX9_findsRange_193 rfl rfl ?_
    refine g_lald 195 dX9_findsRange_194 rfl ly_125 (hk.2.1 (by rw [hc1]; decide) (by rw [hc1]; decide) (by rw [hc1]; decide)) ?_
    refine go_lcmp 196 dX9_findsRange_195 rfl ?_
    refine go_if_ge 199 203 dX9_findsRange_196 rfl (by decide) (fun hc2 => ?_) (fun hc2 => ?_)
    · refine go_lconst 204 (0) dX9_findsRange_203 rfl (by decide) ?_
      refine go_aload_n 205 dX9_findsRange_204 rfl rfl ?_
      refine g_getR 208 dX9_findsRange_205 rfl fF_RX9_37 ly_115 rfl ?_
      refine go_iload_n 209 dX9_findsRange_208 rfl rfl ?_
      refine g_lald 210 dX9_findsRange_209 rfl ly_125 (hk.1 (by rw [hc1]; decide)) ?_
      refine go_aload_n 211 dX9_findsRange_210 rfl rfl ?_
      refine g_getR 214 dX9_findsRange_211 rfl fF_RX9_41 ly_115 rfl ?_
      refine go_iload_n 215 dX9_findsRange_214 rfl rfl ?_
      refine g_lald 216 dX9_findsRange_215 rfl ly_126 (hk.2.1 (by rw [hc1]; decide) (by rw [hc1]; decide) (by rw [hc1]; decide)) ?_
      refine go_lcmp 217 dX9_findsRange_216 rfl ?_
      refine go_if_lt 220 224 dX9_findsRange_217 rfl (by decide) (fun hc3 => ?_) (fun hc3 => ?_)
      · refine go_lconst 225 (1) dX9_findsRange_224 rfl (by decide) ?_
        refine g_callV0 228 [.long _, .long _] [] dX9_findsRange_225 rfl (ct_X9_finds _ _ _) rfl sV_X9_findsRange_184 rfl ly_115 rfl rfl (Nat.le_of_ble_eq_true rfl) (Nat.le_of_ble_eq_true rfl) (Nat.le_of_ble_eq_true rfl) ?_
        refine go_goto 243 dX9_findsRange_228 (by decide) ?_
        refine go_ls [(3, .int _), (2, .int _), (1, .int s), (0, .ref 115)] (List.forall_mem_cons.mpr ⟨rfl, List.forall_mem_cons.mpr ⟨rfl, List.forall_mem_cons.mpr ⟨rfl, List.forall_mem_cons.mpr ⟨rfl, fun _ h => absurd h List.not_mem_nil⟩⟩⟩⟩) ?_
        exact tl_fr243 S s hs _ _ _ (frF_11 hc1 (by simp only [cmp_ge, cmp_lt, ← Int64.not_lt, Classical.not_not] at *; first | (rw [if_pos (by assumption)]; done) | (rw [if_neg (by assumption)]; done)) (by simp only [cmp_ge, cmp_lt, ← Int64.not_lt, Classical.not_not] at *; first | (rw [if_pos (by assumption)]; done) | (rw [if_neg (by assumption)]; done)))
      · refine go_lconst 221 (0) dX9_findsRange_220 rfl (by decide) ?_
        refine go_goto 225 dX9_findsRange_221 (by decide) ?_
        refine g_callV0 228 [.long _, .long _] [] dX9_findsRange_225 rfl (ct_X9_finds _ _ _) rfl sV_X9_findsRange_184 rfl ly_115 rfl rfl (Nat.le_of_ble_eq_true rfl) (Nat.le_of_ble_eq_true rfl) (Nat.le_of_ble_eq_true rfl) ?_
        refine go_goto 243 dX9_findsRange_228 (by decide) ?_
        refine go_ls [(3, .int _), (2, .int _), (1, .int s), (0, .ref 115)] (List.forall_mem_cons.mpr ⟨rfl, List.forall_mem_cons.mpr ⟨rfl, List.forall_mem_cons.mpr ⟨rfl, List.forall_mem_cons.mpr ⟨rfl, fun _ h => absurd h List.not_mem_nil⟩⟩⟩⟩) ?_
        exact tl_fr243 S s hs _ _ _ (frF_11 hc1 (by simp only [cmp_ge, cmp_lt, ← Int64.not_lt, Classical.not_not] at *; first | (rw [if_pos (by assumption)]; done) | (rw [if_neg (by assumption)]; done)) (by simp only [cmp_ge, cmp_lt, ← Int64.not_lt, Classical.not_not] at *; first | (rw [if_pos (by assumption)]; done) | (rw [if_neg (by assumption)]; done)))
    · refine go_lconst 200 (1) dX9_findsRange_199 rfl (by decide) ?_
      refine go_goto 204 dX9_findsRange_200 (by decide) ?_
      refine go_aload_n 205 dX9_findsRange_204 rfl rfl ?_
      refine g_getR 208 dX9_findsRange_205 rfl fF_RX9_37 ly_115 rfl ?_
      refine go_iload_n 209 dX9_findsRange_208 rfl rfl ?_
      refine g_lald 210 dX9_findsRange_209 rfl ly_125 (hk.1 (by rw [hc1]; decide)) ?_
      refine go_aload_n 211 dX9_findsRange_210 rfl rfl ?_
      refine g_getR 214 dX9_findsRange_211 rfl fF_RX9_41 ly_115 rfl ?_
      refine go_iload_n 215 dX9_findsRange_214 rfl rfl ?_
      refine g_lald 216 dX9_findsRange_215 rfl ly_126 (hk.2.1 (by rw [hc1]; decide) (by rw [hc1]; decide) (by rw [hc1]; decide)) ?_
      refine go_lcmp 217 dX9_findsRange_216 rfl ?_
      refine go_if_lt 220 224 dX9_findsRange_217 rfl (by decide) (fun hc4 => ?_) (fun hc4 => ?_)
      · refine go_lconst 225 (1) dX9_findsRange_224 rfl (by decide) ?_
        refine g_callV0 228 [.long _, .long _] [] dX9_findsRange_225 rfl (ct_X9_finds _ _ _) rfl sV_X9_findsRange_184 rfl ly_115 rfl rfl (Nat.le_of_ble_eq_true rfl) (Nat.le_of_ble_eq_true rfl) (Nat.le_of_ble_eq_true rfl) ?_
        refine go_goto 243 dX9_findsRange_228 (by decide) ?_
        refine go_ls [(3, .int _), (2, .int _), (1, .int s), (0, .ref 115)] (List.forall_mem_cons.mpr ⟨rfl, List.forall_mem_cons.mpr ⟨rfl, List.forall_mem_cons.mpr ⟨rfl, List.forall_mem_cons.mpr ⟨rfl, fun _ h => absurd h List.not_mem_nil⟩⟩⟩⟩) ?_
        exact tl_fr243 S s hs _ _ _ (frF_11 hc1 (by simp only [cmp_ge, cmp_lt, ← Int64.not_lt, Classical.not_not] at *; first | (rw [if_pos (by assumption)]; done) | (rw [if_neg (by assumption)]; done)) (by simp only [cmp_ge, cmp_lt, ← Int64.not_lt, Classical.not_not] at *; first | (rw [if_pos (by assumption)]; done) | (rw [if_neg (by assumption)]; done)))
      · refine go_lconst 221 (0) dX9_findsRange_220 rfl (by decide) ?_
        refine go_goto 225 dX9_findsRange_221 (by decide) ?_
        refine g_callV0 228 [.long _, .long _] [] dX9_findsRange_225 rfl (ct_X9_finds _ _ _) rfl sV_X9_findsRange_184 rfl ly_115 rfl rfl (Nat.le_of_ble_eq_true rfl) (Nat.le_of_ble_eq_true rfl) (Nat.le_of_ble_eq_true rfl) ?_
        refine go_goto 243 dX9_findsRange_228 (by decide) ?_
        refine go_ls [(3, .int _), (2, .int _), (1, .int s), (0, .ref 115)] (List.forall_mem_cons.mpr ⟨rfl, List.forall_mem_cons.mpr ⟨rfl, List.forall_mem_cons.mpr ⟨rfl, List.forall_mem_cons.mpr ⟨rfl, fun _ h => absurd h List.not_mem_nil⟩⟩⟩⟩) ?_
        exact tl_fr243 S s hs _ _ _ (frF_11 hc1 (by simp only [cmp_ge, cmp_lt, ← Int64.not_lt, Classical.not_not] at *; first | (rw [if_pos (by assumption)]; done) | (rw [if_neg (by assumption)]; done)) (by simp only [cmp_ge, cmp_lt, ← Int64.not_lt, Classical.not_not] at *; first | (rw [if_pos (by assumption)]; done) | (rw [if_neg (by assumption)]; done)))
  · have hk12 : rI S 116 s.toNatClampNeg = 12 := by
      first | exact (h2 hc1).elim | exact hk.twelve h2 hc1
    clear hc1
    have hc1 := hk12
    refine go_aload_n 232 dX9_findsRange_231 rfl rfl ?_
    refine go_iload_n 233 dX9_findsRange_232 rfl rfl ?_
    refine go_iload_n 234 dX9_findsRange_233 rfl rfl ?_
    refine go_aload_n 235 dX9_findsRange_234 rfl rfl ?_
    refine g_getR 238 dX9_findsRange_235 rfl fF_RX9_19 ly_115 rfl ?_
    refine go_iload_n 239 dX9_findsRange_238 rfl rfl ?_
    refine g_iald 240 dX9_findsRange_239 rfl ly_119 hs ?_
    refine g_callV0 243 [.int _, .int _, .int _] [] dX9_findsRange_240 rfl (ct_X9_findsChoice _ _ _ _ (hk.1 (by rw [hk12]; decide)) (hk.2.1 (by rw [hk12]; decide) (by rw [hk12]; decide) (by rw [hk12]; decide)) (hk.2.2.1 hk12)) rfl sV_X9_findsRange_201 rfl ly_115 rfl rfl (Nat.le_of_ble_eq_true rfl) (Nat.le_of_ble_eq_true rfl) (Nat.le_of_ble_eq_true rfl) ?_
    refine go_ls [(3, .int _), (2, .int _), (1, .int s), (0, .ref 115)] (List.forall_mem_cons.mpr ⟨rfl, List.forall_mem_cons.mpr ⟨rfl, List.forall_mem_cons.mpr ⟨rfl, List.forall_mem_cons.mpr ⟨rfl, fun _ h => absurd h List.not_mem_nil⟩⟩⟩⟩) ?_
    exact tl_fr243 S s hs _ _ _ (frF_12 hc1)

set_option maxRecDepth 100000 in
set_option maxHeartbeats 4000000 in
theorem tl_w104 (S : gS) (s : Int32) (hs : vp_in s 24) (hx : vp_in (rI S 120 s.toNatClampNeg) 24) (l m : Int64) (hl : l = wdl S s.toNatClampNeg) (hm : m = wdm S s.toNatClampNeg) : Go mX9_widens false (go_Qm mX9_widens false (fun v9 h9 => v9 = (some (.int (bi (wdC S s.toNatClampNeg)))) ∧ h9 = hp (wdT S s.toNatClampNeg)) go_no) 0 0 104 [(4, .long m), (2, .long l), (1, .int s), (0, .ref 115)] [] (hp S) := by
  refine go_lload_n 105 dX9_widens_104 rfl rfl ?_
  refine go_aload_n 106 dX9_widens_105 rfl rfl ?_
  refine g_getR 109 dX9_widens_106 rfl fF_RX9_37 ly_115 rfl ?_
  refine go_iload_n 110 dX9_widens_109 rfl rfl ?_
  refine g_lald 111 dX9_widens_110 rfl ly_125 hs ?_
  refine go_lcmp 112 dX9_widens_111 rfl ?_
  refine go_if_ne 115 127 dX9_widens_112 rfl (by decide) (fun hc1 => ?_) (fun hc1 => ?_)
  · refine go_iconst 128 (1) dX9_widens_127 rfl (by decide) ?_
    refine go_goto 132 dX9_widens_128 (by decide) ?_
    refine go_istore 134 [(6, .int _), (4, .long _), (2, .long _), (1, .int _), (0, .ref 115)] dX9_widens_132 rfl (Nat.le_of_ble_eq_true rfl) rfl ?_
    refine go_aload_n 135 dX9_widens_134 rfl rfl ?_
    refine g_getR 138 dX9_widens_135 rfl fF_RX9_37 ly_115 rfl ?_
    refine go_iload_n 139 dX9_widens_138 rfl rfl ?_
    refine go_lload_n 140 dX9_widens_139 rfl rfl ?_
    refine g_last 141 dX9_widens_140 rfl ly_125 hs ?_
    refine go_aload_n 142 dX9_widens_141 rfl rfl ?_
    refine g_getR 145 dX9_widens_142 rfl fF_RX9_41 ly_115 rfl ?_
    refine go_iload_n 146 dX9_widens_145 rfl rfl ?_
    refine go_lload 148 dX9_widens_146 rfl rfl ?_
    refine g_last 149 dX9_widens_148 rfl ly_126 hs ?_
    refine go_iload 151 dX9_widens_149 rfl rfl ?_
    refine go_ireturn dX9_widens_151 rfl (by first | rfl | exact bi_nar) (Nat.le_of_ble_eq_true rfl) (Nat.le_of_ble_eq_true rfl) ?_
    subst hl; subst hm
    simp only [cmp_eq] at *
    refine ⟨?_, rfl⟩
    simp_all [bi, wdC]
  · refine go_lload 117 dX9_widens_115 rfl rfl ?_
    refine go_aload_n 118 dX9_widens_117 rfl rfl ?_
    refine g_getR 121 dX9_widens_118 rfl fF_RX9_41 ly_115 rfl ?_
    refine go_iload_n 122 dX9_widens_121 rfl rfl ?_
    refine g_lald 123 dX9_widens_122 rfl ly_126 hs ?_
    refine go_lcmp 124 dX9_widens_123 rfl ?_
    refine go_if_eq 127 131 dX9_widens_124 rfl (by decide) (fun hc2 => ?_) (fun hc2 => ?_)
    · refine go_iconst 132 (0) dX9_widens_131 rfl (by decide) ?_
      refine go_istore 134 [(6, .int _), (4, .long _), (2, .long _), (1, .int _), (0, .ref 115)] dX9_widens_132 rfl (Nat.le_of_ble_eq_true rfl) rfl ?_
      refine go_aload_n 135 dX9_widens_134 rfl rfl ?_
      refine g_getR 138 dX9_widens_135 rfl fF_RX9_37 ly_115 rfl ?_
      refine go_iload_n 139 dX9_widens_138 rfl rfl ?_
      refine go_lload_n 140 dX9_widens_139 rfl rfl ?_
      refine g_last 141 dX9_widens_140 rfl ly_125 hs ?_
      refine go_aload_n 142 dX9_widens_141 rfl rfl ?_
      refine g_getR 145 dX9_widens_142 rfl fF_RX9_41 ly_115 rfl ?_
      refine go_iload_n 146 dX9_widens_145 rfl rfl ?_
      refine go_lload 148 dX9_widens_146 rfl rfl ?_
      refine g_last 149 dX9_widens_148 rfl ly_126 hs ?_
      refine go_iload 151 dX9_widens_149 rfl rfl ?_
      refine go_ireturn dX9_widens_151 rfl (by first | rfl | exact bi_nar) (Nat.le_of_ble_eq_true rfl) (Nat.le_of_ble_eq_true rfl) ?_
      subst hl; subst hm
      simp only [cmp_eq] at *
      refine ⟨?_, rfl⟩
      simp_all [bi, wdC]
    · refine go_iconst 128 (1) dX9_widens_127 rfl (by decide) ?_
      refine go_goto 132 dX9_widens_128 (by decide) ?_
      refine go_istore 134 [(6, .int _), (4, .long _), (2, .long _), (1, .int _), (0, .ref 115)] dX9_widens_132 rfl (Nat.le_of_ble_eq_true rfl) rfl ?_
      refine go_aload_n 135 dX9_widens_134 rfl rfl ?_
      refine g_getR 138 dX9_widens_135 rfl fF_RX9_37 ly_115 rfl ?_
      refine go_iload_n 139 dX9_widens_138 rfl rfl ?_
      refine go_lload_n 140 dX9_widens_139 rfl rfl ?_
      refine g_last 141 dX9_widens_140 rfl ly_125 hs ?_
      refine go_aload_n 142 dX9_widens_141 rfl rfl ?_
      refine g_getR 145 dX9_widens_142 rfl fF_RX9_41 ly_115 rfl ?_
      refine go_iload_n 146 dX9_widens_145 rfl rfl ?_
      refine go_lload 148 dX9_widens_146 rfl rfl ?_
      refine g_last 149 dX9_widens_148 rfl ly_126 hs ?_
      refine go_iload 151 dX9_widens_149 rfl rfl ?_
      refine go_ireturn dX9_widens_151 rfl (by first | rfl | exact bi_nar) (Nat.le_of_ble_eq_true rfl) (Nat.le_of_ble_eq_true rfl) ?_
      subst hl; subst hm
      simp only [cmp_eq] at *
      refine ⟨?_, rfl⟩
      simp_all [bi, wdC]

set_option maxRecDepth 100000 in
set_option maxHeartbeats 4000000 in
theorem tl_w77 (S : gS) (s : Int32) (hs : vp_in s 24) (hx : vp_in (rI S 120 s.toNatClampNeg) 24) (l : Int64) (hl : l = wdl S s.toNatClampNeg) : Go mX9_widens false (go_Qm mX9_widens false (fun v9 h9 => v9 = (some (.int (bi (wdC S s.toNatClampNeg)))) ∧ h9 = hp (wdT S s.toNatClampNeg)) go_no) 0 0 77 [(4, .long (lrg (rL S 126 s.toNatClampNeg) (rL S 126 (rI S 120 s.toNatClampNeg).toNatClampNeg))), (2, .long l), (1, .int s), (0, .ref 115)] [] (hp S) := by
  refine go_aload_n 78 dX9_widens_77 rfl rfl ?_
  refine g_getI 81 dX9_widens_78 rfl fF_RX9_204 ly_115 rfl ?_
  refine go_iconst 82 (4) dX9_widens_81 rfl (by decide) ?_
  refine go_icmp_lt 85 104 dX9_widens_82 rfl (by decide) (fun hc1 => ?_) (fun hc1 => ?_)
  · refine go_ls [(4, .long _), (2, .long _), (1, .int s), (0, .ref 115)] (List.forall_mem_cons.mpr ⟨rfl, List.forall_mem_cons.mpr ⟨rfl, List.forall_mem_cons.mpr ⟨rfl, List.forall_mem_cons.mpr ⟨rfl, fun _ h => absurd h List.not_mem_nil⟩⟩⟩⟩) ?_
    refine tl_w104 S s hs hx _ _ hl ?_
    unfold wdm
    (try simp only [cmp_lt, cmp_ge, cmp_le, cmp_gt, ← Int64.not_lt, Classical.not_not] at *)
    simp_all [-Int32.not_le, -Int32.not_lt, -Int64.not_le, -Int64.not_lt]
  · refine go_lload 87 dX9_widens_85 rfl rfl ?_
    refine go_aload_n 88 dX9_widens_87 rfl rfl ?_
    refine g_getR 91 dX9_widens_88 rfl fF_RX9_41 ly_115 rfl ?_
    refine go_iload_n 92 dX9_widens_91 rfl rfl ?_
    refine g_lald 93 dX9_widens_92 rfl ly_126 hs ?_
    refine go_lcmp 94 dX9_widens_93 rfl ?_
    refine go_if_le 97 104 dX9_widens_94 rfl (by decide) (fun hc2 => ?_) (fun hc2 => ?_)
    · refine go_ls [(4, .long _), (2, .long _), (1, .int s), (0, .ref 115)] (List.forall_mem_cons.mpr ⟨rfl, List.forall_mem_cons.mpr ⟨rfl, List.forall_mem_cons.mpr ⟨rfl, List.forall_mem_cons.mpr ⟨rfl, fun _ h => absurd h List.not_mem_nil⟩⟩⟩⟩) ?_
      refine tl_w104 S s hs hx _ _ hl ?_
      unfold wdm
      (try simp only [cmp_lt, cmp_ge, cmp_le, cmp_gt, ← Int64.not_lt, Classical.not_not] at *)
      simp_all [-Int32.not_le, -Int32.not_lt, -Int64.not_le, -Int64.not_lt]
    · refine go_lload 99 dX9_widens_97 rfl rfl ?_
      refine g_callS 102 [.long _] [] dX9_widens_99 rfl (ct_X9_upTo _ _) rfl sV_X9_widens_187 rfl (Nat.le_of_ble_eq_true rfl) (Nat.le_of_ble_eq_true rfl) (Nat.le_of_ble_eq_true rfl) ?_
      refine go_lstore 104 [(4, .long _), (2, .long _), (1, .int _), (0, .ref 115)] dX9_widens_102 rfl (Nat.le_of_ble_eq_true rfl) rfl ?_
      refine go_ls [(4, .long _), (2, .long _), (1, .int s), (0, .ref 115)] (List.forall_mem_cons.mpr ⟨rfl, List.forall_mem_cons.mpr ⟨rfl, List.forall_mem_cons.mpr ⟨rfl, List.forall_mem_cons.mpr ⟨rfl, fun _ h => absurd h List.not_mem_nil⟩⟩⟩⟩) ?_
      refine tl_w104 S s hs hx _ _ hl ?_
      unfold wdm
      (try simp only [cmp_lt, cmp_ge, cmp_le, cmp_gt, ← Int64.not_lt, Classical.not_not] at *)
      simp_all [-Int32.not_le, -Int32.not_lt, -Int64.not_le, -Int64.not_lt]

set_option maxRecDepth 100000 in
set_option maxHeartbeats 4000000 in
theorem ct_X9_widens (S : gS) (s : Int32) (hs : vp_in s 24) (hx : vp_in (rI S 120 s.toNatClampNeg) 24) : gF mX9_widens [.ref 115, .int s] S (some (.int (bi (wdC S s.toNatClampNeg)))) (wdT S s.toNatClampNeg) := by
  refine go_enter [.ref 115, .int s] [(0, .ref 115), (1, .int s)] (by decide +kernel) rfl rfl (Nat.le_of_ble_eq_true rfl) rfl ?_
  refine go_aload_n 1 dX9_widens_0 rfl rfl ?_
  refine g_getR 4 dX9_widens_1 rfl fF_RX9_37 ly_115 rfl ?_
  refine go_iload_n 5 dX9_widens_4 rfl rfl ?_
  refine g_lald 6 dX9_widens_5 rfl ly_125 hs ?_
  refine go_aload_n 7 dX9_widens_6 rfl rfl ?_
  refine g_getR 10 dX9_widens_7 rfl fF_RX9_37 ly_115 rfl ?_
  refine go_aload_n 11 dX9_widens_10 rfl rfl ?_
  refine g_getR 14 dX9_widens_11 rfl fF_RX9_22 ly_115 rfl ?_
  refine go_iload_n 15 dX9_widens_14 rfl rfl ?_
  refine g_iald 16 dX9_widens_15 rfl ly_120 hs ?_
  refine g_lald 17 dX9_widens_16 rfl ly_125 hx ?_
  refine g_callS 20 [.long _, .long _] [] dX9_widens_17 rfl (ct_X9_smaller _ _ _) rfl sV_X9_widens_169 rfl (Nat.le_of_ble_eq_true rfl) (Nat.le_of_ble_eq_true rfl) (Nat.le_of_ble_eq_true rfl) ?_
  refine go_lstore_n 21 [(2, .long _), (0, .ref 115), (1, .int _)] dX9_widens_20 rfl (Nat.le_of_ble_eq_true rfl) rfl ?_
  refine go_aload_n 22 dX9_widens_21 rfl rfl ?_
  refine g_getR 25 dX9_widens_22 rfl fF_RX9_41 ly_115 rfl ?_
  refine go_iload_n 26 dX9_widens_25 rfl rfl ?_
  refine g_lald 27 dX9_widens_26 rfl ly_126 hs ?_
  refine go_aload_n 28 dX9_widens_27 rfl rfl ?_
  refine g_getR 31 dX9_widens_28 rfl fF_RX9_41 ly_115 rfl ?_
  refine go_aload_n 32 dX9_widens_31 rfl rfl ?_
  refine g_getR 35 dX9_widens_32 rfl fF_RX9_22 ly_115 rfl ?_
  refine go_iload_n 36 dX9_widens_35 rfl rfl ?_
  refine g_iald 37 dX9_widens_36 rfl ly_120 hs ?_
  refine g_lald 38 dX9_widens_37 rfl ly_126 hx ?_
  refine g_callS 41 [.long _, .long _] [] dX9_widens_38 rfl (ct_X9_larger _ _ _) rfl sV_X9_widens_173 rfl (Nat.le_of_ble_eq_true rfl) (Nat.le_of_ble_eq_true rfl) (Nat.le_of_ble_eq_true rfl) ?_
  refine go_lstore 43 [(4, .long _), (2, .long _), (0, .ref 115), (1, .int _)] dX9_widens_41 rfl (Nat.le_of_ble_eq_true rfl) rfl ?_
  refine go_aload_n 44 dX9_widens_43 rfl rfl ?_
  refine g_getI 47 dX9_widens_44 rfl fF_RX9_204 ly_115 rfl ?_
  refine go_iconst 48 (4) dX9_widens_47 rfl (by decide) ?_
  refine go_icmp_lt 51 77 dX9_widens_48 rfl (by decide) (fun hc1 => ?_) (fun hc1 => ?_)
  · refine go_ls [(4, .long _), (2, .long _), (1, .int s), (0, .ref 115)] (List.forall_mem_cons.mpr ⟨rfl, List.forall_mem_cons.mpr ⟨rfl, List.forall_mem_cons.mpr ⟨rfl, List.forall_mem_cons.mpr ⟨rfl, fun _ h => absurd h List.not_mem_nil⟩⟩⟩⟩) ?_
    refine tl_w77 S s hs hx _ ?_
    unfold wdl
    (try simp only [cmp_lt, cmp_ge, cmp_le, cmp_gt, ← Int64.not_lt, Classical.not_not] at *)
    simp_all [-Int32.not_le, -Int32.not_lt, -Int64.not_le, -Int64.not_lt]
  · refine go_lload_n 52 dX9_widens_51 rfl rfl ?_
    refine go_aload_n 53 dX9_widens_52 rfl rfl ?_
    refine g_getR 56 dX9_widens_53 rfl fF_RX9_37 ly_115 rfl ?_
    refine go_iload_n 57 dX9_widens_56 rfl rfl ?_
    refine g_lald 58 dX9_widens_57 rfl ly_125 hs ?_
    refine go_lcmp 59 dX9_widens_58 rfl ?_
    refine go_if_ge 62 77 dX9_widens_59 rfl (by decide) (fun hc2 => ?_) (fun hc2 => ?_)
    · refine go_ls [(4, .long _), (2, .long _), (1, .int s), (0, .ref 115)] (List.forall_mem_cons.mpr ⟨rfl, List.forall_mem_cons.mpr ⟨rfl, List.forall_mem_cons.mpr ⟨rfl, List.forall_mem_cons.mpr ⟨rfl, fun _ h => absurd h List.not_mem_nil⟩⟩⟩⟩) ?_
      refine tl_w77 S s hs hx _ ?_
      unfold wdl
      (try simp only [cmp_lt, cmp_ge, cmp_le, cmp_gt, ← Int64.not_lt, Classical.not_not] at *)
      simp_all [-Int32.not_le, -Int32.not_lt, -Int64.not_le, -Int64.not_lt]
    · refine go_lload_n 63 dX9_widens_62 rfl rfl ?_
      refine go_lconst 64 (0) dX9_widens_63 rfl (by decide) ?_
      refine go_lcmp 65 dX9_widens_64 rfl ?_
      refine go_if_lt 68 72 dX9_widens_65 rfl (by decide) (fun hc3 => ?_) (fun hc3 => ?_)
      · refine go_lload_n 73 dX9_widens_72 rfl rfl ?_
        refine g_callS 76 [.long _] [] dX9_widens_73 rfl (ct_X9_downTo _ _) rfl sV_X9_widens_191 rfl (Nat.le_of_ble_eq_true rfl) (Nat.le_of_ble_eq_true rfl) (Nat.le_of_ble_eq_true rfl) ?_
        refine go_lstore_n 77 [(2, .long _), (4, .long _), (0, .ref 115), (1, .int _)] dX9_widens_76 rfl (Nat.le_of_ble_eq_true rfl) rfl ?_
        refine go_ls [(4, .long _), (2, .long _), (1, .int s), (0, .ref 115)] (List.forall_mem_cons.mpr ⟨rfl, List.forall_mem_cons.mpr ⟨rfl, List.forall_mem_cons.mpr ⟨rfl, List.forall_mem_cons.mpr ⟨rfl, fun _ h => absurd h List.not_mem_nil⟩⟩⟩⟩) ?_
        refine tl_w77 S s hs hx _ ?_
        unfold wdl
        (try simp only [cmp_lt, cmp_ge, cmp_le, cmp_gt, ← Int64.not_lt, Classical.not_not] at *)
        simp_all [-Int32.not_le, -Int32.not_lt, -Int64.not_le, -Int64.not_lt]
      · refine go_lconst 69 (0) dX9_widens_68 rfl (by decide) ?_
        refine go_goto 76 dX9_widens_69 (by decide) ?_
        refine go_lstore_n 77 [(2, .long _), (4, .long _), (0, .ref 115), (1, .int _)] dX9_widens_76 rfl (Nat.le_of_ble_eq_true rfl) rfl ?_
        refine go_ls [(4, .long _), (2, .long _), (1, .int s), (0, .ref 115)] (List.forall_mem_cons.mpr ⟨rfl, List.forall_mem_cons.mpr ⟨rfl, List.forall_mem_cons.mpr ⟨rfl, List.forall_mem_cons.mpr ⟨rfl, fun _ h => absurd h List.not_mem_nil⟩⟩⟩⟩) ?_
        refine tl_w77 S s hs hx _ ?_
        unfold wdl
        (try simp only [cmp_lt, cmp_ge, cmp_le, cmp_gt, ← Int64.not_lt, Classical.not_not] at *)
        simp_all [-Int32.not_le, -Int32.not_lt, -Int64.not_le, -Int64.not_lt]
