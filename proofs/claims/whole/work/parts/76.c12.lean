-- needs 
def f_X5_parseItem (S : gS) (k : Nat) : Int32 × gS := (if (f_X5_take S 105).1 = 0 then (if (f_X5_take (f_X5_take S 105).2 107).1 = 0 then (if (f_X5_take (f_X5_take (f_X5_take S 105).2 107).2 114).1 = 0 then (if (f_X5_take (f_X5_take (f_X5_take (f_X5_take S 105).2 107).2 114).2 110).1 = 0 then (if (f_X5_take (f_X5_take (f_X5_take (f_X5_take (f_X5_take S 105).2 107).2 114).2 110).2 111).1 = 0 then (if (f_X5_parseSignal (f_X2_become (f_X5_take (f_X5_take (f_X5_take (f_X5_take (f_X5_take S 105).2 107).2 114).2 110).2 111).2 k 3 0 0 0) k 0).1 = 0 then (0, (f_X5_parseSignal (f_X2_become (f_X5_take (f_X5_take (f_X5_take (f_X5_take (f_X5_take S 105).2 107).2 114).2 110).2 111).2 k 3 0 0 0) k 0).2) else (if (f_X5_parseOperation (f_X5_parseSignal (f_X2_become (f_X5_take (f_X5_take (f_X5_take (f_X5_take (f_X5_take S 105).2 107).2 114).2 110).2 111).2 k 3 0 0 0) k 0).2 k).1 = 0 then (0, (f_X5_parseOperation (f_X5_parseSignal (f_X2_become (f_X5_take (f_X5_take (f_X5_take (f_X5_take (f_X5_take S 105).2 107).2 114).2 110).2 111).2 k 3 0 0 0) k 0).2 k).2) else (1, (f_X5_parseOperation (f_X5_parseSignal (f_X2_become (f_X5_take (f_X5_take (f_X5_take (f_X5_take (f_X5_take S 105).2 107).2 114).2 110).2 111).2 k 3 0 0 0) k 0).2 k).2))) else ((f_X5_parseSignal (f_X2_become (f_X5_take (f_X5_take (f_X5_take (f_X5_take (f_X5_take S 105).2 107).2 114).2 110).2 111).2 k 14 0 0 0) k 0).1, (f_X5_parseSignal (f_X2_become (f_X5_take (f_X5_take (f_X5_take (f_X5_take (f_X5_take S 105).2 107).2 114).2 110).2 111).2 k 14 0 0 0) k 0).2)) else (if (f_X5_parseSignal (f_X2_become (f_X5_take (f_X5_take (f_X5_take (f_X5_take S 105).2 107).2 114).2 110).2 k 13 0 0 0) k 0).1 = 0 then (0, (f_X5_parseSignal (f_X2_become (f_X5_take (f_X5_take (f_X5_take (f_X5_take S 105).2 107).2 114).2 110).2 k 13 0 0 0) k 0).2) else (if (f_X5_take (f_X5_parseSignal (f_X2_become (f_X5_take (f_X5_take (f_X5_take (f_X5_take S 105).2 107).2 114).2 110).2 k 13 0 0 0) k 0).2 58).1 = 0 then (0, (f_X5_take (f_X5_parseSignal (f_X2_become (f_X5_take (f_X5_take (f_X5_take (f_X5_take S 105).2 107).2 114).2 110).2 k 13 0 0 0) k 0).2 58).2) else (if (f_X5_parseSignal (f_X5_take (f_X5_parseSignal (f_X2_become (f_X5_take (f_X5_take (f_X5_take (f_X5_take S 105).2 107).2 114).2 110).2 k 13 0 0 0) k 0).2 58).2 k 1).1 = 0 then (0, (f_X5_parseSignal (f_X5_take (f_X5_parseSignal (f_X2_become (f_X5_take (f_X5_take (f_X5_take (f_X5_take S 105).2 107).2 114).2 110).2 k 13 0 0 0) k 0).2 58).2 k 1).2) else (1, (f_X5_parseSignal (f_X5_take (f_X5_parseSignal (f_X2_become (f_X5_take (f_X5_take (f_X5_take (f_X5_take S 105).2 107).2 114).2 110).2 k 13 0 0 0) k 0).2 58).2 k 1).2))))) else ((f_X5_parseNumber (f_X2_become (f_X5_take (f_X5_take (f_X5_take S 105).2 107).2 114).2 k 2 0 0 0) k 0).1, (f_X5_parseNumber (f_X2_become (f_X5_take (f_X5_take (f_X5_take S 105).2 107).2 114).2 k 2 0 0 0) k 0).2)) else ((f_X5_parseNumber (f_X2_become (f_X5_take (f_X5_take S 105).2 107).2 k 1 0 0 0) k 0).1, (f_X5_parseNumber (f_X2_become (f_X5_take (f_X5_take S 105).2 107).2 k 1 0 0 0) k 0).2)) else (if (f_X5_parseNumber (f_X2_become (f_X5_take S 105).2 k 0 0 0 0) k 0).1 = 0 then (0, (f_X5_parseNumber (f_X2_become (f_X5_take S 105).2 k 0 0 0 0) k 0).2) else (if (f_X5_take (f_X5_parseNumber (f_X2_become (f_X5_take S 105).2 k 0 0 0 0) k 0).2 58).1 = 0 then (0, (f_X5_take (f_X5_parseNumber (f_X2_become (f_X5_take S 105).2 k 0 0 0 0) k 0).2 58).2) else (if (f_X5_parseNumber (f_X5_take (f_X5_parseNumber (f_X2_become (f_X5_take S 105).2 k 0 0 0 0) k 0).2 58).2 k 1).1 = 0 then (0, (f_X5_parseNumber (f_X5_take (f_X5_parseNumber (f_X2_become (f_X5_take S 105).2 k 0 0 0 0) k 0).2 58).2 k 1).2) else (1, (f_X5_parseNumber (f_X5_take (f_X5_parseNumber (f_X2_become (f_X5_take S 105).2 k 0 0 0 0) k 0).2 58).2 k 1).2)))))
set_option maxRecDepth 100000 in
set_option maxHeartbeats 1000000 in
theorem ct_X5_parseItem (S : gS) (k : Nat) (hk : itm k) (ht : okQ S) : gF mX5_parseItem [.ref 55, .ref k] S (some (.int (f_X5_parseItem S k).1)) (f_X5_parseItem S k).2 := by
  refine go_enter [.ref 55, .ref k] [(0, .ref 55), (1, .ref k)] (by decide +kernel) rfl rfl (Nat.le_of_ble_eq_true rfl) rfl ?_
  refine go_aload_n 1 dX5_parseItem_0 rfl rfl ?_
  refine go_bipush 3 (105) dX5_parseItem_1 rfl (by decide) ?_
  refine g_callV 6 [.int _] [] dX5_parseItem_3 rfl (ct_X5_take _ _ ht) rfl sV_X5_parseItem_36 rfl ly_55 rfl rfl (Nat.le_of_ble_eq_true rfl) (Nat.le_of_ble_eq_true rfl) (Nat.le_of_ble_eq_true rfl) ?_
  refine go_if_eq 9 50 dX5_parseItem_6 rfl (by decide) (fun hc1 => ?_) (fun hc1 => ?_)
  · refine go_aload_n 51 dX5_parseItem_50 rfl rfl ?_
    refine go_bipush 53 (107) dX5_parseItem_51 rfl (by decide) ?_
    refine g_callV 56 [.int _] [] dX5_parseItem_53 rfl (ct_X5_take _ _ (okQ.take ht (by decide))) rfl sV_X5_parseItem_36 rfl ly_55 rfl rfl (Nat.le_of_ble_eq_true rfl) (Nat.le_of_ble_eq_true rfl) (Nat.le_of_ble_eq_true rfl) ?_
    refine go_if_eq 59 74 dX5_parseItem_56 rfl (by decide) (fun hc2 => ?_) (fun hc2 => ?_)
    · refine go_aload_n 75 dX5_parseItem_74 rfl rfl ?_
      refine go_bipush 77 (114) dX5_parseItem_75 rfl (by decide) ?_
      refine g_callV 80 [.int _] [] dX5_parseItem_77 rfl (ct_X5_take _ _ (okQ.take (okQ.take ht (by decide)) (by decide))) rfl sV_X5_parseItem_36 rfl ly_55 rfl rfl (Nat.le_of_ble_eq_true rfl) (Nat.le_of_ble_eq_true rfl) (Nat.le_of_ble_eq_true rfl) ?_
      refine go_if_eq 83 98 dX5_parseItem_80 rfl (by decide) (fun hc3 => ?_) (fun hc3 => ?_)
      · refine go_aload_n 99 dX5_parseItem_98 rfl rfl ?_
        refine go_bipush 101 (110) dX5_parseItem_99 rfl (by decide) ?_
        refine g_callV 104 [.int _] [] dX5_parseItem_101 rfl (ct_X5_take _ _ (okQ.take (okQ.take (okQ.take ht (by decide)) (by decide)) (by decide))) rfl sV_X5_parseItem_36 rfl ly_55 rfl rfl (Nat.le_of_ble_eq_true rfl) (Nat.le_of_ble_eq_true rfl) (Nat.le_of_ble_eq_true rfl) ?_
        refine go_if_eq 107 149 dX5_parseItem_104 rfl (by decide) (fun hc4 => ?_) (fun hc4 => ?_)
        · refine go_aload_n 150 dX5_parseItem_149 rfl rfl ?_
          refine go_bipush 152 (111) dX5_parseItem_150 rfl (by decide) ?_
          refine g_callV 155 [.int _] [] dX5_parseItem_152 rfl (ct_X5_take _ _ (okQ.take (okQ.take (okQ.take (okQ.take ht (by decide)) (by decide)) (by decide)) (by decide))) rfl sV_X5_parseItem_36 rfl ly_55 rfl rfl (Nat.le_of_ble_eq_true rfl) (Nat.le_of_ble_eq_true rfl) (Nat.le_of_ble_eq_true rfl) ?_
          refine go_if_eq 158 174 dX5_parseItem_155 rfl (by decide) (fun hc5 => ?_) (fun hc5 => ?_)
          · refine go_aload_n 175 dX5_parseItem_174 rfl rfl ?_
            refine go_iconst 176 (3) dX5_parseItem_175 rfl (by decide) ?_
            refine go_iconst 177 (0) dX5_parseItem_176 rfl (by decide) ?_
            refine go_iconst 178 (0) dX5_parseItem_177 rfl (by decide) ?_
            refine go_iconst 179 (0) dX5_parseItem_178 rfl (by decide) ?_
            refine g_callV0 182 [.int _, .int _, .int _, .int _] [] dX5_parseItem_179 rfl (ct_X2_become _ _ _ _ _ _ hk) rfl sV_X5_parseItem_44 rfl hk.1 rfl rfl (Nat.le_of_ble_eq_true rfl) (Nat.le_of_ble_eq_true rfl) (Nat.le_of_ble_eq_true rfl) ?_
            refine go_aload_n 183 dX5_parseItem_182 rfl rfl ?_
            refine go_aload_n 184 dX5_parseItem_183 rfl rfl ?_
            refine go_iconst 185 (0) dX5_parseItem_184 rfl (by decide) ?_
            refine g_callV 188 [.ref k, .int _] [] dX5_parseItem_185 rfl (ct_X5_parseSignal _ _ _ hk (by unfold vp_in; decide) (okQ.bec hk _ _ _ _ (okQ.take (okQ.take (okQ.take (okQ.take (okQ.take ht (by decide)) (by decide)) (by decide)) (by decide)) (by decide)))) rfl sV_X5_parseItem_52 rfl ly_55 rfl rfl (Nat.le_of_ble_eq_true rfl) (Nat.le_of_ble_eq_true rfl) (Nat.le_of_ble_eq_true rfl) ?_
            refine go_if_eq 191 203 dX5_parseItem_188 rfl (by decide) (fun hc6 => ?_) (fun hc6 => ?_)
            · refine go_iconst 204 (0) dX5_parseItem_203 rfl (by decide) ?_
              refine go_ireturn dX5_parseItem_204 rfl (by first | rfl | exact bi_nar) (Nat.le_of_ble_eq_true rfl) (Nat.le_of_ble_eq_true rfl) ?_
              exact ⟨congrArg (fun z => some (Value.int z)) (by unfold f_X5_parseItem; simp only [if_pos hc1, if_pos hc2, if_pos hc3, if_pos hc4, if_pos hc5, if_pos hc6]; try first | rfl | contradiction), congrArg hp (by unfold f_X5_parseItem; simp only [if_pos hc1, if_pos hc2, if_pos hc3, if_pos hc4, if_pos hc5, if_pos hc6]; try first | rfl | contradiction)⟩
            · refine go_aload_n 192 dX5_parseItem_191 rfl rfl ?_
              refine go_aload_n 193 dX5_parseItem_192 rfl rfl ?_
              refine g_callV 196 [.ref k] [] dX5_parseItem_193 rfl (ct_X5_parseOperation _ _ hk (okQ.sig hk _ (okQ.bec hk _ _ _ _ (okQ.take (okQ.take (okQ.take (okQ.take (okQ.take ht (by decide)) (by decide)) (by decide)) (by decide)) (by decide))))) rfl sV_X5_parseItem_55 rfl ly_55 rfl rfl (Nat.le_of_ble_eq_true rfl) (Nat.le_of_ble_eq_true rfl) (Nat.le_of_ble_eq_true rfl) ?_
              refine go_if_eq 199 203 dX5_parseItem_196 rfl (by decide) (fun hc7 => ?_) (fun hc7 => ?_)
              · refine go_iconst 204 (0) dX5_parseItem_203 rfl (by decide) ?_
                refine go_ireturn dX5_parseItem_204 rfl (by first | rfl | exact bi_nar) (Nat.le_of_ble_eq_true rfl) (Nat.le_of_ble_eq_true rfl) ?_
                exact ⟨congrArg (fun z => some (Value.int z)) (by unfold f_X5_parseItem; simp only [if_pos hc1, if_pos hc2, if_pos hc3, if_pos hc4, if_pos hc5, if_neg hc6, if_pos hc7]; try first | rfl | contradiction), congrArg hp (by unfold f_X5_parseItem; simp only [if_pos hc1, if_pos hc2, if_pos hc3, if_pos hc4, if_pos hc5, if_neg hc6, if_pos hc7]; try first | rfl | contradiction)⟩
              · refine go_iconst 200 (1) dX5_parseItem_199 rfl (by decide) ?_
                refine go_goto 204 dX5_parseItem_200 (by decide) ?_
                refine go_ireturn dX5_parseItem_204 rfl (by first | rfl | exact bi_nar) (Nat.le_of_ble_eq_true rfl) (Nat.le_of_ble_eq_true rfl) ?_
                exact ⟨congrArg (fun z => some (Value.int z)) (by unfold f_X5_parseItem; simp only [if_pos hc1, if_pos hc2, if_pos hc3, if_pos hc4, if_pos hc5, if_neg hc6, if_neg hc7]; try first | rfl | contradiction), congrArg hp (by unfold f_X5_parseItem; simp only [if_pos hc1, if_pos hc2, if_pos hc3, if_pos hc4, if_pos hc5, if_neg hc6, if_neg hc7]; try first | rfl | contradiction)⟩
          · refine go_aload_n 159 dX5_parseItem_158 rfl rfl ?_
            refine go_bipush 161 (14) dX5_parseItem_159 rfl (by decide) ?_
            refine go_iconst 162 (0) dX5_parseItem_161 rfl (by decide) ?_
            refine go_iconst 163 (0) dX5_parseItem_162 rfl (by decide) ?_
            refine go_iconst 164 (0) dX5_parseItem_163 rfl (by decide) ?_
            refine g_callV0 167 [.int _, .int _, .int _, .int _] [] dX5_parseItem_164 rfl (ct_X2_become _ _ _ _ _ _ hk) rfl sV_X5_parseItem_44 rfl hk.1 rfl rfl (Nat.le_of_ble_eq_true rfl) (Nat.le_of_ble_eq_true rfl) (Nat.le_of_ble_eq_true rfl) ?_
            refine go_aload_n 168 dX5_parseItem_167 rfl rfl ?_
            refine go_aload_n 169 dX5_parseItem_168 rfl rfl ?_
            refine go_iconst 170 (0) dX5_parseItem_169 rfl (by decide) ?_
            refine g_callV 173 [.ref k, .int _] [] dX5_parseItem_170 rfl (ct_X5_parseSignal _ _ _ hk (by unfold vp_in; decide) (okQ.bec hk _ _ _ _ (okQ.take (okQ.take (okQ.take (okQ.take (okQ.take ht (by decide)) (by decide)) (by decide)) (by decide)) (by decide)))) rfl sV_X5_parseItem_52 rfl ly_55 rfl rfl (Nat.le_of_ble_eq_true rfl) (Nat.le_of_ble_eq_true rfl) (Nat.le_of_ble_eq_true rfl) ?_
            refine go_ireturn dX5_parseItem_173 rfl (nb_f_X5_parseSignal _ _ _) (Nat.le_of_ble_eq_true rfl) (Nat.le_of_ble_eq_true rfl) ?_
            exact ⟨congrArg (fun z => some (Value.int z)) (by unfold f_X5_parseItem; simp only [if_pos hc1, if_pos hc2, if_pos hc3, if_pos hc4, if_neg hc5]; try first | rfl | contradiction), congrArg hp (by unfold f_X5_parseItem; simp only [if_pos hc1, if_pos hc2, if_pos hc3, if_pos hc4, if_neg hc5]; try first | rfl | contradiction)⟩
        · refine go_aload_n 108 dX5_parseItem_107 rfl rfl ?_
          refine go_bipush 110 (13) dX5_parseItem_108 rfl (by decide) ?_
          refine go_iconst 111 (0) dX5_parseItem_110 rfl (by decide) ?_
          refine go_iconst 112 (0) dX5_parseItem_111 rfl (by decide) ?_
          refine go_iconst 113 (0) dX5_parseItem_112 rfl (by decide) ?_
          refine g_callV0 116 [.int _, .int _, .int _, .int _] [] dX5_parseItem_113 rfl (ct_X2_become _ _ _ _ _ _ hk) rfl sV_X5_parseItem_44 rfl hk.1 rfl rfl (Nat.le_of_ble_eq_true rfl) (Nat.le_of_ble_eq_true rfl) (Nat.le_of_ble_eq_true rfl) ?_
          refine go_aload_n 117 dX5_parseItem_116 rfl rfl ?_
          refine go_aload_n 118 dX5_parseItem_117 rfl rfl ?_
          refine go_iconst 119 (0) dX5_parseItem_118 rfl (by decide) ?_
          refine g_callV 122 [.ref k, .int _] [] dX5_parseItem_119 rfl (ct_X5_parseSignal _ _ _ hk (by unfold vp_in; decide) (okQ.bec hk _ _ _ _ (okQ.take (okQ.take (okQ.take (okQ.take ht (by decide)) (by decide)) (by decide)) (by decide)))) rfl sV_X5_parseItem_52 rfl ly_55 rfl rfl (Nat.le_of_ble_eq_true rfl) (Nat.le_of_ble_eq_true rfl) (Nat.le_of_ble_eq_true rfl) ?_
          refine go_if_eq 125 147 dX5_parseItem_122 rfl (by decide) (fun hc8 => ?_) (fun hc8 => ?_)
          · refine go_iconst 148 (0) dX5_parseItem_147 rfl (by decide) ?_
            refine go_ireturn dX5_parseItem_148 rfl (by first | rfl | exact bi_nar) (Nat.le_of_ble_eq_true rfl) (Nat.le_of_ble_eq_true rfl) ?_
            exact ⟨congrArg (fun z => some (Value.int z)) (by unfold f_X5_parseItem; simp only [if_pos hc1, if_pos hc2, if_pos hc3, if_neg hc4, if_pos hc8]; try first | rfl | contradiction), congrArg hp (by unfold f_X5_parseItem; simp only [if_pos hc1, if_pos hc2, if_pos hc3, if_neg hc4, if_pos hc8]; try first | rfl | contradiction)⟩
          · refine go_aload_n 126 dX5_parseItem_125 rfl rfl ?_
            refine go_bipush 128 (58) dX5_parseItem_126 rfl (by decide) ?_
            refine g_callV 131 [.int _] [] dX5_parseItem_128 rfl (ct_X5_take _ _ (okQ.sig hk _ (okQ.bec hk _ _ _ _ (okQ.take (okQ.take (okQ.take (okQ.take ht (by decide)) (by decide)) (by decide)) (by decide))))) rfl sV_X5_parseItem_36 rfl ly_55 rfl rfl (Nat.le_of_ble_eq_true rfl) (Nat.le_of_ble_eq_true rfl) (Nat.le_of_ble_eq_true rfl) ?_
            refine go_if_eq 134 147 dX5_parseItem_131 rfl (by decide) (fun hc9 => ?_) (fun hc9 => ?_)
            · refine go_iconst 148 (0) dX5_parseItem_147 rfl (by decide) ?_
              refine go_ireturn dX5_parseItem_148 rfl (by first | rfl | exact bi_nar) (Nat.le_of_ble_eq_true rfl) (Nat.le_of_ble_eq_true rfl) ?_
              exact ⟨congrArg (fun z => some (Value.int z)) (by unfold f_X5_parseItem; simp only [if_pos hc1, if_pos hc2, if_pos hc3, if_neg hc4, if_neg hc8, if_pos hc9]; try first | rfl | contradiction), congrArg hp (by unfold f_X5_parseItem; simp only [if_pos hc1, if_pos hc2, if_pos hc3, if_neg hc4, if_neg hc8, if_pos hc9]; try first | rfl | contradiction)⟩
            · refine go_aload_n 135 dX5_parseItem_134 rfl rfl ?_
              refine go_aload_n 136 dX5_parseItem_135 rfl rfl ?_
              refine go_iconst 137 (1) dX5_parseItem_136 rfl (by decide) ?_
              refine g_callV 140 [.ref k, .int _] [] dX5_parseItem_137 rfl (ct_X5_parseSignal _ _ _ hk (by unfold vp_in; decide) (okQ.take (okQ.sig hk _ (okQ.bec hk _ _ _ _ (okQ.take (okQ.take (okQ.take (okQ.take ht (by decide)) (by decide)) (by decide)) (by decide)))) (by decide))) rfl sV_X5_parseItem_52 rfl ly_55 rfl rfl (Nat.le_of_ble_eq_true rfl) (Nat.le_of_ble_eq_true rfl) (Nat.le_of_ble_eq_true rfl) ?_
              refine go_if_eq 143 147 dX5_parseItem_140 rfl (by decide) (fun hc10 => ?_) (fun hc10 => ?_)
              · refine go_iconst 148 (0) dX5_parseItem_147 rfl (by decide) ?_
                refine go_ireturn dX5_parseItem_148 rfl (by first | rfl | exact bi_nar) (Nat.le_of_ble_eq_true rfl) (Nat.le_of_ble_eq_true rfl) ?_
                exact ⟨congrArg (fun z => some (Value.int z)) (by unfold f_X5_parseItem; simp only [if_pos hc1, if_pos hc2, if_pos hc3, if_neg hc4, if_neg hc8, if_neg hc9, if_pos hc10]; try first | rfl | contradiction), congrArg hp (by unfold f_X5_parseItem; simp only [if_pos hc1, if_pos hc2, if_pos hc3, if_neg hc4, if_neg hc8, if_neg hc9, if_pos hc10]; try first | rfl | contradiction)⟩
              · refine go_iconst 144 (1) dX5_parseItem_143 rfl (by decide) ?_
                refine go_goto 148 dX5_parseItem_144 (by decide) ?_
                refine go_ireturn dX5_parseItem_148 rfl (by first | rfl | exact bi_nar) (Nat.le_of_ble_eq_true rfl) (Nat.le_of_ble_eq_true rfl) ?_
                exact ⟨congrArg (fun z => some (Value.int z)) (by unfold f_X5_parseItem; simp only [if_pos hc1, if_pos hc2, if_pos hc3, if_neg hc4, if_neg hc8, if_neg hc9, if_neg hc10]; try first | rfl | contradiction), congrArg hp (by unfold f_X5_parseItem; simp only [if_pos hc1, if_pos hc2, if_pos hc3, if_neg hc4, if_neg hc8, if_neg hc9, if_neg hc10]; try first | rfl | contradiction)⟩
      · refine go_aload_n 84 dX5_parseItem_83 rfl rfl ?_
        refine go_iconst 85 (2) dX5_parseItem_84 rfl (by decide) ?_
        refine go_iconst 86 (0) dX5_parseItem_85 rfl (by decide) ?_
        refine go_iconst 87 (0) dX5_parseItem_86 rfl (by decide) ?_
        refine go_iconst 88 (0) dX5_parseItem_87 rfl (by decide) ?_
        refine g_callV0 91 [.int _, .int _, .int _, .int _] [] dX5_parseItem_88 rfl (ct_X2_become _ _ _ _ _ _ hk) rfl sV_X5_parseItem_44 rfl hk.1 rfl rfl (Nat.le_of_ble_eq_true rfl) (Nat.le_of_ble_eq_true rfl) (Nat.le_of_ble_eq_true rfl) ?_
        refine go_aload_n 92 dX5_parseItem_91 rfl rfl ?_
        refine go_aload_n 93 dX5_parseItem_92 rfl rfl ?_
        refine go_iconst 94 (0) dX5_parseItem_93 rfl (by decide) ?_
        refine g_callV 97 [.ref k, .int _] [] dX5_parseItem_94 rfl (ct_X5_parseNumber _ _ _ hk (by unfold vp_in; decide) (okQ.bec hk _ _ _ _ (okQ.take (okQ.take (okQ.take ht (by decide)) (by decide)) (by decide)))) rfl sV_X5_parseItem_48 rfl ly_55 rfl rfl (Nat.le_of_ble_eq_true rfl) (Nat.le_of_ble_eq_true rfl) (Nat.le_of_ble_eq_true rfl) ?_
        refine go_ireturn dX5_parseItem_97 rfl (nb_f_X5_parseNumber _ _ _) (Nat.le_of_ble_eq_true rfl) (Nat.le_of_ble_eq_true rfl) ?_
        exact ⟨congrArg (fun z => some (Value.int z)) (by unfold f_X5_parseItem; simp only [if_pos hc1, if_pos hc2, if_neg hc3]; try first | rfl | contradiction), congrArg hp (by unfold f_X5_parseItem; simp only [if_pos hc1, if_pos hc2, if_neg hc3]; try first | rfl | contradiction)⟩
    · refine go_aload_n 60 dX5_parseItem_59 rfl rfl ?_
      refine go_iconst 61 (1) dX5_parseItem_60 rfl (by decide) ?_
      refine go_iconst 62 (0) dX5_parseItem_61 rfl (by decide) ?_
      refine go_iconst 63 (0) dX5_parseItem_62 rfl (by decide) ?_
      refine go_iconst 64 (0) dX5_parseItem_63 rfl (by decide) ?_
      refine g_callV0 67 [.int _, .int _, .int _, .int _] [] dX5_parseItem_64 rfl (ct_X2_become _ _ _ _ _ _ hk) rfl sV_X5_parseItem_44 rfl hk.1 rfl rfl (Nat.le_of_ble_eq_true rfl) (Nat.le_of_ble_eq_true rfl) (Nat.le_of_ble_eq_true rfl) ?_
      refine go_aload_n 68 dX5_parseItem_67 rfl rfl ?_
      refine go_aload_n 69 dX5_parseItem_68 rfl rfl ?_
      refine go_iconst 70 (0) dX5_parseItem_69 rfl (by decide) ?_
      refine g_callV 73 [.ref k, .int _] [] dX5_parseItem_70 rfl (ct_X5_parseNumber _ _ _ hk (by unfold vp_in; decide) (okQ.bec hk _ _ _ _ (okQ.take (okQ.take ht (by decide)) (by decide)))) rfl sV_X5_parseItem_48 rfl ly_55 rfl rfl (Nat.le_of_ble_eq_true rfl) (Nat.le_of_ble_eq_true rfl) (Nat.le_of_ble_eq_true rfl) ?_
      refine go_ireturn dX5_parseItem_73 rfl (nb_f_X5_parseNumber _ _ _) (Nat.le_of_ble_eq_true rfl) (Nat.le_of_ble_eq_true rfl) ?_
      exact ⟨congrArg (fun z => some (Value.int z)) (by unfold f_X5_parseItem; simp only [if_pos hc1, if_neg hc2]; try first | rfl | contradiction), congrArg hp (by unfold f_X5_parseItem; simp only [if_pos hc1, if_neg hc2]; try first | rfl | contradiction)⟩
  · refine go_aload_n 10 dX5_parseItem_9 rfl rfl ?_
    refine go_iconst 11 (0) dX5_parseItem_10 rfl (by decide) ?_
    refine go_iconst 12 (0) dX5_parseItem_11 rfl (by decide) ?_
    refine go_iconst 13 (0) dX5_parseItem_12 rfl (by decide) ?_
    refine go_iconst 14 (0) dX5_parseItem_13 rfl (by decide) ?_
    refine g_callV0 17 [.int _, .int _, .int _, .int _] [] dX5_parseItem_14 rfl (ct_X2_become _ _ _ _ _ _ hk) rfl sV_X5_parseItem_44 rfl hk.1 rfl rfl (Nat.le_of_ble_eq_true rfl) (Nat.le_of_ble_eq_true rfl) (Nat.le_of_ble_eq_true rfl) ?_
    refine go_aload_n 18 dX5_parseItem_17 rfl rfl ?_
    refine go_aload_n 19 dX5_parseItem_18 rfl rfl ?_
    refine go_iconst 20 (0) dX5_parseItem_19 rfl (by decide) ?_
    refine g_callV 23 [.ref k, .int _] [] dX5_parseItem_20 rfl (ct_X5_parseNumber _ _ _ hk (by unfold vp_in; decide) (okQ.bec hk _ _ _ _ (okQ.take ht (by decide)))) rfl sV_X5_parseItem_48 rfl ly_55 rfl rfl (Nat.le_of_ble_eq_true rfl) (Nat.le_of_ble_eq_true rfl) (Nat.le_of_ble_eq_true rfl) ?_
    refine go_if_eq 26 48 dX5_parseItem_23 rfl (by decide) (fun hc11 => ?_) (fun hc11 => ?_)
    · refine go_iconst 49 (0) dX5_parseItem_48 rfl (by decide) ?_
      refine go_ireturn dX5_parseItem_49 rfl (by first | rfl | exact bi_nar) (Nat.le_of_ble_eq_true rfl) (Nat.le_of_ble_eq_true rfl) ?_
      exact ⟨congrArg (fun z => some (Value.int z)) (by unfold f_X5_parseItem; simp only [if_neg hc1, if_pos hc11]; try first | rfl | contradiction), congrArg hp (by unfold f_X5_parseItem; simp only [if_neg hc1, if_pos hc11]; try first | rfl | contradiction)⟩
    · refine go_aload_n 27 dX5_parseItem_26 rfl rfl ?_
      refine go_bipush 29 (58) dX5_parseItem_27 rfl (by decide) ?_
      refine g_callV 32 [.int _] [] dX5_parseItem_29 rfl (ct_X5_take _ _ (okQ.num hk _ (okQ.bec hk _ _ _ _ (okQ.take ht (by decide))))) rfl sV_X5_parseItem_36 rfl ly_55 rfl rfl (Nat.le_of_ble_eq_true rfl) (Nat.le_of_ble_eq_true rfl) (Nat.le_of_ble_eq_true rfl) ?_
      refine go_if_eq 35 48 dX5_parseItem_32 rfl (by decide) (fun hc12 => ?_) (fun hc12 => ?_)
      · refine go_iconst 49 (0) dX5_parseItem_48 rfl (by decide) ?_
        refine go_ireturn dX5_parseItem_49 rfl (by first | rfl | exact bi_nar) (Nat.le_of_ble_eq_true rfl) (Nat.le_of_ble_eq_true rfl) ?_
        exact ⟨congrArg (fun z => some (Value.int z)) (by unfold f_X5_parseItem; simp only [if_neg hc1, if_neg hc11, if_pos hc12]; try first | rfl | contradiction), congrArg hp (by unfold f_X5_parseItem; simp only [if_neg hc1, if_neg hc11, if_pos hc12]; try first | rfl | contradiction)⟩
      · refine go_aload_n 36 dX5_parseItem_35 rfl rfl ?_
        refine go_aload_n 37 dX5_parseItem_36 rfl rfl ?_
        refine go_iconst 38 (1) dX5_parseItem_37 rfl (by decide) ?_
        refine g_callV 41 [.ref k, .int _] [] dX5_parseItem_38 rfl (ct_X5_parseNumber _ _ _ hk (by unfold vp_in; decide) (okQ.take (okQ.num hk _ (okQ.bec hk _ _ _ _ (okQ.take ht (by decide)))) (by decide))) rfl sV_X5_parseItem_48 rfl ly_55 rfl rfl (Nat.le_of_ble_eq_true rfl) (Nat.le_of_ble_eq_true rfl) (Nat.le_of_ble_eq_true rfl) ?_
        refine go_if_eq 44 48 dX5_parseItem_41 rfl (by decide) (fun hc13 => ?_) (fun hc13 => ?_)
        · refine go_iconst 49 (0) dX5_parseItem_48 rfl (by decide) ?_
          refine go_ireturn dX5_parseItem_49 rfl (by first | rfl | exact bi_nar) (Nat.le_of_ble_eq_true rfl) (Nat.le_of_ble_eq_true rfl) ?_
          exact ⟨congrArg (fun z => some (Value.int z)) (by unfold f_X5_parseItem; simp only [if_neg hc1, if_neg hc11, if_neg hc12, if_pos hc13]; try first | rfl | contradiction), congrArg hp (by unfold f_X5_parseItem; simp only [if_neg hc1, if_neg hc11, if_neg hc12, if_pos hc13]; try first | rfl | contradiction)⟩
        · refine go_iconst 45 (1) dX5_parseItem_44 rfl (by decide) ?_
          refine go_goto 49 dX5_parseItem_45 (by decide) ?_
          refine go_ireturn dX5_parseItem_49 rfl (by first | rfl | exact bi_nar) (Nat.le_of_ble_eq_true rfl) (Nat.le_of_ble_eq_true rfl) ?_
          exact ⟨congrArg (fun z => some (Value.int z)) (by unfold f_X5_parseItem; simp only [if_neg hc1, if_neg hc11, if_neg hc12, if_neg hc13]; try first | rfl | contradiction), congrArg hp (by unfold f_X5_parseItem; simp only [if_neg hc1, if_neg hc11, if_neg hc12, if_neg hc13]; try first | rfl | contradiction)⟩
theorem fr_f_X5_parseItem {k : Nat} {a0 c0 : Nat} (h55_1 : ¬ (a0 = 55 ∧ c0 = 1)) (hk_0 : ¬ (a0 = k ∧ c0 = 0)) (hk1 : a0 ≠ (k + 1)) (S : gS)  : rI (f_X5_parseItem S k).2 a0 c0 = rI S a0 c0 := by
  unfold f_X5_parseItem
  first | (simp only [snd_ite, rI_ite, ite_self, rI_wIc h55_1, rI_wIc hk_0, rI_wIk hk1, rI_wRk hk1, fr_f_X2_become hk_0 hk1, fr_f_X5_parseNumber h55_1 hk1, fr_f_X5_parseOperation h55_1 hk_0 hk1, fr_f_X5_parseSignal h55_1 hk1, fr_f_X5_take h55_1]; done) | ((repeat' split) <;> first | rfl | simp only [rI_wIc h55_1, rI_wIc hk_0, rI_wIk hk1, rI_wRk hk1, fr_f_X2_become hk_0 hk1, fr_f_X5_parseNumber h55_1 hk1, fr_f_X5_parseOperation h55_1 hk_0 hk1, fr_f_X5_parseSignal h55_1 hk1, fr_f_X5_take h55_1] | (apply fr_f_X2_become <;> assumption) | (apply fr_f_X5_parseNumber <;> assumption) | (apply fr_f_X5_parseOperation <;> assumption) | (apply fr_f_X5_parseSignal <;> assumption) | (apply fr_f_X5_take <;> assumption))

