theorem dX9_init_0 : decode cX9_init 0 = .ok (.aload_n 0, 1) := by decide +kernel
theorem dX9_init_1 : decode cX9_init 1 = .ok (.invokespecial 1, 3) := by decide +kernel
theorem dX9_init_4 : decode cX9_init 4 = .ok (.aload_n 0, 1) := by decide +kernel
theorem dX9_init_5 : decode cX9_init 5 = .ok (.bipush 24, 2) := by decide +kernel
theorem dX9_init_7 : decode cX9_init 7 = .ok (.newarray .int, 2) := by decide +kernel
theorem dX9_init_9 : decode cX9_init 9 = .ok (.putfield 7, 3) := by decide +kernel
theorem dX9_init_12 : decode cX9_init 12 = .ok (.aload_n 0, 1) := by decide +kernel
theorem dX9_init_13 : decode cX9_init 13 = .ok (.bipush 24, 2) := by decide +kernel
theorem dX9_init_15 : decode cX9_init 15 = .ok (.newarray .int, 2) := by decide +kernel
theorem dX9_init_17 : decode cX9_init 17 = .ok (.putfield 13, 3) := by decide +kernel
theorem dX9_init_20 : decode cX9_init 20 = .ok (.aload_n 0, 1) := by decide +kernel
theorem dX9_init_21 : decode cX9_init 21 = .ok (.bipush 24, 2) := by decide +kernel
theorem dX9_init_23 : decode cX9_init 23 = .ok (.newarray .int, 2) := by decide +kernel
theorem dX9_init_25 : decode cX9_init 25 = .ok (.putfield 16, 3) := by decide +kernel
theorem dX9_init_28 : decode cX9_init 28 = .ok (.aload_n 0, 1) := by decide +kernel
theorem dX9_init_29 : decode cX9_init 29 = .ok (.bipush 24, 2) := by decide +kernel
theorem dX9_init_31 : decode cX9_init 31 = .ok (.newarray .int, 2) := by decide +kernel
theorem dX9_init_33 : decode cX9_init 33 = .ok (.putfield 19, 3) := by decide +kernel
theorem dX9_init_36 : decode cX9_init 36 = .ok (.aload_n 0, 1) := by decide +kernel
theorem dX9_init_37 : decode cX9_init 37 = .ok (.bipush 24, 2) := by decide +kernel
theorem dX9_init_39 : decode cX9_init 39 = .ok (.newarray .int, 2) := by decide +kernel
theorem dX9_init_41 : decode cX9_init 41 = .ok (.putfield 22, 3) := by decide +kernel
theorem dX9_init_44 : decode cX9_init 44 = .ok (.aload_n 0, 1) := by decide +kernel
theorem dX9_init_45 : decode cX9_init 45 = .ok (.bipush 24, 2) := by decide +kernel
theorem dX9_init_47 : decode cX9_init 47 = .ok (.newarray .int, 2) := by decide +kernel
theorem dX9_init_49 : decode cX9_init 49 = .ok (.putfield 25, 3) := by decide +kernel
theorem dX9_init_52 : decode cX9_init 52 = .ok (.aload_n 0, 1) := by decide +kernel
theorem dX9_init_53 : decode cX9_init 53 = .ok (.bipush 24, 2) := by decide +kernel
theorem dX9_init_55 : decode cX9_init 55 = .ok (.newarray .int, 2) := by decide +kernel
theorem dX9_init_57 : decode cX9_init 57 = .ok (.putfield 28, 3) := by decide +kernel
theorem dX9_init_60 : decode cX9_init 60 = .ok (.aload_n 0, 1) := by decide +kernel
theorem dX9_init_61 : decode cX9_init 61 = .ok (.bipush 24, 2) := by decide +kernel
theorem dX9_init_63 : decode cX9_init 63 = .ok (.newarray .int, 2) := by decide +kernel
theorem dX9_init_65 : decode cX9_init 65 = .ok (.putfield 31, 3) := by decide +kernel
theorem dX9_init_68 : decode cX9_init 68 = .ok (.aload_n 0, 1) := by decide +kernel
theorem dX9_init_69 : decode cX9_init 69 = .ok (.bipush 24, 2) := by decide +kernel
theorem dX9_init_71 : decode cX9_init 71 = .ok (.newarray .int, 2) := by decide +kernel
theorem dX9_init_73 : decode cX9_init 73 = .ok (.putfield 34, 3) := by decide +kernel
theorem dX9_init_76 : decode cX9_init 76 = .ok (.aload_n 0, 1) := by decide +kernel
theorem dX9_init_77 : decode cX9_init 77 = .ok (.bipush 24, 2) := by decide +kernel
theorem dX9_init_79 : decode cX9_init 79 = .ok (.newarray .long, 2) := by decide +kernel
theorem dX9_init_81 : decode cX9_init 81 = .ok (.putfield 37, 3) := by decide +kernel
theorem dX9_init_84 : decode cX9_init 84 = .ok (.aload_n 0, 1) := by decide +kernel
theorem dX9_init_85 : decode cX9_init 85 = .ok (.bipush 24, 2) := by decide +kernel
theorem dX9_init_87 : decode cX9_init 87 = .ok (.newarray .long, 2) := by decide +kernel
theorem dX9_init_89 : decode cX9_init 89 = .ok (.putfield 41, 3) := by decide +kernel
theorem dX9_init_92 : decode cX9_init 92 = .ok (.aload_n 0, 1) := by decide +kernel
theorem dX9_init_93 : decode cX9_init 93 = .ok (.bipush 24, 2) := by decide +kernel
theorem dX9_init_95 : decode cX9_init 95 = .ok (.newarray .int, 2) := by decide +kernel
theorem dX9_init_97 : decode cX9_init 97 = .ok (.putfield 44, 3) := by decide +kernel
theorem dX9_init_100 : decode cX9_init 100 = .ok (.aload_n 0, 1) := by decide +kernel
theorem dX9_init_101 : decode cX9_init 101 = .ok (.bipush 24, 2) := by decide +kernel
theorem dX9_init_103 : decode cX9_init 103 = .ok (.newarray .int, 2) := by decide +kernel
theorem dX9_init_105 : decode cX9_init 105 = .ok (.putfield 47, 3) := by decide +kernel
theorem dX9_init_108 : decode cX9_init 108 = .ok (.aload_n 0, 1) := by decide +kernel
theorem dX9_init_109 : decode cX9_init 109 = .ok (.bipush 24, 2) := by decide +kernel
theorem dX9_init_111 : decode cX9_init 111 = .ok (.newarray .int, 2) := by decide +kernel
theorem dX9_init_113 : decode cX9_init 113 = .ok (.putfield 50, 3) := by decide +kernel
theorem dX9_init_116 : decode cX9_init 116 = .ok (.aload_n 0, 1) := by decide +kernel
theorem dX9_init_117 : decode cX9_init 117 = .ok (.bipush 24, 2) := by decide +kernel
theorem dX9_init_119 : decode cX9_init 119 = .ok (.newarray .int, 2) := by decide +kernel
theorem dX9_init_121 : decode cX9_init 121 = .ok (.putfield 53, 3) := by decide +kernel
theorem dX9_init_124 : decode cX9_init 124 = .ok (.aload_n 0, 1) := by decide +kernel
theorem dX9_init_125 : decode cX9_init 125 = .ok (.bipush 24, 2) := by decide +kernel
theorem dX9_init_127 : decode cX9_init 127 = .ok (.newarray .int, 2) := by decide +kernel
theorem dX9_init_129 : decode cX9_init 129 = .ok (.putfield 56, 3) := by decide +kernel
theorem dX9_init_132 : decode cX9_init 132 = .ok (.aload_n 0, 1) := by decide +kernel
theorem dX9_init_133 : decode cX9_init 133 = .ok (.bipush 24, 2) := by decide +kernel
theorem dX9_init_135 : decode cX9_init 135 = .ok (.newarray .int, 2) := by decide +kernel
theorem dX9_init_137 : decode cX9_init 137 = .ok (.putfield 59, 3) := by decide +kernel
theorem dX9_init_140 : decode cX9_init 140 = .ok (.aload_n 0, 1) := by decide +kernel
theorem dX9_init_141 : decode cX9_init 141 = .ok (.bipush 24, 2) := by decide +kernel
theorem dX9_init_143 : decode cX9_init 143 = .ok (.newarray .int, 2) := by decide +kernel
theorem dX9_init_145 : decode cX9_init 145 = .ok (.putfield 62, 3) := by decide +kernel
theorem dX9_init_148 : decode cX9_init 148 = .ok (.aload_n 0, 1) := by decide +kernel
theorem dX9_init_149 : decode cX9_init 149 = .ok (.bipush 24, 2) := by decide +kernel
theorem dX9_init_151 : decode cX9_init 151 = .ok (.newarray .int, 2) := by decide +kernel
theorem dX9_init_153 : decode cX9_init 153 = .ok (.putfield 65, 3) := by decide +kernel
theorem dX9_init_156 : decode cX9_init 156 = .ok (.aload_n 0, 1) := by decide +kernel
theorem dX9_init_157 : decode cX9_init 157 = .ok (.bipush 24, 2) := by decide +kernel
theorem dX9_init_159 : decode cX9_init 159 = .ok (.newarray .int, 2) := by decide +kernel
theorem dX9_init_161 : decode cX9_init 161 = .ok (.putfield 68, 3) := by decide +kernel
theorem dX9_init_164 : decode cX9_init 164 = .ok (.aload_n 0, 1) := by decide +kernel
theorem dX9_init_165 : decode cX9_init 165 = .ok (.bipush 24, 2) := by decide +kernel
theorem dX9_init_167 : decode cX9_init 167 = .ok (.newarray .int, 2) := by decide +kernel
theorem dX9_init_169 : decode cX9_init 169 = .ok (.putfield 71, 3) := by decide +kernel
theorem dX9_init_172 : decode cX9_init 172 = .ok (.aload_n 0, 1) := by decide +kernel
theorem dX9_init_173 : decode cX9_init 173 = .ok (.bipush 80, 2) := by decide +kernel
theorem dX9_init_175 : decode cX9_init 175 = .ok (.newarray .int, 2) := by decide +kernel
theorem dX9_init_177 : decode cX9_init 177 = .ok (.putfield 74, 3) := by decide +kernel
theorem dX9_init_180 : decode cX9_init 180 = .ok (.aload_n 0, 1) := by decide +kernel
theorem dX9_init_181 : decode cX9_init 181 = .ok (.bipush 40, 2) := by decide +kernel
theorem dX9_init_183 : decode cX9_init 183 = .ok (.newarray .int, 2) := by decide +kernel
theorem dX9_init_185 : decode cX9_init 185 = .ok (.putfield 77, 3) := by decide +kernel
theorem dX9_init_188 : decode cX9_init 188 = .ok (.aload_n 0, 1) := by decide +kernel
theorem dX9_init_189 : decode cX9_init 189 = .ok (.bipush 40, 2) := by decide +kernel
theorem dX9_init_191 : decode cX9_init 191 = .ok (.newarray .int, 2) := by decide +kernel
theorem dX9_init_193 : decode cX9_init 193 = .ok (.putfield 80, 3) := by decide +kernel
theorem dX9_init_196 : decode cX9_init 196 = .ok (.aload_n 0, 1) := by decide +kernel
theorem dX9_init_197 : decode cX9_init 197 = .ok (.bipush 40, 2) := by decide +kernel
theorem dX9_init_199 : decode cX9_init 199 = .ok (.newarray .int, 2) := by decide +kernel
theorem dX9_init_201 : decode cX9_init 201 = .ok (.putfield 83, 3) := by decide +kernel
theorem dX9_init_204 : decode cX9_init 204 = .ok (.aload_n 0, 1) := by decide +kernel
theorem dX9_init_205 : decode cX9_init 205 = .ok (.bipush 40, 2) := by decide +kernel
theorem dX9_init_207 : decode cX9_init 207 = .ok (.newarray .int, 2) := by decide +kernel
theorem dX9_init_209 : decode cX9_init 209 = .ok (.putfield 86, 3) := by decide +kernel
theorem dX9_init_212 : decode cX9_init 212 = .ok (.aload_n 0, 1) := by decide +kernel
theorem dX9_init_213 : decode cX9_init 213 = .ok (.iconst 3, 1) := by decide +kernel
theorem dX9_init_214 : decode cX9_init 214 = .ok (.newarray .int, 2) := by decide +kernel
theorem dX9_init_216 : decode cX9_init 216 = .ok (.putfield 89, 3) := by decide +kernel
theorem dX9_init_219 : decode cX9_init 219 = .ok (.aload_n 0, 1) := by decide +kernel
theorem dX9_init_220 : decode cX9_init 220 = .ok (.iconst 3, 1) := by decide +kernel
theorem dX9_init_221 : decode cX9_init 221 = .ok (.newarray .int, 2) := by decide +kernel
theorem dX9_init_223 : decode cX9_init 223 = .ok (.putfield 92, 3) := by decide +kernel
theorem dX9_init_226 : decode cX9_init 226 = .ok (.aload_n 0, 1) := by decide +kernel
theorem dX9_init_227 : decode cX9_init 227 = .ok (.sipush 440, 3) := by decide +kernel
theorem dX9_init_230 : decode cX9_init 230 = .ok (.newarray .int, 2) := by decide +kernel
theorem dX9_init_232 : decode cX9_init 232 = .ok (.putfield 95, 3) := by decide +kernel
theorem dX9_init_235 : decode cX9_init 235 = .ok (.return_, 1) := by decide +kernel
theorem dX9_thrown_0 : decode cX9_thrown 0 = .ok (.aload_n 0, 1) := by decide +kernel
theorem dX9_thrown_1 : decode cX9_thrown 1 = .ok (.getfield 98, 3) := by decide +kernel
theorem dX9_thrown_4 : decode cX9_thrown 4 = .ok (.ireturn, 1) := by decide +kernel
theorem dX9_fails_0 : decode cX9_fails 0 = .ok (.aload_n 0, 1) := by decide +kernel
theorem dX9_fails_1 : decode cX9_fails 1 = .ok (.iload_n 1, 1) := by decide +kernel
theorem dX9_fails_2 : decode cX9_fails 2 = .ok (.putfield 98, 3) := by decide +kernel
theorem dX9_fails_5 : decode cX9_fails 5 = .ok (.iconst 0, 1) := by decide +kernel
theorem dX9_fails_6 : decode cX9_fails 6 = .ok (.ireturn, 1) := by decide +kernel
theorem dX9_refuses_0 : decode cX9_refuses 0 = .ok (.aload_n 0, 1) := by decide +kernel
theorem dX9_refuses_1 : decode cX9_refuses 1 = .ok (.iload_n 1, 1) := by decide +kernel
theorem dX9_refuses_2 : decode cX9_refuses 2 = .ok (.putfield 98, 3) := by decide +kernel
theorem dX9_refuses_5 : decode cX9_refuses 5 = .ok (.iconst 0, 1) := by decide +kernel
theorem dX9_refuses_6 : decode cX9_refuses 6 = .ok (.ireturn, 1) := by decide +kernel
theorem dX9_isBetween_0 : decode cX9_isBetween 0 = .ok (.lload_n 0, 1) := by decide +kernel
theorem dX9_isBetween_1 : decode cX9_isBetween 1 = .ok (.lload_n 2, 1) := by decide +kernel
theorem dX9_isBetween_2 : decode cX9_isBetween 2 = .ok (.lcmp, 1) := by decide +kernel
theorem dX9_isBetween_3 : decode cX9_isBetween 3 = .ok (.ifCond .lt 14, 3) := by decide +kernel
theorem dX9_isBetween_6 : decode cX9_isBetween 6 = .ok (.lload_n 0, 1) := by decide +kernel
theorem dX9_isBetween_7 : decode cX9_isBetween 7 = .ok (.lload 4, 2) := by decide +kernel
theorem dX9_isBetween_9 : decode cX9_isBetween 9 = .ok (.lcmp, 1) := by decide +kernel
theorem dX9_isBetween_10 : decode cX9_isBetween 10 = .ok (.ifCond .gt 7, 3) := by decide +kernel
theorem dX9_isBetween_13 : decode cX9_isBetween 13 = .ok (.iconst 1, 1) := by decide +kernel
theorem dX9_isBetween_14 : decode cX9_isBetween 14 = .ok (.goto 4, 3) := by decide +kernel
theorem dX9_isBetween_17 : decode cX9_isBetween 17 = .ok (.iconst 0, 1) := by decide +kernel
theorem dX9_isBetween_18 : decode cX9_isBetween 18 = .ok (.ireturn, 1) := by decide +kernel
theorem dX9_isSignal_0 : decode cX9_isSignal 0 = .ok (.iload_n 1, 1) := by decide +kernel
theorem dX9_isSignal_1 : decode cX9_isSignal 1 = .ok (.ifCond .lt 15, 3) := by decide +kernel
theorem dX9_isSignal_4 : decode cX9_isSignal 4 = .ok (.iload_n 1, 1) := by decide +kernel
theorem dX9_isSignal_5 : decode cX9_isSignal 5 = .ok (.aload_n 0, 1) := by decide +kernel
theorem dX9_isSignal_6 : decode cX9_isSignal 6 = .ok (.getfield 102, 3) := by decide +kernel
theorem dX9_isSignal_9 : decode cX9_isSignal 9 = .ok (.if_icmp .ge 7, 3) := by decide +kernel
theorem dX9_isSignal_12 : decode cX9_isSignal 12 = .ok (.iconst 1, 1) := by decide +kernel
theorem dX9_isSignal_13 : decode cX9_isSignal 13 = .ok (.goto 4, 3) := by decide +kernel
theorem dX9_isSignal_16 : decode cX9_isSignal 16 = .ok (.iconst 0, 1) := by decide +kernel
theorem dX9_isSignal_17 : decode cX9_isSignal 17 = .ok (.ireturn, 1) := by decide +kernel
theorem dX9_isConstant_0 : decode cX9_isConstant 0 = .ok (.iload_n 0, 1) := by decide +kernel
theorem dX9_isConstant_1 : decode cX9_isConstant 1 = .ok (.i2l, 1) := by decide +kernel
theorem dX9_isConstant_2 : decode cX9_isConstant 2 = .ok (.ldc2_w 105, 3) := by decide +kernel
theorem dX9_isConstant_5 : decode cX9_isConstant 5 = .ok (.ldc2_w 107, 3) := by decide +kernel
theorem dX9_isConstant_8 : decode cX9_isConstant 8 = .ok (.invokestatic 109, 3) := by decide +kernel
theorem dX9_isConstant_11 : decode cX9_isConstant 11 = .ok (.ireturn, 1) := by decide +kernel
theorem dX9_isOperandSignal_0 : decode cX9_isOperandSignal 0 = .ok (.iload_n 0, 1) := by decide +kernel
theorem dX9_isOperandSignal_1 : decode cX9_isOperandSignal 1 = .ok (.iconst 3, 1) := by decide +kernel
theorem dX9_isOperandSignal_2 : decode cX9_isOperandSignal 2 = .ok (.if_icmp .ge 5, 3) := by decide +kernel
theorem dX9_isOperandSignal_5 : decode cX9_isOperandSignal 5 = .ok (.iconst 0, 1) := by decide +kernel
theorem dX9_isOperandSignal_6 : decode cX9_isOperandSignal 6 = .ok (.ireturn, 1) := by decide +kernel
theorem dX9_isOperandSignal_7 : decode cX9_isOperandSignal 7 = .ok (.iload_n 1, 1) := by decide +kernel
theorem dX9_isOperandSignal_8 : decode cX9_isOperandSignal 8 = .ok (.ifCond .eq 31, 3) := by decide +kernel
theorem dX9_isOperandSignal_11 : decode cX9_isOperandSignal 11 = .ok (.iload_n 1, 1) := by decide +kernel
theorem dX9_isOperandSignal_12 : decode cX9_isOperandSignal 12 = .ok (.iconst 1, 1) := by decide +kernel
theorem dX9_isOperandSignal_13 : decode cX9_isOperandSignal 13 = .ok (.if_icmp .ne 15, 3) := by decide +kernel
theorem dX9_isOperandSignal_16 : decode cX9_isOperandSignal 16 = .ok (.iload_n 0, 1) := by decide +kernel
theorem dX9_isOperandSignal_17 : decode cX9_isOperandSignal 17 = .ok (.bipush 9, 2) := by decide +kernel
theorem dX9_isOperandSignal_19 : decode cX9_isOperandSignal 19 = .ok (.if_icmp .eq 9, 3) := by decide +kernel
theorem dX9_isOperandSignal_22 : decode cX9_isOperandSignal 22 = .ok (.iload_n 0, 1) := by decide +kernel
theorem dX9_isOperandSignal_23 : decode cX9_isOperandSignal 23 = .ok (.bipush 10, 2) := by decide +kernel
theorem dX9_isOperandSignal_25 : decode cX9_isOperandSignal 25 = .ok (.if_icmp .ne 14, 3) := by decide +kernel
theorem dX9_isOperandSignal_28 : decode cX9_isOperandSignal 28 = .ok (.iload_n 1, 1) := by decide +kernel
theorem dX9_isOperandSignal_29 : decode cX9_isOperandSignal 29 = .ok (.iconst 2, 1) := by decide +kernel
theorem dX9_isOperandSignal_30 : decode cX9_isOperandSignal 30 = .ok (.if_icmp .ne 13, 3) := by decide +kernel
theorem dX9_isOperandSignal_33 : decode cX9_isOperandSignal 33 = .ok (.iload_n 0, 1) := by decide +kernel
theorem dX9_isOperandSignal_34 : decode cX9_isOperandSignal 34 = .ok (.bipush 12, 2) := by decide +kernel
theorem dX9_isOperandSignal_36 : decode cX9_isOperandSignal 36 = .ok (.if_icmp .ne 7, 3) := by decide +kernel
theorem dX9_isOperandSignal_39 : decode cX9_isOperandSignal 39 = .ok (.iconst 1, 1) := by decide +kernel
theorem dX9_isOperandSignal_40 : decode cX9_isOperandSignal 40 = .ok (.goto 4, 3) := by decide +kernel
theorem dX9_isOperandSignal_43 : decode cX9_isOperandSignal 43 = .ok (.iconst 0, 1) := by decide +kernel
theorem dX9_isOperandSignal_44 : decode cX9_isOperandSignal 44 = .ok (.ireturn, 1) := by decide +kernel
theorem dX9_badConstant_0 : decode cX9_badConstant 0 = .ok (.iload_n 0, 1) := by decide +kernel
theorem dX9_badConstant_1 : decode cX9_badConstant 1 = .ok (.iconst 2, 1) := by decide +kernel
theorem dX9_badConstant_2 : decode cX9_badConstant 2 = .ok (.if_icmp .gt 12, 3) := by decide +kernel
theorem dX9_badConstant_5 : decode cX9_badConstant 5 = .ok (.iload_n 1, 1) := by decide +kernel
theorem dX9_badConstant_6 : decode cX9_badConstant 6 = .ok (.invokestatic 113, 3) := by decide +kernel
theorem dX9_badConstant_9 : decode cX9_badConstant 9 = .ok (.ifCond .ne 5, 3) := by decide +kernel
theorem dX9_badConstant_12 : decode cX9_badConstant 12 = .ok (.iconst 0, 1) := by decide +kernel
theorem dX9_badConstant_13 : decode cX9_badConstant 13 = .ok (.ireturn, 1) := by decide +kernel
theorem dX9_badConstant_14 : decode cX9_badConstant 14 = .ok (.iload_n 0, 1) := by decide +kernel
theorem dX9_badConstant_15 : decode cX9_badConstant 15 = .ok (.ifCond .ne 17, 3) := by decide +kernel
theorem dX9_badConstant_18 : decode cX9_badConstant 18 = .ok (.iload_n 2, 1) := by decide +kernel
theorem dX9_badConstant_19 : decode cX9_badConstant 19 = .ok (.invokestatic 113, 3) := by decide +kernel
theorem dX9_badConstant_22 : decode cX9_badConstant 22 = .ok (.ifCond .eq 8, 3) := by decide +kernel
theorem dX9_badConstant_25 : decode cX9_badConstant 25 = .ok (.iload_n 1, 1) := by decide +kernel
theorem dX9_badConstant_26 : decode cX9_badConstant 26 = .ok (.iload_n 2, 1) := by decide +kernel
theorem dX9_badConstant_27 : decode cX9_badConstant 27 = .ok (.if_icmp .le 5, 3) := by decide +kernel
theorem dX9_badConstant_30 : decode cX9_badConstant 30 = .ok (.iconst 1, 1) := by decide +kernel
theorem dX9_badConstant_31 : decode cX9_badConstant 31 = .ok (.ireturn, 1) := by decide +kernel
theorem dX9_badConstant_32 : decode cX9_badConstant 32 = .ok (.iload_n 0, 1) := by decide +kernel
theorem dX9_badConstant_33 : decode cX9_badConstant 33 = .ok (.bipush 9, 2) := by decide +kernel
theorem dX9_badConstant_35 : decode cX9_badConstant 35 = .ok (.if_icmp .eq 9, 3) := by decide +kernel
theorem dX9_badConstant_38 : decode cX9_badConstant 38 = .ok (.iload_n 0, 1) := by decide +kernel
theorem dX9_badConstant_39 : decode cX9_badConstant 39 = .ok (.bipush 10, 2) := by decide +kernel
theorem dX9_badConstant_41 : decode cX9_badConstant 41 = .ok (.if_icmp .ne 19, 3) := by decide +kernel
theorem dX9_badConstant_44 : decode cX9_badConstant 44 = .ok (.iload_n 2, 1) := by decide +kernel
theorem dX9_badConstant_45 : decode cX9_badConstant 45 = .ok (.i2l, 1) := by decide +kernel
theorem dX9_badConstant_46 : decode cX9_badConstant 46 = .ok (.lconst 0, 1) := by decide +kernel
theorem dX9_badConstant_47 : decode cX9_badConstant 47 = .ok (.ldc2_w 117, 3) := by decide +kernel
theorem dX9_badConstant_50 : decode cX9_badConstant 50 = .ok (.invokestatic 109, 3) := by decide +kernel
theorem dX9_badConstant_53 : decode cX9_badConstant 53 = .ok (.ifCond .ne 7, 3) := by decide +kernel
theorem dX9_badConstant_56 : decode cX9_badConstant 56 = .ok (.iconst 1, 1) := by decide +kernel
theorem dX9_badConstant_57 : decode cX9_badConstant 57 = .ok (.goto 4, 3) := by decide +kernel
theorem dX9_badConstant_60 : decode cX9_badConstant 60 = .ok (.iconst (-1), 1) := by decide +kernel
theorem dX9_badConstant_61 : decode cX9_badConstant 61 = .ok (.ireturn, 1) := by decide +kernel
theorem dX9_badSignal_0 : decode cX9_badSignal 0 = .ok (.iload_n 1, 1) := by decide +kernel
theorem dX9_badSignal_1 : decode cX9_badSignal 1 = .ok (.iconst 0, 1) := by decide +kernel
theorem dX9_badSignal_2 : decode cX9_badSignal 2 = .ok (.invokestatic 119, 3) := by decide +kernel
theorem dX9_badSignal_5 : decode cX9_badSignal 5 = .ok (.ifCond .eq 13, 3) := by decide +kernel
theorem dX9_badSignal_8 : decode cX9_badSignal 8 = .ok (.aload_n 0, 1) := by decide +kernel
theorem dX9_badSignal_9 : decode cX9_badSignal 9 = .ok (.iload_n 2, 1) := by decide +kernel
theorem dX9_badSignal_10 : decode cX9_badSignal 10 = .ok (.invokevirtual 123, 3) := by decide +kernel
theorem dX9_badSignal_13 : decode cX9_badSignal 13 = .ok (.ifCond .ne 5, 3) := by decide +kernel
theorem dX9_badSignal_16 : decode cX9_badSignal 16 = .ok (.iconst 0, 1) := by decide +kernel
theorem dX9_badSignal_17 : decode cX9_badSignal 17 = .ok (.ireturn, 1) := by decide +kernel
theorem dX9_badSignal_18 : decode cX9_badSignal 18 = .ok (.iload_n 1, 1) := by decide +kernel
theorem dX9_badSignal_19 : decode cX9_badSignal 19 = .ok (.iconst 1, 1) := by decide +kernel
theorem dX9_badSignal_20 : decode cX9_badSignal 20 = .ok (.invokestatic 119, 3) := by decide +kernel
theorem dX9_badSignal_23 : decode cX9_badSignal 23 = .ok (.ifCond .eq 13, 3) := by decide +kernel
theorem dX9_badSignal_26 : decode cX9_badSignal 26 = .ok (.aload_n 0, 1) := by decide +kernel
theorem dX9_badSignal_27 : decode cX9_badSignal 27 = .ok (.iload_n 3, 1) := by decide +kernel
theorem dX9_badSignal_28 : decode cX9_badSignal 28 = .ok (.invokevirtual 123, 3) := by decide +kernel
theorem dX9_badSignal_31 : decode cX9_badSignal 31 = .ok (.ifCond .ne 5, 3) := by decide +kernel
theorem dX9_badSignal_34 : decode cX9_badSignal 34 = .ok (.iconst 1, 1) := by decide +kernel
theorem dX9_badSignal_35 : decode cX9_badSignal 35 = .ok (.ireturn, 1) := by decide +kernel
theorem dX9_badSignal_36 : decode cX9_badSignal 36 = .ok (.iload_n 1, 1) := by decide +kernel
theorem dX9_badSignal_37 : decode cX9_badSignal 37 = .ok (.iconst 2, 1) := by decide +kernel
theorem dX9_badSignal_38 : decode cX9_badSignal 38 = .ok (.invokestatic 119, 3) := by decide +kernel
theorem dX9_badSignal_41 : decode cX9_badSignal 41 = .ok (.ifCond .eq 16, 3) := by decide +kernel
theorem dX9_badSignal_44 : decode cX9_badSignal 44 = .ok (.aload_n 0, 1) := by decide +kernel
theorem dX9_badSignal_45 : decode cX9_badSignal 45 = .ok (.iload 4, 2) := by decide +kernel
theorem dX9_badSignal_47 : decode cX9_badSignal 47 = .ok (.invokevirtual 123, 3) := by decide +kernel
theorem dX9_badSignal_50 : decode cX9_badSignal 50 = .ok (.ifCond .ne 7, 3) := by decide +kernel
theorem dX9_badSignal_53 : decode cX9_badSignal 53 = .ok (.iconst 2, 1) := by decide +kernel
theorem dX9_badSignal_54 : decode cX9_badSignal 54 = .ok (.goto 4, 3) := by decide +kernel
theorem dX9_badSignal_57 : decode cX9_badSignal 57 = .ok (.iconst (-1), 1) := by decide +kernel
theorem dX9_badSignal_58 : decode cX9_badSignal 58 = .ok (.ireturn, 1) := by decide +kernel
theorem dX9_adds_0 : decode cX9_adds 0 = .ok (.aload_n 0, 1) := by decide +kernel
theorem dX9_adds_1 : decode cX9_adds 1 = .ok (.getfield 7, 3) := by decide +kernel
theorem dX9_adds_4 : decode cX9_adds 4 = .ok (.aload_n 0, 1) := by decide +kernel
theorem dX9_adds_5 : decode cX9_adds 5 = .ok (.getfield 102, 3) := by decide +kernel
theorem dX9_adds_8 : decode cX9_adds 8 = .ok (.iload_n 1, 1) := by decide +kernel
theorem dX9_adds_9 : decode cX9_adds 9 = .ok (.iastore, 1) := by decide +kernel
theorem dX9_adds_10 : decode cX9_adds 10 = .ok (.aload_n 0, 1) := by decide +kernel
theorem dX9_adds_11 : decode cX9_adds 11 = .ok (.getfield 13, 3) := by decide +kernel
theorem dX9_adds_14 : decode cX9_adds 14 = .ok (.aload_n 0, 1) := by decide +kernel
theorem dX9_adds_15 : decode cX9_adds 15 = .ok (.getfield 102, 3) := by decide +kernel
theorem dX9_adds_18 : decode cX9_adds 18 = .ok (.iload_n 2, 1) := by decide +kernel
theorem dX9_adds_19 : decode cX9_adds 19 = .ok (.iastore, 1) := by decide +kernel
theorem dX9_adds_20 : decode cX9_adds 20 = .ok (.aload_n 0, 1) := by decide +kernel
theorem dX9_adds_21 : decode cX9_adds 21 = .ok (.getfield 16, 3) := by decide +kernel
theorem dX9_adds_24 : decode cX9_adds 24 = .ok (.aload_n 0, 1) := by decide +kernel
theorem dX9_adds_25 : decode cX9_adds 25 = .ok (.getfield 102, 3) := by decide +kernel
theorem dX9_adds_28 : decode cX9_adds 28 = .ok (.iload_n 1, 1) := by decide +kernel
theorem dX9_adds_29 : decode cX9_adds 29 = .ok (.iconst 1, 1) := by decide +kernel
theorem dX9_adds_30 : decode cX9_adds 30 = .ok (.if_icmp .eq 8, 3) := by decide +kernel
theorem dX9_adds_33 : decode cX9_adds 33 = .ok (.iload_n 1, 1) := by decide +kernel
theorem dX9_adds_34 : decode cX9_adds 34 = .ok (.iconst 2, 1) := by decide +kernel
theorem dX9_adds_35 : decode cX9_adds 35 = .ok (.if_icmp .ne 7, 3) := by decide +kernel
theorem dX9_adds_38 : decode cX9_adds 38 = .ok (.iconst 0, 1) := by decide +kernel
theorem dX9_adds_39 : decode cX9_adds 39 = .ok (.goto 4, 3) := by decide +kernel
theorem dX9_adds_42 : decode cX9_adds 42 = .ok (.iload_n 3, 1) := by decide +kernel
theorem dX9_adds_43 : decode cX9_adds 43 = .ok (.iastore, 1) := by decide +kernel
theorem dX9_adds_44 : decode cX9_adds 44 = .ok (.aload_n 0, 1) := by decide +kernel
theorem dX9_adds_45 : decode cX9_adds 45 = .ok (.getfield 19, 3) := by decide +kernel
theorem dX9_adds_48 : decode cX9_adds 48 = .ok (.aload_n 0, 1) := by decide +kernel
theorem dX9_adds_49 : decode cX9_adds 49 = .ok (.getfield 102, 3) := by decide +kernel
theorem dX9_adds_52 : decode cX9_adds 52 = .ok (.iload_n 1, 1) := by decide +kernel
theorem dX9_adds_53 : decode cX9_adds 53 = .ok (.bipush 12, 2) := by decide +kernel
theorem dX9_adds_55 : decode cX9_adds 55 = .ok (.if_icmp .ne 8, 3) := by decide +kernel
theorem dX9_adds_58 : decode cX9_adds 58 = .ok (.iload 4, 2) := by decide +kernel
theorem dX9_adds_60 : decode cX9_adds 60 = .ok (.goto 4, 3) := by decide +kernel
theorem dX9_adds_63 : decode cX9_adds 63 = .ok (.iconst 0, 1) := by decide +kernel
theorem dX9_adds_64 : decode cX9_adds 64 = .ok (.iastore, 1) := by decide +kernel
theorem dX9_adds_65 : decode cX9_adds 65 = .ok (.aload_n 0, 1) := by decide +kernel
theorem dX9_adds_66 : decode cX9_adds 66 = .ok (.getfield 22, 3) := by decide +kernel
theorem dX9_adds_69 : decode cX9_adds 69 = .ok (.aload_n 0, 1) := by decide +kernel
theorem dX9_adds_70 : decode cX9_adds 70 = .ok (.getfield 102, 3) := by decide +kernel
theorem dX9_adds_73 : decode cX9_adds 73 = .ok (.iload_n 1, 1) := by decide +kernel
theorem dX9_adds_74 : decode cX9_adds 74 = .ok (.iconst 2, 1) := by decide +kernel
theorem dX9_adds_75 : decode cX9_adds 75 = .ok (.if_icmp .ne 10, 3) := by decide +kernel
theorem dX9_adds_78 : decode cX9_adds 78 = .ok (.aload_n 0, 1) := by decide +kernel
theorem dX9_adds_79 : decode cX9_adds 79 = .ok (.getfield 102, 3) := by decide +kernel
theorem dX9_adds_82 : decode cX9_adds 82 = .ok (.goto 4, 3) := by decide +kernel
theorem dX9_adds_85 : decode cX9_adds 85 = .ok (.iconst (-1), 1) := by decide +kernel
theorem dX9_adds_86 : decode cX9_adds 86 = .ok (.iastore, 1) := by decide +kernel
theorem dX9_adds_87 : decode cX9_adds 87 = .ok (.aload_n 0, 1) := by decide +kernel
theorem dX9_adds_88 : decode cX9_adds 88 = .ok (.getfield 25, 3) := by decide +kernel
theorem dX9_adds_91 : decode cX9_adds 91 = .ok (.aload_n 0, 1) := by decide +kernel
theorem dX9_adds_92 : decode cX9_adds 92 = .ok (.getfield 102, 3) := by decide +kernel
theorem dX9_adds_95 : decode cX9_adds 95 = .ok (.iconst 0, 1) := by decide +kernel
theorem dX9_adds_96 : decode cX9_adds 96 = .ok (.iastore, 1) := by decide +kernel
theorem dX9_adds_97 : decode cX9_adds 97 = .ok (.aload_n 0, 1) := by decide +kernel
theorem dX9_adds_98 : decode cX9_adds 98 = .ok (.getfield 28, 3) := by decide +kernel
theorem dX9_adds_101 : decode cX9_adds 101 = .ok (.aload_n 0, 1) := by decide +kernel
theorem dX9_adds_102 : decode cX9_adds 102 = .ok (.getfield 102, 3) := by decide +kernel
theorem dX9_adds_105 : decode cX9_adds 105 = .ok (.iconst 0, 1) := by decide +kernel
theorem dX9_adds_106 : decode cX9_adds 106 = .ok (.iastore, 1) := by decide +kernel
theorem dX9_adds_107 : decode cX9_adds 107 = .ok (.aload_n 0, 1) := by decide +kernel
theorem dX9_adds_108 : decode cX9_adds 108 = .ok (.getfield 31, 3) := by decide +kernel
theorem dX9_adds_111 : decode cX9_adds 111 = .ok (.aload_n 0, 1) := by decide +kernel
theorem dX9_adds_112 : decode cX9_adds 112 = .ok (.getfield 102, 3) := by decide +kernel
theorem dX9_adds_115 : decode cX9_adds 115 = .ok (.iload_n 2, 1) := by decide +kernel
theorem dX9_adds_116 : decode cX9_adds 116 = .ok (.iastore, 1) := by decide +kernel
theorem dX9_adds_117 : decode cX9_adds 117 = .ok (.aload_n 0, 1) := by decide +kernel
theorem dX9_adds_118 : decode cX9_adds 118 = .ok (.dup, 1) := by decide +kernel
theorem dX9_adds_119 : decode cX9_adds 119 = .ok (.getfield 102, 3) := by decide +kernel
theorem dX9_adds_122 : decode cX9_adds 122 = .ok (.iconst 1, 1) := by decide +kernel
theorem dX9_adds_123 : decode cX9_adds 123 = .ok (.iadd, 1) := by decide +kernel
theorem dX9_adds_124 : decode cX9_adds 124 = .ok (.putfield 102, 3) := by decide +kernel
theorem dX9_adds_127 : decode cX9_adds 127 = .ok (.return_, 1) := by decide +kernel
theorem dX9_add_0 : decode cX9_add 0 = .ok (.iload_n 1, 1) := by decide +kernel
theorem dX9_add_1 : decode cX9_add 1 = .ok (.i2l, 1) := by decide +kernel
theorem dX9_add_2 : decode cX9_add 2 = .ok (.lconst 0, 1) := by decide +kernel
theorem dX9_add_3 : decode cX9_add 3 = .ok (.ldc2_w 126, 3) := by decide +kernel
theorem dX9_add_6 : decode cX9_add 6 = .ok (.invokestatic 109, 3) := by decide +kernel
theorem dX9_add_9 : decode cX9_add 9 = .ok (.ifCond .eq 12, 3) := by decide +kernel
theorem dX9_add_12 : decode cX9_add 12 = .ok (.iload_n 1, 1) := by decide +kernel
theorem dX9_add_13 : decode cX9_add 13 = .ok (.iload_n 2, 1) := by decide +kernel
theorem dX9_add_14 : decode cX9_add 14 = .ok (.iload_n 3, 1) := by decide +kernel
theorem dX9_add_15 : decode cX9_add 15 = .ok (.invokestatic 128, 3) := by decide +kernel
theorem dX9_add_18 : decode cX9_add 18 = .ok (.ifCond .lt 9, 3) := by decide +kernel
theorem dX9_add_21 : decode cX9_add 21 = .ok (.aload_n 0, 1) := by decide +kernel
theorem dX9_add_22 : decode cX9_add 22 = .ok (.iconst 1, 1) := by decide +kernel
theorem dX9_add_23 : decode cX9_add 23 = .ok (.invokevirtual 132, 3) := by decide +kernel
theorem dX9_add_26 : decode cX9_add 26 = .ok (.ireturn, 1) := by decide +kernel
theorem dX9_add_27 : decode cX9_add 27 = .ok (.aload_n 0, 1) := by decide +kernel
theorem dX9_add_28 : decode cX9_add 28 = .ok (.iload_n 1, 1) := by decide +kernel
theorem dX9_add_29 : decode cX9_add 29 = .ok (.iload_n 2, 1) := by decide +kernel
theorem dX9_add_30 : decode cX9_add 30 = .ok (.iload_n 3, 1) := by decide +kernel
theorem dX9_add_31 : decode cX9_add 31 = .ok (.iload 4, 2) := by decide +kernel
theorem dX9_add_33 : decode cX9_add 33 = .ok (.invokevirtual 136, 3) := by decide +kernel
theorem dX9_add_36 : decode cX9_add 36 = .ok (.ifCond .lt 9, 3) := by decide +kernel
theorem dX9_add_39 : decode cX9_add 39 = .ok (.aload_n 0, 1) := by decide +kernel
theorem dX9_add_40 : decode cX9_add 40 = .ok (.iconst 2, 1) := by decide +kernel
theorem dX9_add_41 : decode cX9_add 41 = .ok (.invokevirtual 132, 3) := by decide +kernel
theorem dX9_add_44 : decode cX9_add 44 = .ok (.ireturn, 1) := by decide +kernel
theorem dX9_add_45 : decode cX9_add 45 = .ok (.aload_n 0, 1) := by decide +kernel
theorem dX9_add_46 : decode cX9_add 46 = .ok (.getfield 102, 3) := by decide +kernel
theorem dX9_add_49 : decode cX9_add 49 = .ok (.bipush 24, 2) := by decide +kernel
theorem dX9_add_51 : decode cX9_add 51 = .ok (.if_icmp .ne 9, 3) := by decide +kernel
theorem dX9_add_54 : decode cX9_add 54 = .ok (.aload_n 0, 1) := by decide +kernel
theorem dX9_add_55 : decode cX9_add 55 = .ok (.iconst 3, 1) := by decide +kernel
theorem dX9_add_56 : decode cX9_add 56 = .ok (.invokevirtual 132, 3) := by decide +kernel
theorem dX9_add_59 : decode cX9_add 59 = .ok (.ireturn, 1) := by decide +kernel
theorem dX9_add_60 : decode cX9_add 60 = .ok (.aload_n 0, 1) := by decide +kernel
theorem dX9_add_61 : decode cX9_add 61 = .ok (.iconst 0, 1) := by decide +kernel
theorem dX9_add_62 : decode cX9_add 62 = .ok (.putfield 98, 3) := by decide +kernel
theorem dX9_add_65 : decode cX9_add 65 = .ok (.aload_n 0, 1) := by decide +kernel
theorem dX9_add_66 : decode cX9_add 66 = .ok (.iload_n 1, 1) := by decide +kernel
theorem dX9_add_67 : decode cX9_add 67 = .ok (.iload_n 2, 1) := by decide +kernel
theorem dX9_add_68 : decode cX9_add 68 = .ok (.iload_n 3, 1) := by decide +kernel
theorem dX9_add_69 : decode cX9_add 69 = .ok (.iload 4, 2) := by decide +kernel
theorem dX9_add_71 : decode cX9_add 71 = .ok (.invokevirtual 140, 3) := by decide +kernel
theorem dX9_add_74 : decode cX9_add 74 = .ok (.aload_n 0, 1) := by decide +kernel
theorem dX9_add_75 : decode cX9_add 75 = .ok (.invokevirtual 144, 3) := by decide +kernel
theorem dX9_add_78 : decode cX9_add 78 = .ok (.aload_n 0, 1) := by decide +kernel
theorem dX9_add_79 : decode cX9_add 79 = .ok (.getfield 102, 3) := by decide +kernel
theorem dX9_add_82 : decode cX9_add 82 = .ok (.iconst 1, 1) := by decide +kernel
theorem dX9_add_83 : decode cX9_add 83 = .ok (.isub, 1) := by decide +kernel
theorem dX9_add_84 : decode cX9_add 84 = .ok (.ireturn, 1) := by decide +kernel
theorem dX9_removeLast_0 : decode cX9_removeLast 0 = .ok (.aload_n 0, 1) := by decide +kernel
theorem dX9_removeLast_1 : decode cX9_removeLast 1 = .ok (.getfield 102, 3) := by decide +kernel
theorem dX9_removeLast_4 : decode cX9_removeLast 4 = .ok (.ifCond .ne 9, 3) := by decide +kernel
theorem dX9_removeLast_7 : decode cX9_removeLast 7 = .ok (.aload_n 0, 1) := by decide +kernel
theorem dX9_removeLast_8 : decode cX9_removeLast 8 = .ok (.iconst 1, 1) := by decide +kernel
theorem dX9_removeLast_9 : decode cX9_removeLast 9 = .ok (.invokevirtual 132, 3) := by decide +kernel
theorem dX9_removeLast_12 : decode cX9_removeLast 12 = .ok (.ireturn, 1) := by decide +kernel
theorem dX9_removeLast_13 : decode cX9_removeLast 13 = .ok (.aload_n 0, 1) := by decide +kernel
theorem dX9_removeLast_14 : decode cX9_removeLast 14 = .ok (.iconst 0, 1) := by decide +kernel
theorem dX9_removeLast_15 : decode cX9_removeLast 15 = .ok (.putfield 98, 3) := by decide +kernel
theorem dX9_removeLast_18 : decode cX9_removeLast 18 = .ok (.aload_n 0, 1) := by decide +kernel
theorem dX9_removeLast_19 : decode cX9_removeLast 19 = .ok (.dup, 1) := by decide +kernel
theorem dX9_removeLast_20 : decode cX9_removeLast 20 = .ok (.getfield 102, 3) := by decide +kernel
theorem dX9_removeLast_23 : decode cX9_removeLast 23 = .ok (.iconst 1, 1) := by decide +kernel
theorem dX9_removeLast_24 : decode cX9_removeLast 24 = .ok (.isub, 1) := by decide +kernel
theorem dX9_removeLast_25 : decode cX9_removeLast 25 = .ok (.putfield 102, 3) := by decide +kernel
theorem dX9_removeLast_28 : decode cX9_removeLast 28 = .ok (.iconst 0, 1) := by decide +kernel
theorem dX9_removeLast_29 : decode cX9_removeLast 29 = .ok (.istore_n 1, 1) := by decide +kernel
theorem dX9_removeLast_30 : decode cX9_removeLast 30 = .ok (.iload_n 1, 1) := by decide +kernel
theorem dX9_removeLast_31 : decode cX9_removeLast 31 = .ok (.aload_n 0, 1) := by decide +kernel
theorem dX9_removeLast_32 : decode cX9_removeLast 32 = .ok (.getfield 102, 3) := by decide +kernel
theorem dX9_removeLast_35 : decode cX9_removeLast 35 = .ok (.if_icmp .ge 38, 3) := by decide +kernel
theorem dX9_removeLast_38 : decode cX9_removeLast 38 = .ok (.aload_n 0, 1) := by decide +kernel
theorem dX9_removeLast_39 : decode cX9_removeLast 39 = .ok (.getfield 22, 3) := by decide +kernel
theorem dX9_removeLast_42 : decode cX9_removeLast 42 = .ok (.iload_n 1, 1) := by decide +kernel
theorem dX9_removeLast_43 : decode cX9_removeLast 43 = .ok (.aload_n 0, 1) := by decide +kernel
theorem dX9_removeLast_44 : decode cX9_removeLast 44 = .ok (.getfield 22, 3) := by decide +kernel
theorem dX9_removeLast_47 : decode cX9_removeLast 47 = .ok (.iload_n 1, 1) := by decide +kernel
theorem dX9_removeLast_48 : decode cX9_removeLast 48 = .ok (.iaload, 1) := by decide +kernel
theorem dX9_removeLast_49 : decode cX9_removeLast 49 = .ok (.aload_n 0, 1) := by decide +kernel
theorem dX9_removeLast_50 : decode cX9_removeLast 50 = .ok (.getfield 102, 3) := by decide +kernel
theorem dX9_removeLast_53 : decode cX9_removeLast 53 = .ok (.if_icmp .ne 7, 3) := by decide +kernel
theorem dX9_removeLast_56 : decode cX9_removeLast 56 = .ok (.iload_n 1, 1) := by decide +kernel
theorem dX9_removeLast_57 : decode cX9_removeLast 57 = .ok (.goto 9, 3) := by decide +kernel
theorem dX9_removeLast_60 : decode cX9_removeLast 60 = .ok (.aload_n 0, 1) := by decide +kernel
theorem dX9_removeLast_61 : decode cX9_removeLast 61 = .ok (.getfield 22, 3) := by decide +kernel
theorem dX9_removeLast_64 : decode cX9_removeLast 64 = .ok (.iload_n 1, 1) := by decide +kernel
theorem dX9_removeLast_65 : decode cX9_removeLast 65 = .ok (.iaload, 1) := by decide +kernel
theorem dX9_removeLast_66 : decode cX9_removeLast 66 = .ok (.iastore, 1) := by decide +kernel
theorem dX9_removeLast_67 : decode cX9_removeLast 67 = .ok (.iinc 1 1, 3) := by decide +kernel
theorem dX9_removeLast_70 : decode cX9_removeLast 70 = .ok (.goto (-40), 3) := by decide +kernel
theorem dX9_removeLast_73 : decode cX9_removeLast 73 = .ok (.aload_n 0, 1) := by decide +kernel
theorem dX9_removeLast_74 : decode cX9_removeLast 74 = .ok (.invokevirtual 144, 3) := by decide +kernel
theorem dX9_removeLast_77 : decode cX9_removeLast 77 = .ok (.aload_n 0, 1) := by decide +kernel
theorem dX9_removeLast_78 : decode cX9_removeLast 78 = .ok (.getfield 7, 3) := by decide +kernel
theorem dX9_removeLast_81 : decode cX9_removeLast 81 = .ok (.aload_n 0, 1) := by decide +kernel
theorem dX9_removeLast_82 : decode cX9_removeLast 82 = .ok (.getfield 102, 3) := by decide +kernel
theorem dX9_removeLast_85 : decode cX9_removeLast 85 = .ok (.iaload, 1) := by decide +kernel
theorem dX9_removeLast_86 : decode cX9_removeLast 86 = .ok (.ireturn, 1) := by decide +kernel
theorem dX9_setNext_0 : decode cX9_setNext 0 = .ok (.aload_n 0, 1) := by decide +kernel
theorem dX9_setNext_1 : decode cX9_setNext 1 = .ok (.iload_n 1, 1) := by decide +kernel
theorem dX9_setNext_2 : decode cX9_setNext 2 = .ok (.invokevirtual 123, 3) := by decide +kernel
theorem dX9_setNext_5 : decode cX9_setNext 5 = .ok (.ifCond .eq 11, 3) := by decide +kernel
theorem dX9_setNext_8 : decode cX9_setNext 8 = .ok (.aload_n 0, 1) := by decide +kernel
theorem dX9_setNext_9 : decode cX9_setNext 9 = .ok (.iload_n 2, 1) := by decide +kernel
theorem dX9_setNext_10 : decode cX9_setNext 10 = .ok (.invokevirtual 123, 3) := by decide +kernel
theorem dX9_setNext_13 : decode cX9_setNext 13 = .ok (.ifCond .ne 9, 3) := by decide +kernel
theorem dX9_setNext_16 : decode cX9_setNext 16 = .ok (.aload_n 0, 1) := by decide +kernel
theorem dX9_setNext_17 : decode cX9_setNext 17 = .ok (.iconst 1, 1) := by decide +kernel
theorem dX9_setNext_18 : decode cX9_setNext 18 = .ok (.invokevirtual 132, 3) := by decide +kernel
theorem dX9_setNext_21 : decode cX9_setNext 21 = .ok (.ireturn, 1) := by decide +kernel
theorem dX9_setNext_22 : decode cX9_setNext 22 = .ok (.aload_n 0, 1) := by decide +kernel
theorem dX9_setNext_23 : decode cX9_setNext 23 = .ok (.getfield 7, 3) := by decide +kernel
theorem dX9_setNext_26 : decode cX9_setNext 26 = .ok (.iload_n 1, 1) := by decide +kernel
theorem dX9_setNext_27 : decode cX9_setNext 27 = .ok (.iaload, 1) := by decide +kernel
theorem dX9_setNext_28 : decode cX9_setNext 28 = .ok (.iconst 2, 1) := by decide +kernel
theorem dX9_setNext_29 : decode cX9_setNext 29 = .ok (.if_icmp .eq 9, 3) := by decide +kernel
theorem dX9_setNext_32 : decode cX9_setNext 32 = .ok (.aload_n 0, 1) := by decide +kernel
theorem dX9_setNext_33 : decode cX9_setNext 33 = .ok (.iconst 2, 1) := by decide +kernel
theorem dX9_setNext_34 : decode cX9_setNext 34 = .ok (.invokevirtual 132, 3) := by decide +kernel
theorem dX9_setNext_37 : decode cX9_setNext 37 = .ok (.ireturn, 1) := by decide +kernel
theorem dX9_setNext_38 : decode cX9_setNext 38 = .ok (.aload_n 0, 1) := by decide +kernel
theorem dX9_setNext_39 : decode cX9_setNext 39 = .ok (.iconst 0, 1) := by decide +kernel
theorem dX9_setNext_40 : decode cX9_setNext 40 = .ok (.putfield 98, 3) := by decide +kernel
theorem dX9_setNext_43 : decode cX9_setNext 43 = .ok (.aload_n 0, 1) := by decide +kernel
theorem dX9_setNext_44 : decode cX9_setNext 44 = .ok (.getfield 22, 3) := by decide +kernel
theorem dX9_setNext_47 : decode cX9_setNext 47 = .ok (.iload_n 1, 1) := by decide +kernel
theorem dX9_setNext_48 : decode cX9_setNext 48 = .ok (.iaload, 1) := by decide +kernel
theorem dX9_setNext_49 : decode cX9_setNext 49 = .ok (.istore_n 3, 1) := by decide +kernel
theorem dX9_setNext_50 : decode cX9_setNext 50 = .ok (.aload_n 0, 1) := by decide +kernel
theorem dX9_setNext_51 : decode cX9_setNext 51 = .ok (.getfield 22, 3) := by decide +kernel
theorem dX9_setNext_54 : decode cX9_setNext 54 = .ok (.iload_n 1, 1) := by decide +kernel
theorem dX9_setNext_55 : decode cX9_setNext 55 = .ok (.iload_n 2, 1) := by decide +kernel
theorem dX9_setNext_56 : decode cX9_setNext 56 = .ok (.iastore, 1) := by decide +kernel
theorem dX9_setNext_57 : decode cX9_setNext 57 = .ok (.aload_n 0, 1) := by decide +kernel
theorem dX9_setNext_58 : decode cX9_setNext 58 = .ok (.invokevirtual 144, 3) := by decide +kernel
theorem dX9_setNext_61 : decode cX9_setNext 61 = .ok (.iload_n 3, 1) := by decide +kernel
theorem dX9_setNext_62 : decode cX9_setNext 62 = .ok (.ireturn, 1) := by decide +kernel
theorem dX9_setOutput_0 : decode cX9_setOutput 0 = .ok (.aload_n 0, 1) := by decide +kernel
theorem dX9_setOutput_1 : decode cX9_setOutput 1 = .ok (.iload_n 1, 1) := by decide +kernel
theorem dX9_setOutput_2 : decode cX9_setOutput 2 = .ok (.invokevirtual 123, 3) := by decide +kernel
theorem dX9_setOutput_5 : decode cX9_setOutput 5 = .ok (.ifCond .ne 9, 3) := by decide +kernel
theorem dX9_setOutput_8 : decode cX9_setOutput 8 = .ok (.aload_n 0, 1) := by decide +kernel
theorem dX9_setOutput_9 : decode cX9_setOutput 9 = .ok (.iconst 1, 1) := by decide +kernel
theorem dX9_setOutput_10 : decode cX9_setOutput 10 = .ok (.invokevirtual 147, 3) := by decide +kernel
theorem dX9_setOutput_13 : decode cX9_setOutput 13 = .ok (.ireturn, 1) := by decide +kernel
theorem dX9_setOutput_14 : decode cX9_setOutput 14 = .ok (.aload_n 0, 1) := by decide +kernel
theorem dX9_setOutput_15 : decode cX9_setOutput 15 = .ok (.iconst 0, 1) := by decide +kernel
theorem dX9_setOutput_16 : decode cX9_setOutput 16 = .ok (.putfield 98, 3) := by decide +kernel
theorem dX9_setOutput_19 : decode cX9_setOutput 19 = .ok (.aload_n 0, 1) := by decide +kernel
theorem dX9_setOutput_20 : decode cX9_setOutput 20 = .ok (.getfield 25, 3) := by decide +kernel
theorem dX9_setOutput_23 : decode cX9_setOutput 23 = .ok (.iload_n 1, 1) := by decide +kernel
theorem dX9_setOutput_24 : decode cX9_setOutput 24 = .ok (.iaload, 1) := by decide +kernel
theorem dX9_setOutput_25 : decode cX9_setOutput 25 = .ok (.iconst 1, 1) := by decide +kernel
theorem dX9_setOutput_26 : decode cX9_setOutput 26 = .ok (.if_icmp .ne 7, 3) := by decide +kernel
theorem dX9_setOutput_29 : decode cX9_setOutput 29 = .ok (.iconst 1, 1) := by decide +kernel
theorem dX9_setOutput_30 : decode cX9_setOutput 30 = .ok (.goto 4, 3) := by decide +kernel
theorem dX9_setOutput_33 : decode cX9_setOutput 33 = .ok (.iconst 0, 1) := by decide +kernel
theorem dX9_setOutput_34 : decode cX9_setOutput 34 = .ok (.istore_n 3, 1) := by decide +kernel
theorem dX9_setOutput_35 : decode cX9_setOutput 35 = .ok (.aload_n 0, 1) := by decide +kernel
theorem dX9_setOutput_36 : decode cX9_setOutput 36 = .ok (.getfield 25, 3) := by decide +kernel
theorem dX9_setOutput_39 : decode cX9_setOutput 39 = .ok (.iload_n 1, 1) := by decide +kernel
theorem dX9_setOutput_40 : decode cX9_setOutput 40 = .ok (.iload_n 2, 1) := by decide +kernel
theorem dX9_setOutput_41 : decode cX9_setOutput 41 = .ok (.ifCond .eq 7, 3) := by decide +kernel
theorem dX9_setOutput_44 : decode cX9_setOutput 44 = .ok (.iconst 1, 1) := by decide +kernel
theorem dX9_setOutput_45 : decode cX9_setOutput 45 = .ok (.goto 4, 3) := by decide +kernel
theorem dX9_setOutput_48 : decode cX9_setOutput 48 = .ok (.iconst 0, 1) := by decide +kernel
theorem dX9_setOutput_49 : decode cX9_setOutput 49 = .ok (.iastore, 1) := by decide +kernel
theorem dX9_setOutput_50 : decode cX9_setOutput 50 = .ok (.aload_n 0, 1) := by decide +kernel
theorem dX9_setOutput_51 : decode cX9_setOutput 51 = .ok (.invokevirtual 144, 3) := by decide +kernel
theorem dX9_setOutput_54 : decode cX9_setOutput 54 = .ok (.iload_n 3, 1) := by decide +kernel
theorem dX9_setOutput_55 : decode cX9_setOutput 55 = .ok (.ireturn, 1) := by decide +kernel
theorem dX9_setPhase_0 : decode cX9_setPhase 0 = .ok (.aload_n 0, 1) := by decide +kernel
theorem dX9_setPhase_1 : decode cX9_setPhase 1 = .ok (.iload_n 1, 1) := by decide +kernel
theorem dX9_setPhase_2 : decode cX9_setPhase 2 = .ok (.invokevirtual 123, 3) := by decide +kernel
theorem dX9_setPhase_5 : decode cX9_setPhase 5 = .ok (.ifCond .ne 9, 3) := by decide +kernel
theorem dX9_setPhase_8 : decode cX9_setPhase 8 = .ok (.aload_n 0, 1) := by decide +kernel
theorem dX9_setPhase_9 : decode cX9_setPhase 9 = .ok (.iconst 1, 1) := by decide +kernel
theorem dX9_setPhase_10 : decode cX9_setPhase 10 = .ok (.invokevirtual 132, 3) := by decide +kernel
theorem dX9_setPhase_13 : decode cX9_setPhase 13 = .ok (.ireturn, 1) := by decide +kernel
theorem dX9_setPhase_14 : decode cX9_setPhase 14 = .ok (.iload_n 2, 1) := by decide +kernel
theorem dX9_setPhase_15 : decode cX9_setPhase 15 = .ok (.i2l, 1) := by decide +kernel
theorem dX9_setPhase_16 : decode cX9_setPhase 16 = .ok (.lconst 0, 1) := by decide +kernel
theorem dX9_setPhase_17 : decode cX9_setPhase 17 = .ok (.ldc2_w 150, 3) := by decide +kernel
theorem dX9_setPhase_20 : decode cX9_setPhase 20 = .ok (.invokestatic 109, 3) := by decide +kernel
theorem dX9_setPhase_23 : decode cX9_setPhase 23 = .ok (.ifCond .ne 9, 3) := by decide +kernel
theorem dX9_setPhase_26 : decode cX9_setPhase 26 = .ok (.aload_n 0, 1) := by decide +kernel
theorem dX9_setPhase_27 : decode cX9_setPhase 27 = .ok (.iconst 2, 1) := by decide +kernel
theorem dX9_setPhase_28 : decode cX9_setPhase 28 = .ok (.invokevirtual 132, 3) := by decide +kernel
theorem dX9_setPhase_31 : decode cX9_setPhase 31 = .ok (.ireturn, 1) := by decide +kernel
theorem dX9_setPhase_32 : decode cX9_setPhase 32 = .ok (.aload_n 0, 1) := by decide +kernel
theorem dX9_setPhase_33 : decode cX9_setPhase 33 = .ok (.iconst 0, 1) := by decide +kernel
theorem dX9_setPhase_34 : decode cX9_setPhase 34 = .ok (.putfield 98, 3) := by decide +kernel
theorem dX9_setPhase_37 : decode cX9_setPhase 37 = .ok (.aload_n 0, 1) := by decide +kernel
theorem dX9_setPhase_38 : decode cX9_setPhase 38 = .ok (.getfield 28, 3) := by decide +kernel
theorem dX9_setPhase_41 : decode cX9_setPhase 41 = .ok (.iload_n 1, 1) := by decide +kernel
theorem dX9_setPhase_42 : decode cX9_setPhase 42 = .ok (.iaload, 1) := by decide +kernel
theorem dX9_setPhase_43 : decode cX9_setPhase 43 = .ok (.istore_n 3, 1) := by decide +kernel
theorem dX9_setPhase_44 : decode cX9_setPhase 44 = .ok (.aload_n 0, 1) := by decide +kernel
theorem dX9_setPhase_45 : decode cX9_setPhase 45 = .ok (.getfield 28, 3) := by decide +kernel
theorem dX9_setPhase_48 : decode cX9_setPhase 48 = .ok (.iload_n 1, 1) := by decide +kernel
theorem dX9_setPhase_49 : decode cX9_setPhase 49 = .ok (.iload_n 2, 1) := by decide +kernel
theorem dX9_setPhase_50 : decode cX9_setPhase 50 = .ok (.iastore, 1) := by decide +kernel
theorem dX9_setPhase_51 : decode cX9_setPhase 51 = .ok (.iload_n 3, 1) := by decide +kernel
theorem dX9_setPhase_52 : decode cX9_setPhase 52 = .ok (.ireturn, 1) := by decide +kernel
theorem dX9_signal_0 : decode cX9_signal 0 = .ok (.aload_n 0, 1) := by decide +kernel
theorem dX9_signal_1 : decode cX9_signal 1 = .ok (.iload_n 1, 1) := by decide +kernel
theorem dX9_signal_2 : decode cX9_signal 2 = .ok (.invokevirtual 123, 3) := by decide +kernel
theorem dX9_signal_5 : decode cX9_signal 5 = .ok (.ifCond .ne 9, 3) := by decide +kernel
theorem dX9_signal_8 : decode cX9_signal 8 = .ok (.aload_n 0, 1) := by decide +kernel
theorem dX9_signal_9 : decode cX9_signal 9 = .ok (.iconst 1, 1) := by decide +kernel
theorem dX9_signal_10 : decode cX9_signal 10 = .ok (.invokevirtual 132, 3) := by decide +kernel
theorem dX9_signal_13 : decode cX9_signal 13 = .ok (.ireturn, 1) := by decide +kernel
theorem dX9_signal_14 : decode cX9_signal 14 = .ok (.iload_n 2, 1) := by decide +kernel
theorem dX9_signal_15 : decode cX9_signal 15 = .ok (.i2l, 1) := by decide +kernel
theorem dX9_signal_16 : decode cX9_signal 16 = .ok (.lconst 0, 1) := by decide +kernel
theorem dX9_signal_17 : decode cX9_signal 17 = .ok (.ldc2_w 152, 3) := by decide +kernel
theorem dX9_signal_20 : decode cX9_signal 20 = .ok (.invokestatic 109, 3) := by decide +kernel
theorem dX9_signal_23 : decode cX9_signal 23 = .ok (.ifCond .ne 9, 3) := by decide +kernel
theorem dX9_signal_26 : decode cX9_signal 26 = .ok (.aload_n 0, 1) := by decide +kernel
theorem dX9_signal_27 : decode cX9_signal 27 = .ok (.iconst 2, 1) := by decide +kernel
theorem dX9_signal_28 : decode cX9_signal 28 = .ok (.invokevirtual 132, 3) := by decide +kernel
theorem dX9_signal_31 : decode cX9_signal 31 = .ok (.ireturn, 1) := by decide +kernel
theorem dX9_signal_32 : decode cX9_signal 32 = .ok (.aload_n 0, 1) := by decide +kernel
theorem dX9_signal_33 : decode cX9_signal 33 = .ok (.iconst 0, 1) := by decide +kernel
theorem dX9_signal_34 : decode cX9_signal 34 = .ok (.putfield 98, 3) := by decide +kernel
theorem dX9_signal_37 : decode cX9_signal 37 = .ok (.iload_n 2, 1) := by decide +kernel
theorem dX9_signal_38 : decode cX9_signal 38 = .ok (.tableswitch 80 0 5 #[38, 45, 52, 59, 66, 73], 38) := by decide +kernel
theorem dX9_signal_76 : decode cX9_signal 76 = .ok (.aload_n 0, 1) := by decide +kernel
theorem dX9_signal_77 : decode cX9_signal 77 = .ok (.getfield 7, 3) := by decide +kernel
theorem dX9_signal_80 : decode cX9_signal 80 = .ok (.iload_n 1, 1) := by decide +kernel
theorem dX9_signal_81 : decode cX9_signal 81 = .ok (.iaload, 1) := by decide +kernel
theorem dX9_signal_82 : decode cX9_signal 82 = .ok (.ireturn, 1) := by decide +kernel
theorem dX9_signal_83 : decode cX9_signal 83 = .ok (.aload_n 0, 1) := by decide +kernel
theorem dX9_signal_84 : decode cX9_signal 84 = .ok (.getfield 13, 3) := by decide +kernel
theorem dX9_signal_87 : decode cX9_signal 87 = .ok (.iload_n 1, 1) := by decide +kernel
theorem dX9_signal_88 : decode cX9_signal 88 = .ok (.iaload, 1) := by decide +kernel
theorem dX9_signal_89 : decode cX9_signal 89 = .ok (.ireturn, 1) := by decide +kernel
theorem dX9_signal_90 : decode cX9_signal 90 = .ok (.aload_n 0, 1) := by decide +kernel
theorem dX9_signal_91 : decode cX9_signal 91 = .ok (.getfield 16, 3) := by decide +kernel
theorem dX9_signal_94 : decode cX9_signal 94 = .ok (.iload_n 1, 1) := by decide +kernel
theorem dX9_signal_95 : decode cX9_signal 95 = .ok (.iaload, 1) := by decide +kernel
theorem dX9_signal_96 : decode cX9_signal 96 = .ok (.ireturn, 1) := by decide +kernel
theorem dX9_signal_97 : decode cX9_signal 97 = .ok (.aload_n 0, 1) := by decide +kernel
theorem dX9_signal_98 : decode cX9_signal 98 = .ok (.getfield 19, 3) := by decide +kernel
theorem dX9_signal_101 : decode cX9_signal 101 = .ok (.iload_n 1, 1) := by decide +kernel
theorem dX9_signal_102 : decode cX9_signal 102 = .ok (.iaload, 1) := by decide +kernel
theorem dX9_signal_103 : decode cX9_signal 103 = .ok (.ireturn, 1) := by decide +kernel
theorem dX9_signal_104 : decode cX9_signal 104 = .ok (.aload_n 0, 1) := by decide +kernel
theorem dX9_signal_105 : decode cX9_signal 105 = .ok (.getfield 22, 3) := by decide +kernel
theorem dX9_signal_108 : decode cX9_signal 108 = .ok (.iload_n 1, 1) := by decide +kernel
theorem dX9_signal_109 : decode cX9_signal 109 = .ok (.iaload, 1) := by decide +kernel
theorem dX9_signal_110 : decode cX9_signal 110 = .ok (.ireturn, 1) := by decide +kernel
theorem dX9_signal_111 : decode cX9_signal 111 = .ok (.aload_n 0, 1) := by decide +kernel
theorem dX9_signal_112 : decode cX9_signal 112 = .ok (.getfield 25, 3) := by decide +kernel
theorem dX9_signal_115 : decode cX9_signal 115 = .ok (.iload_n 1, 1) := by decide +kernel
theorem dX9_signal_116 : decode cX9_signal 116 = .ok (.iaload, 1) := by decide +kernel
theorem dX9_signal_117 : decode cX9_signal 117 = .ok (.ireturn, 1) := by decide +kernel
theorem dX9_signal_118 : decode cX9_signal 118 = .ok (.aload_n 0, 1) := by decide +kernel
theorem dX9_signal_119 : decode cX9_signal 119 = .ok (.getfield 28, 3) := by decide +kernel
theorem dX9_signal_122 : decode cX9_signal 122 = .ok (.iload_n 1, 1) := by decide +kernel
theorem dX9_signal_123 : decode cX9_signal 123 = .ok (.iaload, 1) := by decide +kernel
theorem dX9_signal_124 : decode cX9_signal 124 = .ok (.ireturn, 1) := by decide +kernel
theorem dX9_count_0 : decode cX9_count 0 = .ok (.aload_n 0, 1) := by decide +kernel
theorem dX9_count_1 : decode cX9_count 1 = .ok (.iconst 0, 1) := by decide +kernel
theorem dX9_count_2 : decode cX9_count 2 = .ok (.putfield 98, 3) := by decide +kernel
theorem dX9_count_5 : decode cX9_count 5 = .ok (.aload_n 0, 1) := by decide +kernel
theorem dX9_count_6 : decode cX9_count 6 = .ok (.getfield 102, 3) := by decide +kernel
theorem dX9_count_9 : decode cX9_count 9 = .ok (.ireturn, 1) := by decide +kernel
theorem dX9_clear_0 : decode cX9_clear 0 = .ok (.aload_n 0, 1) := by decide +kernel
theorem dX9_clear_1 : decode cX9_clear 1 = .ok (.iconst 0, 1) := by decide +kernel
theorem dX9_clear_2 : decode cX9_clear 2 = .ok (.putfield 98, 3) := by decide +kernel
theorem dX9_clear_5 : decode cX9_clear 5 = .ok (.aload_n 0, 1) := by decide +kernel
theorem dX9_clear_6 : decode cX9_clear 6 = .ok (.getfield 102, 3) := by decide +kernel
theorem dX9_clear_9 : decode cX9_clear 9 = .ok (.istore_n 1, 1) := by decide +kernel
theorem dX9_clear_10 : decode cX9_clear 10 = .ok (.aload_n 0, 1) := by decide +kernel
theorem dX9_clear_11 : decode cX9_clear 11 = .ok (.iconst 0, 1) := by decide +kernel
theorem dX9_clear_12 : decode cX9_clear 12 = .ok (.putfield 102, 3) := by decide +kernel
theorem dX9_clear_15 : decode cX9_clear 15 = .ok (.aload_n 0, 1) := by decide +kernel
theorem dX9_clear_16 : decode cX9_clear 16 = .ok (.invokevirtual 144, 3) := by decide +kernel
theorem dX9_clear_19 : decode cX9_clear 19 = .ok (.iload_n 1, 1) := by decide +kernel
theorem dX9_clear_20 : decode cX9_clear 20 = .ok (.ireturn, 1) := by decide +kernel
theorem dX9_finds_0 : decode cX9_finds 0 = .ok (.aload_n 0, 1) := by decide +kernel
theorem dX9_finds_1 : decode cX9_finds 1 = .ok (.lload_n 1, 1) := by decide +kernel
theorem dX9_finds_2 : decode cX9_finds 2 = .ok (.putfield 154, 3) := by decide +kernel
theorem dX9_finds_5 : decode cX9_finds 5 = .ok (.aload_n 0, 1) := by decide +kernel
theorem dX9_finds_6 : decode cX9_finds 6 = .ok (.lload_n 3, 1) := by decide +kernel
theorem dX9_finds_7 : decode cX9_finds 7 = .ok (.putfield 158, 3) := by decide +kernel
theorem dX9_finds_10 : decode cX9_finds 10 = .ok (.return_, 1) := by decide +kernel
theorem dX9_upTo_0 : decode cX9_upTo 0 = .ok (.lconst 0, 1) := by decide +kernel
theorem dX9_upTo_1 : decode cX9_upTo 1 = .ok (.lstore_n 2, 1) := by decide +kernel
theorem dX9_upTo_2 : decode cX9_upTo 2 = .ok (.lload_n 2, 1) := by decide +kernel
theorem dX9_upTo_3 : decode cX9_upTo 3 = .ok (.lload_n 0, 1) := by decide +kernel
theorem dX9_upTo_4 : decode cX9_upTo 4 = .ok (.lcmp, 1) := by decide +kernel
theorem dX9_upTo_5 : decode cX9_upTo 5 = .ok (.ifCond .ge 14, 3) := by decide +kernel
theorem dX9_upTo_8 : decode cX9_upTo 8 = .ok (.ldc2_w 161, 3) := by decide +kernel
theorem dX9_upTo_11 : decode cX9_upTo 11 = .ok (.lload_n 2, 1) := by decide +kernel
theorem dX9_upTo_12 : decode cX9_upTo 12 = .ok (.lmul, 1) := by decide +kernel
theorem dX9_upTo_13 : decode cX9_upTo 13 = .ok (.lconst 1, 1) := by decide +kernel
theorem dX9_upTo_14 : decode cX9_upTo 14 = .ok (.ladd, 1) := by decide +kernel
theorem dX9_upTo_15 : decode cX9_upTo 15 = .ok (.lstore_n 2, 1) := by decide +kernel
theorem dX9_upTo_16 : decode cX9_upTo 16 = .ok (.goto (-14), 3) := by decide +kernel
theorem dX9_upTo_19 : decode cX9_upTo 19 = .ok (.lload_n 2, 1) := by decide +kernel
theorem dX9_upTo_20 : decode cX9_upTo 20 = .ok (.lreturn, 1) := by decide +kernel
theorem dX9_downTo_0 : decode cX9_downTo 0 = .ok (.ldc2_w 163, 3) := by decide +kernel
theorem dX9_downTo_3 : decode cX9_downTo 3 = .ok (.lstore_n 2, 1) := by decide +kernel
theorem dX9_downTo_4 : decode cX9_downTo 4 = .ok (.lload_n 2, 1) := by decide +kernel
theorem dX9_downTo_5 : decode cX9_downTo 5 = .ok (.lload_n 0, 1) := by decide +kernel
theorem dX9_downTo_6 : decode cX9_downTo 6 = .ok (.lcmp, 1) := by decide +kernel
theorem dX9_downTo_7 : decode cX9_downTo 7 = .ok (.ifCond .le 12, 3) := by decide +kernel
theorem dX9_downTo_10 : decode cX9_downTo 10 = .ok (.ldc2_w 161, 3) := by decide +kernel
theorem dX9_downTo_13 : decode cX9_downTo 13 = .ok (.lload_n 2, 1) := by decide +kernel
theorem dX9_downTo_14 : decode cX9_downTo 14 = .ok (.lmul, 1) := by decide +kernel
theorem dX9_downTo_15 : decode cX9_downTo 15 = .ok (.lstore_n 2, 1) := by decide +kernel
theorem dX9_downTo_16 : decode cX9_downTo 16 = .ok (.goto (-12), 3) := by decide +kernel
theorem dX9_downTo_19 : decode cX9_downTo 19 = .ok (.lload_n 2, 1) := by decide +kernel
theorem dX9_downTo_20 : decode cX9_downTo 20 = .ok (.lreturn, 1) := by decide +kernel
theorem dX9_smaller_0 : decode cX9_smaller 0 = .ok (.lload_n 0, 1) := by decide +kernel
theorem dX9_smaller_1 : decode cX9_smaller 1 = .ok (.lload_n 2, 1) := by decide +kernel
theorem dX9_smaller_2 : decode cX9_smaller 2 = .ok (.lcmp, 1) := by decide +kernel
theorem dX9_smaller_3 : decode cX9_smaller 3 = .ok (.ifCond .ge 7, 3) := by decide +kernel
theorem dX9_smaller_6 : decode cX9_smaller 6 = .ok (.lload_n 0, 1) := by decide +kernel
theorem dX9_smaller_7 : decode cX9_smaller 7 = .ok (.goto 4, 3) := by decide +kernel
theorem dX9_smaller_10 : decode cX9_smaller 10 = .ok (.lload_n 2, 1) := by decide +kernel
theorem dX9_smaller_11 : decode cX9_smaller 11 = .ok (.lreturn, 1) := by decide +kernel
theorem dX9_larger_0 : decode cX9_larger 0 = .ok (.lload_n 0, 1) := by decide +kernel
theorem dX9_larger_1 : decode cX9_larger 1 = .ok (.lload_n 2, 1) := by decide +kernel
theorem dX9_larger_2 : decode cX9_larger 2 = .ok (.lcmp, 1) := by decide +kernel
theorem dX9_larger_3 : decode cX9_larger 3 = .ok (.ifCond .le 7, 3) := by decide +kernel
theorem dX9_larger_6 : decode cX9_larger 6 = .ok (.lload_n 0, 1) := by decide +kernel
theorem dX9_larger_7 : decode cX9_larger 7 = .ok (.goto 4, 3) := by decide +kernel
theorem dX9_larger_10 : decode cX9_larger 10 = .ok (.lload_n 2, 1) := by decide +kernel
theorem dX9_larger_11 : decode cX9_larger 11 = .ok (.lreturn, 1) := by decide +kernel
theorem dX9_result_0 : decode cX9_result 0 = .ok (.iload_n 0, 1) := by decide +kernel
theorem dX9_result_1 : decode cX9_result 1 = .ok (.iconst 3, 1) := by decide +kernel
theorem dX9_result_2 : decode cX9_result 2 = .ok (.if_icmp .ne 9, 3) := by decide +kernel
theorem dX9_result_5 : decode cX9_result 5 = .ok (.lload_n 1, 1) := by decide +kernel
theorem dX9_result_6 : decode cX9_result 6 = .ok (.lload_n 3, 1) := by decide +kernel
theorem dX9_result_7 : decode cX9_result 7 = .ok (.ladd, 1) := by decide +kernel
theorem dX9_result_8 : decode cX9_result 8 = .ok (.goto 17, 3) := by decide +kernel
theorem dX9_result_11 : decode cX9_result 11 = .ok (.iload_n 0, 1) := by decide +kernel
theorem dX9_result_12 : decode cX9_result 12 = .ok (.iconst 4, 1) := by decide +kernel
theorem dX9_result_13 : decode cX9_result 13 = .ok (.if_icmp .ne 9, 3) := by decide +kernel
theorem dX9_result_16 : decode cX9_result 16 = .ok (.lload_n 1, 1) := by decide +kernel
theorem dX9_result_17 : decode cX9_result 17 = .ok (.lload_n 3, 1) := by decide +kernel
theorem dX9_result_18 : decode cX9_result 18 = .ok (.lsub, 1) := by decide +kernel
theorem dX9_result_19 : decode cX9_result 19 = .ok (.goto 6, 3) := by decide +kernel
theorem dX9_result_22 : decode cX9_result 22 = .ok (.lload_n 1, 1) := by decide +kernel
theorem dX9_result_23 : decode cX9_result 23 = .ok (.lload_n 3, 1) := by decide +kernel
theorem dX9_result_24 : decode cX9_result 24 = .ok (.lmul, 1) := by decide +kernel
theorem dX9_result_25 : decode cX9_result 25 = .ok (.lreturn, 1) := by decide +kernel
theorem dX9_findsArithmetic_0 : decode cX9_findsArithmetic 0 = .ok (.iload_n 1, 1) := by decide +kernel
theorem dX9_findsArithmetic_1 : decode cX9_findsArithmetic 1 = .ok (.aload_n 0, 1) := by decide +kernel
theorem dX9_findsArithmetic_2 : decode cX9_findsArithmetic 2 = .ok (.getfield 37, 3) := by decide +kernel
theorem dX9_findsArithmetic_5 : decode cX9_findsArithmetic 5 = .ok (.iload_n 2, 1) := by decide +kernel
theorem dX9_findsArithmetic_6 : decode cX9_findsArithmetic 6 = .ok (.laload, 1) := by decide +kernel
theorem dX9_findsArithmetic_7 : decode cX9_findsArithmetic 7 = .ok (.aload_n 0, 1) := by decide +kernel
theorem dX9_findsArithmetic_8 : decode cX9_findsArithmetic 8 = .ok (.getfield 37, 3) := by decide +kernel
theorem dX9_findsArithmetic_11 : decode cX9_findsArithmetic 11 = .ok (.iload_n 3, 1) := by decide +kernel
theorem dX9_findsArithmetic_12 : decode cX9_findsArithmetic 12 = .ok (.laload, 1) := by decide +kernel
theorem dX9_findsArithmetic_13 : decode cX9_findsArithmetic 13 = .ok (.invokestatic 165, 3) := by decide +kernel
theorem dX9_findsArithmetic_16 : decode cX9_findsArithmetic 16 = .ok (.lstore 4, 2) := by decide +kernel
theorem dX9_findsArithmetic_18 : decode cX9_findsArithmetic 18 = .ok (.iload_n 1, 1) := by decide +kernel
theorem dX9_findsArithmetic_19 : decode cX9_findsArithmetic 19 = .ok (.aload_n 0, 1) := by decide +kernel
theorem dX9_findsArithmetic_20 : decode cX9_findsArithmetic 20 = .ok (.getfield 37, 3) := by decide +kernel
theorem dX9_findsArithmetic_23 : decode cX9_findsArithmetic 23 = .ok (.iload_n 2, 1) := by decide +kernel
theorem dX9_findsArithmetic_24 : decode cX9_findsArithmetic 24 = .ok (.laload, 1) := by decide +kernel
theorem dX9_findsArithmetic_25 : decode cX9_findsArithmetic 25 = .ok (.aload_n 0, 1) := by decide +kernel
theorem dX9_findsArithmetic_26 : decode cX9_findsArithmetic 26 = .ok (.getfield 41, 3) := by decide +kernel
theorem dX9_findsArithmetic_29 : decode cX9_findsArithmetic 29 = .ok (.iload_n 3, 1) := by decide +kernel
theorem dX9_findsArithmetic_30 : decode cX9_findsArithmetic 30 = .ok (.laload, 1) := by decide +kernel
theorem dX9_findsArithmetic_31 : decode cX9_findsArithmetic 31 = .ok (.invokestatic 165, 3) := by decide +kernel
theorem dX9_findsArithmetic_34 : decode cX9_findsArithmetic 34 = .ok (.lstore 6, 2) := by decide +kernel
theorem dX9_findsArithmetic_36 : decode cX9_findsArithmetic 36 = .ok (.iload_n 1, 1) := by decide +kernel
theorem dX9_findsArithmetic_37 : decode cX9_findsArithmetic 37 = .ok (.aload_n 0, 1) := by decide +kernel
theorem dX9_findsArithmetic_38 : decode cX9_findsArithmetic 38 = .ok (.getfield 41, 3) := by decide +kernel
theorem dX9_findsArithmetic_41 : decode cX9_findsArithmetic 41 = .ok (.iload_n 2, 1) := by decide +kernel
theorem dX9_findsArithmetic_42 : decode cX9_findsArithmetic 42 = .ok (.laload, 1) := by decide +kernel
theorem dX9_findsArithmetic_43 : decode cX9_findsArithmetic 43 = .ok (.aload_n 0, 1) := by decide +kernel
theorem dX9_findsArithmetic_44 : decode cX9_findsArithmetic 44 = .ok (.getfield 37, 3) := by decide +kernel
theorem dX9_findsArithmetic_47 : decode cX9_findsArithmetic 47 = .ok (.iload_n 3, 1) := by decide +kernel
theorem dX9_findsArithmetic_48 : decode cX9_findsArithmetic 48 = .ok (.laload, 1) := by decide +kernel
theorem dX9_findsArithmetic_49 : decode cX9_findsArithmetic 49 = .ok (.invokestatic 165, 3) := by decide +kernel
theorem dX9_findsArithmetic_52 : decode cX9_findsArithmetic 52 = .ok (.lstore 8, 2) := by decide +kernel
theorem dX9_findsArithmetic_54 : decode cX9_findsArithmetic 54 = .ok (.iload_n 1, 1) := by decide +kernel
theorem dX9_findsArithmetic_55 : decode cX9_findsArithmetic 55 = .ok (.aload_n 0, 1) := by decide +kernel
theorem dX9_findsArithmetic_56 : decode cX9_findsArithmetic 56 = .ok (.getfield 41, 3) := by decide +kernel
theorem dX9_findsArithmetic_59 : decode cX9_findsArithmetic 59 = .ok (.iload_n 2, 1) := by decide +kernel
theorem dX9_findsArithmetic_60 : decode cX9_findsArithmetic 60 = .ok (.laload, 1) := by decide +kernel
theorem dX9_findsArithmetic_61 : decode cX9_findsArithmetic 61 = .ok (.aload_n 0, 1) := by decide +kernel
theorem dX9_findsArithmetic_62 : decode cX9_findsArithmetic 62 = .ok (.getfield 41, 3) := by decide +kernel
theorem dX9_findsArithmetic_65 : decode cX9_findsArithmetic 65 = .ok (.iload_n 3, 1) := by decide +kernel
theorem dX9_findsArithmetic_66 : decode cX9_findsArithmetic 66 = .ok (.laload, 1) := by decide +kernel
theorem dX9_findsArithmetic_67 : decode cX9_findsArithmetic 67 = .ok (.invokestatic 165, 3) := by decide +kernel
theorem dX9_findsArithmetic_70 : decode cX9_findsArithmetic 70 = .ok (.lstore 10, 2) := by decide +kernel
theorem dX9_findsArithmetic_72 : decode cX9_findsArithmetic 72 = .ok (.aload_n 0, 1) := by decide +kernel
theorem dX9_findsArithmetic_73 : decode cX9_findsArithmetic 73 = .ok (.lload 4, 2) := by decide +kernel
theorem dX9_findsArithmetic_75 : decode cX9_findsArithmetic 75 = .ok (.lload 6, 2) := by decide +kernel
theorem dX9_findsArithmetic_77 : decode cX9_findsArithmetic 77 = .ok (.invokestatic 169, 3) := by decide +kernel
theorem dX9_findsArithmetic_80 : decode cX9_findsArithmetic 80 = .ok (.lload 8, 2) := by decide +kernel
theorem dX9_findsArithmetic_82 : decode cX9_findsArithmetic 82 = .ok (.lload 10, 2) := by decide +kernel
theorem dX9_findsArithmetic_84 : decode cX9_findsArithmetic 84 = .ok (.invokestatic 169, 3) := by decide +kernel
theorem dX9_findsArithmetic_87 : decode cX9_findsArithmetic 87 = .ok (.invokestatic 169, 3) := by decide +kernel
theorem dX9_findsArithmetic_90 : decode cX9_findsArithmetic 90 = .ok (.lload 4, 2) := by decide +kernel
theorem dX9_findsArithmetic_92 : decode cX9_findsArithmetic 92 = .ok (.lload 6, 2) := by decide +kernel
theorem dX9_findsArithmetic_94 : decode cX9_findsArithmetic 94 = .ok (.invokestatic 173, 3) := by decide +kernel
theorem dX9_findsArithmetic_97 : decode cX9_findsArithmetic 97 = .ok (.lload 8, 2) := by decide +kernel
theorem dX9_findsArithmetic_99 : decode cX9_findsArithmetic 99 = .ok (.lload 10, 2) := by decide +kernel
theorem dX9_findsArithmetic_101 : decode cX9_findsArithmetic 101 = .ok (.invokestatic 173, 3) := by decide +kernel
theorem dX9_findsArithmetic_104 : decode cX9_findsArithmetic 104 = .ok (.invokestatic 173, 3) := by decide +kernel
theorem dX9_findsArithmetic_107 : decode cX9_findsArithmetic 107 = .ok (.invokevirtual 176, 3) := by decide +kernel
theorem dX9_findsArithmetic_110 : decode cX9_findsArithmetic 110 = .ok (.return_, 1) := by decide +kernel
theorem dX9_findsWithin_0 : decode cX9_findsWithin 0 = .ok (.lload_n 1, 1) := by decide +kernel
theorem dX9_findsWithin_1 : decode cX9_findsWithin 1 = .ok (.ldc2_w 180, 3) := by decide +kernel
theorem dX9_findsWithin_4 : decode cX9_findsWithin 4 = .ok (.lcmp, 1) := by decide +kernel
theorem dX9_findsWithin_5 : decode cX9_findsWithin 5 = .ok (.ifCond .lt 11, 3) := by decide +kernel
theorem dX9_findsWithin_8 : decode cX9_findsWithin 8 = .ok (.lload_n 3, 1) := by decide +kernel
theorem dX9_findsWithin_9 : decode cX9_findsWithin 9 = .ok (.ldc2_w 182, 3) := by decide +kernel
theorem dX9_findsWithin_12 : decode cX9_findsWithin 12 = .ok (.lcmp, 1) := by decide +kernel
theorem dX9_findsWithin_13 : decode cX9_findsWithin 13 = .ok (.ifCond .le 16, 3) := by decide +kernel
theorem dX9_findsWithin_16 : decode cX9_findsWithin 16 = .ok (.aload_n 0, 1) := by decide +kernel
theorem dX9_findsWithin_17 : decode cX9_findsWithin 17 = .ok (.ldc2_w 180, 3) := by decide +kernel
theorem dX9_findsWithin_20 : decode cX9_findsWithin 20 = .ok (.ldc2_w 182, 3) := by decide +kernel
theorem dX9_findsWithin_23 : decode cX9_findsWithin 23 = .ok (.invokevirtual 184, 3) := by decide +kernel
theorem dX9_findsWithin_26 : decode cX9_findsWithin 26 = .ok (.goto 9, 3) := by decide +kernel
theorem dX9_findsWithin_29 : decode cX9_findsWithin 29 = .ok (.aload_n 0, 1) := by decide +kernel
theorem dX9_findsWithin_30 : decode cX9_findsWithin 30 = .ok (.lload_n 1, 1) := by decide +kernel
theorem dX9_findsWithin_31 : decode cX9_findsWithin 31 = .ok (.lload_n 3, 1) := by decide +kernel
theorem dX9_findsWithin_32 : decode cX9_findsWithin 32 = .ok (.invokevirtual 184, 3) := by decide +kernel
theorem dX9_findsWithin_35 : decode cX9_findsWithin 35 = .ok (.return_, 1) := by decide +kernel
theorem dX9_findsLogic_0 : decode cX9_findsLogic 0 = .ok (.aload_n 0, 1) := by decide +kernel
theorem dX9_findsLogic_1 : decode cX9_findsLogic 1 = .ok (.getfield 37, 3) := by decide +kernel
theorem dX9_findsLogic_4 : decode cX9_findsLogic 4 = .ok (.iload_n 2, 1) := by decide +kernel
theorem dX9_findsLogic_5 : decode cX9_findsLogic 5 = .ok (.laload, 1) := by decide +kernel
theorem dX9_findsLogic_6 : decode cX9_findsLogic 6 = .ok (.lconst 0, 1) := by decide +kernel
theorem dX9_findsLogic_7 : decode cX9_findsLogic 7 = .ok (.lcmp, 1) := by decide +kernel
theorem dX9_findsLogic_8 : decode cX9_findsLogic 8 = .ok (.ifCond .lt 64, 3) := by decide +kernel
theorem dX9_findsLogic_11 : decode cX9_findsLogic 11 = .ok (.aload_n 0, 1) := by decide +kernel
theorem dX9_findsLogic_12 : decode cX9_findsLogic 12 = .ok (.getfield 37, 3) := by decide +kernel
theorem dX9_findsLogic_15 : decode cX9_findsLogic 15 = .ok (.iload_n 3, 1) := by decide +kernel
theorem dX9_findsLogic_16 : decode cX9_findsLogic 16 = .ok (.laload, 1) := by decide +kernel
theorem dX9_findsLogic_17 : decode cX9_findsLogic 17 = .ok (.lconst 0, 1) := by decide +kernel
theorem dX9_findsLogic_18 : decode cX9_findsLogic 18 = .ok (.lcmp, 1) := by decide +kernel
theorem dX9_findsLogic_19 : decode cX9_findsLogic 19 = .ok (.ifCond .lt 53, 3) := by decide +kernel
theorem dX9_findsLogic_22 : decode cX9_findsLogic 22 = .ok (.aload_n 0, 1) := by decide +kernel
theorem dX9_findsLogic_23 : decode cX9_findsLogic 23 = .ok (.lconst 0, 1) := by decide +kernel
theorem dX9_findsLogic_24 : decode cX9_findsLogic 24 = .ok (.iload_n 1, 1) := by decide +kernel
theorem dX9_findsLogic_25 : decode cX9_findsLogic 25 = .ok (.bipush 6, 2) := by decide +kernel
theorem dX9_findsLogic_27 : decode cX9_findsLogic 27 = .ok (.if_icmp .ne 21, 3) := by decide +kernel
theorem dX9_findsLogic_30 : decode cX9_findsLogic 30 = .ok (.aload_n 0, 1) := by decide +kernel
theorem dX9_findsLogic_31 : decode cX9_findsLogic 31 = .ok (.getfield 41, 3) := by decide +kernel
theorem dX9_findsLogic_34 : decode cX9_findsLogic 34 = .ok (.iload_n 2, 1) := by decide +kernel
theorem dX9_findsLogic_35 : decode cX9_findsLogic 35 = .ok (.laload, 1) := by decide +kernel
theorem dX9_findsLogic_36 : decode cX9_findsLogic 36 = .ok (.aload_n 0, 1) := by decide +kernel
theorem dX9_findsLogic_37 : decode cX9_findsLogic 37 = .ok (.getfield 41, 3) := by decide +kernel
theorem dX9_findsLogic_40 : decode cX9_findsLogic 40 = .ok (.iload_n 3, 1) := by decide +kernel
theorem dX9_findsLogic_41 : decode cX9_findsLogic 41 = .ok (.laload, 1) := by decide +kernel
theorem dX9_findsLogic_42 : decode cX9_findsLogic 42 = .ok (.invokestatic 169, 3) := by decide +kernel
theorem dX9_findsLogic_45 : decode cX9_findsLogic 45 = .ok (.goto 21, 3) := by decide +kernel
theorem dX9_findsLogic_48 : decode cX9_findsLogic 48 = .ok (.aload_n 0, 1) := by decide +kernel
theorem dX9_findsLogic_49 : decode cX9_findsLogic 49 = .ok (.getfield 41, 3) := by decide +kernel
theorem dX9_findsLogic_52 : decode cX9_findsLogic 52 = .ok (.iload_n 2, 1) := by decide +kernel
theorem dX9_findsLogic_53 : decode cX9_findsLogic 53 = .ok (.laload, 1) := by decide +kernel
theorem dX9_findsLogic_54 : decode cX9_findsLogic 54 = .ok (.aload_n 0, 1) := by decide +kernel
theorem dX9_findsLogic_55 : decode cX9_findsLogic 55 = .ok (.getfield 41, 3) := by decide +kernel
theorem dX9_findsLogic_58 : decode cX9_findsLogic 58 = .ok (.iload_n 3, 1) := by decide +kernel
theorem dX9_findsLogic_59 : decode cX9_findsLogic 59 = .ok (.laload, 1) := by decide +kernel
theorem dX9_findsLogic_60 : decode cX9_findsLogic 60 = .ok (.invokestatic 173, 3) := by decide +kernel
theorem dX9_findsLogic_63 : decode cX9_findsLogic 63 = .ok (.invokestatic 187, 3) := by decide +kernel
theorem dX9_findsLogic_66 : decode cX9_findsLogic 66 = .ok (.invokevirtual 184, 3) := by decide +kernel
theorem dX9_findsLogic_69 : decode cX9_findsLogic 69 = .ok (.goto 117, 3) := by decide +kernel
theorem dX9_findsLogic_72 : decode cX9_findsLogic 72 = .ok (.iload_n 1, 1) := by decide +kernel
theorem dX9_findsLogic_73 : decode cX9_findsLogic 73 = .ok (.bipush 6, 2) := by decide +kernel
theorem dX9_findsLogic_75 : decode cX9_findsLogic 75 = .ok (.if_icmp .ne 59, 3) := by decide +kernel
theorem dX9_findsLogic_78 : decode cX9_findsLogic 78 = .ok (.aload_n 0, 1) := by decide +kernel
theorem dX9_findsLogic_79 : decode cX9_findsLogic 79 = .ok (.getfield 37, 3) := by decide +kernel
theorem dX9_findsLogic_82 : decode cX9_findsLogic 82 = .ok (.iload_n 2, 1) := by decide +kernel
theorem dX9_findsLogic_83 : decode cX9_findsLogic 83 = .ok (.laload, 1) := by decide +kernel
theorem dX9_findsLogic_84 : decode cX9_findsLogic 84 = .ok (.lconst 0, 1) := by decide +kernel
theorem dX9_findsLogic_85 : decode cX9_findsLogic 85 = .ok (.lcmp, 1) := by decide +kernel
theorem dX9_findsLogic_86 : decode cX9_findsLogic 86 = .ok (.ifCond .ge 14, 3) := by decide +kernel
theorem dX9_findsLogic_89 : decode cX9_findsLogic 89 = .ok (.aload_n 0, 1) := by decide +kernel
theorem dX9_findsLogic_90 : decode cX9_findsLogic 90 = .ok (.getfield 37, 3) := by decide +kernel
theorem dX9_findsLogic_93 : decode cX9_findsLogic 93 = .ok (.iload_n 3, 1) := by decide +kernel
theorem dX9_findsLogic_94 : decode cX9_findsLogic 94 = .ok (.laload, 1) := by decide +kernel
theorem dX9_findsLogic_95 : decode cX9_findsLogic 95 = .ok (.lconst 0, 1) := by decide +kernel
theorem dX9_findsLogic_96 : decode cX9_findsLogic 96 = .ok (.lcmp, 1) := by decide +kernel
theorem dX9_findsLogic_97 : decode cX9_findsLogic 97 = .ok (.ifCond .lt 37, 3) := by decide +kernel
theorem dX9_findsLogic_100 : decode cX9_findsLogic 100 = .ok (.aload_n 0, 1) := by decide +kernel
theorem dX9_findsLogic_101 : decode cX9_findsLogic 101 = .ok (.lconst 0, 1) := by decide +kernel
theorem dX9_findsLogic_102 : decode cX9_findsLogic 102 = .ok (.aload_n 0, 1) := by decide +kernel
theorem dX9_findsLogic_103 : decode cX9_findsLogic 103 = .ok (.getfield 37, 3) := by decide +kernel
theorem dX9_findsLogic_106 : decode cX9_findsLogic 106 = .ok (.iload_n 2, 1) := by decide +kernel
theorem dX9_findsLogic_107 : decode cX9_findsLogic 107 = .ok (.laload, 1) := by decide +kernel
theorem dX9_findsLogic_108 : decode cX9_findsLogic 108 = .ok (.lconst 0, 1) := by decide +kernel
theorem dX9_findsLogic_109 : decode cX9_findsLogic 109 = .ok (.lcmp, 1) := by decide +kernel
theorem dX9_findsLogic_110 : decode cX9_findsLogic 110 = .ok (.ifCond .lt 12, 3) := by decide +kernel
theorem dX9_findsLogic_113 : decode cX9_findsLogic 113 = .ok (.aload_n 0, 1) := by decide +kernel
theorem dX9_findsLogic_114 : decode cX9_findsLogic 114 = .ok (.getfield 41, 3) := by decide +kernel
theorem dX9_findsLogic_117 : decode cX9_findsLogic 117 = .ok (.iload_n 2, 1) := by decide +kernel
theorem dX9_findsLogic_118 : decode cX9_findsLogic 118 = .ok (.laload, 1) := by decide +kernel
theorem dX9_findsLogic_119 : decode cX9_findsLogic 119 = .ok (.goto 9, 3) := by decide +kernel
theorem dX9_findsLogic_122 : decode cX9_findsLogic 122 = .ok (.aload_n 0, 1) := by decide +kernel
theorem dX9_findsLogic_123 : decode cX9_findsLogic 123 = .ok (.getfield 41, 3) := by decide +kernel
theorem dX9_findsLogic_126 : decode cX9_findsLogic 126 = .ok (.iload_n 3, 1) := by decide +kernel
theorem dX9_findsLogic_127 : decode cX9_findsLogic 127 = .ok (.laload, 1) := by decide +kernel
theorem dX9_findsLogic_128 : decode cX9_findsLogic 128 = .ok (.invokevirtual 184, 3) := by decide +kernel
theorem dX9_findsLogic_131 : decode cX9_findsLogic 131 = .ok (.goto 55, 3) := by decide +kernel
theorem dX9_findsLogic_134 : decode cX9_findsLogic 134 = .ok (.aload_n 0, 1) := by decide +kernel
theorem dX9_findsLogic_135 : decode cX9_findsLogic 135 = .ok (.getfield 37, 3) := by decide +kernel
theorem dX9_findsLogic_138 : decode cX9_findsLogic 138 = .ok (.iload_n 2, 1) := by decide +kernel
theorem dX9_findsLogic_139 : decode cX9_findsLogic 139 = .ok (.laload, 1) := by decide +kernel
theorem dX9_findsLogic_140 : decode cX9_findsLogic 140 = .ok (.aload_n 0, 1) := by decide +kernel
theorem dX9_findsLogic_141 : decode cX9_findsLogic 141 = .ok (.getfield 37, 3) := by decide +kernel
theorem dX9_findsLogic_144 : decode cX9_findsLogic 144 = .ok (.iload_n 3, 1) := by decide +kernel
theorem dX9_findsLogic_145 : decode cX9_findsLogic 145 = .ok (.laload, 1) := by decide +kernel
theorem dX9_findsLogic_146 : decode cX9_findsLogic 146 = .ok (.invokestatic 169, 3) := by decide +kernel
theorem dX9_findsLogic_149 : decode cX9_findsLogic 149 = .ok (.aload_n 0, 1) := by decide +kernel
theorem dX9_findsLogic_150 : decode cX9_findsLogic 150 = .ok (.getfield 41, 3) := by decide +kernel
theorem dX9_findsLogic_153 : decode cX9_findsLogic 153 = .ok (.iload_n 2, 1) := by decide +kernel
theorem dX9_findsLogic_154 : decode cX9_findsLogic 154 = .ok (.laload, 1) := by decide +kernel
theorem dX9_findsLogic_155 : decode cX9_findsLogic 155 = .ok (.aload_n 0, 1) := by decide +kernel
theorem dX9_findsLogic_156 : decode cX9_findsLogic 156 = .ok (.getfield 41, 3) := by decide +kernel
theorem dX9_findsLogic_159 : decode cX9_findsLogic 159 = .ok (.iload_n 3, 1) := by decide +kernel
theorem dX9_findsLogic_160 : decode cX9_findsLogic 160 = .ok (.laload, 1) := by decide +kernel
theorem dX9_findsLogic_161 : decode cX9_findsLogic 161 = .ok (.invokestatic 173, 3) := by decide +kernel
theorem dX9_findsLogic_164 : decode cX9_findsLogic 164 = .ok (.lneg, 1) := by decide +kernel
theorem dX9_findsLogic_165 : decode cX9_findsLogic 165 = .ok (.lconst 1, 1) := by decide +kernel
theorem dX9_findsLogic_166 : decode cX9_findsLogic 166 = .ok (.lsub, 1) := by decide +kernel
theorem dX9_findsLogic_167 : decode cX9_findsLogic 167 = .ok (.invokestatic 169, 3) := by decide +kernel
theorem dX9_findsLogic_170 : decode cX9_findsLogic 170 = .ok (.invokestatic 191, 3) := by decide +kernel
theorem dX9_findsLogic_173 : decode cX9_findsLogic 173 = .ok (.lstore 4, 2) := by decide +kernel
theorem dX9_findsLogic_175 : decode cX9_findsLogic 175 = .ok (.aload_n 0, 1) := by decide +kernel
theorem dX9_findsLogic_176 : decode cX9_findsLogic 176 = .ok (.lload 4, 2) := by decide +kernel
theorem dX9_findsLogic_178 : decode cX9_findsLogic 178 = .ok (.lload 4, 2) := by decide +kernel
theorem dX9_findsLogic_180 : decode cX9_findsLogic 180 = .ok (.lneg, 1) := by decide +kernel
theorem dX9_findsLogic_181 : decode cX9_findsLogic 181 = .ok (.lconst 1, 1) := by decide +kernel
theorem dX9_findsLogic_182 : decode cX9_findsLogic 182 = .ok (.lsub, 1) := by decide +kernel
theorem dX9_findsLogic_183 : decode cX9_findsLogic 183 = .ok (.invokevirtual 184, 3) := by decide +kernel
theorem dX9_findsLogic_186 : decode cX9_findsLogic 186 = .ok (.return_, 1) := by decide +kernel
theorem dX9_findsChoice_0 : decode cX9_findsChoice 0 = .ok (.aload_n 0, 1) := by decide +kernel
theorem dX9_findsChoice_1 : decode cX9_findsChoice 1 = .ok (.getfield 37, 3) := by decide +kernel
theorem dX9_findsChoice_4 : decode cX9_findsChoice 4 = .ok (.iload_n 1, 1) := by decide +kernel
theorem dX9_findsChoice_5 : decode cX9_findsChoice 5 = .ok (.laload, 1) := by decide +kernel
theorem dX9_findsChoice_6 : decode cX9_findsChoice 6 = .ok (.lconst 0, 1) := by decide +kernel
theorem dX9_findsChoice_7 : decode cX9_findsChoice 7 = .ok (.lcmp, 1) := by decide +kernel
theorem dX9_findsChoice_8 : decode cX9_findsChoice 8 = .ok (.ifCond .gt 14, 3) := by decide +kernel
theorem dX9_findsChoice_11 : decode cX9_findsChoice 11 = .ok (.aload_n 0, 1) := by decide +kernel
theorem dX9_findsChoice_12 : decode cX9_findsChoice 12 = .ok (.getfield 41, 3) := by decide +kernel
theorem dX9_findsChoice_15 : decode cX9_findsChoice 15 = .ok (.iload_n 1, 1) := by decide +kernel
theorem dX9_findsChoice_16 : decode cX9_findsChoice 16 = .ok (.laload, 1) := by decide +kernel
theorem dX9_findsChoice_17 : decode cX9_findsChoice 17 = .ok (.lconst 0, 1) := by decide +kernel
theorem dX9_findsChoice_18 : decode cX9_findsChoice 18 = .ok (.lcmp, 1) := by decide +kernel
theorem dX9_findsChoice_19 : decode cX9_findsChoice 19 = .ok (.ifCond .ge 22, 3) := by decide +kernel
theorem dX9_findsChoice_22 : decode cX9_findsChoice 22 = .ok (.aload_n 0, 1) := by decide +kernel
theorem dX9_findsChoice_23 : decode cX9_findsChoice 23 = .ok (.aload_n 0, 1) := by decide +kernel
theorem dX9_findsChoice_24 : decode cX9_findsChoice 24 = .ok (.getfield 37, 3) := by decide +kernel
theorem dX9_findsChoice_27 : decode cX9_findsChoice 27 = .ok (.iload_n 2, 1) := by decide +kernel
theorem dX9_findsChoice_28 : decode cX9_findsChoice 28 = .ok (.laload, 1) := by decide +kernel
theorem dX9_findsChoice_29 : decode cX9_findsChoice 29 = .ok (.aload_n 0, 1) := by decide +kernel
theorem dX9_findsChoice_30 : decode cX9_findsChoice 30 = .ok (.getfield 41, 3) := by decide +kernel
theorem dX9_findsChoice_33 : decode cX9_findsChoice 33 = .ok (.iload_n 2, 1) := by decide +kernel
theorem dX9_findsChoice_34 : decode cX9_findsChoice 34 = .ok (.laload, 1) := by decide +kernel
theorem dX9_findsChoice_35 : decode cX9_findsChoice 35 = .ok (.invokevirtual 184, 3) := by decide +kernel
theorem dX9_findsChoice_38 : decode cX9_findsChoice 38 = .ok (.goto 78, 3) := by decide +kernel
theorem dX9_findsChoice_41 : decode cX9_findsChoice 41 = .ok (.aload_n 0, 1) := by decide +kernel
theorem dX9_findsChoice_42 : decode cX9_findsChoice 42 = .ok (.getfield 37, 3) := by decide +kernel
theorem dX9_findsChoice_45 : decode cX9_findsChoice 45 = .ok (.iload_n 1, 1) := by decide +kernel
theorem dX9_findsChoice_46 : decode cX9_findsChoice 46 = .ok (.laload, 1) := by decide +kernel
theorem dX9_findsChoice_47 : decode cX9_findsChoice 47 = .ok (.lconst 0, 1) := by decide +kernel
theorem dX9_findsChoice_48 : decode cX9_findsChoice 48 = .ok (.lcmp, 1) := by decide +kernel
theorem dX9_findsChoice_49 : decode cX9_findsChoice 49 = .ok (.ifCond .ne 33, 3) := by decide +kernel
theorem dX9_findsChoice_52 : decode cX9_findsChoice 52 = .ok (.aload_n 0, 1) := by decide +kernel
theorem dX9_findsChoice_53 : decode cX9_findsChoice 53 = .ok (.getfield 41, 3) := by decide +kernel
theorem dX9_findsChoice_56 : decode cX9_findsChoice 56 = .ok (.iload_n 1, 1) := by decide +kernel
theorem dX9_findsChoice_57 : decode cX9_findsChoice 57 = .ok (.laload, 1) := by decide +kernel
theorem dX9_findsChoice_58 : decode cX9_findsChoice 58 = .ok (.lconst 0, 1) := by decide +kernel
theorem dX9_findsChoice_59 : decode cX9_findsChoice 59 = .ok (.lcmp, 1) := by decide +kernel
theorem dX9_findsChoice_60 : decode cX9_findsChoice 60 = .ok (.ifCond .ne 22, 3) := by decide +kernel
theorem dX9_findsChoice_63 : decode cX9_findsChoice 63 = .ok (.aload_n 0, 1) := by decide +kernel
theorem dX9_findsChoice_64 : decode cX9_findsChoice 64 = .ok (.aload_n 0, 1) := by decide +kernel
theorem dX9_findsChoice_65 : decode cX9_findsChoice 65 = .ok (.getfield 37, 3) := by decide +kernel
theorem dX9_findsChoice_68 : decode cX9_findsChoice 68 = .ok (.iload_n 3, 1) := by decide +kernel
theorem dX9_findsChoice_69 : decode cX9_findsChoice 69 = .ok (.laload, 1) := by decide +kernel
theorem dX9_findsChoice_70 : decode cX9_findsChoice 70 = .ok (.aload_n 0, 1) := by decide +kernel
theorem dX9_findsChoice_71 : decode cX9_findsChoice 71 = .ok (.getfield 41, 3) := by decide +kernel
theorem dX9_findsChoice_74 : decode cX9_findsChoice 74 = .ok (.iload_n 3, 1) := by decide +kernel
theorem dX9_findsChoice_75 : decode cX9_findsChoice 75 = .ok (.laload, 1) := by decide +kernel
theorem dX9_findsChoice_76 : decode cX9_findsChoice 76 = .ok (.invokevirtual 184, 3) := by decide +kernel
theorem dX9_findsChoice_79 : decode cX9_findsChoice 79 = .ok (.goto 37, 3) := by decide +kernel
theorem dX9_findsChoice_82 : decode cX9_findsChoice 82 = .ok (.aload_n 0, 1) := by decide +kernel
theorem dX9_findsChoice_83 : decode cX9_findsChoice 83 = .ok (.aload_n 0, 1) := by decide +kernel
theorem dX9_findsChoice_84 : decode cX9_findsChoice 84 = .ok (.getfield 37, 3) := by decide +kernel
theorem dX9_findsChoice_87 : decode cX9_findsChoice 87 = .ok (.iload_n 2, 1) := by decide +kernel
theorem dX9_findsChoice_88 : decode cX9_findsChoice 88 = .ok (.laload, 1) := by decide +kernel
theorem dX9_findsChoice_89 : decode cX9_findsChoice 89 = .ok (.aload_n 0, 1) := by decide +kernel
theorem dX9_findsChoice_90 : decode cX9_findsChoice 90 = .ok (.getfield 37, 3) := by decide +kernel
theorem dX9_findsChoice_93 : decode cX9_findsChoice 93 = .ok (.iload_n 3, 1) := by decide +kernel
theorem dX9_findsChoice_94 : decode cX9_findsChoice 94 = .ok (.laload, 1) := by decide +kernel
theorem dX9_findsChoice_95 : decode cX9_findsChoice 95 = .ok (.invokestatic 169, 3) := by decide +kernel
theorem dX9_findsChoice_98 : decode cX9_findsChoice 98 = .ok (.aload_n 0, 1) := by decide +kernel
theorem dX9_findsChoice_99 : decode cX9_findsChoice 99 = .ok (.getfield 41, 3) := by decide +kernel
theorem dX9_findsChoice_102 : decode cX9_findsChoice 102 = .ok (.iload_n 2, 1) := by decide +kernel
theorem dX9_findsChoice_103 : decode cX9_findsChoice 103 = .ok (.laload, 1) := by decide +kernel
theorem dX9_findsChoice_104 : decode cX9_findsChoice 104 = .ok (.aload_n 0, 1) := by decide +kernel
theorem dX9_findsChoice_105 : decode cX9_findsChoice 105 = .ok (.getfield 41, 3) := by decide +kernel
theorem dX9_findsChoice_108 : decode cX9_findsChoice 108 = .ok (.iload_n 3, 1) := by decide +kernel
theorem dX9_findsChoice_109 : decode cX9_findsChoice 109 = .ok (.laload, 1) := by decide +kernel
theorem dX9_findsChoice_110 : decode cX9_findsChoice 110 = .ok (.invokestatic 173, 3) := by decide +kernel
theorem dX9_findsChoice_113 : decode cX9_findsChoice 113 = .ok (.invokevirtual 184, 3) := by decide +kernel
theorem dX9_findsChoice_116 : decode cX9_findsChoice 116 = .ok (.return_, 1) := by decide +kernel
theorem dX9_findsRange_0 : decode cX9_findsRange 0 = .ok (.aload_n 0, 1) := by decide +kernel
theorem dX9_findsRange_1 : decode cX9_findsRange 1 = .ok (.getfield 13, 3) := by decide +kernel
theorem dX9_findsRange_4 : decode cX9_findsRange 4 = .ok (.iload_n 1, 1) := by decide +kernel
theorem dX9_findsRange_5 : decode cX9_findsRange 5 = .ok (.iaload, 1) := by decide +kernel
theorem dX9_findsRange_6 : decode cX9_findsRange 6 = .ok (.istore_n 2, 1) := by decide +kernel
theorem dX9_findsRange_7 : decode cX9_findsRange 7 = .ok (.aload_n 0, 1) := by decide +kernel
theorem dX9_findsRange_8 : decode cX9_findsRange 8 = .ok (.getfield 16, 3) := by decide +kernel
theorem dX9_findsRange_11 : decode cX9_findsRange 11 = .ok (.iload_n 1, 1) := by decide +kernel
theorem dX9_findsRange_12 : decode cX9_findsRange 12 = .ok (.iaload, 1) := by decide +kernel
theorem dX9_findsRange_13 : decode cX9_findsRange 13 = .ok (.istore_n 3, 1) := by decide +kernel
theorem dX9_findsRange_14 : decode cX9_findsRange 14 = .ok (.aload_n 0, 1) := by decide +kernel
theorem dX9_findsRange_15 : decode cX9_findsRange 15 = .ok (.getfield 7, 3) := by decide +kernel
theorem dX9_findsRange_18 : decode cX9_findsRange 18 = .ok (.iload_n 1, 1) := by decide +kernel
theorem dX9_findsRange_19 : decode cX9_findsRange 19 = .ok (.iaload, 1) := by decide +kernel
theorem dX9_findsRange_20 : decode cX9_findsRange 20 = .ok (.tableswitch 211 0 11 #[64, 75, 211, 86, 86, 86, 101, 101, 101, 116, 139, 162], 64) := by decide +kernel
theorem dX9_findsRange_84 : decode cX9_findsRange 84 = .ok (.aload_n 0, 1) := by decide +kernel
theorem dX9_findsRange_85 : decode cX9_findsRange 85 = .ok (.iload_n 2, 1) := by decide +kernel
theorem dX9_findsRange_86 : decode cX9_findsRange 86 = .ok (.i2l, 1) := by decide +kernel
theorem dX9_findsRange_87 : decode cX9_findsRange 87 = .ok (.iload_n 3, 1) := by decide +kernel
theorem dX9_findsRange_88 : decode cX9_findsRange 88 = .ok (.i2l, 1) := by decide +kernel
theorem dX9_findsRange_89 : decode cX9_findsRange 89 = .ok (.invokevirtual 184, 3) := by decide +kernel
theorem dX9_findsRange_92 : decode cX9_findsRange 92 = .ok (.goto 151, 3) := by decide +kernel
theorem dX9_findsRange_95 : decode cX9_findsRange 95 = .ok (.aload_n 0, 1) := by decide +kernel
theorem dX9_findsRange_96 : decode cX9_findsRange 96 = .ok (.iload_n 2, 1) := by decide +kernel
theorem dX9_findsRange_97 : decode cX9_findsRange 97 = .ok (.i2l, 1) := by decide +kernel
theorem dX9_findsRange_98 : decode cX9_findsRange 98 = .ok (.iload_n 2, 1) := by decide +kernel
theorem dX9_findsRange_99 : decode cX9_findsRange 99 = .ok (.i2l, 1) := by decide +kernel
theorem dX9_findsRange_100 : decode cX9_findsRange 100 = .ok (.invokevirtual 184, 3) := by decide +kernel
theorem dX9_findsRange_103 : decode cX9_findsRange 103 = .ok (.goto 140, 3) := by decide +kernel
theorem dX9_findsRange_106 : decode cX9_findsRange 106 = .ok (.aload_n 0, 1) := by decide +kernel
theorem dX9_findsRange_107 : decode cX9_findsRange 107 = .ok (.aload_n 0, 1) := by decide +kernel
theorem dX9_findsRange_108 : decode cX9_findsRange 108 = .ok (.getfield 7, 3) := by decide +kernel
theorem dX9_findsRange_111 : decode cX9_findsRange 111 = .ok (.iload_n 1, 1) := by decide +kernel
theorem dX9_findsRange_112 : decode cX9_findsRange 112 = .ok (.iaload, 1) := by decide +kernel
theorem dX9_findsRange_113 : decode cX9_findsRange 113 = .ok (.iload_n 2, 1) := by decide +kernel
theorem dX9_findsRange_114 : decode cX9_findsRange 114 = .ok (.iload_n 3, 1) := by decide +kernel
theorem dX9_findsRange_115 : decode cX9_findsRange 115 = .ok (.invokevirtual 194, 3) := by decide +kernel
theorem dX9_findsRange_118 : decode cX9_findsRange 118 = .ok (.goto 125, 3) := by decide +kernel
theorem dX9_findsRange_121 : decode cX9_findsRange 121 = .ok (.aload_n 0, 1) := by decide +kernel
theorem dX9_findsRange_122 : decode cX9_findsRange 122 = .ok (.aload_n 0, 1) := by decide +kernel
theorem dX9_findsRange_123 : decode cX9_findsRange 123 = .ok (.getfield 7, 3) := by decide +kernel
theorem dX9_findsRange_126 : decode cX9_findsRange 126 = .ok (.iload_n 1, 1) := by decide +kernel
theorem dX9_findsRange_127 : decode cX9_findsRange 127 = .ok (.iaload, 1) := by decide +kernel
theorem dX9_findsRange_128 : decode cX9_findsRange 128 = .ok (.iload_n 2, 1) := by decide +kernel
theorem dX9_findsRange_129 : decode cX9_findsRange 129 = .ok (.iload_n 3, 1) := by decide +kernel
theorem dX9_findsRange_130 : decode cX9_findsRange 130 = .ok (.invokevirtual 198, 3) := by decide +kernel
theorem dX9_findsRange_133 : decode cX9_findsRange 133 = .ok (.goto 110, 3) := by decide +kernel
theorem dX9_findsRange_136 : decode cX9_findsRange 136 = .ok (.aload_n 0, 1) := by decide +kernel
theorem dX9_findsRange_137 : decode cX9_findsRange 137 = .ok (.aload_n 0, 1) := by decide +kernel
theorem dX9_findsRange_138 : decode cX9_findsRange 138 = .ok (.getfield 37, 3) := by decide +kernel
theorem dX9_findsRange_141 : decode cX9_findsRange 141 = .ok (.iload_n 2, 1) := by decide +kernel
theorem dX9_findsRange_142 : decode cX9_findsRange 142 = .ok (.laload, 1) := by decide +kernel
theorem dX9_findsRange_143 : decode cX9_findsRange 143 = .ok (.iload_n 3, 1) := by decide +kernel
theorem dX9_findsRange_144 : decode cX9_findsRange 144 = .ok (.lshl, 1) := by decide +kernel
theorem dX9_findsRange_145 : decode cX9_findsRange 145 = .ok (.aload_n 0, 1) := by decide +kernel
theorem dX9_findsRange_146 : decode cX9_findsRange 146 = .ok (.getfield 41, 3) := by decide +kernel
theorem dX9_findsRange_149 : decode cX9_findsRange 149 = .ok (.iload_n 2, 1) := by decide +kernel
theorem dX9_findsRange_150 : decode cX9_findsRange 150 = .ok (.laload, 1) := by decide +kernel
theorem dX9_findsRange_151 : decode cX9_findsRange 151 = .ok (.iload_n 3, 1) := by decide +kernel
theorem dX9_findsRange_152 : decode cX9_findsRange 152 = .ok (.lshl, 1) := by decide +kernel
theorem dX9_findsRange_153 : decode cX9_findsRange 153 = .ok (.invokevirtual 176, 3) := by decide +kernel
theorem dX9_findsRange_156 : decode cX9_findsRange 156 = .ok (.goto 87, 3) := by decide +kernel
theorem dX9_findsRange_159 : decode cX9_findsRange 159 = .ok (.aload_n 0, 1) := by decide +kernel
theorem dX9_findsRange_160 : decode cX9_findsRange 160 = .ok (.aload_n 0, 1) := by decide +kernel
theorem dX9_findsRange_161 : decode cX9_findsRange 161 = .ok (.getfield 37, 3) := by decide +kernel
theorem dX9_findsRange_164 : decode cX9_findsRange 164 = .ok (.iload_n 2, 1) := by decide +kernel
theorem dX9_findsRange_165 : decode cX9_findsRange 165 = .ok (.laload, 1) := by decide +kernel
theorem dX9_findsRange_166 : decode cX9_findsRange 166 = .ok (.iload_n 3, 1) := by decide +kernel
theorem dX9_findsRange_167 : decode cX9_findsRange 167 = .ok (.lshr, 1) := by decide +kernel
theorem dX9_findsRange_168 : decode cX9_findsRange 168 = .ok (.aload_n 0, 1) := by decide +kernel
theorem dX9_findsRange_169 : decode cX9_findsRange 169 = .ok (.getfield 41, 3) := by decide +kernel
theorem dX9_findsRange_172 : decode cX9_findsRange 172 = .ok (.iload_n 2, 1) := by decide +kernel
theorem dX9_findsRange_173 : decode cX9_findsRange 173 = .ok (.laload, 1) := by decide +kernel
theorem dX9_findsRange_174 : decode cX9_findsRange 174 = .ok (.iload_n 3, 1) := by decide +kernel
theorem dX9_findsRange_175 : decode cX9_findsRange 175 = .ok (.lshr, 1) := by decide +kernel
theorem dX9_findsRange_176 : decode cX9_findsRange 176 = .ok (.invokevirtual 176, 3) := by decide +kernel
theorem dX9_findsRange_179 : decode cX9_findsRange 179 = .ok (.goto 64, 3) := by decide +kernel
theorem dX9_findsRange_182 : decode cX9_findsRange 182 = .ok (.aload_n 0, 1) := by decide +kernel
theorem dX9_findsRange_183 : decode cX9_findsRange 183 = .ok (.aload_n 0, 1) := by decide +kernel
theorem dX9_findsRange_184 : decode cX9_findsRange 184 = .ok (.getfield 41, 3) := by decide +kernel
theorem dX9_findsRange_187 : decode cX9_findsRange 187 = .ok (.iload_n 2, 1) := by decide +kernel
theorem dX9_findsRange_188 : decode cX9_findsRange 188 = .ok (.laload, 1) := by decide +kernel
theorem dX9_findsRange_189 : decode cX9_findsRange 189 = .ok (.aload_n 0, 1) := by decide +kernel
theorem dX9_findsRange_190 : decode cX9_findsRange 190 = .ok (.getfield 37, 3) := by decide +kernel
theorem dX9_findsRange_193 : decode cX9_findsRange 193 = .ok (.iload_n 3, 1) := by decide +kernel
theorem dX9_findsRange_194 : decode cX9_findsRange 194 = .ok (.laload, 1) := by decide +kernel
theorem dX9_findsRange_195 : decode cX9_findsRange 195 = .ok (.lcmp, 1) := by decide +kernel
theorem dX9_findsRange_196 : decode cX9_findsRange 196 = .ok (.ifCond .ge 7, 3) := by decide +kernel
theorem dX9_findsRange_199 : decode cX9_findsRange 199 = .ok (.lconst 1, 1) := by decide +kernel
theorem dX9_findsRange_200 : decode cX9_findsRange 200 = .ok (.goto 4, 3) := by decide +kernel
theorem dX9_findsRange_203 : decode cX9_findsRange 203 = .ok (.lconst 0, 1) := by decide +kernel
theorem dX9_findsRange_204 : decode cX9_findsRange 204 = .ok (.aload_n 0, 1) := by decide +kernel
theorem dX9_findsRange_205 : decode cX9_findsRange 205 = .ok (.getfield 37, 3) := by decide +kernel
theorem dX9_findsRange_208 : decode cX9_findsRange 208 = .ok (.iload_n 2, 1) := by decide +kernel
theorem dX9_findsRange_209 : decode cX9_findsRange 209 = .ok (.laload, 1) := by decide +kernel
theorem dX9_findsRange_210 : decode cX9_findsRange 210 = .ok (.aload_n 0, 1) := by decide +kernel
theorem dX9_findsRange_211 : decode cX9_findsRange 211 = .ok (.getfield 41, 3) := by decide +kernel
theorem dX9_findsRange_214 : decode cX9_findsRange 214 = .ok (.iload_n 3, 1) := by decide +kernel
theorem dX9_findsRange_215 : decode cX9_findsRange 215 = .ok (.laload, 1) := by decide +kernel
theorem dX9_findsRange_216 : decode cX9_findsRange 216 = .ok (.lcmp, 1) := by decide +kernel
theorem dX9_findsRange_217 : decode cX9_findsRange 217 = .ok (.ifCond .lt 7, 3) := by decide +kernel
theorem dX9_findsRange_220 : decode cX9_findsRange 220 = .ok (.lconst 0, 1) := by decide +kernel
theorem dX9_findsRange_221 : decode cX9_findsRange 221 = .ok (.goto 4, 3) := by decide +kernel
theorem dX9_findsRange_224 : decode cX9_findsRange 224 = .ok (.lconst 1, 1) := by decide +kernel
theorem dX9_findsRange_225 : decode cX9_findsRange 225 = .ok (.invokevirtual 184, 3) := by decide +kernel
theorem dX9_findsRange_228 : decode cX9_findsRange 228 = .ok (.goto 15, 3) := by decide +kernel
theorem dX9_findsRange_231 : decode cX9_findsRange 231 = .ok (.aload_n 0, 1) := by decide +kernel
theorem dX9_findsRange_232 : decode cX9_findsRange 232 = .ok (.iload_n 2, 1) := by decide +kernel
theorem dX9_findsRange_233 : decode cX9_findsRange 233 = .ok (.iload_n 3, 1) := by decide +kernel
theorem dX9_findsRange_234 : decode cX9_findsRange 234 = .ok (.aload_n 0, 1) := by decide +kernel
theorem dX9_findsRange_235 : decode cX9_findsRange 235 = .ok (.getfield 19, 3) := by decide +kernel
theorem dX9_findsRange_238 : decode cX9_findsRange 238 = .ok (.iload_n 1, 1) := by decide +kernel
theorem dX9_findsRange_239 : decode cX9_findsRange 239 = .ok (.iaload, 1) := by decide +kernel
theorem dX9_findsRange_240 : decode cX9_findsRange 240 = .ok (.invokevirtual 201, 3) := by decide +kernel
theorem dX9_findsRange_243 : decode cX9_findsRange 243 = .ok (.aload_n 0, 1) := by decide +kernel
theorem dX9_findsRange_244 : decode cX9_findsRange 244 = .ok (.getfield 37, 3) := by decide +kernel
theorem dX9_findsRange_247 : decode cX9_findsRange 247 = .ok (.iload_n 1, 1) := by decide +kernel
theorem dX9_findsRange_248 : decode cX9_findsRange 248 = .ok (.aload_n 0, 1) := by decide +kernel
theorem dX9_findsRange_249 : decode cX9_findsRange 249 = .ok (.getfield 154, 3) := by decide +kernel
theorem dX9_findsRange_252 : decode cX9_findsRange 252 = .ok (.lastore, 1) := by decide +kernel
theorem dX9_findsRange_253 : decode cX9_findsRange 253 = .ok (.aload_n 0, 1) := by decide +kernel
theorem dX9_findsRange_254 : decode cX9_findsRange 254 = .ok (.getfield 41, 3) := by decide +kernel
theorem dX9_findsRange_257 : decode cX9_findsRange 257 = .ok (.iload_n 1, 1) := by decide +kernel
theorem dX9_findsRange_258 : decode cX9_findsRange 258 = .ok (.aload_n 0, 1) := by decide +kernel
theorem dX9_findsRange_259 : decode cX9_findsRange 259 = .ok (.getfield 158, 3) := by decide +kernel
theorem dX9_findsRange_262 : decode cX9_findsRange 262 = .ok (.lastore, 1) := by decide +kernel
theorem dX9_findsRange_263 : decode cX9_findsRange 263 = .ok (.return_, 1) := by decide +kernel
theorem dX9_widens_0 : decode cX9_widens 0 = .ok (.aload_n 0, 1) := by decide +kernel
theorem dX9_widens_1 : decode cX9_widens 1 = .ok (.getfield 37, 3) := by decide +kernel
theorem dX9_widens_4 : decode cX9_widens 4 = .ok (.iload_n 1, 1) := by decide +kernel
theorem dX9_widens_5 : decode cX9_widens 5 = .ok (.laload, 1) := by decide +kernel
theorem dX9_widens_6 : decode cX9_widens 6 = .ok (.aload_n 0, 1) := by decide +kernel
theorem dX9_widens_7 : decode cX9_widens 7 = .ok (.getfield 37, 3) := by decide +kernel
theorem dX9_widens_10 : decode cX9_widens 10 = .ok (.aload_n 0, 1) := by decide +kernel
theorem dX9_widens_11 : decode cX9_widens 11 = .ok (.getfield 22, 3) := by decide +kernel
theorem dX9_widens_14 : decode cX9_widens 14 = .ok (.iload_n 1, 1) := by decide +kernel
theorem dX9_widens_15 : decode cX9_widens 15 = .ok (.iaload, 1) := by decide +kernel
theorem dX9_widens_16 : decode cX9_widens 16 = .ok (.laload, 1) := by decide +kernel
theorem dX9_widens_17 : decode cX9_widens 17 = .ok (.invokestatic 169, 3) := by decide +kernel
theorem dX9_widens_20 : decode cX9_widens 20 = .ok (.lstore_n 2, 1) := by decide +kernel
theorem dX9_widens_21 : decode cX9_widens 21 = .ok (.aload_n 0, 1) := by decide +kernel
theorem dX9_widens_22 : decode cX9_widens 22 = .ok (.getfield 41, 3) := by decide +kernel
theorem dX9_widens_25 : decode cX9_widens 25 = .ok (.iload_n 1, 1) := by decide +kernel
theorem dX9_widens_26 : decode cX9_widens 26 = .ok (.laload, 1) := by decide +kernel
theorem dX9_widens_27 : decode cX9_widens 27 = .ok (.aload_n 0, 1) := by decide +kernel
theorem dX9_widens_28 : decode cX9_widens 28 = .ok (.getfield 41, 3) := by decide +kernel
theorem dX9_widens_31 : decode cX9_widens 31 = .ok (.aload_n 0, 1) := by decide +kernel
theorem dX9_widens_32 : decode cX9_widens 32 = .ok (.getfield 22, 3) := by decide +kernel
theorem dX9_widens_35 : decode cX9_widens 35 = .ok (.iload_n 1, 1) := by decide +kernel
theorem dX9_widens_36 : decode cX9_widens 36 = .ok (.iaload, 1) := by decide +kernel
theorem dX9_widens_37 : decode cX9_widens 37 = .ok (.laload, 1) := by decide +kernel
theorem dX9_widens_38 : decode cX9_widens 38 = .ok (.invokestatic 173, 3) := by decide +kernel
theorem dX9_widens_41 : decode cX9_widens 41 = .ok (.lstore 4, 2) := by decide +kernel
theorem dX9_widens_43 : decode cX9_widens 43 = .ok (.aload_n 0, 1) := by decide +kernel
theorem dX9_widens_44 : decode cX9_widens 44 = .ok (.getfield 204, 3) := by decide +kernel
theorem dX9_widens_47 : decode cX9_widens 47 = .ok (.iconst 4, 1) := by decide +kernel
theorem dX9_widens_48 : decode cX9_widens 48 = .ok (.if_icmp .lt 29, 3) := by decide +kernel
theorem dX9_widens_51 : decode cX9_widens 51 = .ok (.lload_n 2, 1) := by decide +kernel
theorem dX9_widens_52 : decode cX9_widens 52 = .ok (.aload_n 0, 1) := by decide +kernel
theorem dX9_widens_53 : decode cX9_widens 53 = .ok (.getfield 37, 3) := by decide +kernel
theorem dX9_widens_56 : decode cX9_widens 56 = .ok (.iload_n 1, 1) := by decide +kernel
theorem dX9_widens_57 : decode cX9_widens 57 = .ok (.laload, 1) := by decide +kernel
theorem dX9_widens_58 : decode cX9_widens 58 = .ok (.lcmp, 1) := by decide +kernel
theorem dX9_widens_59 : decode cX9_widens 59 = .ok (.ifCond .ge 18, 3) := by decide +kernel
theorem dX9_widens_62 : decode cX9_widens 62 = .ok (.lload_n 2, 1) := by decide +kernel
theorem dX9_widens_63 : decode cX9_widens 63 = .ok (.lconst 0, 1) := by decide +kernel
theorem dX9_widens_64 : decode cX9_widens 64 = .ok (.lcmp, 1) := by decide +kernel
theorem dX9_widens_65 : decode cX9_widens 65 = .ok (.ifCond .lt 7, 3) := by decide +kernel
theorem dX9_widens_68 : decode cX9_widens 68 = .ok (.lconst 0, 1) := by decide +kernel
theorem dX9_widens_69 : decode cX9_widens 69 = .ok (.goto 7, 3) := by decide +kernel
theorem dX9_widens_72 : decode cX9_widens 72 = .ok (.lload_n 2, 1) := by decide +kernel
theorem dX9_widens_73 : decode cX9_widens 73 = .ok (.invokestatic 191, 3) := by decide +kernel
theorem dX9_widens_76 : decode cX9_widens 76 = .ok (.lstore_n 2, 1) := by decide +kernel
theorem dX9_widens_77 : decode cX9_widens 77 = .ok (.aload_n 0, 1) := by decide +kernel
theorem dX9_widens_78 : decode cX9_widens 78 = .ok (.getfield 204, 3) := by decide +kernel
theorem dX9_widens_81 : decode cX9_widens 81 = .ok (.iconst 4, 1) := by decide +kernel
theorem dX9_widens_82 : decode cX9_widens 82 = .ok (.if_icmp .lt 22, 3) := by decide +kernel
theorem dX9_widens_85 : decode cX9_widens 85 = .ok (.lload 4, 2) := by decide +kernel
theorem dX9_widens_87 : decode cX9_widens 87 = .ok (.aload_n 0, 1) := by decide +kernel
theorem dX9_widens_88 : decode cX9_widens 88 = .ok (.getfield 41, 3) := by decide +kernel
theorem dX9_widens_91 : decode cX9_widens 91 = .ok (.iload_n 1, 1) := by decide +kernel
theorem dX9_widens_92 : decode cX9_widens 92 = .ok (.laload, 1) := by decide +kernel
theorem dX9_widens_93 : decode cX9_widens 93 = .ok (.lcmp, 1) := by decide +kernel
theorem dX9_widens_94 : decode cX9_widens 94 = .ok (.ifCond .le 10, 3) := by decide +kernel
theorem dX9_widens_97 : decode cX9_widens 97 = .ok (.lload 4, 2) := by decide +kernel
theorem dX9_widens_99 : decode cX9_widens 99 = .ok (.invokestatic 187, 3) := by decide +kernel
theorem dX9_widens_102 : decode cX9_widens 102 = .ok (.lstore 4, 2) := by decide +kernel
theorem dX9_widens_104 : decode cX9_widens 104 = .ok (.lload_n 2, 1) := by decide +kernel
theorem dX9_widens_105 : decode cX9_widens 105 = .ok (.aload_n 0, 1) := by decide +kernel
theorem dX9_widens_106 : decode cX9_widens 106 = .ok (.getfield 37, 3) := by decide +kernel
theorem dX9_widens_109 : decode cX9_widens 109 = .ok (.iload_n 1, 1) := by decide +kernel
theorem dX9_widens_110 : decode cX9_widens 110 = .ok (.laload, 1) := by decide +kernel
theorem dX9_widens_111 : decode cX9_widens 111 = .ok (.lcmp, 1) := by decide +kernel
theorem dX9_widens_112 : decode cX9_widens 112 = .ok (.ifCond .ne 15, 3) := by decide +kernel
theorem dX9_widens_115 : decode cX9_widens 115 = .ok (.lload 4, 2) := by decide +kernel
theorem dX9_widens_117 : decode cX9_widens 117 = .ok (.aload_n 0, 1) := by decide +kernel
theorem dX9_widens_118 : decode cX9_widens 118 = .ok (.getfield 41, 3) := by decide +kernel
theorem dX9_widens_121 : decode cX9_widens 121 = .ok (.iload_n 1, 1) := by decide +kernel
theorem dX9_widens_122 : decode cX9_widens 122 = .ok (.laload, 1) := by decide +kernel
theorem dX9_widens_123 : decode cX9_widens 123 = .ok (.lcmp, 1) := by decide +kernel
theorem dX9_widens_124 : decode cX9_widens 124 = .ok (.ifCond .eq 7, 3) := by decide +kernel
theorem dX9_widens_127 : decode cX9_widens 127 = .ok (.iconst 1, 1) := by decide +kernel
theorem dX9_widens_128 : decode cX9_widens 128 = .ok (.goto 4, 3) := by decide +kernel
theorem dX9_widens_131 : decode cX9_widens 131 = .ok (.iconst 0, 1) := by decide +kernel
theorem dX9_widens_132 : decode cX9_widens 132 = .ok (.istore 6, 2) := by decide +kernel
theorem dX9_widens_134 : decode cX9_widens 134 = .ok (.aload_n 0, 1) := by decide +kernel
theorem dX9_widens_135 : decode cX9_widens 135 = .ok (.getfield 37, 3) := by decide +kernel
theorem dX9_widens_138 : decode cX9_widens 138 = .ok (.iload_n 1, 1) := by decide +kernel
theorem dX9_widens_139 : decode cX9_widens 139 = .ok (.lload_n 2, 1) := by decide +kernel
theorem dX9_widens_140 : decode cX9_widens 140 = .ok (.lastore, 1) := by decide +kernel
theorem dX9_widens_141 : decode cX9_widens 141 = .ok (.aload_n 0, 1) := by decide +kernel
theorem dX9_widens_142 : decode cX9_widens 142 = .ok (.getfield 41, 3) := by decide +kernel
theorem dX9_widens_145 : decode cX9_widens 145 = .ok (.iload_n 1, 1) := by decide +kernel
theorem dX9_widens_146 : decode cX9_widens 146 = .ok (.lload 4, 2) := by decide +kernel
theorem dX9_widens_148 : decode cX9_widens 148 = .ok (.lastore, 1) := by decide +kernel
theorem dX9_widens_149 : decode cX9_widens 149 = .ok (.iload 6, 2) := by decide +kernel
theorem dX9_widens_151 : decode cX9_widens 151 = .ok (.ireturn, 1) := by decide +kernel
theorem dX9_findRanges_0 : decode cX9_findRanges 0 = .ok (.iconst 0, 1) := by decide +kernel
theorem dX9_findRanges_1 : decode cX9_findRanges 1 = .ok (.istore_n 1, 1) := by decide +kernel
theorem dX9_findRanges_2 : decode cX9_findRanges 2 = .ok (.iload_n 1, 1) := by decide +kernel
theorem dX9_findRanges_3 : decode cX9_findRanges 3 = .ok (.aload_n 0, 1) := by decide +kernel
theorem dX9_findRanges_4 : decode cX9_findRanges 4 = .ok (.getfield 102, 3) := by decide +kernel
theorem dX9_findRanges_7 : decode cX9_findRanges 7 = .ok (.if_icmp .ge 35, 3) := by decide +kernel
theorem dX9_findRanges_10 : decode cX9_findRanges 10 = .ok (.aload_n 0, 1) := by decide +kernel
theorem dX9_findRanges_11 : decode cX9_findRanges 11 = .ok (.getfield 37, 3) := by decide +kernel
theorem dX9_findRanges_14 : decode cX9_findRanges 14 = .ok (.iload_n 1, 1) := by decide +kernel
theorem dX9_findRanges_15 : decode cX9_findRanges 15 = .ok (.aload_n 0, 1) := by decide +kernel
theorem dX9_findRanges_16 : decode cX9_findRanges 16 = .ok (.getfield 13, 3) := by decide +kernel
theorem dX9_findRanges_19 : decode cX9_findRanges 19 = .ok (.iload_n 1, 1) := by decide +kernel
theorem dX9_findRanges_20 : decode cX9_findRanges 20 = .ok (.iaload, 1) := by decide +kernel
theorem dX9_findRanges_21 : decode cX9_findRanges 21 = .ok (.i2l, 1) := by decide +kernel
theorem dX9_findRanges_22 : decode cX9_findRanges 22 = .ok (.lastore, 1) := by decide +kernel
theorem dX9_findRanges_23 : decode cX9_findRanges 23 = .ok (.aload_n 0, 1) := by decide +kernel
theorem dX9_findRanges_24 : decode cX9_findRanges 24 = .ok (.getfield 41, 3) := by decide +kernel
theorem dX9_findRanges_27 : decode cX9_findRanges 27 = .ok (.iload_n 1, 1) := by decide +kernel
theorem dX9_findRanges_28 : decode cX9_findRanges 28 = .ok (.aload_n 0, 1) := by decide +kernel
theorem dX9_findRanges_29 : decode cX9_findRanges 29 = .ok (.getfield 13, 3) := by decide +kernel
theorem dX9_findRanges_32 : decode cX9_findRanges 32 = .ok (.iload_n 1, 1) := by decide +kernel
theorem dX9_findRanges_33 : decode cX9_findRanges 33 = .ok (.iaload, 1) := by decide +kernel
theorem dX9_findRanges_34 : decode cX9_findRanges 34 = .ok (.i2l, 1) := by decide +kernel
theorem dX9_findRanges_35 : decode cX9_findRanges 35 = .ok (.lastore, 1) := by decide +kernel
theorem dX9_findRanges_36 : decode cX9_findRanges 36 = .ok (.iinc 1 1, 3) := by decide +kernel
theorem dX9_findRanges_39 : decode cX9_findRanges 39 = .ok (.goto (-37), 3) := by decide +kernel
theorem dX9_findRanges_42 : decode cX9_findRanges 42 = .ok (.aload_n 0, 1) := by decide +kernel
theorem dX9_findRanges_43 : decode cX9_findRanges 43 = .ok (.iconst 0, 1) := by decide +kernel
theorem dX9_findRanges_44 : decode cX9_findRanges 44 = .ok (.putfield 204, 3) := by decide +kernel
theorem dX9_findRanges_47 : decode cX9_findRanges 47 = .ok (.iconst 1, 1) := by decide +kernel
theorem dX9_findRanges_48 : decode cX9_findRanges 48 = .ok (.istore_n 1, 1) := by decide +kernel
theorem dX9_findRanges_49 : decode cX9_findRanges 49 = .ok (.iload_n 1, 1) := by decide +kernel
theorem dX9_findRanges_50 : decode cX9_findRanges 50 = .ok (.ifCond .eq 85, 3) := by decide +kernel
theorem dX9_findRanges_53 : decode cX9_findRanges 53 = .ok (.aload_n 0, 1) := by decide +kernel
theorem dX9_findRanges_54 : decode cX9_findRanges 54 = .ok (.dup, 1) := by decide +kernel
theorem dX9_findRanges_55 : decode cX9_findRanges 55 = .ok (.getfield 204, 3) := by decide +kernel
theorem dX9_findRanges_58 : decode cX9_findRanges 58 = .ok (.iconst 1, 1) := by decide +kernel
theorem dX9_findRanges_59 : decode cX9_findRanges 59 = .ok (.iadd, 1) := by decide +kernel
theorem dX9_findRanges_60 : decode cX9_findRanges 60 = .ok (.putfield 204, 3) := by decide +kernel
theorem dX9_findRanges_63 : decode cX9_findRanges 63 = .ok (.iconst 0, 1) := by decide +kernel
theorem dX9_findRanges_64 : decode cX9_findRanges 64 = .ok (.istore_n 1, 1) := by decide +kernel
theorem dX9_findRanges_65 : decode cX9_findRanges 65 = .ok (.iconst 0, 1) := by decide +kernel
theorem dX9_findRanges_66 : decode cX9_findRanges 66 = .ok (.istore_n 2, 1) := by decide +kernel
theorem dX9_findRanges_67 : decode cX9_findRanges 67 = .ok (.iload_n 2, 1) := by decide +kernel
theorem dX9_findRanges_68 : decode cX9_findRanges 68 = .ok (.aload_n 0, 1) := by decide +kernel
theorem dX9_findRanges_69 : decode cX9_findRanges 69 = .ok (.getfield 102, 3) := by decide +kernel
theorem dX9_findRanges_72 : decode cX9_findRanges 72 = .ok (.if_icmp .ge 24, 3) := by decide +kernel
theorem dX9_findRanges_75 : decode cX9_findRanges 75 = .ok (.aload_n 0, 1) := by decide +kernel
theorem dX9_findRanges_76 : decode cX9_findRanges 76 = .ok (.getfield 7, 3) := by decide +kernel
theorem dX9_findRanges_79 : decode cX9_findRanges 79 = .ok (.iload_n 2, 1) := by decide +kernel
theorem dX9_findRanges_80 : decode cX9_findRanges 80 = .ok (.iaload, 1) := by decide +kernel
theorem dX9_findRanges_81 : decode cX9_findRanges 81 = .ok (.iconst 2, 1) := by decide +kernel
theorem dX9_findRanges_82 : decode cX9_findRanges 82 = .ok (.if_icmp .eq 8, 3) := by decide +kernel
theorem dX9_findRanges_85 : decode cX9_findRanges 85 = .ok (.aload_n 0, 1) := by decide +kernel
theorem dX9_findRanges_86 : decode cX9_findRanges 86 = .ok (.iload_n 2, 1) := by decide +kernel
theorem dX9_findRanges_87 : decode cX9_findRanges 87 = .ok (.invokevirtual 207, 3) := by decide +kernel
theorem dX9_findRanges_90 : decode cX9_findRanges 90 = .ok (.iinc 2 1, 3) := by decide +kernel
theorem dX9_findRanges_93 : decode cX9_findRanges 93 = .ok (.goto (-26), 3) := by decide +kernel
theorem dX9_findRanges_96 : decode cX9_findRanges 96 = .ok (.iconst 0, 1) := by decide +kernel
theorem dX9_findRanges_97 : decode cX9_findRanges 97 = .ok (.istore_n 2, 1) := by decide +kernel
theorem dX9_findRanges_98 : decode cX9_findRanges 98 = .ok (.iload_n 2, 1) := by decide +kernel
theorem dX9_findRanges_99 : decode cX9_findRanges 99 = .ok (.aload_n 0, 1) := by decide +kernel
theorem dX9_findRanges_100 : decode cX9_findRanges 100 = .ok (.getfield 102, 3) := by decide +kernel
theorem dX9_findRanges_103 : decode cX9_findRanges 103 = .ok (.if_icmp .ge 29, 3) := by decide +kernel
theorem dX9_findRanges_106 : decode cX9_findRanges 106 = .ok (.aload_n 0, 1) := by decide +kernel
theorem dX9_findRanges_107 : decode cX9_findRanges 107 = .ok (.getfield 7, 3) := by decide +kernel
theorem dX9_findRanges_110 : decode cX9_findRanges 110 = .ok (.iload_n 2, 1) := by decide +kernel
theorem dX9_findRanges_111 : decode cX9_findRanges 111 = .ok (.iaload, 1) := by decide +kernel
theorem dX9_findRanges_112 : decode cX9_findRanges 112 = .ok (.iconst 2, 1) := by decide +kernel
theorem dX9_findRanges_113 : decode cX9_findRanges 113 = .ok (.if_icmp .ne 13, 3) := by decide +kernel
theorem dX9_findRanges_116 : decode cX9_findRanges 116 = .ok (.aload_n 0, 1) := by decide +kernel
theorem dX9_findRanges_117 : decode cX9_findRanges 117 = .ok (.iload_n 2, 1) := by decide +kernel
theorem dX9_findRanges_118 : decode cX9_findRanges 118 = .ok (.invokevirtual 211, 3) := by decide +kernel
theorem dX9_findRanges_121 : decode cX9_findRanges 121 = .ok (.ifCond .eq 5, 3) := by decide +kernel
theorem dX9_findRanges_124 : decode cX9_findRanges 124 = .ok (.iconst 1, 1) := by decide +kernel
theorem dX9_findRanges_125 : decode cX9_findRanges 125 = .ok (.istore_n 1, 1) := by decide +kernel
theorem dX9_findRanges_126 : decode cX9_findRanges 126 = .ok (.iinc 2 1, 3) := by decide +kernel
theorem dX9_findRanges_129 : decode cX9_findRanges 129 = .ok (.goto (-31), 3) := by decide +kernel
theorem dX9_findRanges_132 : decode cX9_findRanges 132 = .ok (.goto (-83), 3) := by decide +kernel
theorem dX9_findRanges_135 : decode cX9_findRanges 135 = .ok (.return_, 1) := by decide +kernel
theorem dX9_isRangeSigned_0 : decode cX9_isRangeSigned 0 = .ok (.aload_n 0, 1) := by decide +kernel
theorem dX9_isRangeSigned_1 : decode cX9_isRangeSigned 1 = .ok (.getfield 37, 3) := by decide +kernel
theorem dX9_isRangeSigned_4 : decode cX9_isRangeSigned 4 = .ok (.iload_n 1, 1) := by decide +kernel
theorem dX9_isRangeSigned_5 : decode cX9_isRangeSigned 5 = .ok (.laload, 1) := by decide +kernel
theorem dX9_isRangeSigned_6 : decode cX9_isRangeSigned 6 = .ok (.lconst 0, 1) := by decide +kernel
theorem dX9_isRangeSigned_7 : decode cX9_isRangeSigned 7 = .ok (.lcmp, 1) := by decide +kernel
theorem dX9_isRangeSigned_8 : decode cX9_isRangeSigned 8 = .ok (.ifCond .ge 7, 3) := by decide +kernel
theorem dX9_isRangeSigned_11 : decode cX9_isRangeSigned 11 = .ok (.iconst 1, 1) := by decide +kernel
theorem dX9_isRangeSigned_12 : decode cX9_isRangeSigned 12 = .ok (.goto 4, 3) := by decide +kernel
theorem dX9_isRangeSigned_15 : decode cX9_isRangeSigned 15 = .ok (.iconst 0, 1) := by decide +kernel
theorem dX9_isRangeSigned_16 : decode cX9_isRangeSigned 16 = .ok (.ireturn, 1) := by decide +kernel
theorem dX9_widthOfRange_0 : decode cX9_widthOfRange 0 = .ok (.iconst 1, 1) := by decide +kernel
theorem dX9_widthOfRange_1 : decode cX9_widthOfRange 1 = .ok (.istore_n 2, 1) := by decide +kernel
theorem dX9_widthOfRange_2 : decode cX9_widthOfRange 2 = .ok (.aload_n 0, 1) := by decide +kernel
theorem dX9_widthOfRange_3 : decode cX9_widthOfRange 3 = .ok (.iload_n 1, 1) := by decide +kernel
theorem dX9_widthOfRange_4 : decode cX9_widthOfRange 4 = .ok (.invokevirtual 214, 3) := by decide +kernel
theorem dX9_widthOfRange_7 : decode cX9_widthOfRange 7 = .ok (.ifCond .eq 42, 3) := by decide +kernel
theorem dX9_widthOfRange_10 : decode cX9_widthOfRange 10 = .ok (.aload_n 0, 1) := by decide +kernel
theorem dX9_widthOfRange_11 : decode cX9_widthOfRange 11 = .ok (.getfield 37, 3) := by decide +kernel
theorem dX9_widthOfRange_14 : decode cX9_widthOfRange 14 = .ok (.iload_n 1, 1) := by decide +kernel
theorem dX9_widthOfRange_15 : decode cX9_widthOfRange 15 = .ok (.laload, 1) := by decide +kernel
theorem dX9_widthOfRange_16 : decode cX9_widthOfRange 16 = .ok (.lconst 1, 1) := by decide +kernel
theorem dX9_widthOfRange_17 : decode cX9_widthOfRange 17 = .ok (.iload_n 2, 1) := by decide +kernel
theorem dX9_widthOfRange_18 : decode cX9_widthOfRange 18 = .ok (.iconst 1, 1) := by decide +kernel
theorem dX9_widthOfRange_19 : decode cX9_widthOfRange 19 = .ok (.isub, 1) := by decide +kernel
theorem dX9_widthOfRange_20 : decode cX9_widthOfRange 20 = .ok (.lshl, 1) := by decide +kernel
theorem dX9_widthOfRange_21 : decode cX9_widthOfRange 21 = .ok (.lneg, 1) := by decide +kernel
theorem dX9_widthOfRange_22 : decode cX9_widthOfRange 22 = .ok (.lcmp, 1) := by decide +kernel
theorem dX9_widthOfRange_23 : decode cX9_widthOfRange 23 = .ok (.ifCond .lt 20, 3) := by decide +kernel
theorem dX9_widthOfRange_26 : decode cX9_widthOfRange 26 = .ok (.aload_n 0, 1) := by decide +kernel
theorem dX9_widthOfRange_27 : decode cX9_widthOfRange 27 = .ok (.getfield 41, 3) := by decide +kernel
theorem dX9_widthOfRange_30 : decode cX9_widthOfRange 30 = .ok (.iload_n 1, 1) := by decide +kernel
theorem dX9_widthOfRange_31 : decode cX9_widthOfRange 31 = .ok (.laload, 1) := by decide +kernel
theorem dX9_widthOfRange_32 : decode cX9_widthOfRange 32 = .ok (.lconst 1, 1) := by decide +kernel
theorem dX9_widthOfRange_33 : decode cX9_widthOfRange 33 = .ok (.iload_n 2, 1) := by decide +kernel
theorem dX9_widthOfRange_34 : decode cX9_widthOfRange 34 = .ok (.iconst 1, 1) := by decide +kernel
theorem dX9_widthOfRange_35 : decode cX9_widthOfRange 35 = .ok (.isub, 1) := by decide +kernel
theorem dX9_widthOfRange_36 : decode cX9_widthOfRange 36 = .ok (.lshl, 1) := by decide +kernel
theorem dX9_widthOfRange_37 : decode cX9_widthOfRange 37 = .ok (.lconst 1, 1) := by decide +kernel
theorem dX9_widthOfRange_38 : decode cX9_widthOfRange 38 = .ok (.lsub, 1) := by decide +kernel
theorem dX9_widthOfRange_39 : decode cX9_widthOfRange 39 = .ok (.lcmp, 1) := by decide +kernel
theorem dX9_widthOfRange_40 : decode cX9_widthOfRange 40 = .ok (.ifCond .le 28, 3) := by decide +kernel
theorem dX9_widthOfRange_43 : decode cX9_widthOfRange 43 = .ok (.iinc 2 1, 3) := by decide +kernel
theorem dX9_widthOfRange_46 : decode cX9_widthOfRange 46 = .ok (.goto (-36), 3) := by decide +kernel
theorem dX9_widthOfRange_49 : decode cX9_widthOfRange 49 = .ok (.aload_n 0, 1) := by decide +kernel
theorem dX9_widthOfRange_50 : decode cX9_widthOfRange 50 = .ok (.getfield 41, 3) := by decide +kernel
theorem dX9_widthOfRange_53 : decode cX9_widthOfRange 53 = .ok (.iload_n 1, 1) := by decide +kernel
theorem dX9_widthOfRange_54 : decode cX9_widthOfRange 54 = .ok (.laload, 1) := by decide +kernel
theorem dX9_widthOfRange_55 : decode cX9_widthOfRange 55 = .ok (.lconst 1, 1) := by decide +kernel
theorem dX9_widthOfRange_56 : decode cX9_widthOfRange 56 = .ok (.iload_n 2, 1) := by decide +kernel
theorem dX9_widthOfRange_57 : decode cX9_widthOfRange 57 = .ok (.lshl, 1) := by decide +kernel
theorem dX9_widthOfRange_58 : decode cX9_widthOfRange 58 = .ok (.lcmp, 1) := by decide +kernel
theorem dX9_widthOfRange_59 : decode cX9_widthOfRange 59 = .ok (.ifCond .lt 9, 3) := by decide +kernel
theorem dX9_widthOfRange_62 : decode cX9_widthOfRange 62 = .ok (.iinc 2 1, 3) := by decide +kernel
theorem dX9_widthOfRange_65 : decode cX9_widthOfRange 65 = .ok (.goto (-16), 3) := by decide +kernel
theorem dX9_widthOfRange_68 : decode cX9_widthOfRange 68 = .ok (.iload_n 2, 1) := by decide +kernel
theorem dX9_widthOfRange_69 : decode cX9_widthOfRange 69 = .ok (.ireturn, 1) := by decide +kernel
theorem dX9_asks_0 : decode cX9_asks 0 = .ok (.aload_n 0, 1) := by decide +kernel
theorem dX9_asks_1 : decode cX9_asks 1 = .ok (.getfield 44, 3) := by decide +kernel
theorem dX9_asks_4 : decode cX9_asks 4 = .ok (.iload_n 1, 1) := by decide +kernel
theorem dX9_asks_5 : decode cX9_asks 5 = .ok (.iaload, 1) := by decide +kernel
theorem dX9_asks_6 : decode cX9_asks 6 = .ok (.istore_n 3, 1) := by decide +kernel
theorem dX9_asks_7 : decode cX9_asks 7 = .ok (.iload_n 3, 1) := by decide +kernel
theorem dX9_asks_8 : decode cX9_asks 8 = .ok (.bipush 32, 2) := by decide +kernel
theorem dX9_asks_10 : decode cX9_asks 10 = .ok (.if_icmp .ne 7, 3) := by decide +kernel
theorem dX9_asks_13 : decode cX9_asks 13 = .ok (.iload_n 2, 1) := by decide +kernel
theorem dX9_asks_14 : decode cX9_asks 14 = .ok (.goto 10, 3) := by decide +kernel
theorem dX9_asks_17 : decode cX9_asks 17 = .ok (.iload_n 2, 1) := by decide +kernel
theorem dX9_asks_18 : decode cX9_asks 18 = .ok (.iconst 1, 1) := by decide +kernel
theorem dX9_asks_19 : decode cX9_asks 19 = .ok (.iload_n 3, 1) := by decide +kernel
theorem dX9_asks_20 : decode cX9_asks 20 = .ok (.ishl, 1) := by decide +kernel
theorem dX9_asks_21 : decode cX9_asks 21 = .ok (.iconst 1, 1) := by decide +kernel
theorem dX9_asks_22 : decode cX9_asks 22 = .ok (.isub, 1) := by decide +kernel
theorem dX9_asks_23 : decode cX9_asks 23 = .ok (.iand, 1) := by decide +kernel
theorem dX9_asks_24 : decode cX9_asks 24 = .ok (.istore 4, 2) := by decide +kernel
theorem dX9_asks_26 : decode cX9_asks 26 = .ok (.aload_n 0, 1) := by decide +kernel
theorem dX9_asks_27 : decode cX9_asks 27 = .ok (.iload_n 1, 1) := by decide +kernel
theorem dX9_asks_28 : decode cX9_asks 28 = .ok (.invokevirtual 214, 3) := by decide +kernel
theorem dX9_asks_31 : decode cX9_asks 31 = .ok (.ifCond .eq 21, 3) := by decide +kernel
theorem dX9_asks_34 : decode cX9_asks 34 = .ok (.iload_n 2, 1) := by decide +kernel
theorem dX9_asks_35 : decode cX9_asks 35 = .ok (.iload_n 3, 1) := by decide +kernel
theorem dX9_asks_36 : decode cX9_asks 36 = .ok (.iconst 1, 1) := by decide +kernel
theorem dX9_asks_37 : decode cX9_asks 37 = .ok (.isub, 1) := by decide +kernel
theorem dX9_asks_38 : decode cX9_asks 38 = .ok (.iushr, 1) := by decide +kernel
theorem dX9_asks_39 : decode cX9_asks 39 = .ok (.ifCond .eq 13, 3) := by decide +kernel
theorem dX9_asks_42 : decode cX9_asks 42 = .ok (.iload 4, 2) := by decide +kernel
theorem dX9_asks_44 : decode cX9_asks 44 = .ok (.iconst 1, 1) := by decide +kernel
theorem dX9_asks_45 : decode cX9_asks 45 = .ok (.iload_n 3, 1) := by decide +kernel
theorem dX9_asks_46 : decode cX9_asks 46 = .ok (.iconst 1, 1) := by decide +kernel
theorem dX9_asks_47 : decode cX9_asks 47 = .ok (.isub, 1) := by decide +kernel
theorem dX9_asks_48 : decode cX9_asks 48 = .ok (.ishl, 1) := by decide +kernel
theorem dX9_asks_49 : decode cX9_asks 49 = .ok (.ior, 1) := by decide +kernel
theorem dX9_asks_50 : decode cX9_asks 50 = .ok (.istore 4, 2) := by decide +kernel
theorem dX9_asks_52 : decode cX9_asks 52 = .ok (.iload 4, 2) := by decide +kernel
theorem dX9_asks_54 : decode cX9_asks 54 = .ok (.aload_n 0, 1) := by decide +kernel
theorem dX9_asks_55 : decode cX9_asks 55 = .ok (.getfield 47, 3) := by decide +kernel
theorem dX9_asks_58 : decode cX9_asks 58 = .ok (.iload_n 1, 1) := by decide +kernel
theorem dX9_asks_59 : decode cX9_asks 59 = .ok (.iaload, 1) := by decide +kernel
theorem dX9_asks_60 : decode cX9_asks 60 = .ok (.iconst (-1), 1) := by decide +kernel
theorem dX9_asks_61 : decode cX9_asks 61 = .ok (.ixor, 1) := by decide +kernel
theorem dX9_asks_62 : decode cX9_asks 62 = .ok (.iand, 1) := by decide +kernel
theorem dX9_asks_63 : decode cX9_asks 63 = .ok (.ifCond .eq 7, 3) := by decide +kernel
theorem dX9_asks_66 : decode cX9_asks 66 = .ok (.iconst 1, 1) := by decide +kernel
theorem dX9_asks_67 : decode cX9_asks 67 = .ok (.goto 4, 3) := by decide +kernel
theorem dX9_asks_70 : decode cX9_asks 70 = .ok (.iconst 0, 1) := by decide +kernel
theorem dX9_asks_71 : decode cX9_asks 71 = .ok (.istore 5, 2) := by decide +kernel
theorem dX9_asks_73 : decode cX9_asks 73 = .ok (.aload_n 0, 1) := by decide +kernel
theorem dX9_asks_74 : decode cX9_asks 74 = .ok (.getfield 47, 3) := by decide +kernel
theorem dX9_asks_77 : decode cX9_asks 77 = .ok (.iload_n 1, 1) := by decide +kernel
theorem dX9_asks_78 : decode cX9_asks 78 = .ok (.dup2, 1) := by decide +kernel
theorem dX9_asks_79 : decode cX9_asks 79 = .ok (.iaload, 1) := by decide +kernel
theorem dX9_asks_80 : decode cX9_asks 80 = .ok (.iload 4, 2) := by decide +kernel
theorem dX9_asks_82 : decode cX9_asks 82 = .ok (.ior, 1) := by decide +kernel
theorem dX9_asks_83 : decode cX9_asks 83 = .ok (.iastore, 1) := by decide +kernel
theorem dX9_asks_84 : decode cX9_asks 84 = .ok (.iload 5, 2) := by decide +kernel
theorem dX9_asks_86 : decode cX9_asks 86 = .ok (.ireturn, 1) := by decide +kernel
theorem dX9_highest_0 : decode cX9_highest 0 = .ok (.bipush 31, 2) := by decide +kernel
theorem dX9_highest_2 : decode cX9_highest 2 = .ok (.istore_n 1, 1) := by decide +kernel
theorem dX9_highest_3 : decode cX9_highest 3 = .ok (.iload_n 1, 1) := by decide +kernel
theorem dX9_highest_4 : decode cX9_highest 4 = .ok (.ifCond .le 17, 3) := by decide +kernel
theorem dX9_highest_7 : decode cX9_highest 7 = .ok (.iload_n 0, 1) := by decide +kernel
theorem dX9_highest_8 : decode cX9_highest 8 = .ok (.iload_n 1, 1) := by decide +kernel
theorem dX9_highest_9 : decode cX9_highest 9 = .ok (.iushr, 1) := by decide +kernel
theorem dX9_highest_10 : decode cX9_highest 10 = .ok (.iconst 1, 1) := by decide +kernel
theorem dX9_highest_11 : decode cX9_highest 11 = .ok (.iand, 1) := by decide +kernel
theorem dX9_highest_12 : decode cX9_highest 12 = .ok (.ifCond .ne 9, 3) := by decide +kernel
theorem dX9_highest_15 : decode cX9_highest 15 = .ok (.iinc 1 (-1), 3) := by decide +kernel
theorem dX9_highest_18 : decode cX9_highest 18 = .ok (.goto (-15), 3) := by decide +kernel
theorem dX9_highest_21 : decode cX9_highest 21 = .ok (.iload_n 1, 1) := by decide +kernel
theorem dX9_highest_22 : decode cX9_highest 22 = .ok (.ireturn, 1) := by decide +kernel
theorem dX9_asksLogic_0 : decode cX9_asksLogic 0 = .ok (.aload_n 0, 1) := by decide +kernel
theorem dX9_asksLogic_1 : decode cX9_asksLogic 1 = .ok (.getfield 13, 3) := by decide +kernel
theorem dX9_asksLogic_4 : decode cX9_asksLogic 4 = .ok (.iload_n 1, 1) := by decide +kernel
theorem dX9_asksLogic_5 : decode cX9_asksLogic 5 = .ok (.iaload, 1) := by decide +kernel
theorem dX9_asksLogic_6 : decode cX9_asksLogic 6 = .ok (.istore_n 3, 1) := by decide +kernel
theorem dX9_asksLogic_7 : decode cX9_asksLogic 7 = .ok (.aload_n 0, 1) := by decide +kernel
theorem dX9_asksLogic_8 : decode cX9_asksLogic 8 = .ok (.getfield 16, 3) := by decide +kernel
theorem dX9_asksLogic_11 : decode cX9_asksLogic 11 = .ok (.iload_n 1, 1) := by decide +kernel
theorem dX9_asksLogic_12 : decode cX9_asksLogic 12 = .ok (.iaload, 1) := by decide +kernel
theorem dX9_asksLogic_13 : decode cX9_asksLogic 13 = .ok (.istore 4, 2) := by decide +kernel
theorem dX9_asksLogic_15 : decode cX9_asksLogic 15 = .ok (.aload_n 0, 1) := by decide +kernel
theorem dX9_asksLogic_16 : decode cX9_asksLogic 16 = .ok (.getfield 7, 3) := by decide +kernel
theorem dX9_asksLogic_19 : decode cX9_asksLogic 19 = .ok (.iload_n 1, 1) := by decide +kernel
theorem dX9_asksLogic_20 : decode cX9_asksLogic 20 = .ok (.iaload, 1) := by decide +kernel
theorem dX9_asksLogic_21 : decode cX9_asksLogic 21 = .ok (.bipush 6, 2) := by decide +kernel
theorem dX9_asksLogic_23 : decode cX9_asksLogic 23 = .ok (.if_icmp .ne 26, 3) := by decide +kernel
theorem dX9_asksLogic_26 : decode cX9_asksLogic 26 = .ok (.aload_n 0, 1) := by decide +kernel
theorem dX9_asksLogic_27 : decode cX9_asksLogic 27 = .ok (.getfield 7, 3) := by decide +kernel
theorem dX9_asksLogic_30 : decode cX9_asksLogic 30 = .ok (.iload 4, 2) := by decide +kernel
theorem dX9_asksLogic_32 : decode cX9_asksLogic 32 = .ok (.iaload, 1) := by decide +kernel
theorem dX9_asksLogic_33 : decode cX9_asksLogic 33 = .ok (.iconst 1, 1) := by decide +kernel
theorem dX9_asksLogic_34 : decode cX9_asksLogic 34 = .ok (.if_icmp .ne 15, 3) := by decide +kernel
theorem dX9_asksLogic_37 : decode cX9_asksLogic 37 = .ok (.iload_n 2, 1) := by decide +kernel
theorem dX9_asksLogic_38 : decode cX9_asksLogic 38 = .ok (.aload_n 0, 1) := by decide +kernel
theorem dX9_asksLogic_39 : decode cX9_asksLogic 39 = .ok (.getfield 13, 3) := by decide +kernel
theorem dX9_asksLogic_42 : decode cX9_asksLogic 42 = .ok (.iload 4, 2) := by decide +kernel
theorem dX9_asksLogic_44 : decode cX9_asksLogic 44 = .ok (.iaload, 1) := by decide +kernel
theorem dX9_asksLogic_45 : decode cX9_asksLogic 45 = .ok (.iand, 1) := by decide +kernel
theorem dX9_asksLogic_46 : decode cX9_asksLogic 46 = .ok (.goto 4, 3) := by decide +kernel
theorem dX9_asksLogic_49 : decode cX9_asksLogic 49 = .ok (.iload_n 2, 1) := by decide +kernel
theorem dX9_asksLogic_50 : decode cX9_asksLogic 50 = .ok (.istore 5, 2) := by decide +kernel
theorem dX9_asksLogic_52 : decode cX9_asksLogic 52 = .ok (.aload_n 0, 1) := by decide +kernel
theorem dX9_asksLogic_53 : decode cX9_asksLogic 53 = .ok (.getfield 7, 3) := by decide +kernel
theorem dX9_asksLogic_56 : decode cX9_asksLogic 56 = .ok (.iload_n 1, 1) := by decide +kernel
theorem dX9_asksLogic_57 : decode cX9_asksLogic 57 = .ok (.iaload, 1) := by decide +kernel
theorem dX9_asksLogic_58 : decode cX9_asksLogic 58 = .ok (.bipush 6, 2) := by decide +kernel
theorem dX9_asksLogic_60 : decode cX9_asksLogic 60 = .ok (.if_icmp .ne 24, 3) := by decide +kernel
theorem dX9_asksLogic_63 : decode cX9_asksLogic 63 = .ok (.aload_n 0, 1) := by decide +kernel
theorem dX9_asksLogic_64 : decode cX9_asksLogic 64 = .ok (.getfield 7, 3) := by decide +kernel
theorem dX9_asksLogic_67 : decode cX9_asksLogic 67 = .ok (.iload_n 3, 1) := by decide +kernel
theorem dX9_asksLogic_68 : decode cX9_asksLogic 68 = .ok (.iaload, 1) := by decide +kernel
theorem dX9_asksLogic_69 : decode cX9_asksLogic 69 = .ok (.iconst 1, 1) := by decide +kernel
theorem dX9_asksLogic_70 : decode cX9_asksLogic 70 = .ok (.if_icmp .ne 14, 3) := by decide +kernel
theorem dX9_asksLogic_73 : decode cX9_asksLogic 73 = .ok (.iload_n 2, 1) := by decide +kernel
theorem dX9_asksLogic_74 : decode cX9_asksLogic 74 = .ok (.aload_n 0, 1) := by decide +kernel
theorem dX9_asksLogic_75 : decode cX9_asksLogic 75 = .ok (.getfield 13, 3) := by decide +kernel
theorem dX9_asksLogic_78 : decode cX9_asksLogic 78 = .ok (.iload_n 3, 1) := by decide +kernel
theorem dX9_asksLogic_79 : decode cX9_asksLogic 79 = .ok (.iaload, 1) := by decide +kernel
theorem dX9_asksLogic_80 : decode cX9_asksLogic 80 = .ok (.iand, 1) := by decide +kernel
theorem dX9_asksLogic_81 : decode cX9_asksLogic 81 = .ok (.goto 4, 3) := by decide +kernel
theorem dX9_asksLogic_84 : decode cX9_asksLogic 84 = .ok (.iload_n 2, 1) := by decide +kernel
theorem dX9_asksLogic_85 : decode cX9_asksLogic 85 = .ok (.istore 6, 2) := by decide +kernel
theorem dX9_asksLogic_87 : decode cX9_asksLogic 87 = .ok (.aload_n 0, 1) := by decide +kernel
theorem dX9_asksLogic_88 : decode cX9_asksLogic 88 = .ok (.iload_n 3, 1) := by decide +kernel
theorem dX9_asksLogic_89 : decode cX9_asksLogic 89 = .ok (.iload 5, 2) := by decide +kernel
theorem dX9_asksLogic_91 : decode cX9_asksLogic 91 = .ok (.invokevirtual 217, 3) := by decide +kernel
theorem dX9_asksLogic_94 : decode cX9_asksLogic 94 = .ok (.aload_n 0, 1) := by decide +kernel
theorem dX9_asksLogic_95 : decode cX9_asksLogic 95 = .ok (.iload 4, 2) := by decide +kernel
theorem dX9_asksLogic_97 : decode cX9_asksLogic 97 = .ok (.iload 6, 2) := by decide +kernel
theorem dX9_asksLogic_99 : decode cX9_asksLogic 99 = .ok (.invokevirtual 217, 3) := by decide +kernel
theorem dX9_asksLogic_102 : decode cX9_asksLogic 102 = .ok (.ior, 1) := by decide +kernel
theorem dX9_asksLogic_103 : decode cX9_asksLogic 103 = .ok (.ireturn, 1) := by decide +kernel
theorem dX9_passesOn_0 : decode cX9_passesOn 0 = .ok (.aload_n 0, 1) := by decide +kernel
theorem dX9_passesOn_1 : decode cX9_passesOn 1 = .ok (.getfield 47, 3) := by decide +kernel
theorem dX9_passesOn_4 : decode cX9_passesOn 4 = .ok (.iload_n 1, 1) := by decide +kernel
theorem dX9_passesOn_5 : decode cX9_passesOn 5 = .ok (.iaload, 1) := by decide +kernel
theorem dX9_passesOn_6 : decode cX9_passesOn 6 = .ok (.istore_n 2, 1) := by decide +kernel
theorem dX9_passesOn_7 : decode cX9_passesOn 7 = .ok (.iload_n 2, 1) := by decide +kernel
theorem dX9_passesOn_8 : decode cX9_passesOn 8 = .ok (.ifCond .ne 5, 3) := by decide +kernel
theorem dX9_passesOn_11 : decode cX9_passesOn 11 = .ok (.iconst 0, 1) := by decide +kernel
theorem dX9_passesOn_12 : decode cX9_passesOn 12 = .ok (.ireturn, 1) := by decide +kernel
theorem dX9_passesOn_13 : decode cX9_passesOn 13 = .ok (.aload_n 0, 1) := by decide +kernel
theorem dX9_passesOn_14 : decode cX9_passesOn 14 = .ok (.getfield 7, 3) := by decide +kernel
theorem dX9_passesOn_17 : decode cX9_passesOn 17 = .ok (.iload_n 1, 1) := by decide +kernel
theorem dX9_passesOn_18 : decode cX9_passesOn 18 = .ok (.iaload, 1) := by decide +kernel
theorem dX9_passesOn_19 : decode cX9_passesOn 19 = .ok (.tableswitch 213 0 11 #[61, 61, 63, 75, 75, 75, 123, 123, 123, 130, 149, 189], 61) := by decide +kernel
theorem dX9_passesOn_80 : decode cX9_passesOn 80 = .ok (.iconst 0, 1) := by decide +kernel
theorem dX9_passesOn_81 : decode cX9_passesOn 81 = .ok (.ireturn, 1) := by decide +kernel
theorem dX9_passesOn_82 : decode cX9_passesOn 82 = .ok (.aload_n 0, 1) := by decide +kernel
theorem dX9_passesOn_83 : decode cX9_passesOn 83 = .ok (.aload_n 0, 1) := by decide +kernel
theorem dX9_passesOn_84 : decode cX9_passesOn 84 = .ok (.getfield 22, 3) := by decide +kernel
theorem dX9_passesOn_87 : decode cX9_passesOn 87 = .ok (.iload_n 1, 1) := by decide +kernel
theorem dX9_passesOn_88 : decode cX9_passesOn 88 = .ok (.iaload, 1) := by decide +kernel
theorem dX9_passesOn_89 : decode cX9_passesOn 89 = .ok (.iload_n 2, 1) := by decide +kernel
theorem dX9_passesOn_90 : decode cX9_passesOn 90 = .ok (.invokevirtual 217, 3) := by decide +kernel
theorem dX9_passesOn_93 : decode cX9_passesOn 93 = .ok (.ireturn, 1) := by decide +kernel
theorem dX9_passesOn_94 : decode cX9_passesOn 94 = .ok (.iload_n 2, 1) := by decide +kernel
theorem dX9_passesOn_95 : decode cX9_passesOn 95 = .ok (.invokestatic 220, 3) := by decide +kernel
theorem dX9_passesOn_98 : decode cX9_passesOn 98 = .ok (.bipush 31, 2) := by decide +kernel
theorem dX9_passesOn_100 : decode cX9_passesOn 100 = .ok (.if_icmp .ne 7, 3) := by decide +kernel
theorem dX9_passesOn_103 : decode cX9_passesOn 103 = .ok (.iconst (-1), 1) := by decide +kernel
theorem dX9_passesOn_104 : decode cX9_passesOn 104 = .ok (.goto 13, 3) := by decide +kernel
theorem dX9_passesOn_107 : decode cX9_passesOn 107 = .ok (.iconst 1, 1) := by decide +kernel
theorem dX9_passesOn_108 : decode cX9_passesOn 108 = .ok (.iload_n 2, 1) := by decide +kernel
theorem dX9_passesOn_109 : decode cX9_passesOn 109 = .ok (.invokestatic 220, 3) := by decide +kernel
theorem dX9_passesOn_112 : decode cX9_passesOn 112 = .ok (.iconst 1, 1) := by decide +kernel
theorem dX9_passesOn_113 : decode cX9_passesOn 113 = .ok (.iadd, 1) := by decide +kernel
theorem dX9_passesOn_114 : decode cX9_passesOn 114 = .ok (.ishl, 1) := by decide +kernel
theorem dX9_passesOn_115 : decode cX9_passesOn 115 = .ok (.iconst 1, 1) := by decide +kernel
theorem dX9_passesOn_116 : decode cX9_passesOn 116 = .ok (.isub, 1) := by decide +kernel
theorem dX9_passesOn_117 : decode cX9_passesOn 117 = .ok (.istore_n 3, 1) := by decide +kernel
theorem dX9_passesOn_118 : decode cX9_passesOn 118 = .ok (.aload_n 0, 1) := by decide +kernel
theorem dX9_passesOn_119 : decode cX9_passesOn 119 = .ok (.aload_n 0, 1) := by decide +kernel
theorem dX9_passesOn_120 : decode cX9_passesOn 120 = .ok (.getfield 13, 3) := by decide +kernel
theorem dX9_passesOn_123 : decode cX9_passesOn 123 = .ok (.iload_n 1, 1) := by decide +kernel
theorem dX9_passesOn_124 : decode cX9_passesOn 124 = .ok (.iaload, 1) := by decide +kernel
theorem dX9_passesOn_125 : decode cX9_passesOn 125 = .ok (.iload_n 3, 1) := by decide +kernel
theorem dX9_passesOn_126 : decode cX9_passesOn 126 = .ok (.invokevirtual 217, 3) := by decide +kernel
theorem dX9_passesOn_129 : decode cX9_passesOn 129 = .ok (.aload_n 0, 1) := by decide +kernel
theorem dX9_passesOn_130 : decode cX9_passesOn 130 = .ok (.aload_n 0, 1) := by decide +kernel
theorem dX9_passesOn_131 : decode cX9_passesOn 131 = .ok (.getfield 16, 3) := by decide +kernel
theorem dX9_passesOn_134 : decode cX9_passesOn 134 = .ok (.iload_n 1, 1) := by decide +kernel
theorem dX9_passesOn_135 : decode cX9_passesOn 135 = .ok (.iaload, 1) := by decide +kernel
theorem dX9_passesOn_136 : decode cX9_passesOn 136 = .ok (.iload_n 3, 1) := by decide +kernel
theorem dX9_passesOn_137 : decode cX9_passesOn 137 = .ok (.invokevirtual 217, 3) := by decide +kernel
theorem dX9_passesOn_140 : decode cX9_passesOn 140 = .ok (.ior, 1) := by decide +kernel
theorem dX9_passesOn_141 : decode cX9_passesOn 141 = .ok (.ireturn, 1) := by decide +kernel
theorem dX9_passesOn_142 : decode cX9_passesOn 142 = .ok (.aload_n 0, 1) := by decide +kernel
theorem dX9_passesOn_143 : decode cX9_passesOn 143 = .ok (.iload_n 1, 1) := by decide +kernel
theorem dX9_passesOn_144 : decode cX9_passesOn 144 = .ok (.iload_n 2, 1) := by decide +kernel
theorem dX9_passesOn_145 : decode cX9_passesOn 145 = .ok (.invokevirtual 223, 3) := by decide +kernel
theorem dX9_passesOn_148 : decode cX9_passesOn 148 = .ok (.ireturn, 1) := by decide +kernel
theorem dX9_passesOn_149 : decode cX9_passesOn 149 = .ok (.aload_n 0, 1) := by decide +kernel
theorem dX9_passesOn_150 : decode cX9_passesOn 150 = .ok (.aload_n 0, 1) := by decide +kernel
theorem dX9_passesOn_151 : decode cX9_passesOn 151 = .ok (.getfield 13, 3) := by decide +kernel
theorem dX9_passesOn_154 : decode cX9_passesOn 154 = .ok (.iload_n 1, 1) := by decide +kernel
theorem dX9_passesOn_155 : decode cX9_passesOn 155 = .ok (.iaload, 1) := by decide +kernel
theorem dX9_passesOn_156 : decode cX9_passesOn 156 = .ok (.iload_n 2, 1) := by decide +kernel
theorem dX9_passesOn_157 : decode cX9_passesOn 157 = .ok (.aload_n 0, 1) := by decide +kernel
theorem dX9_passesOn_158 : decode cX9_passesOn 158 = .ok (.getfield 16, 3) := by decide +kernel
theorem dX9_passesOn_161 : decode cX9_passesOn 161 = .ok (.iload_n 1, 1) := by decide +kernel
theorem dX9_passesOn_162 : decode cX9_passesOn 162 = .ok (.iaload, 1) := by decide +kernel
theorem dX9_passesOn_163 : decode cX9_passesOn 163 = .ok (.iushr, 1) := by decide +kernel
theorem dX9_passesOn_164 : decode cX9_passesOn 164 = .ok (.invokevirtual 217, 3) := by decide +kernel
theorem dX9_passesOn_167 : decode cX9_passesOn 167 = .ok (.ireturn, 1) := by decide +kernel
theorem dX9_passesOn_168 : decode cX9_passesOn 168 = .ok (.aload_n 0, 1) := by decide +kernel
theorem dX9_passesOn_169 : decode cX9_passesOn 169 = .ok (.aload_n 0, 1) := by decide +kernel
theorem dX9_passesOn_170 : decode cX9_passesOn 170 = .ok (.getfield 13, 3) := by decide +kernel
theorem dX9_passesOn_173 : decode cX9_passesOn 173 = .ok (.iload_n 1, 1) := by decide +kernel
theorem dX9_passesOn_174 : decode cX9_passesOn 174 = .ok (.iaload, 1) := by decide +kernel
theorem dX9_passesOn_175 : decode cX9_passesOn 175 = .ok (.iload_n 2, 1) := by decide +kernel
theorem dX9_passesOn_176 : decode cX9_passesOn 176 = .ok (.aload_n 0, 1) := by decide +kernel
theorem dX9_passesOn_177 : decode cX9_passesOn 177 = .ok (.getfield 16, 3) := by decide +kernel
theorem dX9_passesOn_180 : decode cX9_passesOn 180 = .ok (.iload_n 1, 1) := by decide +kernel
theorem dX9_passesOn_181 : decode cX9_passesOn 181 = .ok (.iaload, 1) := by decide +kernel
theorem dX9_passesOn_182 : decode cX9_passesOn 182 = .ok (.ishl, 1) := by decide +kernel
theorem dX9_passesOn_183 : decode cX9_passesOn 183 = .ok (.iload_n 2, 1) := by decide +kernel
theorem dX9_passesOn_184 : decode cX9_passesOn 184 = .ok (.bipush 31, 2) := by decide +kernel
theorem dX9_passesOn_186 : decode cX9_passesOn 186 = .ok (.aload_n 0, 1) := by decide +kernel
theorem dX9_passesOn_187 : decode cX9_passesOn 187 = .ok (.getfield 16, 3) := by decide +kernel
theorem dX9_passesOn_190 : decode cX9_passesOn 190 = .ok (.iload_n 1, 1) := by decide +kernel
theorem dX9_passesOn_191 : decode cX9_passesOn 191 = .ok (.iaload, 1) := by decide +kernel
theorem dX9_passesOn_192 : decode cX9_passesOn 192 = .ok (.isub, 1) := by decide +kernel
theorem dX9_passesOn_193 : decode cX9_passesOn 193 = .ok (.iushr, 1) := by decide +kernel
theorem dX9_passesOn_194 : decode cX9_passesOn 194 = .ok (.ifCond .eq 8, 3) := by decide +kernel
theorem dX9_passesOn_197 : decode cX9_passesOn 197 = .ok (.ldc 226, 2) := by decide +kernel
theorem dX9_passesOn_199 : decode cX9_passesOn 199 = .ok (.goto 4, 3) := by decide +kernel
theorem dX9_passesOn_202 : decode cX9_passesOn 202 = .ok (.iconst 0, 1) := by decide +kernel
theorem dX9_passesOn_203 : decode cX9_passesOn 203 = .ok (.ior, 1) := by decide +kernel
theorem dX9_passesOn_204 : decode cX9_passesOn 204 = .ok (.invokevirtual 217, 3) := by decide +kernel
theorem dX9_passesOn_207 : decode cX9_passesOn 207 = .ok (.ireturn, 1) := by decide +kernel
theorem dX9_passesOn_208 : decode cX9_passesOn 208 = .ok (.aload_n 0, 1) := by decide +kernel
theorem dX9_passesOn_209 : decode cX9_passesOn 209 = .ok (.aload_n 0, 1) := by decide +kernel
theorem dX9_passesOn_210 : decode cX9_passesOn 210 = .ok (.getfield 13, 3) := by decide +kernel
theorem dX9_passesOn_213 : decode cX9_passesOn 213 = .ok (.iload_n 1, 1) := by decide +kernel
theorem dX9_passesOn_214 : decode cX9_passesOn 214 = .ok (.iaload, 1) := by decide +kernel
theorem dX9_passesOn_215 : decode cX9_passesOn 215 = .ok (.iconst (-1), 1) := by decide +kernel
theorem dX9_passesOn_216 : decode cX9_passesOn 216 = .ok (.invokevirtual 217, 3) := by decide +kernel
theorem dX9_passesOn_219 : decode cX9_passesOn 219 = .ok (.aload_n 0, 1) := by decide +kernel
theorem dX9_passesOn_220 : decode cX9_passesOn 220 = .ok (.aload_n 0, 1) := by decide +kernel
theorem dX9_passesOn_221 : decode cX9_passesOn 221 = .ok (.getfield 16, 3) := by decide +kernel
theorem dX9_passesOn_224 : decode cX9_passesOn 224 = .ok (.iload_n 1, 1) := by decide +kernel
theorem dX9_passesOn_225 : decode cX9_passesOn 225 = .ok (.iaload, 1) := by decide +kernel
theorem dX9_passesOn_226 : decode cX9_passesOn 226 = .ok (.iconst (-1), 1) := by decide +kernel
theorem dX9_passesOn_227 : decode cX9_passesOn 227 = .ok (.invokevirtual 217, 3) := by decide +kernel
theorem dX9_passesOn_230 : decode cX9_passesOn 230 = .ok (.ior, 1) := by decide +kernel
theorem dX9_passesOn_231 : decode cX9_passesOn 231 = .ok (.ireturn, 1) := by decide +kernel
theorem dX9_passesOn_232 : decode cX9_passesOn 232 = .ok (.aload_n 0, 1) := by decide +kernel
theorem dX9_passesOn_233 : decode cX9_passesOn 233 = .ok (.aload_n 0, 1) := by decide +kernel
theorem dX9_passesOn_234 : decode cX9_passesOn 234 = .ok (.getfield 13, 3) := by decide +kernel
theorem dX9_passesOn_237 : decode cX9_passesOn 237 = .ok (.iload_n 1, 1) := by decide +kernel
theorem dX9_passesOn_238 : decode cX9_passesOn 238 = .ok (.iaload, 1) := by decide +kernel
theorem dX9_passesOn_239 : decode cX9_passesOn 239 = .ok (.iconst (-1), 1) := by decide +kernel
theorem dX9_passesOn_240 : decode cX9_passesOn 240 = .ok (.invokevirtual 217, 3) := by decide +kernel
theorem dX9_passesOn_243 : decode cX9_passesOn 243 = .ok (.aload_n 0, 1) := by decide +kernel
theorem dX9_passesOn_244 : decode cX9_passesOn 244 = .ok (.aload_n 0, 1) := by decide +kernel
theorem dX9_passesOn_245 : decode cX9_passesOn 245 = .ok (.getfield 16, 3) := by decide +kernel
theorem dX9_passesOn_248 : decode cX9_passesOn 248 = .ok (.iload_n 1, 1) := by decide +kernel
theorem dX9_passesOn_249 : decode cX9_passesOn 249 = .ok (.iaload, 1) := by decide +kernel
theorem dX9_passesOn_250 : decode cX9_passesOn 250 = .ok (.iload_n 2, 1) := by decide +kernel
theorem dX9_passesOn_251 : decode cX9_passesOn 251 = .ok (.invokevirtual 217, 3) := by decide +kernel
theorem dX9_passesOn_254 : decode cX9_passesOn 254 = .ok (.ior, 1) := by decide +kernel
theorem dX9_passesOn_255 : decode cX9_passesOn 255 = .ok (.aload_n 0, 1) := by decide +kernel
theorem dX9_passesOn_256 : decode cX9_passesOn 256 = .ok (.aload_n 0, 1) := by decide +kernel
theorem dX9_passesOn_257 : decode cX9_passesOn 257 = .ok (.getfield 19, 3) := by decide +kernel
theorem dX9_passesOn_260 : decode cX9_passesOn 260 = .ok (.iload_n 1, 1) := by decide +kernel
theorem dX9_passesOn_261 : decode cX9_passesOn 261 = .ok (.iaload, 1) := by decide +kernel
theorem dX9_passesOn_262 : decode cX9_passesOn 262 = .ok (.iload_n 2, 1) := by decide +kernel
theorem dX9_passesOn_263 : decode cX9_passesOn 263 = .ok (.invokevirtual 217, 3) := by decide +kernel
theorem dX9_passesOn_266 : decode cX9_passesOn 266 = .ok (.ior, 1) := by decide +kernel
theorem dX9_passesOn_267 : decode cX9_passesOn 267 = .ok (.ireturn, 1) := by decide +kernel
theorem dX9_refreshes_0 : decode cX9_refreshes 0 = .ok (.aload_n 0, 1) := by decide +kernel
theorem dX9_refreshes_1 : decode cX9_refreshes 1 = .ok (.getfield 227, 3) := by decide +kernel
theorem dX9_refreshes_4 : decode cX9_refreshes 4 = .ok (.ifCond .eq 4, 3) := by decide +kernel
theorem dX9_refreshes_7 : decode cX9_refreshes 7 = .ok (.return_, 1) := by decide +kernel
theorem dX9_refreshes_8 : decode cX9_refreshes 8 = .ok (.aload_n 0, 1) := by decide +kernel
theorem dX9_refreshes_9 : decode cX9_refreshes 9 = .ok (.iconst 1, 1) := by decide +kernel
theorem dX9_refreshes_10 : decode cX9_refreshes 10 = .ok (.putfield 227, 3) := by decide +kernel
theorem dX9_refreshes_13 : decode cX9_refreshes 13 = .ok (.aload_n 0, 1) := by decide +kernel
theorem dX9_refreshes_14 : decode cX9_refreshes 14 = .ok (.invokevirtual 231, 3) := by decide +kernel
theorem dX9_refreshes_17 : decode cX9_refreshes 17 = .ok (.iconst 0, 1) := by decide +kernel
theorem dX9_refreshes_18 : decode cX9_refreshes 18 = .ok (.istore_n 1, 1) := by decide +kernel
theorem dX9_refreshes_19 : decode cX9_refreshes 19 = .ok (.iload_n 1, 1) := by decide +kernel
theorem dX9_refreshes_20 : decode cX9_refreshes 20 = .ok (.aload_n 0, 1) := by decide +kernel
theorem dX9_refreshes_21 : decode cX9_refreshes 21 = .ok (.getfield 102, 3) := by decide +kernel
theorem dX9_refreshes_24 : decode cX9_refreshes 24 = .ok (.if_icmp .ge 27, 3) := by decide +kernel
theorem dX9_refreshes_27 : decode cX9_refreshes 27 = .ok (.aload_n 0, 1) := by decide +kernel
theorem dX9_refreshes_28 : decode cX9_refreshes 28 = .ok (.getfield 44, 3) := by decide +kernel
theorem dX9_refreshes_31 : decode cX9_refreshes 31 = .ok (.iload_n 1, 1) := by decide +kernel
theorem dX9_refreshes_32 : decode cX9_refreshes 32 = .ok (.aload_n 0, 1) := by decide +kernel
theorem dX9_refreshes_33 : decode cX9_refreshes 33 = .ok (.iload_n 1, 1) := by decide +kernel
theorem dX9_refreshes_34 : decode cX9_refreshes 34 = .ok (.invokevirtual 234, 3) := by decide +kernel
theorem dX9_refreshes_37 : decode cX9_refreshes 37 = .ok (.iastore, 1) := by decide +kernel
theorem dX9_refreshes_38 : decode cX9_refreshes 38 = .ok (.aload_n 0, 1) := by decide +kernel
theorem dX9_refreshes_39 : decode cX9_refreshes 39 = .ok (.getfield 47, 3) := by decide +kernel
theorem dX9_refreshes_42 : decode cX9_refreshes 42 = .ok (.iload_n 1, 1) := by decide +kernel
theorem dX9_refreshes_43 : decode cX9_refreshes 43 = .ok (.iconst 0, 1) := by decide +kernel
theorem dX9_refreshes_44 : decode cX9_refreshes 44 = .ok (.iastore, 1) := by decide +kernel
theorem dX9_refreshes_45 : decode cX9_refreshes 45 = .ok (.iinc 1 1, 3) := by decide +kernel
theorem dX9_refreshes_48 : decode cX9_refreshes 48 = .ok (.goto (-29), 3) := by decide +kernel
theorem dX9_refreshes_51 : decode cX9_refreshes 51 = .ok (.iconst 0, 1) := by decide +kernel
theorem dX9_refreshes_52 : decode cX9_refreshes 52 = .ok (.istore_n 1, 1) := by decide +kernel
theorem dX9_refreshes_53 : decode cX9_refreshes 53 = .ok (.iload_n 1, 1) := by decide +kernel
theorem dX9_refreshes_54 : decode cX9_refreshes 54 = .ok (.aload_n 0, 1) := by decide +kernel
theorem dX9_refreshes_55 : decode cX9_refreshes 55 = .ok (.getfield 102, 3) := by decide +kernel
theorem dX9_refreshes_58 : decode cX9_refreshes 58 = .ok (.if_icmp .ge 26, 3) := by decide +kernel
theorem dX9_refreshes_61 : decode cX9_refreshes 61 = .ok (.aload_n 0, 1) := by decide +kernel
theorem dX9_refreshes_62 : decode cX9_refreshes 62 = .ok (.getfield 25, 3) := by decide +kernel
theorem dX9_refreshes_65 : decode cX9_refreshes 65 = .ok (.iload_n 1, 1) := by decide +kernel
theorem dX9_refreshes_66 : decode cX9_refreshes 66 = .ok (.iaload, 1) := by decide +kernel
theorem dX9_refreshes_67 : decode cX9_refreshes 67 = .ok (.iconst 1, 1) := by decide +kernel
theorem dX9_refreshes_68 : decode cX9_refreshes 68 = .ok (.if_icmp .ne 10, 3) := by decide +kernel
theorem dX9_refreshes_71 : decode cX9_refreshes 71 = .ok (.aload_n 0, 1) := by decide +kernel
theorem dX9_refreshes_72 : decode cX9_refreshes 72 = .ok (.iload_n 1, 1) := by decide +kernel
theorem dX9_refreshes_73 : decode cX9_refreshes 73 = .ok (.iconst (-1), 1) := by decide +kernel
theorem dX9_refreshes_74 : decode cX9_refreshes 74 = .ok (.invokevirtual 217, 3) := by decide +kernel
theorem dX9_refreshes_77 : decode cX9_refreshes 77 = .ok (.pop, 1) := by decide +kernel
theorem dX9_refreshes_78 : decode cX9_refreshes 78 = .ok (.iinc 1 1, 3) := by decide +kernel
theorem dX9_refreshes_81 : decode cX9_refreshes 81 = .ok (.goto (-28), 3) := by decide +kernel
theorem dX9_refreshes_84 : decode cX9_refreshes 84 = .ok (.iconst 1, 1) := by decide +kernel
theorem dX9_refreshes_85 : decode cX9_refreshes 85 = .ok (.istore_n 1, 1) := by decide +kernel
theorem dX9_refreshes_86 : decode cX9_refreshes 86 = .ok (.iload_n 1, 1) := by decide +kernel
theorem dX9_refreshes_87 : decode cX9_refreshes 87 = .ok (.ifCond .eq 33, 3) := by decide +kernel
theorem dX9_refreshes_90 : decode cX9_refreshes 90 = .ok (.iconst 0, 1) := by decide +kernel
theorem dX9_refreshes_91 : decode cX9_refreshes 91 = .ok (.istore_n 1, 1) := by decide +kernel
theorem dX9_refreshes_92 : decode cX9_refreshes 92 = .ok (.aload_n 0, 1) := by decide +kernel
theorem dX9_refreshes_93 : decode cX9_refreshes 93 = .ok (.getfield 102, 3) := by decide +kernel
theorem dX9_refreshes_96 : decode cX9_refreshes 96 = .ok (.iconst 1, 1) := by decide +kernel
theorem dX9_refreshes_97 : decode cX9_refreshes 97 = .ok (.isub, 1) := by decide +kernel
theorem dX9_refreshes_98 : decode cX9_refreshes 98 = .ok (.istore_n 2, 1) := by decide +kernel
theorem dX9_refreshes_99 : decode cX9_refreshes 99 = .ok (.iload_n 2, 1) := by decide +kernel
theorem dX9_refreshes_100 : decode cX9_refreshes 100 = .ok (.ifCond .lt 17, 3) := by decide +kernel
theorem dX9_refreshes_103 : decode cX9_refreshes 103 = .ok (.aload_n 0, 1) := by decide +kernel
theorem dX9_refreshes_104 : decode cX9_refreshes 104 = .ok (.iload_n 2, 1) := by decide +kernel
theorem dX9_refreshes_105 : decode cX9_refreshes 105 = .ok (.invokevirtual 237, 3) := by decide +kernel
theorem dX9_refreshes_108 : decode cX9_refreshes 108 = .ok (.iload_n 1, 1) := by decide +kernel
theorem dX9_refreshes_109 : decode cX9_refreshes 109 = .ok (.ior, 1) := by decide +kernel
theorem dX9_refreshes_110 : decode cX9_refreshes 110 = .ok (.istore_n 1, 1) := by decide +kernel
theorem dX9_refreshes_111 : decode cX9_refreshes 111 = .ok (.iinc 2 (-1), 3) := by decide +kernel
theorem dX9_refreshes_114 : decode cX9_refreshes 114 = .ok (.goto (-15), 3) := by decide +kernel
theorem dX9_refreshes_117 : decode cX9_refreshes 117 = .ok (.goto (-31), 3) := by decide +kernel
theorem dX9_refreshes_120 : decode cX9_refreshes 120 = .ok (.return_, 1) := by decide +kernel
theorem dX9_widthOf_0 : decode cX9_widthOf 0 = .ok (.aload_n 0, 1) := by decide +kernel
theorem dX9_widthOf_1 : decode cX9_widthOf 1 = .ok (.getfield 47, 3) := by decide +kernel
theorem dX9_widthOf_4 : decode cX9_widthOf 4 = .ok (.iload_n 1, 1) := by decide +kernel
theorem dX9_widthOf_5 : decode cX9_widthOf 5 = .ok (.iaload, 1) := by decide +kernel
theorem dX9_widthOf_6 : decode cX9_widthOf 6 = .ok (.ifCond .ne 7, 3) := by decide +kernel
theorem dX9_widthOf_9 : decode cX9_widthOf 9 = .ok (.iconst 0, 1) := by decide +kernel
theorem dX9_widthOf_10 : decode cX9_widthOf 10 = .ok (.goto 14, 3) := by decide +kernel
theorem dX9_widthOf_13 : decode cX9_widthOf 13 = .ok (.aload_n 0, 1) := by decide +kernel
theorem dX9_widthOf_14 : decode cX9_widthOf 14 = .ok (.getfield 47, 3) := by decide +kernel
theorem dX9_widthOf_17 : decode cX9_widthOf 17 = .ok (.iload_n 1, 1) := by decide +kernel
theorem dX9_widthOf_18 : decode cX9_widthOf 18 = .ok (.iaload, 1) := by decide +kernel
theorem dX9_widthOf_19 : decode cX9_widthOf 19 = .ok (.invokestatic 220, 3) := by decide +kernel
theorem dX9_widthOf_22 : decode cX9_widthOf 22 = .ok (.iconst 1, 1) := by decide +kernel
theorem dX9_widthOf_23 : decode cX9_widthOf 23 = .ok (.iadd, 1) := by decide +kernel
theorem dX9_widthOf_24 : decode cX9_widthOf 24 = .ok (.ireturn, 1) := by decide +kernel
theorem dX9_isNarrowedSigned_0 : decode cX9_isNarrowedSigned 0 = .ok (.aload_n 0, 1) := by decide +kernel
theorem dX9_isNarrowedSigned_1 : decode cX9_isNarrowedSigned 1 = .ok (.iload_n 1, 1) := by decide +kernel
theorem dX9_isNarrowedSigned_2 : decode cX9_isNarrowedSigned 2 = .ok (.invokevirtual 214, 3) := by decide +kernel
theorem dX9_isNarrowedSigned_5 : decode cX9_isNarrowedSigned 5 = .ok (.ifCond .eq 21, 3) := by decide +kernel
theorem dX9_isNarrowedSigned_8 : decode cX9_isNarrowedSigned 8 = .ok (.aload_n 0, 1) := by decide +kernel
theorem dX9_isNarrowedSigned_9 : decode cX9_isNarrowedSigned 9 = .ok (.iload_n 1, 1) := by decide +kernel
theorem dX9_isNarrowedSigned_10 : decode cX9_isNarrowedSigned 10 = .ok (.invokevirtual 240, 3) := by decide +kernel
theorem dX9_isNarrowedSigned_13 : decode cX9_isNarrowedSigned 13 = .ok (.aload_n 0, 1) := by decide +kernel
theorem dX9_isNarrowedSigned_14 : decode cX9_isNarrowedSigned 14 = .ok (.getfield 44, 3) := by decide +kernel
theorem dX9_isNarrowedSigned_17 : decode cX9_isNarrowedSigned 17 = .ok (.iload_n 1, 1) := by decide +kernel
theorem dX9_isNarrowedSigned_18 : decode cX9_isNarrowedSigned 18 = .ok (.iaload, 1) := by decide +kernel
theorem dX9_isNarrowedSigned_19 : decode cX9_isNarrowedSigned 19 = .ok (.if_icmp .ne 7, 3) := by decide +kernel
theorem dX9_isNarrowedSigned_22 : decode cX9_isNarrowedSigned 22 = .ok (.iconst 1, 1) := by decide +kernel
theorem dX9_isNarrowedSigned_23 : decode cX9_isNarrowedSigned 23 = .ok (.goto 4, 3) := by decide +kernel
theorem dX9_isNarrowedSigned_26 : decode cX9_isNarrowedSigned 26 = .ok (.iconst 0, 1) := by decide +kernel
theorem dX9_isNarrowedSigned_27 : decode cX9_isNarrowedSigned 27 = .ok (.ireturn, 1) := by decide +kernel
theorem dX9_range_0 : decode cX9_range 0 = .ok (.aload_n 0, 1) := by decide +kernel
theorem dX9_range_1 : decode cX9_range 1 = .ok (.iload_n 1, 1) := by decide +kernel
theorem dX9_range_2 : decode cX9_range 2 = .ok (.invokevirtual 123, 3) := by decide +kernel
theorem dX9_range_5 : decode cX9_range 5 = .ok (.ifCond .ne 9, 3) := by decide +kernel
theorem dX9_range_8 : decode cX9_range 8 = .ok (.aload_n 0, 1) := by decide +kernel
theorem dX9_range_9 : decode cX9_range 9 = .ok (.iconst 1, 1) := by decide +kernel
theorem dX9_range_10 : decode cX9_range 10 = .ok (.invokevirtual 132, 3) := by decide +kernel
theorem dX9_range_13 : decode cX9_range 13 = .ok (.ireturn, 1) := by decide +kernel
theorem dX9_range_14 : decode cX9_range 14 = .ok (.aload_n 0, 1) := by decide +kernel
theorem dX9_range_15 : decode cX9_range 15 = .ok (.iconst 0, 1) := by decide +kernel
theorem dX9_range_16 : decode cX9_range 16 = .ok (.putfield 98, 3) := by decide +kernel
theorem dX9_range_19 : decode cX9_range 19 = .ok (.aload_n 0, 1) := by decide +kernel
theorem dX9_range_20 : decode cX9_range 20 = .ok (.invokevirtual 243, 3) := by decide +kernel
theorem dX9_range_23 : decode cX9_range 23 = .ok (.iload_n 2, 1) := by decide +kernel
theorem dX9_range_24 : decode cX9_range 24 = .ok (.ifCond .eq 12, 3) := by decide +kernel
theorem dX9_range_27 : decode cX9_range 27 = .ok (.aload_n 0, 1) := by decide +kernel
theorem dX9_range_28 : decode cX9_range 28 = .ok (.getfield 41, 3) := by decide +kernel
theorem dX9_range_31 : decode cX9_range 31 = .ok (.iload_n 1, 1) := by decide +kernel
theorem dX9_range_32 : decode cX9_range 32 = .ok (.laload, 1) := by decide +kernel
theorem dX9_range_33 : decode cX9_range 33 = .ok (.goto 9, 3) := by decide +kernel
theorem dX9_range_36 : decode cX9_range 36 = .ok (.aload_n 0, 1) := by decide +kernel
theorem dX9_range_37 : decode cX9_range 37 = .ok (.getfield 37, 3) := by decide +kernel
theorem dX9_range_40 : decode cX9_range 40 = .ok (.iload_n 1, 1) := by decide +kernel
theorem dX9_range_41 : decode cX9_range 41 = .ok (.laload, 1) := by decide +kernel
theorem dX9_range_42 : decode cX9_range 42 = .ok (.l2i, 1) := by decide +kernel
theorem dX9_range_43 : decode cX9_range 43 = .ok (.ireturn, 1) := by decide +kernel
theorem dX9_rounds_0 : decode cX9_rounds 0 = .ok (.aload_n 0, 1) := by decide +kernel
theorem dX9_rounds_1 : decode cX9_rounds 1 = .ok (.iconst 0, 1) := by decide +kernel
theorem dX9_rounds_2 : decode cX9_rounds 2 = .ok (.putfield 98, 3) := by decide +kernel
theorem dX9_rounds_5 : decode cX9_rounds 5 = .ok (.aload_n 0, 1) := by decide +kernel
theorem dX9_rounds_6 : decode cX9_rounds 6 = .ok (.invokevirtual 243, 3) := by decide +kernel
theorem dX9_rounds_9 : decode cX9_rounds 9 = .ok (.aload_n 0, 1) := by decide +kernel
theorem dX9_rounds_10 : decode cX9_rounds 10 = .ok (.getfield 204, 3) := by decide +kernel
theorem dX9_rounds_13 : decode cX9_rounds 13 = .ok (.ireturn, 1) := by decide +kernel
theorem dX9_demanded_0 : decode cX9_demanded 0 = .ok (.aload_n 0, 1) := by decide +kernel
theorem dX9_demanded_1 : decode cX9_demanded 1 = .ok (.iload_n 1, 1) := by decide +kernel
theorem dX9_demanded_2 : decode cX9_demanded 2 = .ok (.invokevirtual 123, 3) := by decide +kernel
theorem dX9_demanded_5 : decode cX9_demanded 5 = .ok (.ifCond .ne 9, 3) := by decide +kernel
theorem dX9_demanded_8 : decode cX9_demanded 8 = .ok (.aload_n 0, 1) := by decide +kernel
theorem dX9_demanded_9 : decode cX9_demanded 9 = .ok (.iconst 1, 1) := by decide +kernel
theorem dX9_demanded_10 : decode cX9_demanded 10 = .ok (.invokevirtual 132, 3) := by decide +kernel
theorem dX9_demanded_13 : decode cX9_demanded 13 = .ok (.ireturn, 1) := by decide +kernel
theorem dX9_demanded_14 : decode cX9_demanded 14 = .ok (.aload_n 0, 1) := by decide +kernel
theorem dX9_demanded_15 : decode cX9_demanded 15 = .ok (.iconst 0, 1) := by decide +kernel
theorem dX9_demanded_16 : decode cX9_demanded 16 = .ok (.putfield 98, 3) := by decide +kernel
theorem dX9_demanded_19 : decode cX9_demanded 19 = .ok (.aload_n 0, 1) := by decide +kernel
theorem dX9_demanded_20 : decode cX9_demanded 20 = .ok (.invokevirtual 243, 3) := by decide +kernel
theorem dX9_demanded_23 : decode cX9_demanded 23 = .ok (.aload_n 0, 1) := by decide +kernel
theorem dX9_demanded_24 : decode cX9_demanded 24 = .ok (.getfield 47, 3) := by decide +kernel
theorem dX9_demanded_27 : decode cX9_demanded 27 = .ok (.iload_n 1, 1) := by decide +kernel
theorem dX9_demanded_28 : decode cX9_demanded 28 = .ok (.iaload, 1) := by decide +kernel
theorem dX9_demanded_29 : decode cX9_demanded 29 = .ok (.ireturn, 1) := by decide +kernel
theorem dX9_width_0 : decode cX9_width 0 = .ok (.aload_n 0, 1) := by decide +kernel
theorem dX9_width_1 : decode cX9_width 1 = .ok (.iload_n 1, 1) := by decide +kernel
theorem dX9_width_2 : decode cX9_width 2 = .ok (.invokevirtual 123, 3) := by decide +kernel
theorem dX9_width_5 : decode cX9_width 5 = .ok (.ifCond .ne 9, 3) := by decide +kernel
theorem dX9_width_8 : decode cX9_width 8 = .ok (.aload_n 0, 1) := by decide +kernel
theorem dX9_width_9 : decode cX9_width 9 = .ok (.iconst 1, 1) := by decide +kernel
theorem dX9_width_10 : decode cX9_width 10 = .ok (.invokevirtual 132, 3) := by decide +kernel
theorem dX9_width_13 : decode cX9_width 13 = .ok (.ireturn, 1) := by decide +kernel
theorem dX9_width_14 : decode cX9_width 14 = .ok (.aload_n 0, 1) := by decide +kernel
theorem dX9_width_15 : decode cX9_width 15 = .ok (.iconst 0, 1) := by decide +kernel
theorem dX9_width_16 : decode cX9_width 16 = .ok (.putfield 98, 3) := by decide +kernel
theorem dX9_width_19 : decode cX9_width 19 = .ok (.aload_n 0, 1) := by decide +kernel
theorem dX9_width_20 : decode cX9_width 20 = .ok (.invokevirtual 243, 3) := by decide +kernel
theorem dX9_width_23 : decode cX9_width 23 = .ok (.iload_n 2, 1) := by decide +kernel
theorem dX9_width_24 : decode cX9_width 24 = .ok (.ifCond .eq 12, 3) := by decide +kernel
theorem dX9_width_27 : decode cX9_width 27 = .ok (.aload_n 0, 1) := by decide +kernel
theorem dX9_width_28 : decode cX9_width 28 = .ok (.getfield 44, 3) := by decide +kernel
theorem dX9_width_31 : decode cX9_width 31 = .ok (.iload_n 1, 1) := by decide +kernel
theorem dX9_width_32 : decode cX9_width 32 = .ok (.iaload, 1) := by decide +kernel
theorem dX9_width_33 : decode cX9_width 33 = .ok (.goto 8, 3) := by decide +kernel
theorem dX9_width_36 : decode cX9_width 36 = .ok (.aload_n 0, 1) := by decide +kernel
theorem dX9_width_37 : decode cX9_width 37 = .ok (.iload_n 1, 1) := by decide +kernel
theorem dX9_width_38 : decode cX9_width 38 = .ok (.invokevirtual 240, 3) := by decide +kernel
theorem dX9_width_41 : decode cX9_width 41 = .ok (.ireturn, 1) := by decide +kernel
theorem dX9_isSigned_0 : decode cX9_isSigned 0 = .ok (.aload_n 0, 1) := by decide +kernel
theorem dX9_isSigned_1 : decode cX9_isSigned 1 = .ok (.iload_n 1, 1) := by decide +kernel
theorem dX9_isSigned_2 : decode cX9_isSigned 2 = .ok (.invokevirtual 123, 3) := by decide +kernel
theorem dX9_isSigned_5 : decode cX9_isSigned 5 = .ok (.ifCond .ne 9, 3) := by decide +kernel
theorem dX9_isSigned_8 : decode cX9_isSigned 8 = .ok (.aload_n 0, 1) := by decide +kernel
theorem dX9_isSigned_9 : decode cX9_isSigned 9 = .ok (.iconst 1, 1) := by decide +kernel
theorem dX9_isSigned_10 : decode cX9_isSigned 10 = .ok (.invokevirtual 147, 3) := by decide +kernel
theorem dX9_isSigned_13 : decode cX9_isSigned 13 = .ok (.ireturn, 1) := by decide +kernel
theorem dX9_isSigned_14 : decode cX9_isSigned 14 = .ok (.aload_n 0, 1) := by decide +kernel
theorem dX9_isSigned_15 : decode cX9_isSigned 15 = .ok (.iconst 0, 1) := by decide +kernel
theorem dX9_isSigned_16 : decode cX9_isSigned 16 = .ok (.putfield 98, 3) := by decide +kernel
theorem dX9_isSigned_19 : decode cX9_isSigned 19 = .ok (.aload_n 0, 1) := by decide +kernel
theorem dX9_isSigned_20 : decode cX9_isSigned 20 = .ok (.invokevirtual 243, 3) := by decide +kernel
theorem dX9_isSigned_23 : decode cX9_isSigned 23 = .ok (.aload_n 0, 1) := by decide +kernel
theorem dX9_isSigned_24 : decode cX9_isSigned 24 = .ok (.iload_n 1, 1) := by decide +kernel
theorem dX9_isSigned_25 : decode cX9_isSigned 25 = .ok (.invokevirtual 246, 3) := by decide +kernel
theorem dX9_isSigned_28 : decode cX9_isSigned 28 = .ok (.ireturn, 1) := by decide +kernel
theorem dX9_costBy_0 : decode cX9_costBy 0 = .ok (.iload_n 0, 1) := by decide +kernel
theorem dX9_costBy_1 : decode cX9_costBy 1 = .ok (.iconst 2, 1) := by decide +kernel
theorem dX9_costBy_2 : decode cX9_costBy 2 = .ok (.if_icmp .ne 7, 3) := by decide +kernel
theorem dX9_costBy_5 : decode cX9_costBy 5 = .ok (.iconst 4, 1) := by decide +kernel
theorem dX9_costBy_6 : decode cX9_costBy 6 = .ok (.iload_n 1, 1) := by decide +kernel
theorem dX9_costBy_7 : decode cX9_costBy 7 = .ok (.imul, 1) := by decide +kernel
theorem dX9_costBy_8 : decode cX9_costBy 8 = .ok (.ireturn, 1) := by decide +kernel
theorem dX9_costBy_9 : decode cX9_costBy 9 = .ok (.iload_n 0, 1) := by decide +kernel
theorem dX9_costBy_10 : decode cX9_costBy 10 = .ok (.iconst 5, 1) := by decide +kernel
theorem dX9_costBy_11 : decode cX9_costBy 11 = .ok (.if_icmp .ne 7, 3) := by decide +kernel
theorem dX9_costBy_14 : decode cX9_costBy 14 = .ok (.iload_n 1, 1) := by decide +kernel
theorem dX9_costBy_15 : decode cX9_costBy 15 = .ok (.iload_n 1, 1) := by decide +kernel
theorem dX9_costBy_16 : decode cX9_costBy 16 = .ok (.imul, 1) := by decide +kernel
theorem dX9_costBy_17 : decode cX9_costBy 17 = .ok (.ireturn, 1) := by decide +kernel
theorem dX9_costBy_18 : decode cX9_costBy 18 = .ok (.iload_n 0, 1) := by decide +kernel
theorem dX9_costBy_19 : decode cX9_costBy 19 = .ok (.bipush 12, 2) := by decide +kernel
theorem dX9_costBy_21 : decode cX9_costBy 21 = .ok (.if_icmp .ne 7, 3) := by decide +kernel
theorem dX9_costBy_24 : decode cX9_costBy 24 = .ok (.iconst 2, 1) := by decide +kernel
theorem dX9_costBy_25 : decode cX9_costBy 25 = .ok (.iload_n 1, 1) := by decide +kernel
theorem dX9_costBy_26 : decode cX9_costBy 26 = .ok (.imul, 1) := by decide +kernel
theorem dX9_costBy_27 : decode cX9_costBy 27 = .ok (.ireturn, 1) := by decide +kernel
theorem dX9_costBy_28 : decode cX9_costBy 28 = .ok (.iload_n 0, 1) := by decide +kernel
theorem dX9_costBy_29 : decode cX9_costBy 29 = .ok (.iconst 3, 1) := by decide +kernel
theorem dX9_costBy_30 : decode cX9_costBy 30 = .ok (.if_icmp .lt 13, 3) := by decide +kernel
theorem dX9_costBy_33 : decode cX9_costBy 33 = .ok (.iload_n 0, 1) := by decide +kernel
theorem dX9_costBy_34 : decode cX9_costBy 34 = .ok (.bipush 8, 2) := by decide +kernel
theorem dX9_costBy_36 : decode cX9_costBy 36 = .ok (.if_icmp .gt 7, 3) := by decide +kernel
theorem dX9_costBy_39 : decode cX9_costBy 39 = .ok (.iload_n 1, 1) := by decide +kernel
theorem dX9_costBy_40 : decode cX9_costBy 40 = .ok (.goto 4, 3) := by decide +kernel
theorem dX9_costBy_43 : decode cX9_costBy 43 = .ok (.iconst 0, 1) := by decide +kernel
theorem dX9_costBy_44 : decode cX9_costBy 44 = .ok (.ireturn, 1) := by decide +kernel
theorem dX9_costOf_0 : decode cX9_costOf 0 = .ok (.aload_n 0, 1) := by decide +kernel
theorem dX9_costOf_1 : decode cX9_costOf 1 = .ok (.getfield 7, 3) := by decide +kernel
theorem dX9_costOf_4 : decode cX9_costOf 4 = .ok (.iload_n 1, 1) := by decide +kernel
theorem dX9_costOf_5 : decode cX9_costOf 5 = .ok (.iaload, 1) := by decide +kernel
theorem dX9_costOf_6 : decode cX9_costOf 6 = .ok (.bipush 11, 2) := by decide +kernel
theorem dX9_costOf_8 : decode cX9_costOf 8 = .ok (.if_icmp .eq 18, 3) := by decide +kernel
theorem dX9_costOf_11 : decode cX9_costOf 11 = .ok (.aload_n 0, 1) := by decide +kernel
theorem dX9_costOf_12 : decode cX9_costOf 12 = .ok (.getfield 7, 3) := by decide +kernel
theorem dX9_costOf_15 : decode cX9_costOf 15 = .ok (.iload_n 1, 1) := by decide +kernel
theorem dX9_costOf_16 : decode cX9_costOf 16 = .ok (.iaload, 1) := by decide +kernel
theorem dX9_costOf_17 : decode cX9_costOf 17 = .ok (.aload_n 0, 1) := by decide +kernel
theorem dX9_costOf_18 : decode cX9_costOf 18 = .ok (.iload_n 1, 1) := by decide +kernel
theorem dX9_costOf_19 : decode cX9_costOf 19 = .ok (.invokevirtual 240, 3) := by decide +kernel
theorem dX9_costOf_22 : decode cX9_costOf 22 = .ok (.invokestatic 249, 3) := by decide +kernel
theorem dX9_costOf_25 : decode cX9_costOf 25 = .ok (.ireturn, 1) := by decide +kernel
theorem dX9_costOf_26 : decode cX9_costOf 26 = .ok (.aload_n 0, 1) := by decide +kernel
theorem dX9_costOf_27 : decode cX9_costOf 27 = .ok (.aload_n 0, 1) := by decide +kernel
theorem dX9_costOf_28 : decode cX9_costOf 28 = .ok (.getfield 13, 3) := by decide +kernel
theorem dX9_costOf_31 : decode cX9_costOf 31 = .ok (.iload_n 1, 1) := by decide +kernel
theorem dX9_costOf_32 : decode cX9_costOf 32 = .ok (.iaload, 1) := by decide +kernel
theorem dX9_costOf_33 : decode cX9_costOf 33 = .ok (.invokevirtual 240, 3) := by decide +kernel
theorem dX9_costOf_36 : decode cX9_costOf 36 = .ok (.istore_n 2, 1) := by decide +kernel
theorem dX9_costOf_37 : decode cX9_costOf 37 = .ok (.aload_n 0, 1) := by decide +kernel
theorem dX9_costOf_38 : decode cX9_costOf 38 = .ok (.aload_n 0, 1) := by decide +kernel
theorem dX9_costOf_39 : decode cX9_costOf 39 = .ok (.getfield 16, 3) := by decide +kernel
theorem dX9_costOf_42 : decode cX9_costOf 42 = .ok (.iload_n 1, 1) := by decide +kernel
theorem dX9_costOf_43 : decode cX9_costOf 43 = .ok (.iaload, 1) := by decide +kernel
theorem dX9_costOf_44 : decode cX9_costOf 44 = .ok (.invokevirtual 240, 3) := by decide +kernel
theorem dX9_costOf_47 : decode cX9_costOf 47 = .ok (.istore_n 3, 1) := by decide +kernel
theorem dX9_costOf_48 : decode cX9_costOf 48 = .ok (.aload_n 0, 1) := by decide +kernel
theorem dX9_costOf_49 : decode cX9_costOf 49 = .ok (.iload_n 1, 1) := by decide +kernel
theorem dX9_costOf_50 : decode cX9_costOf 50 = .ok (.invokevirtual 240, 3) := by decide +kernel
theorem dX9_costOf_53 : decode cX9_costOf 53 = .ok (.ifCond .ne 7, 3) := by decide +kernel
theorem dX9_costOf_56 : decode cX9_costOf 56 = .ok (.iconst 0, 1) := by decide +kernel
theorem dX9_costOf_57 : decode cX9_costOf 57 = .ok (.goto 13, 3) := by decide +kernel
theorem dX9_costOf_60 : decode cX9_costOf 60 = .ok (.iload_n 2, 1) := by decide +kernel
theorem dX9_costOf_61 : decode cX9_costOf 61 = .ok (.iload_n 3, 1) := by decide +kernel
theorem dX9_costOf_62 : decode cX9_costOf 62 = .ok (.if_icmp .le 7, 3) := by decide +kernel
theorem dX9_costOf_65 : decode cX9_costOf 65 = .ok (.iload_n 2, 1) := by decide +kernel
theorem dX9_costOf_66 : decode cX9_costOf 66 = .ok (.goto 4, 3) := by decide +kernel
theorem dX9_costOf_69 : decode cX9_costOf 69 = .ok (.iload_n 3, 1) := by decide +kernel
theorem dX9_costOf_70 : decode cX9_costOf 70 = .ok (.ireturn, 1) := by decide +kernel
theorem dX9_cost_0 : decode cX9_cost 0 = .ok (.aload_n 0, 1) := by decide +kernel
theorem dX9_cost_1 : decode cX9_cost 1 = .ok (.iload_n 1, 1) := by decide +kernel
theorem dX9_cost_2 : decode cX9_cost 2 = .ok (.invokevirtual 123, 3) := by decide +kernel
theorem dX9_cost_5 : decode cX9_cost 5 = .ok (.ifCond .ne 9, 3) := by decide +kernel
theorem dX9_cost_8 : decode cX9_cost 8 = .ok (.aload_n 0, 1) := by decide +kernel
theorem dX9_cost_9 : decode cX9_cost 9 = .ok (.iconst 1, 1) := by decide +kernel
theorem dX9_cost_10 : decode cX9_cost 10 = .ok (.invokevirtual 132, 3) := by decide +kernel
theorem dX9_cost_13 : decode cX9_cost 13 = .ok (.ireturn, 1) := by decide +kernel
theorem dX9_cost_14 : decode cX9_cost 14 = .ok (.aload_n 0, 1) := by decide +kernel
theorem dX9_cost_15 : decode cX9_cost 15 = .ok (.iconst 0, 1) := by decide +kernel
theorem dX9_cost_16 : decode cX9_cost 16 = .ok (.putfield 98, 3) := by decide +kernel
theorem dX9_cost_19 : decode cX9_cost 19 = .ok (.aload_n 0, 1) := by decide +kernel
theorem dX9_cost_20 : decode cX9_cost 20 = .ok (.invokevirtual 243, 3) := by decide +kernel
theorem dX9_cost_23 : decode cX9_cost 23 = .ok (.aload_n 0, 1) := by decide +kernel
theorem dX9_cost_24 : decode cX9_cost 24 = .ok (.iload_n 1, 1) := by decide +kernel
theorem dX9_cost_25 : decode cX9_cost 25 = .ok (.invokevirtual 253, 3) := by decide +kernel
theorem dX9_cost_28 : decode cX9_cost 28 = .ok (.ireturn, 1) := by decide +kernel
theorem dX9_unitCost_0 : decode cX9_unitCost 0 = .ok (.iload_n 0, 1) := by decide +kernel
theorem dX9_unitCost_1 : decode cX9_unitCost 1 = .ok (.iload_n 1, 1) := by decide +kernel
theorem dX9_unitCost_2 : decode cX9_unitCost 2 = .ok (.invokestatic 249, 3) := by decide +kernel
theorem dX9_unitCost_5 : decode cX9_unitCost 5 = .ok (.iload_n 1, 1) := by decide +kernel
theorem dX9_unitCost_6 : decode cX9_unitCost 6 = .ok (.iload_n 2, 1) := by decide +kernel
theorem dX9_unitCost_7 : decode cX9_unitCost 7 = .ok (.iconst 1, 1) := by decide +kernel
theorem dX9_unitCost_8 : decode cX9_unitCost 8 = .ok (.isub, 1) := by decide +kernel
theorem dX9_unitCost_9 : decode cX9_unitCost 9 = .ok (.imul, 1) := by decide +kernel
theorem dX9_unitCost_10 : decode cX9_unitCost 10 = .ok (.iadd, 1) := by decide +kernel
theorem dX9_unitCost_11 : decode cX9_unitCost 11 = .ok (.ireturn, 1) := by decide +kernel
theorem dX9_growth_0 : decode cX9_growth 0 = .ok (.aload_n 0, 1) := by decide +kernel
theorem dX9_growth_1 : decode cX9_growth 1 = .ok (.iload_n 2, 1) := by decide +kernel
theorem dX9_growth_2 : decode cX9_growth 2 = .ok (.invokevirtual 240, 3) := by decide +kernel
theorem dX9_growth_5 : decode cX9_growth 5 = .ok (.aload_n 0, 1) := by decide +kernel
theorem dX9_growth_6 : decode cX9_growth 6 = .ok (.getfield 53, 3) := by decide +kernel
theorem dX9_growth_9 : decode cX9_growth 9 = .ok (.iload_n 1, 1) := by decide +kernel
theorem dX9_growth_10 : decode cX9_growth 10 = .ok (.iaload, 1) := by decide +kernel
theorem dX9_growth_11 : decode cX9_growth 11 = .ok (.if_icmp .le 11, 3) := by decide +kernel
theorem dX9_growth_14 : decode cX9_growth 14 = .ok (.aload_n 0, 1) := by decide +kernel
theorem dX9_growth_15 : decode cX9_growth 15 = .ok (.iload_n 2, 1) := by decide +kernel
theorem dX9_growth_16 : decode cX9_growth 16 = .ok (.invokevirtual 240, 3) := by decide +kernel
theorem dX9_growth_19 : decode cX9_growth 19 = .ok (.goto 9, 3) := by decide +kernel
theorem dX9_growth_22 : decode cX9_growth 22 = .ok (.aload_n 0, 1) := by decide +kernel
theorem dX9_growth_23 : decode cX9_growth 23 = .ok (.getfield 53, 3) := by decide +kernel
theorem dX9_growth_26 : decode cX9_growth 26 = .ok (.iload_n 1, 1) := by decide +kernel
theorem dX9_growth_27 : decode cX9_growth 27 = .ok (.iaload, 1) := by decide +kernel
theorem dX9_growth_28 : decode cX9_growth 28 = .ok (.istore_n 3, 1) := by decide +kernel
theorem dX9_growth_29 : decode cX9_growth 29 = .ok (.aload_n 0, 1) := by decide +kernel
theorem dX9_growth_30 : decode cX9_growth 30 = .ok (.getfield 50, 3) := by decide +kernel
theorem dX9_growth_33 : decode cX9_growth 33 = .ok (.iload_n 1, 1) := by decide +kernel
theorem dX9_growth_34 : decode cX9_growth 34 = .ok (.iaload, 1) := by decide +kernel
theorem dX9_growth_35 : decode cX9_growth 35 = .ok (.iload_n 3, 1) := by decide +kernel
theorem dX9_growth_36 : decode cX9_growth 36 = .ok (.aload_n 0, 1) := by decide +kernel
theorem dX9_growth_37 : decode cX9_growth 37 = .ok (.getfield 56, 3) := by decide +kernel
theorem dX9_growth_40 : decode cX9_growth 40 = .ok (.iload_n 1, 1) := by decide +kernel
theorem dX9_growth_41 : decode cX9_growth 41 = .ok (.iaload, 1) := by decide +kernel
theorem dX9_growth_42 : decode cX9_growth 42 = .ok (.iconst 1, 1) := by decide +kernel
theorem dX9_growth_43 : decode cX9_growth 43 = .ok (.iadd, 1) := by decide +kernel
theorem dX9_growth_44 : decode cX9_growth 44 = .ok (.invokestatic 256, 3) := by decide +kernel
theorem dX9_growth_47 : decode cX9_growth 47 = .ok (.aload_n 0, 1) := by decide +kernel
theorem dX9_growth_48 : decode cX9_growth 48 = .ok (.getfield 50, 3) := by decide +kernel
theorem dX9_growth_51 : decode cX9_growth 51 = .ok (.iload_n 1, 1) := by decide +kernel
theorem dX9_growth_52 : decode cX9_growth 52 = .ok (.iaload, 1) := by decide +kernel
theorem dX9_growth_53 : decode cX9_growth 53 = .ok (.aload_n 0, 1) := by decide +kernel
theorem dX9_growth_54 : decode cX9_growth 54 = .ok (.getfield 53, 3) := by decide +kernel
theorem dX9_growth_57 : decode cX9_growth 57 = .ok (.iload_n 1, 1) := by decide +kernel
theorem dX9_growth_58 : decode cX9_growth 58 = .ok (.iaload, 1) := by decide +kernel
theorem dX9_growth_59 : decode cX9_growth 59 = .ok (.aload_n 0, 1) := by decide +kernel
theorem dX9_growth_60 : decode cX9_growth 60 = .ok (.getfield 56, 3) := by decide +kernel
theorem dX9_growth_63 : decode cX9_growth 63 = .ok (.iload_n 1, 1) := by decide +kernel
theorem dX9_growth_64 : decode cX9_growth 64 = .ok (.iaload, 1) := by decide +kernel
theorem dX9_growth_65 : decode cX9_growth 65 = .ok (.invokestatic 256, 3) := by decide +kernel
theorem dX9_growth_68 : decode cX9_growth 68 = .ok (.isub, 1) := by decide +kernel
theorem dX9_growth_69 : decode cX9_growth 69 = .ok (.ireturn, 1) := by decide +kernel
theorem dX9_joins_0 : decode cX9_joins 0 = .ok (.aload_n 0, 1) := by decide +kernel
theorem dX9_joins_1 : decode cX9_joins 1 = .ok (.getfield 53, 3) := by decide +kernel
theorem dX9_joins_4 : decode cX9_joins 4 = .ok (.iload_n 1, 1) := by decide +kernel
theorem dX9_joins_5 : decode cX9_joins 5 = .ok (.aload_n 0, 1) := by decide +kernel
theorem dX9_joins_6 : decode cX9_joins 6 = .ok (.iload_n 2, 1) := by decide +kernel
theorem dX9_joins_7 : decode cX9_joins 7 = .ok (.invokevirtual 240, 3) := by decide +kernel
theorem dX9_joins_10 : decode cX9_joins 10 = .ok (.aload_n 0, 1) := by decide +kernel
theorem dX9_joins_11 : decode cX9_joins 11 = .ok (.getfield 53, 3) := by decide +kernel
theorem dX9_joins_14 : decode cX9_joins 14 = .ok (.iload_n 1, 1) := by decide +kernel
theorem dX9_joins_15 : decode cX9_joins 15 = .ok (.iaload, 1) := by decide +kernel
theorem dX9_joins_16 : decode cX9_joins 16 = .ok (.if_icmp .le 11, 3) := by decide +kernel
theorem dX9_joins_19 : decode cX9_joins 19 = .ok (.aload_n 0, 1) := by decide +kernel
theorem dX9_joins_20 : decode cX9_joins 20 = .ok (.iload_n 2, 1) := by decide +kernel
theorem dX9_joins_21 : decode cX9_joins 21 = .ok (.invokevirtual 240, 3) := by decide +kernel
theorem dX9_joins_24 : decode cX9_joins 24 = .ok (.goto 9, 3) := by decide +kernel
theorem dX9_joins_27 : decode cX9_joins 27 = .ok (.aload_n 0, 1) := by decide +kernel
theorem dX9_joins_28 : decode cX9_joins 28 = .ok (.getfield 53, 3) := by decide +kernel
theorem dX9_joins_31 : decode cX9_joins 31 = .ok (.iload_n 1, 1) := by decide +kernel
theorem dX9_joins_32 : decode cX9_joins 32 = .ok (.iaload, 1) := by decide +kernel
theorem dX9_joins_33 : decode cX9_joins 33 = .ok (.iastore, 1) := by decide +kernel
theorem dX9_joins_34 : decode cX9_joins 34 = .ok (.aload_n 0, 1) := by decide +kernel
theorem dX9_joins_35 : decode cX9_joins 35 = .ok (.getfield 56, 3) := by decide +kernel
theorem dX9_joins_38 : decode cX9_joins 38 = .ok (.iload_n 1, 1) := by decide +kernel
theorem dX9_joins_39 : decode cX9_joins 39 = .ok (.dup2, 1) := by decide +kernel
theorem dX9_joins_40 : decode cX9_joins 40 = .ok (.iaload, 1) := by decide +kernel
theorem dX9_joins_41 : decode cX9_joins 41 = .ok (.iconst 1, 1) := by decide +kernel
theorem dX9_joins_42 : decode cX9_joins 42 = .ok (.iadd, 1) := by decide +kernel
theorem dX9_joins_43 : decode cX9_joins 43 = .ok (.iastore, 1) := by decide +kernel
theorem dX9_joins_44 : decode cX9_joins 44 = .ok (.aload_n 0, 1) := by decide +kernel
theorem dX9_joins_45 : decode cX9_joins 45 = .ok (.getfield 62, 3) := by decide +kernel
theorem dX9_joins_48 : decode cX9_joins 48 = .ok (.iload_n 1, 1) := by decide +kernel
theorem dX9_joins_49 : decode cX9_joins 49 = .ok (.dup2, 1) := by decide +kernel
theorem dX9_joins_50 : decode cX9_joins 50 = .ok (.iaload, 1) := by decide +kernel
theorem dX9_joins_51 : decode cX9_joins 51 = .ok (.iconst 1, 1) := by decide +kernel
theorem dX9_joins_52 : decode cX9_joins 52 = .ok (.aload_n 0, 1) := by decide +kernel
theorem dX9_joins_53 : decode cX9_joins 53 = .ok (.getfield 28, 3) := by decide +kernel
theorem dX9_joins_56 : decode cX9_joins 56 = .ok (.iload_n 2, 1) := by decide +kernel
theorem dX9_joins_57 : decode cX9_joins 57 = .ok (.iaload, 1) := by decide +kernel
theorem dX9_joins_58 : decode cX9_joins 58 = .ok (.ishl, 1) := by decide +kernel
theorem dX9_joins_59 : decode cX9_joins 59 = .ok (.ior, 1) := by decide +kernel
theorem dX9_joins_60 : decode cX9_joins 60 = .ok (.iastore, 1) := by decide +kernel
theorem dX9_joins_61 : decode cX9_joins 61 = .ok (.aload_n 0, 1) := by decide +kernel
theorem dX9_joins_62 : decode cX9_joins 62 = .ok (.getfield 65, 3) := by decide +kernel
theorem dX9_joins_65 : decode cX9_joins 65 = .ok (.iload_n 2, 1) := by decide +kernel
theorem dX9_joins_66 : decode cX9_joins 66 = .ok (.iload_n 1, 1) := by decide +kernel
theorem dX9_joins_67 : decode cX9_joins 67 = .ok (.iastore, 1) := by decide +kernel
theorem dX9_joins_68 : decode cX9_joins 68 = .ok (.return_, 1) := by decide +kernel
theorem dX9_findUnits_0 : decode cX9_findUnits 0 = .ok (.aload_n 0, 1) := by decide +kernel
theorem dX9_findUnits_1 : decode cX9_findUnits 1 = .ok (.invokevirtual 243, 3) := by decide +kernel
theorem dX9_findUnits_4 : decode cX9_findUnits 4 = .ok (.aload_n 0, 1) := by decide +kernel
theorem dX9_findUnits_5 : decode cX9_findUnits 5 = .ok (.iconst 0, 1) := by decide +kernel
theorem dX9_findUnits_6 : decode cX9_findUnits 6 = .ok (.putfield 259, 3) := by decide +kernel
theorem dX9_findUnits_9 : decode cX9_findUnits 9 = .ok (.iconst 0, 1) := by decide +kernel
theorem dX9_findUnits_10 : decode cX9_findUnits 10 = .ok (.istore_n 1, 1) := by decide +kernel
theorem dX9_findUnits_11 : decode cX9_findUnits 11 = .ok (.iload_n 1, 1) := by decide +kernel
theorem dX9_findUnits_12 : decode cX9_findUnits 12 = .ok (.aload_n 0, 1) := by decide +kernel
theorem dX9_findUnits_13 : decode cX9_findUnits 13 = .ok (.getfield 102, 3) := by decide +kernel
theorem dX9_findUnits_16 : decode cX9_findUnits 16 = .ok (.if_icmp .ge 198, 3) := by decide +kernel
theorem dX9_findUnits_19 : decode cX9_findUnits 19 = .ok (.aload_n 0, 1) := by decide +kernel
theorem dX9_findUnits_20 : decode cX9_findUnits 20 = .ok (.getfield 65, 3) := by decide +kernel
theorem dX9_findUnits_23 : decode cX9_findUnits 23 = .ok (.iload_n 1, 1) := by decide +kernel
theorem dX9_findUnits_24 : decode cX9_findUnits 24 = .ok (.iconst (-1), 1) := by decide +kernel
theorem dX9_findUnits_25 : decode cX9_findUnits 25 = .ok (.iastore, 1) := by decide +kernel
theorem dX9_findUnits_26 : decode cX9_findUnits 26 = .ok (.aload_n 0, 1) := by decide +kernel
theorem dX9_findUnits_27 : decode cX9_findUnits 27 = .ok (.getfield 7, 3) := by decide +kernel
theorem dX9_findUnits_30 : decode cX9_findUnits 30 = .ok (.iload_n 1, 1) := by decide +kernel
theorem dX9_findUnits_31 : decode cX9_findUnits 31 = .ok (.iaload, 1) := by decide +kernel
theorem dX9_findUnits_32 : decode cX9_findUnits 32 = .ok (.iconst 3, 1) := by decide +kernel
theorem dX9_findUnits_33 : decode cX9_findUnits 33 = .ok (.if_icmp .lt 175, 3) := by decide +kernel
theorem dX9_findUnits_36 : decode cX9_findUnits 36 = .ok (.aload_n 0, 1) := by decide +kernel
theorem dX9_findUnits_37 : decode cX9_findUnits 37 = .ok (.getfield 7, 3) := by decide +kernel
theorem dX9_findUnits_40 : decode cX9_findUnits 40 = .ok (.iload_n 1, 1) := by decide +kernel
theorem dX9_findUnits_41 : decode cX9_findUnits 41 = .ok (.iaload, 1) := by decide +kernel
theorem dX9_findUnits_42 : decode cX9_findUnits 42 = .ok (.iconst 5, 1) := by decide +kernel
theorem dX9_findUnits_43 : decode cX9_findUnits 43 = .ok (.if_icmp .gt 165, 3) := by decide +kernel
theorem dX9_findUnits_46 : decode cX9_findUnits 46 = .ok (.aload_n 0, 1) := by decide +kernel
theorem dX9_findUnits_47 : decode cX9_findUnits 47 = .ok (.iload_n 1, 1) := by decide +kernel
theorem dX9_findUnits_48 : decode cX9_findUnits 48 = .ok (.invokevirtual 240, 3) := by decide +kernel
theorem dX9_findUnits_51 : decode cX9_findUnits 51 = .ok (.ifCond .ne 6, 3) := by decide +kernel
theorem dX9_findUnits_54 : decode cX9_findUnits 54 = .ok (.goto 154, 3) := by decide +kernel
theorem dX9_findUnits_57 : decode cX9_findUnits 57 = .ok (.iconst (-1), 1) := by decide +kernel
theorem dX9_findUnits_58 : decode cX9_findUnits 58 = .ok (.istore_n 2, 1) := by decide +kernel
theorem dX9_findUnits_59 : decode cX9_findUnits 59 = .ok (.iconst 0, 1) := by decide +kernel
theorem dX9_findUnits_60 : decode cX9_findUnits 60 = .ok (.istore_n 3, 1) := by decide +kernel
theorem dX9_findUnits_61 : decode cX9_findUnits 61 = .ok (.iload_n 3, 1) := by decide +kernel
theorem dX9_findUnits_62 : decode cX9_findUnits 62 = .ok (.aload_n 0, 1) := by decide +kernel
theorem dX9_findUnits_63 : decode cX9_findUnits 63 = .ok (.getfield 259, 3) := by decide +kernel
theorem dX9_findUnits_66 : decode cX9_findUnits 66 = .ok (.if_icmp .ge 63, 3) := by decide +kernel
theorem dX9_findUnits_69 : decode cX9_findUnits 69 = .ok (.aload_n 0, 1) := by decide +kernel
theorem dX9_findUnits_70 : decode cX9_findUnits 70 = .ok (.getfield 50, 3) := by decide +kernel
theorem dX9_findUnits_73 : decode cX9_findUnits 73 = .ok (.iload_n 3, 1) := by decide +kernel
theorem dX9_findUnits_74 : decode cX9_findUnits 74 = .ok (.iaload, 1) := by decide +kernel
theorem dX9_findUnits_75 : decode cX9_findUnits 75 = .ok (.aload_n 0, 1) := by decide +kernel
theorem dX9_findUnits_76 : decode cX9_findUnits 76 = .ok (.getfield 7, 3) := by decide +kernel
theorem dX9_findUnits_79 : decode cX9_findUnits 79 = .ok (.iload_n 1, 1) := by decide +kernel
theorem dX9_findUnits_80 : decode cX9_findUnits 80 = .ok (.iaload, 1) := by decide +kernel
theorem dX9_findUnits_81 : decode cX9_findUnits 81 = .ok (.if_icmp .ne 42, 3) := by decide +kernel
theorem dX9_findUnits_84 : decode cX9_findUnits 84 = .ok (.aload_n 0, 1) := by decide +kernel
theorem dX9_findUnits_85 : decode cX9_findUnits 85 = .ok (.getfield 62, 3) := by decide +kernel
theorem dX9_findUnits_88 : decode cX9_findUnits 88 = .ok (.iload_n 3, 1) := by decide +kernel
theorem dX9_findUnits_89 : decode cX9_findUnits 89 = .ok (.iaload, 1) := by decide +kernel
theorem dX9_findUnits_90 : decode cX9_findUnits 90 = .ok (.aload_n 0, 1) := by decide +kernel
theorem dX9_findUnits_91 : decode cX9_findUnits 91 = .ok (.getfield 28, 3) := by decide +kernel
theorem dX9_findUnits_94 : decode cX9_findUnits 94 = .ok (.iload_n 1, 1) := by decide +kernel
theorem dX9_findUnits_95 : decode cX9_findUnits 95 = .ok (.iaload, 1) := by decide +kernel
theorem dX9_findUnits_96 : decode cX9_findUnits 96 = .ok (.ishr, 1) := by decide +kernel
theorem dX9_findUnits_97 : decode cX9_findUnits 97 = .ok (.iconst 1, 1) := by decide +kernel
theorem dX9_findUnits_98 : decode cX9_findUnits 98 = .ok (.iand, 1) := by decide +kernel
theorem dX9_findUnits_99 : decode cX9_findUnits 99 = .ok (.ifCond .ne 24, 3) := by decide +kernel
theorem dX9_findUnits_102 : decode cX9_findUnits 102 = .ok (.iload_n 2, 1) := by decide +kernel
theorem dX9_findUnits_103 : decode cX9_findUnits 103 = .ok (.ifCond .lt 18, 3) := by decide +kernel
theorem dX9_findUnits_106 : decode cX9_findUnits 106 = .ok (.aload_n 0, 1) := by decide +kernel
theorem dX9_findUnits_107 : decode cX9_findUnits 107 = .ok (.iload_n 3, 1) := by decide +kernel
theorem dX9_findUnits_108 : decode cX9_findUnits 108 = .ok (.iload_n 1, 1) := by decide +kernel
theorem dX9_findUnits_109 : decode cX9_findUnits 109 = .ok (.invokevirtual 262, 3) := by decide +kernel
theorem dX9_findUnits_112 : decode cX9_findUnits 112 = .ok (.aload_n 0, 1) := by decide +kernel
theorem dX9_findUnits_113 : decode cX9_findUnits 113 = .ok (.iload_n 2, 1) := by decide +kernel
theorem dX9_findUnits_114 : decode cX9_findUnits 114 = .ok (.iload_n 1, 1) := by decide +kernel
theorem dX9_findUnits_115 : decode cX9_findUnits 115 = .ok (.invokevirtual 262, 3) := by decide +kernel
theorem dX9_findUnits_118 : decode cX9_findUnits 118 = .ok (.if_icmp .ge 5, 3) := by decide +kernel
theorem dX9_findUnits_121 : decode cX9_findUnits 121 = .ok (.iload_n 3, 1) := by decide +kernel
theorem dX9_findUnits_122 : decode cX9_findUnits 122 = .ok (.istore_n 2, 1) := by decide +kernel
theorem dX9_findUnits_123 : decode cX9_findUnits 123 = .ok (.iinc 3 1, 3) := by decide +kernel
theorem dX9_findUnits_126 : decode cX9_findUnits 126 = .ok (.goto (-65), 3) := by decide +kernel
theorem dX9_findUnits_129 : decode cX9_findUnits 129 = .ok (.iload_n 2, 1) := by decide +kernel
theorem dX9_findUnits_130 : decode cX9_findUnits 130 = .ok (.ifCond .lt 17, 3) := by decide +kernel
theorem dX9_findUnits_133 : decode cX9_findUnits 133 = .ok (.aload_n 0, 1) := by decide +kernel
theorem dX9_findUnits_134 : decode cX9_findUnits 134 = .ok (.iload_n 2, 1) := by decide +kernel
theorem dX9_findUnits_135 : decode cX9_findUnits 135 = .ok (.iload_n 1, 1) := by decide +kernel
theorem dX9_findUnits_136 : decode cX9_findUnits 136 = .ok (.invokevirtual 262, 3) := by decide +kernel
theorem dX9_findUnits_139 : decode cX9_findUnits 139 = .ok (.aload_n 0, 1) := by decide +kernel
theorem dX9_findUnits_140 : decode cX9_findUnits 140 = .ok (.iload_n 1, 1) := by decide +kernel
theorem dX9_findUnits_141 : decode cX9_findUnits 141 = .ok (.invokevirtual 253, 3) := by decide +kernel
theorem dX9_findUnits_144 : decode cX9_findUnits 144 = .ok (.if_icmp .lt 58, 3) := by decide +kernel
theorem dX9_findUnits_147 : decode cX9_findUnits 147 = .ok (.aload_n 0, 1) := by decide +kernel
theorem dX9_findUnits_148 : decode cX9_findUnits 148 = .ok (.getfield 259, 3) := by decide +kernel
theorem dX9_findUnits_151 : decode cX9_findUnits 151 = .ok (.istore_n 2, 1) := by decide +kernel
theorem dX9_findUnits_152 : decode cX9_findUnits 152 = .ok (.aload_n 0, 1) := by decide +kernel
theorem dX9_findUnits_153 : decode cX9_findUnits 153 = .ok (.getfield 50, 3) := by decide +kernel
theorem dX9_findUnits_156 : decode cX9_findUnits 156 = .ok (.iload_n 2, 1) := by decide +kernel
theorem dX9_findUnits_157 : decode cX9_findUnits 157 = .ok (.aload_n 0, 1) := by decide +kernel
theorem dX9_findUnits_158 : decode cX9_findUnits 158 = .ok (.getfield 7, 3) := by decide +kernel
theorem dX9_findUnits_161 : decode cX9_findUnits 161 = .ok (.iload_n 1, 1) := by decide +kernel
theorem dX9_findUnits_162 : decode cX9_findUnits 162 = .ok (.iaload, 1) := by decide +kernel
theorem dX9_findUnits_163 : decode cX9_findUnits 163 = .ok (.iastore, 1) := by decide +kernel
theorem dX9_findUnits_164 : decode cX9_findUnits 164 = .ok (.aload_n 0, 1) := by decide +kernel
theorem dX9_findUnits_165 : decode cX9_findUnits 165 = .ok (.getfield 53, 3) := by decide +kernel
theorem dX9_findUnits_168 : decode cX9_findUnits 168 = .ok (.iload_n 2, 1) := by decide +kernel
theorem dX9_findUnits_169 : decode cX9_findUnits 169 = .ok (.iconst 0, 1) := by decide +kernel
theorem dX9_findUnits_170 : decode cX9_findUnits 170 = .ok (.iastore, 1) := by decide +kernel
theorem dX9_findUnits_171 : decode cX9_findUnits 171 = .ok (.aload_n 0, 1) := by decide +kernel
theorem dX9_findUnits_172 : decode cX9_findUnits 172 = .ok (.getfield 56, 3) := by decide +kernel
theorem dX9_findUnits_175 : decode cX9_findUnits 175 = .ok (.iload_n 2, 1) := by decide +kernel
theorem dX9_findUnits_176 : decode cX9_findUnits 176 = .ok (.iconst 0, 1) := by decide +kernel
theorem dX9_findUnits_177 : decode cX9_findUnits 177 = .ok (.iastore, 1) := by decide +kernel
theorem dX9_findUnits_178 : decode cX9_findUnits 178 = .ok (.aload_n 0, 1) := by decide +kernel
theorem dX9_findUnits_179 : decode cX9_findUnits 179 = .ok (.getfield 59, 3) := by decide +kernel
theorem dX9_findUnits_182 : decode cX9_findUnits 182 = .ok (.iload_n 2, 1) := by decide +kernel
theorem dX9_findUnits_183 : decode cX9_findUnits 183 = .ok (.iload_n 1, 1) := by decide +kernel
theorem dX9_findUnits_184 : decode cX9_findUnits 184 = .ok (.iastore, 1) := by decide +kernel
theorem dX9_findUnits_185 : decode cX9_findUnits 185 = .ok (.aload_n 0, 1) := by decide +kernel
theorem dX9_findUnits_186 : decode cX9_findUnits 186 = .ok (.getfield 62, 3) := by decide +kernel
theorem dX9_findUnits_189 : decode cX9_findUnits 189 = .ok (.iload_n 2, 1) := by decide +kernel
theorem dX9_findUnits_190 : decode cX9_findUnits 190 = .ok (.iconst 0, 1) := by decide +kernel
theorem dX9_findUnits_191 : decode cX9_findUnits 191 = .ok (.iastore, 1) := by decide +kernel
theorem dX9_findUnits_192 : decode cX9_findUnits 192 = .ok (.aload_n 0, 1) := by decide +kernel
theorem dX9_findUnits_193 : decode cX9_findUnits 193 = .ok (.dup, 1) := by decide +kernel
theorem dX9_findUnits_194 : decode cX9_findUnits 194 = .ok (.getfield 259, 3) := by decide +kernel
theorem dX9_findUnits_197 : decode cX9_findUnits 197 = .ok (.iconst 1, 1) := by decide +kernel
theorem dX9_findUnits_198 : decode cX9_findUnits 198 = .ok (.iadd, 1) := by decide +kernel
theorem dX9_findUnits_199 : decode cX9_findUnits 199 = .ok (.putfield 259, 3) := by decide +kernel
theorem dX9_findUnits_202 : decode cX9_findUnits 202 = .ok (.aload_n 0, 1) := by decide +kernel
theorem dX9_findUnits_203 : decode cX9_findUnits 203 = .ok (.iload_n 2, 1) := by decide +kernel
theorem dX9_findUnits_204 : decode cX9_findUnits 204 = .ok (.iload_n 1, 1) := by decide +kernel
theorem dX9_findUnits_205 : decode cX9_findUnits 205 = .ok (.invokevirtual 265, 3) := by decide +kernel
theorem dX9_findUnits_208 : decode cX9_findUnits 208 = .ok (.iinc 1 1, 3) := by decide +kernel
theorem dX9_findUnits_211 : decode cX9_findUnits 211 = .ok (.goto (-200), 3) := by decide +kernel
theorem dX9_findUnits_214 : decode cX9_findUnits 214 = .ok (.return_, 1) := by decide +kernel
theorem dX9_totalOf_0 : decode cX9_totalOf 0 = .ok (.aload_n 0, 1) := by decide +kernel
theorem dX9_totalOf_1 : decode cX9_totalOf 1 = .ok (.invokevirtual 269, 3) := by decide +kernel
theorem dX9_totalOf_4 : decode cX9_totalOf 4 = .ok (.iconst 0, 1) := by decide +kernel
theorem dX9_totalOf_5 : decode cX9_totalOf 5 = .ok (.istore_n 2, 1) := by decide +kernel
theorem dX9_totalOf_6 : decode cX9_totalOf 6 = .ok (.iconst 0, 1) := by decide +kernel
theorem dX9_totalOf_7 : decode cX9_totalOf 7 = .ok (.istore_n 3, 1) := by decide +kernel
theorem dX9_totalOf_8 : decode cX9_totalOf 8 = .ok (.iload_n 3, 1) := by decide +kernel
theorem dX9_totalOf_9 : decode cX9_totalOf 9 = .ok (.aload_n 0, 1) := by decide +kernel
theorem dX9_totalOf_10 : decode cX9_totalOf 10 = .ok (.getfield 102, 3) := by decide +kernel
theorem dX9_totalOf_13 : decode cX9_totalOf 13 = .ok (.if_icmp .ge 116, 3) := by decide +kernel
theorem dX9_totalOf_16 : decode cX9_totalOf 16 = .ok (.iload_n 1, 1) := by decide +kernel
theorem dX9_totalOf_17 : decode cX9_totalOf 17 = .ok (.ifCond .ne 11, 3) := by decide +kernel
theorem dX9_totalOf_20 : decode cX9_totalOf 20 = .ok (.iload_n 2, 1) := by decide +kernel
theorem dX9_totalOf_21 : decode cX9_totalOf 21 = .ok (.aload_n 0, 1) := by decide +kernel
theorem dX9_totalOf_22 : decode cX9_totalOf 22 = .ok (.iload_n 3, 1) := by decide +kernel
theorem dX9_totalOf_23 : decode cX9_totalOf 23 = .ok (.invokevirtual 253, 3) := by decide +kernel
theorem dX9_totalOf_26 : decode cX9_totalOf 26 = .ok (.iadd, 1) := by decide +kernel
theorem dX9_totalOf_27 : decode cX9_totalOf 27 = .ok (.istore_n 2, 1) := by decide +kernel
theorem dX9_totalOf_28 : decode cX9_totalOf 28 = .ok (.iload_n 1, 1) := by decide +kernel
theorem dX9_totalOf_29 : decode cX9_totalOf 29 = .ok (.iconst 1, 1) := by decide +kernel
theorem dX9_totalOf_30 : decode cX9_totalOf 30 = .ok (.if_icmp .ne 33, 3) := by decide +kernel
theorem dX9_totalOf_33 : decode cX9_totalOf 33 = .ok (.iload_n 2, 1) := by decide +kernel
theorem dX9_totalOf_34 : decode cX9_totalOf 34 = .ok (.aload_n 0, 1) := by decide +kernel
theorem dX9_totalOf_35 : decode cX9_totalOf 35 = .ok (.getfield 7, 3) := by decide +kernel
theorem dX9_totalOf_38 : decode cX9_totalOf 38 = .ok (.iload_n 3, 1) := by decide +kernel
theorem dX9_totalOf_39 : decode cX9_totalOf 39 = .ok (.iaload, 1) := by decide +kernel
theorem dX9_totalOf_40 : decode cX9_totalOf 40 = .ok (.bipush 11, 2) := by decide +kernel
theorem dX9_totalOf_42 : decode cX9_totalOf 42 = .ok (.if_icmp .ne 8, 3) := by decide +kernel
theorem dX9_totalOf_45 : decode cX9_totalOf 45 = .ok (.bipush 32, 2) := by decide +kernel
theorem dX9_totalOf_47 : decode cX9_totalOf 47 = .ok (.goto 14, 3) := by decide +kernel
theorem dX9_totalOf_50 : decode cX9_totalOf 50 = .ok (.aload_n 0, 1) := by decide +kernel
theorem dX9_totalOf_51 : decode cX9_totalOf 51 = .ok (.getfield 7, 3) := by decide +kernel
theorem dX9_totalOf_54 : decode cX9_totalOf 54 = .ok (.iload_n 3, 1) := by decide +kernel
theorem dX9_totalOf_55 : decode cX9_totalOf 55 = .ok (.iaload, 1) := by decide +kernel
theorem dX9_totalOf_56 : decode cX9_totalOf 56 = .ok (.bipush 32, 2) := by decide +kernel
theorem dX9_totalOf_58 : decode cX9_totalOf 58 = .ok (.invokestatic 249, 3) := by decide +kernel
theorem dX9_totalOf_61 : decode cX9_totalOf 61 = .ok (.iadd, 1) := by decide +kernel
theorem dX9_totalOf_62 : decode cX9_totalOf 62 = .ok (.istore_n 2, 1) := by decide +kernel
theorem dX9_totalOf_63 : decode cX9_totalOf 63 = .ok (.iload_n 1, 1) := by decide +kernel
theorem dX9_totalOf_64 : decode cX9_totalOf 64 = .ok (.iconst 2, 1) := by decide +kernel
theorem dX9_totalOf_65 : decode cX9_totalOf 65 = .ok (.if_icmp .ne 24, 3) := by decide +kernel
theorem dX9_totalOf_68 : decode cX9_totalOf 68 = .ok (.iload_n 2, 1) := by decide +kernel
theorem dX9_totalOf_69 : decode cX9_totalOf 69 = .ok (.aload_n 0, 1) := by decide +kernel
theorem dX9_totalOf_70 : decode cX9_totalOf 70 = .ok (.getfield 65, 3) := by decide +kernel
theorem dX9_totalOf_73 : decode cX9_totalOf 73 = .ok (.iload_n 3, 1) := by decide +kernel
theorem dX9_totalOf_74 : decode cX9_totalOf 74 = .ok (.iaload, 1) := by decide +kernel
theorem dX9_totalOf_75 : decode cX9_totalOf 75 = .ok (.ifCond .ge 11, 3) := by decide +kernel
theorem dX9_totalOf_78 : decode cX9_totalOf 78 = .ok (.aload_n 0, 1) := by decide +kernel
theorem dX9_totalOf_79 : decode cX9_totalOf 79 = .ok (.iload_n 3, 1) := by decide +kernel
theorem dX9_totalOf_80 : decode cX9_totalOf 80 = .ok (.invokevirtual 253, 3) := by decide +kernel
theorem dX9_totalOf_83 : decode cX9_totalOf 83 = .ok (.goto 4, 3) := by decide +kernel
theorem dX9_totalOf_86 : decode cX9_totalOf 86 = .ok (.iconst 0, 1) := by decide +kernel
theorem dX9_totalOf_87 : decode cX9_totalOf 87 = .ok (.iadd, 1) := by decide +kernel
theorem dX9_totalOf_88 : decode cX9_totalOf 88 = .ok (.istore_n 2, 1) := by decide +kernel
theorem dX9_totalOf_89 : decode cX9_totalOf 89 = .ok (.iload_n 1, 1) := by decide +kernel
theorem dX9_totalOf_90 : decode cX9_totalOf 90 = .ok (.iconst 3, 1) := by decide +kernel
theorem dX9_totalOf_91 : decode cX9_totalOf 91 = .ok (.if_icmp .ne 11, 3) := by decide +kernel
theorem dX9_totalOf_94 : decode cX9_totalOf 94 = .ok (.iload_n 2, 1) := by decide +kernel
theorem dX9_totalOf_95 : decode cX9_totalOf 95 = .ok (.aload_n 0, 1) := by decide +kernel
theorem dX9_totalOf_96 : decode cX9_totalOf 96 = .ok (.iload_n 3, 1) := by decide +kernel
theorem dX9_totalOf_97 : decode cX9_totalOf 97 = .ok (.invokevirtual 240, 3) := by decide +kernel
theorem dX9_totalOf_100 : decode cX9_totalOf 100 = .ok (.iadd, 1) := by decide +kernel
theorem dX9_totalOf_101 : decode cX9_totalOf 101 = .ok (.istore_n 2, 1) := by decide +kernel
theorem dX9_totalOf_102 : decode cX9_totalOf 102 = .ok (.iload_n 1, 1) := by decide +kernel
theorem dX9_totalOf_103 : decode cX9_totalOf 103 = .ok (.iconst 4, 1) := by decide +kernel
theorem dX9_totalOf_104 : decode cX9_totalOf 104 = .ok (.if_icmp .ne 19, 3) := by decide +kernel
theorem dX9_totalOf_107 : decode cX9_totalOf 107 = .ok (.iload_n 2, 1) := by decide +kernel
theorem dX9_totalOf_108 : decode cX9_totalOf 108 = .ok (.aload_n 0, 1) := by decide +kernel
theorem dX9_totalOf_109 : decode cX9_totalOf 109 = .ok (.iload_n 3, 1) := by decide +kernel
theorem dX9_totalOf_110 : decode cX9_totalOf 110 = .ok (.invokevirtual 240, 3) := by decide +kernel
theorem dX9_totalOf_113 : decode cX9_totalOf 113 = .ok (.ifCond .ne 7, 3) := by decide +kernel
theorem dX9_totalOf_116 : decode cX9_totalOf 116 = .ok (.iconst 1, 1) := by decide +kernel
theorem dX9_totalOf_117 : decode cX9_totalOf 117 = .ok (.goto 4, 3) := by decide +kernel
theorem dX9_totalOf_120 : decode cX9_totalOf 120 = .ok (.iconst 0, 1) := by decide +kernel
theorem dX9_totalOf_121 : decode cX9_totalOf 121 = .ok (.iadd, 1) := by decide +kernel
theorem dX9_totalOf_122 : decode cX9_totalOf 122 = .ok (.istore_n 2, 1) := by decide +kernel
theorem dX9_totalOf_123 : decode cX9_totalOf 123 = .ok (.iinc 3 1, 3) := by decide +kernel
theorem dX9_totalOf_126 : decode cX9_totalOf 126 = .ok (.goto (-118), 3) := by decide +kernel
theorem dX9_totalOf_129 : decode cX9_totalOf 129 = .ok (.iconst 0, 1) := by decide +kernel
theorem dX9_totalOf_130 : decode cX9_totalOf 130 = .ok (.istore_n 3, 1) := by decide +kernel
theorem dX9_totalOf_131 : decode cX9_totalOf 131 = .ok (.iload_n 3, 1) := by decide +kernel
theorem dX9_totalOf_132 : decode cX9_totalOf 132 = .ok (.aload_n 0, 1) := by decide +kernel
theorem dX9_totalOf_133 : decode cX9_totalOf 133 = .ok (.getfield 259, 3) := by decide +kernel
theorem dX9_totalOf_136 : decode cX9_totalOf 136 = .ok (.if_icmp .ge 38, 3) := by decide +kernel
theorem dX9_totalOf_139 : decode cX9_totalOf 139 = .ok (.iload_n 1, 1) := by decide +kernel
theorem dX9_totalOf_140 : decode cX9_totalOf 140 = .ok (.iconst 2, 1) := by decide +kernel
theorem dX9_totalOf_141 : decode cX9_totalOf 141 = .ok (.if_icmp .ne 33, 3) := by decide +kernel
theorem dX9_totalOf_144 : decode cX9_totalOf 144 = .ok (.iload_n 2, 1) := by decide +kernel
theorem dX9_totalOf_145 : decode cX9_totalOf 145 = .ok (.aload_n 0, 1) := by decide +kernel
theorem dX9_totalOf_146 : decode cX9_totalOf 146 = .ok (.getfield 50, 3) := by decide +kernel
theorem dX9_totalOf_149 : decode cX9_totalOf 149 = .ok (.iload_n 3, 1) := by decide +kernel
theorem dX9_totalOf_150 : decode cX9_totalOf 150 = .ok (.iaload, 1) := by decide +kernel
theorem dX9_totalOf_151 : decode cX9_totalOf 151 = .ok (.aload_n 0, 1) := by decide +kernel
theorem dX9_totalOf_152 : decode cX9_totalOf 152 = .ok (.getfield 53, 3) := by decide +kernel
theorem dX9_totalOf_155 : decode cX9_totalOf 155 = .ok (.iload_n 3, 1) := by decide +kernel
theorem dX9_totalOf_156 : decode cX9_totalOf 156 = .ok (.iaload, 1) := by decide +kernel
theorem dX9_totalOf_157 : decode cX9_totalOf 157 = .ok (.aload_n 0, 1) := by decide +kernel
theorem dX9_totalOf_158 : decode cX9_totalOf 158 = .ok (.getfield 56, 3) := by decide +kernel
theorem dX9_totalOf_161 : decode cX9_totalOf 161 = .ok (.iload_n 3, 1) := by decide +kernel
theorem dX9_totalOf_162 : decode cX9_totalOf 162 = .ok (.iaload, 1) := by decide +kernel
theorem dX9_totalOf_163 : decode cX9_totalOf 163 = .ok (.invokestatic 256, 3) := by decide +kernel
theorem dX9_totalOf_166 : decode cX9_totalOf 166 = .ok (.iadd, 1) := by decide +kernel
theorem dX9_totalOf_167 : decode cX9_totalOf 167 = .ok (.istore_n 2, 1) := by decide +kernel
theorem dX9_totalOf_168 : decode cX9_totalOf 168 = .ok (.iinc 3 1, 3) := by decide +kernel
theorem dX9_totalOf_171 : decode cX9_totalOf 171 = .ok (.goto (-40), 3) := by decide +kernel
theorem dX9_totalOf_174 : decode cX9_totalOf 174 = .ok (.iload_n 2, 1) := by decide +kernel
theorem dX9_totalOf_175 : decode cX9_totalOf 175 = .ok (.ireturn, 1) := by decide +kernel
theorem dX9_total_0 : decode cX9_total 0 = .ok (.iload_n 1, 1) := by decide +kernel
theorem dX9_total_1 : decode cX9_total 1 = .ok (.i2l, 1) := by decide +kernel
theorem dX9_total_2 : decode cX9_total 2 = .ok (.lconst 0, 1) := by decide +kernel
theorem dX9_total_3 : decode cX9_total 3 = .ok (.ldc2_w 272, 3) := by decide +kernel
theorem dX9_total_6 : decode cX9_total 6 = .ok (.invokestatic 109, 3) := by decide +kernel
theorem dX9_total_9 : decode cX9_total 9 = .ok (.ifCond .ne 9, 3) := by decide +kernel
theorem dX9_total_12 : decode cX9_total 12 = .ok (.aload_n 0, 1) := by decide +kernel
theorem dX9_total_13 : decode cX9_total 13 = .ok (.iconst 1, 1) := by decide +kernel
theorem dX9_total_14 : decode cX9_total 14 = .ok (.invokevirtual 132, 3) := by decide +kernel
theorem dX9_total_17 : decode cX9_total 17 = .ok (.ireturn, 1) := by decide +kernel
theorem dX9_total_18 : decode cX9_total 18 = .ok (.aload_n 0, 1) := by decide +kernel
theorem dX9_total_19 : decode cX9_total 19 = .ok (.iconst 0, 1) := by decide +kernel
theorem dX9_total_20 : decode cX9_total 20 = .ok (.putfield 98, 3) := by decide +kernel
theorem dX9_total_23 : decode cX9_total 23 = .ok (.aload_n 0, 1) := by decide +kernel
theorem dX9_total_24 : decode cX9_total 24 = .ok (.iload_n 1, 1) := by decide +kernel
theorem dX9_total_25 : decode cX9_total 25 = .ok (.invokevirtual 274, 3) := by decide +kernel
theorem dX9_total_28 : decode cX9_total 28 = .ok (.ireturn, 1) := by decide +kernel
theorem dX9_share_0 : decode cX9_share 0 = .ok (.aload_n 0, 1) := by decide +kernel
theorem dX9_share_1 : decode cX9_share 1 = .ok (.iconst 1, 1) := by decide +kernel
theorem dX9_share_2 : decode cX9_share 2 = .ok (.invokevirtual 274, 3) := by decide +kernel
theorem dX9_share_5 : decode cX9_share 5 = .ok (.istore_n 1, 1) := by decide +kernel
theorem dX9_share_6 : decode cX9_share 6 = .ok (.aload_n 0, 1) := by decide +kernel
theorem dX9_share_7 : decode cX9_share 7 = .ok (.iload_n 1, 1) := by decide +kernel
theorem dX9_share_8 : decode cX9_share 8 = .ok (.ifCond .ne 7, 3) := by decide +kernel
theorem dX9_share_11 : decode cX9_share 11 = .ok (.iconst 1, 1) := by decide +kernel
theorem dX9_share_12 : decode cX9_share 12 = .ok (.goto 4, 3) := by decide +kernel
theorem dX9_share_15 : decode cX9_share 15 = .ok (.iconst 0, 1) := by decide +kernel
theorem dX9_share_16 : decode cX9_share 16 = .ok (.putfield 98, 3) := by decide +kernel
theorem dX9_share_19 : decode cX9_share 19 = .ok (.iload_n 1, 1) := by decide +kernel
theorem dX9_share_20 : decode cX9_share 20 = .ok (.ifCond .ne 7, 3) := by decide +kernel
theorem dX9_share_23 : decode cX9_share 23 = .ok (.dconst 0, 1) := by decide +kernel
theorem dX9_share_24 : decode cX9_share 24 = .ok (.goto 12, 3) := by decide +kernel
theorem dX9_share_27 : decode cX9_share 27 = .ok (.aload_n 0, 1) := by decide +kernel
theorem dX9_share_28 : decode cX9_share 28 = .ok (.iconst 0, 1) := by decide +kernel
theorem dX9_share_29 : decode cX9_share 29 = .ok (.invokevirtual 274, 3) := by decide +kernel
theorem dX9_share_32 : decode cX9_share 32 = .ok (.i2d, 1) := by decide +kernel
theorem dX9_share_33 : decode cX9_share 33 = .ok (.iload_n 1, 1) := by decide +kernel
theorem dX9_share_34 : decode cX9_share 34 = .ok (.i2d, 1) := by decide +kernel
theorem dX9_share_35 : decode cX9_share 35 = .ok (.ddiv, 1) := by decide +kernel
theorem dX9_share_36 : decode cX9_share 36 = .ok (.dreturn, 1) := by decide +kernel
theorem dX9_units_0 : decode cX9_units 0 = .ok (.aload_n 0, 1) := by decide +kernel
theorem dX9_units_1 : decode cX9_units 1 = .ok (.iconst 0, 1) := by decide +kernel
theorem dX9_units_2 : decode cX9_units 2 = .ok (.putfield 98, 3) := by decide +kernel
theorem dX9_units_5 : decode cX9_units 5 = .ok (.aload_n 0, 1) := by decide +kernel
theorem dX9_units_6 : decode cX9_units 6 = .ok (.invokevirtual 269, 3) := by decide +kernel
theorem dX9_units_9 : decode cX9_units 9 = .ok (.aload_n 0, 1) := by decide +kernel
theorem dX9_units_10 : decode cX9_units 10 = .ok (.getfield 259, 3) := by decide +kernel
theorem dX9_units_13 : decode cX9_units 13 = .ok (.ireturn, 1) := by decide +kernel
theorem dX9_unit_0 : decode cX9_unit 0 = .ok (.aload_n 0, 1) := by decide +kernel
theorem dX9_unit_1 : decode cX9_unit 1 = .ok (.invokevirtual 269, 3) := by decide +kernel
theorem dX9_unit_4 : decode cX9_unit 4 = .ok (.iload_n 1, 1) := by decide +kernel
theorem dX9_unit_5 : decode cX9_unit 5 = .ok (.i2l, 1) := by decide +kernel
theorem dX9_unit_6 : decode cX9_unit 6 = .ok (.lconst 0, 1) := by decide +kernel
theorem dX9_unit_7 : decode cX9_unit 7 = .ok (.aload_n 0, 1) := by decide +kernel
theorem dX9_unit_8 : decode cX9_unit 8 = .ok (.getfield 259, 3) := by decide +kernel
theorem dX9_unit_11 : decode cX9_unit 11 = .ok (.i2l, 1) := by decide +kernel
theorem dX9_unit_12 : decode cX9_unit 12 = .ok (.lconst 1, 1) := by decide +kernel
theorem dX9_unit_13 : decode cX9_unit 13 = .ok (.lsub, 1) := by decide +kernel
theorem dX9_unit_14 : decode cX9_unit 14 = .ok (.invokestatic 109, 3) := by decide +kernel
theorem dX9_unit_17 : decode cX9_unit 17 = .ok (.ifCond .ne 9, 3) := by decide +kernel
theorem dX9_unit_20 : decode cX9_unit 20 = .ok (.aload_n 0, 1) := by decide +kernel
theorem dX9_unit_21 : decode cX9_unit 21 = .ok (.iconst 1, 1) := by decide +kernel
theorem dX9_unit_22 : decode cX9_unit 22 = .ok (.invokevirtual 132, 3) := by decide +kernel
theorem dX9_unit_25 : decode cX9_unit 25 = .ok (.ireturn, 1) := by decide +kernel
theorem dX9_unit_26 : decode cX9_unit 26 = .ok (.iload_n 2, 1) := by decide +kernel
theorem dX9_unit_27 : decode cX9_unit 27 = .ok (.i2l, 1) := by decide +kernel
theorem dX9_unit_28 : decode cX9_unit 28 = .ok (.lconst 0, 1) := by decide +kernel
theorem dX9_unit_29 : decode cX9_unit 29 = .ok (.ldc2_w 272, 3) := by decide +kernel
theorem dX9_unit_32 : decode cX9_unit 32 = .ok (.invokestatic 109, 3) := by decide +kernel
theorem dX9_unit_35 : decode cX9_unit 35 = .ok (.ifCond .ne 9, 3) := by decide +kernel
theorem dX9_unit_38 : decode cX9_unit 38 = .ok (.aload_n 0, 1) := by decide +kernel
theorem dX9_unit_39 : decode cX9_unit 39 = .ok (.iconst 2, 1) := by decide +kernel
theorem dX9_unit_40 : decode cX9_unit 40 = .ok (.invokevirtual 132, 3) := by decide +kernel
theorem dX9_unit_43 : decode cX9_unit 43 = .ok (.ireturn, 1) := by decide +kernel
theorem dX9_unit_44 : decode cX9_unit 44 = .ok (.aload_n 0, 1) := by decide +kernel
theorem dX9_unit_45 : decode cX9_unit 45 = .ok (.iconst 0, 1) := by decide +kernel
theorem dX9_unit_46 : decode cX9_unit 46 = .ok (.putfield 98, 3) := by decide +kernel
theorem dX9_unit_49 : decode cX9_unit 49 = .ok (.iload_n 2, 1) := by decide +kernel
theorem dX9_unit_50 : decode cX9_unit 50 = .ok (.tableswitch 73 0 3 #[30, 37, 44, 66], 30) := by decide +kernel
theorem dX9_unit_80 : decode cX9_unit 80 = .ok (.aload_n 0, 1) := by decide +kernel
theorem dX9_unit_81 : decode cX9_unit 81 = .ok (.getfield 50, 3) := by decide +kernel
theorem dX9_unit_84 : decode cX9_unit 84 = .ok (.iload_n 1, 1) := by decide +kernel
theorem dX9_unit_85 : decode cX9_unit 85 = .ok (.iaload, 1) := by decide +kernel
theorem dX9_unit_86 : decode cX9_unit 86 = .ok (.ireturn, 1) := by decide +kernel
theorem dX9_unit_87 : decode cX9_unit 87 = .ok (.aload_n 0, 1) := by decide +kernel
theorem dX9_unit_88 : decode cX9_unit 88 = .ok (.getfield 53, 3) := by decide +kernel
theorem dX9_unit_91 : decode cX9_unit 91 = .ok (.iload_n 1, 1) := by decide +kernel
theorem dX9_unit_92 : decode cX9_unit 92 = .ok (.iaload, 1) := by decide +kernel
theorem dX9_unit_93 : decode cX9_unit 93 = .ok (.ireturn, 1) := by decide +kernel
theorem dX9_unit_94 : decode cX9_unit 94 = .ok (.aload_n 0, 1) := by decide +kernel
theorem dX9_unit_95 : decode cX9_unit 95 = .ok (.getfield 50, 3) := by decide +kernel
theorem dX9_unit_98 : decode cX9_unit 98 = .ok (.iload_n 1, 1) := by decide +kernel
theorem dX9_unit_99 : decode cX9_unit 99 = .ok (.iaload, 1) := by decide +kernel
theorem dX9_unit_100 : decode cX9_unit 100 = .ok (.aload_n 0, 1) := by decide +kernel
theorem dX9_unit_101 : decode cX9_unit 101 = .ok (.getfield 53, 3) := by decide +kernel
theorem dX9_unit_104 : decode cX9_unit 104 = .ok (.iload_n 1, 1) := by decide +kernel
theorem dX9_unit_105 : decode cX9_unit 105 = .ok (.iaload, 1) := by decide +kernel
theorem dX9_unit_106 : decode cX9_unit 106 = .ok (.aload_n 0, 1) := by decide +kernel
theorem dX9_unit_107 : decode cX9_unit 107 = .ok (.getfield 56, 3) := by decide +kernel
theorem dX9_unit_110 : decode cX9_unit 110 = .ok (.iload_n 1, 1) := by decide +kernel
theorem dX9_unit_111 : decode cX9_unit 111 = .ok (.iaload, 1) := by decide +kernel
theorem dX9_unit_112 : decode cX9_unit 112 = .ok (.invokestatic 256, 3) := by decide +kernel
theorem dX9_unit_115 : decode cX9_unit 115 = .ok (.ireturn, 1) := by decide +kernel
theorem dX9_unit_116 : decode cX9_unit 116 = .ok (.aload_n 0, 1) := by decide +kernel
theorem dX9_unit_117 : decode cX9_unit 117 = .ok (.getfield 56, 3) := by decide +kernel
theorem dX9_unit_120 : decode cX9_unit 120 = .ok (.iload_n 1, 1) := by decide +kernel
theorem dX9_unit_121 : decode cX9_unit 121 = .ok (.iaload, 1) := by decide +kernel
theorem dX9_unit_122 : decode cX9_unit 122 = .ok (.ireturn, 1) := by decide +kernel
theorem dX9_unit_123 : decode cX9_unit 123 = .ok (.aload_n 0, 1) := by decide +kernel
theorem dX9_unit_124 : decode cX9_unit 124 = .ok (.getfield 59, 3) := by decide +kernel
theorem dX9_unit_127 : decode cX9_unit 127 = .ok (.iload_n 1, 1) := by decide +kernel
theorem dX9_unit_128 : decode cX9_unit 128 = .ok (.iaload, 1) := by decide +kernel
theorem dX9_unit_129 : decode cX9_unit 129 = .ok (.ireturn, 1) := by decide +kernel
theorem dX9_unitOf_0 : decode cX9_unitOf 0 = .ok (.aload_n 0, 1) := by decide +kernel
theorem dX9_unitOf_1 : decode cX9_unitOf 1 = .ok (.iload_n 1, 1) := by decide +kernel
theorem dX9_unitOf_2 : decode cX9_unitOf 2 = .ok (.invokevirtual 123, 3) := by decide +kernel
theorem dX9_unitOf_5 : decode cX9_unitOf 5 = .ok (.ifCond .ne 9, 3) := by decide +kernel
theorem dX9_unitOf_8 : decode cX9_unitOf 8 = .ok (.aload_n 0, 1) := by decide +kernel
theorem dX9_unitOf_9 : decode cX9_unitOf 9 = .ok (.iconst 1, 1) := by decide +kernel
theorem dX9_unitOf_10 : decode cX9_unitOf 10 = .ok (.invokevirtual 132, 3) := by decide +kernel
theorem dX9_unitOf_13 : decode cX9_unitOf 13 = .ok (.ireturn, 1) := by decide +kernel
theorem dX9_unitOf_14 : decode cX9_unitOf 14 = .ok (.aload_n 0, 1) := by decide +kernel
theorem dX9_unitOf_15 : decode cX9_unitOf 15 = .ok (.invokevirtual 269, 3) := by decide +kernel
theorem dX9_unitOf_18 : decode cX9_unitOf 18 = .ok (.aload_n 0, 1) := by decide +kernel
theorem dX9_unitOf_19 : decode cX9_unitOf 19 = .ok (.getfield 65, 3) := by decide +kernel
theorem dX9_unitOf_22 : decode cX9_unitOf 22 = .ok (.iload_n 1, 1) := by decide +kernel
theorem dX9_unitOf_23 : decode cX9_unitOf 23 = .ok (.iaload, 1) := by decide +kernel
theorem dX9_unitOf_24 : decode cX9_unitOf 24 = .ok (.ifCond .ge 9, 3) := by decide +kernel
theorem dX9_unitOf_27 : decode cX9_unitOf 27 = .ok (.aload_n 0, 1) := by decide +kernel
theorem dX9_unitOf_28 : decode cX9_unitOf 28 = .ok (.iconst 2, 1) := by decide +kernel
theorem dX9_unitOf_29 : decode cX9_unitOf 29 = .ok (.invokevirtual 132, 3) := by decide +kernel
theorem dX9_unitOf_32 : decode cX9_unitOf 32 = .ok (.ireturn, 1) := by decide +kernel
theorem dX9_unitOf_33 : decode cX9_unitOf 33 = .ok (.aload_n 0, 1) := by decide +kernel
theorem dX9_unitOf_34 : decode cX9_unitOf 34 = .ok (.iconst 0, 1) := by decide +kernel
theorem dX9_unitOf_35 : decode cX9_unitOf 35 = .ok (.putfield 98, 3) := by decide +kernel
theorem dX9_unitOf_38 : decode cX9_unitOf 38 = .ok (.aload_n 0, 1) := by decide +kernel
theorem dX9_unitOf_39 : decode cX9_unitOf 39 = .ok (.getfield 65, 3) := by decide +kernel
theorem dX9_unitOf_42 : decode cX9_unitOf 42 = .ok (.iload_n 1, 1) := by decide +kernel
theorem dX9_unitOf_43 : decode cX9_unitOf 43 = .ok (.iaload, 1) := by decide +kernel
theorem dX9_unitOf_44 : decode cX9_unitOf 44 = .ok (.ireturn, 1) := by decide +kernel
theorem dX9_narrowed_0 : decode cX9_narrowed 0 = .ok (.aload_n 0, 1) := by decide +kernel
theorem dX9_narrowed_1 : decode cX9_narrowed 1 = .ok (.iload_n 1, 1) := by decide +kernel
theorem dX9_narrowed_2 : decode cX9_narrowed 2 = .ok (.invokevirtual 240, 3) := by decide +kernel
theorem dX9_narrowed_5 : decode cX9_narrowed 5 = .ok (.istore_n 3, 1) := by decide +kernel
theorem dX9_narrowed_6 : decode cX9_narrowed 6 = .ok (.iload_n 3, 1) := by decide +kernel
theorem dX9_narrowed_7 : decode cX9_narrowed 7 = .ok (.ifCond .ne 5, 3) := by decide +kernel
theorem dX9_narrowed_10 : decode cX9_narrowed 10 = .ok (.iconst 0, 1) := by decide +kernel
theorem dX9_narrowed_11 : decode cX9_narrowed 11 = .ok (.ireturn, 1) := by decide +kernel
theorem dX9_narrowed_12 : decode cX9_narrowed 12 = .ok (.iload_n 3, 1) := by decide +kernel
theorem dX9_narrowed_13 : decode cX9_narrowed 13 = .ok (.bipush 32, 2) := by decide +kernel
theorem dX9_narrowed_15 : decode cX9_narrowed 15 = .ok (.if_icmp .ne 5, 3) := by decide +kernel
theorem dX9_narrowed_18 : decode cX9_narrowed 18 = .ok (.iload_n 2, 1) := by decide +kernel
theorem dX9_narrowed_19 : decode cX9_narrowed 19 = .ok (.ireturn, 1) := by decide +kernel
theorem dX9_narrowed_20 : decode cX9_narrowed 20 = .ok (.aload_n 0, 1) := by decide +kernel
theorem dX9_narrowed_21 : decode cX9_narrowed 21 = .ok (.iload_n 1, 1) := by decide +kernel
theorem dX9_narrowed_22 : decode cX9_narrowed 22 = .ok (.invokevirtual 246, 3) := by decide +kernel
theorem dX9_narrowed_25 : decode cX9_narrowed 25 = .ok (.ifCond .eq 17, 3) := by decide +kernel
theorem dX9_narrowed_28 : decode cX9_narrowed 28 = .ok (.iload_n 2, 1) := by decide +kernel
theorem dX9_narrowed_29 : decode cX9_narrowed 29 = .ok (.bipush 32, 2) := by decide +kernel
theorem dX9_narrowed_31 : decode cX9_narrowed 31 = .ok (.iload_n 3, 1) := by decide +kernel
theorem dX9_narrowed_32 : decode cX9_narrowed 32 = .ok (.isub, 1) := by decide +kernel
theorem dX9_narrowed_33 : decode cX9_narrowed 33 = .ok (.ishl, 1) := by decide +kernel
theorem dX9_narrowed_34 : decode cX9_narrowed 34 = .ok (.bipush 32, 2) := by decide +kernel
theorem dX9_narrowed_36 : decode cX9_narrowed 36 = .ok (.iload_n 3, 1) := by decide +kernel
theorem dX9_narrowed_37 : decode cX9_narrowed 37 = .ok (.isub, 1) := by decide +kernel
theorem dX9_narrowed_38 : decode cX9_narrowed 38 = .ok (.ishr, 1) := by decide +kernel
theorem dX9_narrowed_39 : decode cX9_narrowed 39 = .ok (.goto 10, 3) := by decide +kernel
theorem dX9_narrowed_42 : decode cX9_narrowed 42 = .ok (.iload_n 2, 1) := by decide +kernel
theorem dX9_narrowed_43 : decode cX9_narrowed 43 = .ok (.iconst 1, 1) := by decide +kernel
theorem dX9_narrowed_44 : decode cX9_narrowed 44 = .ok (.iload_n 3, 1) := by decide +kernel
theorem dX9_narrowed_45 : decode cX9_narrowed 45 = .ok (.ishl, 1) := by decide +kernel
theorem dX9_narrowed_46 : decode cX9_narrowed 46 = .ok (.iconst 1, 1) := by decide +kernel
theorem dX9_narrowed_47 : decode cX9_narrowed 47 = .ok (.isub, 1) := by decide +kernel
theorem dX9_narrowed_48 : decode cX9_narrowed 48 = .ok (.iand, 1) := by decide +kernel
theorem dX9_narrowed_49 : decode cX9_narrowed 49 = .ok (.ireturn, 1) := by decide +kernel
theorem dX9_computed_0 : decode cX9_computed 0 = .ok (.aload_n 0, 1) := by decide +kernel
theorem dX9_computed_1 : decode cX9_computed 1 = .ok (.getfield 7, 3) := by decide +kernel
theorem dX9_computed_4 : decode cX9_computed 4 = .ok (.iload_n 1, 1) := by decide +kernel
theorem dX9_computed_5 : decode cX9_computed 5 = .ok (.iaload, 1) := by decide +kernel
theorem dX9_computed_6 : decode cX9_computed 6 = .ok (.iconst 3, 1) := by decide +kernel
theorem dX9_computed_7 : decode cX9_computed 7 = .ok (.if_icmp .lt 17, 3) := by decide +kernel
theorem dX9_computed_10 : decode cX9_computed 10 = .ok (.aload_n 0, 1) := by decide +kernel
theorem dX9_computed_11 : decode cX9_computed 11 = .ok (.getfield 68, 3) := by decide +kernel
theorem dX9_computed_14 : decode cX9_computed 14 = .ok (.aload_n 0, 1) := by decide +kernel
theorem dX9_computed_15 : decode cX9_computed 15 = .ok (.getfield 13, 3) := by decide +kernel
theorem dX9_computed_18 : decode cX9_computed 18 = .ok (.iload_n 1, 1) := by decide +kernel
theorem dX9_computed_19 : decode cX9_computed 19 = .ok (.iaload, 1) := by decide +kernel
theorem dX9_computed_20 : decode cX9_computed 20 = .ok (.iaload, 1) := by decide +kernel
theorem dX9_computed_21 : decode cX9_computed 21 = .ok (.goto 4, 3) := by decide +kernel
theorem dX9_computed_24 : decode cX9_computed 24 = .ok (.iconst 0, 1) := by decide +kernel
theorem dX9_computed_25 : decode cX9_computed 25 = .ok (.istore_n 2, 1) := by decide +kernel
theorem dX9_computed_26 : decode cX9_computed 26 = .ok (.aload_n 0, 1) := by decide +kernel
theorem dX9_computed_27 : decode cX9_computed 27 = .ok (.getfield 7, 3) := by decide +kernel
theorem dX9_computed_30 : decode cX9_computed 30 = .ok (.iload_n 1, 1) := by decide +kernel
theorem dX9_computed_31 : decode cX9_computed 31 = .ok (.iaload, 1) := by decide +kernel
theorem dX9_computed_32 : decode cX9_computed 32 = .ok (.iconst 1, 1) := by decide +kernel
theorem dX9_computed_33 : decode cX9_computed 33 = .ok (.invokestatic 119, 3) := by decide +kernel
theorem dX9_computed_36 : decode cX9_computed 36 = .ok (.ifCond .eq 17, 3) := by decide +kernel
theorem dX9_computed_39 : decode cX9_computed 39 = .ok (.aload_n 0, 1) := by decide +kernel
theorem dX9_computed_40 : decode cX9_computed 40 = .ok (.getfield 68, 3) := by decide +kernel
theorem dX9_computed_43 : decode cX9_computed 43 = .ok (.aload_n 0, 1) := by decide +kernel
theorem dX9_computed_44 : decode cX9_computed 44 = .ok (.getfield 16, 3) := by decide +kernel
theorem dX9_computed_47 : decode cX9_computed 47 = .ok (.iload_n 1, 1) := by decide +kernel
theorem dX9_computed_48 : decode cX9_computed 48 = .ok (.iaload, 1) := by decide +kernel
theorem dX9_computed_49 : decode cX9_computed 49 = .ok (.iaload, 1) := by decide +kernel
theorem dX9_computed_50 : decode cX9_computed 50 = .ok (.goto 9, 3) := by decide +kernel
theorem dX9_computed_53 : decode cX9_computed 53 = .ok (.aload_n 0, 1) := by decide +kernel
theorem dX9_computed_54 : decode cX9_computed 54 = .ok (.getfield 16, 3) := by decide +kernel
theorem dX9_computed_57 : decode cX9_computed 57 = .ok (.iload_n 1, 1) := by decide +kernel
theorem dX9_computed_58 : decode cX9_computed 58 = .ok (.iaload, 1) := by decide +kernel
theorem dX9_computed_59 : decode cX9_computed 59 = .ok (.istore_n 3, 1) := by decide +kernel
theorem dX9_computed_60 : decode cX9_computed 60 = .ok (.aload_n 0, 1) := by decide +kernel
theorem dX9_computed_61 : decode cX9_computed 61 = .ok (.getfield 7, 3) := by decide +kernel
theorem dX9_computed_64 : decode cX9_computed 64 = .ok (.iload_n 1, 1) := by decide +kernel
theorem dX9_computed_65 : decode cX9_computed 65 = .ok (.iaload, 1) := by decide +kernel
theorem dX9_computed_66 : decode cX9_computed 66 = .ok (.tableswitch 108 1 11 #[58, 108, 65, 69, 73, 77, 81, 85, 89, 93, 97], 58) := by decide +kernel
theorem dX9_computed_124 : decode cX9_computed 124 = .ok (.aload_n 0, 1) := by decide +kernel
theorem dX9_computed_125 : decode cX9_computed 125 = .ok (.getfield 13, 3) := by decide +kernel
theorem dX9_computed_128 : decode cX9_computed 128 = .ok (.iload_n 1, 1) := by decide +kernel
theorem dX9_computed_129 : decode cX9_computed 129 = .ok (.iaload, 1) := by decide +kernel
theorem dX9_computed_130 : decode cX9_computed 130 = .ok (.ireturn, 1) := by decide +kernel
theorem dX9_computed_131 : decode cX9_computed 131 = .ok (.iload_n 2, 1) := by decide +kernel
theorem dX9_computed_132 : decode cX9_computed 132 = .ok (.iload_n 3, 1) := by decide +kernel
theorem dX9_computed_133 : decode cX9_computed 133 = .ok (.iadd, 1) := by decide +kernel
theorem dX9_computed_134 : decode cX9_computed 134 = .ok (.ireturn, 1) := by decide +kernel
theorem dX9_computed_135 : decode cX9_computed 135 = .ok (.iload_n 2, 1) := by decide +kernel
theorem dX9_computed_136 : decode cX9_computed 136 = .ok (.iload_n 3, 1) := by decide +kernel
theorem dX9_computed_137 : decode cX9_computed 137 = .ok (.isub, 1) := by decide +kernel
theorem dX9_computed_138 : decode cX9_computed 138 = .ok (.ireturn, 1) := by decide +kernel
theorem dX9_computed_139 : decode cX9_computed 139 = .ok (.iload_n 2, 1) := by decide +kernel
theorem dX9_computed_140 : decode cX9_computed 140 = .ok (.iload_n 3, 1) := by decide +kernel
theorem dX9_computed_141 : decode cX9_computed 141 = .ok (.imul, 1) := by decide +kernel
theorem dX9_computed_142 : decode cX9_computed 142 = .ok (.ireturn, 1) := by decide +kernel
theorem dX9_computed_143 : decode cX9_computed 143 = .ok (.iload_n 2, 1) := by decide +kernel
theorem dX9_computed_144 : decode cX9_computed 144 = .ok (.iload_n 3, 1) := by decide +kernel
theorem dX9_computed_145 : decode cX9_computed 145 = .ok (.iand, 1) := by decide +kernel
theorem dX9_computed_146 : decode cX9_computed 146 = .ok (.ireturn, 1) := by decide +kernel
theorem dX9_computed_147 : decode cX9_computed 147 = .ok (.iload_n 2, 1) := by decide +kernel
theorem dX9_computed_148 : decode cX9_computed 148 = .ok (.iload_n 3, 1) := by decide +kernel
theorem dX9_computed_149 : decode cX9_computed 149 = .ok (.ior, 1) := by decide +kernel
theorem dX9_computed_150 : decode cX9_computed 150 = .ok (.ireturn, 1) := by decide +kernel
theorem dX9_computed_151 : decode cX9_computed 151 = .ok (.iload_n 2, 1) := by decide +kernel
theorem dX9_computed_152 : decode cX9_computed 152 = .ok (.iload_n 3, 1) := by decide +kernel
theorem dX9_computed_153 : decode cX9_computed 153 = .ok (.ixor, 1) := by decide +kernel
theorem dX9_computed_154 : decode cX9_computed 154 = .ok (.ireturn, 1) := by decide +kernel
theorem dX9_computed_155 : decode cX9_computed 155 = .ok (.iload_n 2, 1) := by decide +kernel
theorem dX9_computed_156 : decode cX9_computed 156 = .ok (.iload_n 3, 1) := by decide +kernel
theorem dX9_computed_157 : decode cX9_computed 157 = .ok (.ishl, 1) := by decide +kernel
theorem dX9_computed_158 : decode cX9_computed 158 = .ok (.ireturn, 1) := by decide +kernel
theorem dX9_computed_159 : decode cX9_computed 159 = .ok (.iload_n 2, 1) := by decide +kernel
theorem dX9_computed_160 : decode cX9_computed 160 = .ok (.iload_n 3, 1) := by decide +kernel
theorem dX9_computed_161 : decode cX9_computed 161 = .ok (.ishr, 1) := by decide +kernel
theorem dX9_computed_162 : decode cX9_computed 162 = .ok (.ireturn, 1) := by decide +kernel
theorem dX9_computed_163 : decode cX9_computed 163 = .ok (.iload_n 2, 1) := by decide +kernel
theorem dX9_computed_164 : decode cX9_computed 164 = .ok (.iload_n 3, 1) := by decide +kernel
theorem dX9_computed_165 : decode cX9_computed 165 = .ok (.if_icmp .ge 7, 3) := by decide +kernel
theorem dX9_computed_168 : decode cX9_computed 168 = .ok (.iconst 1, 1) := by decide +kernel
theorem dX9_computed_169 : decode cX9_computed 169 = .ok (.goto 4, 3) := by decide +kernel
theorem dX9_computed_172 : decode cX9_computed 172 = .ok (.iconst 0, 1) := by decide +kernel
theorem dX9_computed_173 : decode cX9_computed 173 = .ok (.ireturn, 1) := by decide +kernel
theorem dX9_computed_174 : decode cX9_computed 174 = .ok (.iload_n 2, 1) := by decide +kernel
theorem dX9_computed_175 : decode cX9_computed 175 = .ok (.ifCond .eq 7, 3) := by decide +kernel
theorem dX9_computed_178 : decode cX9_computed 178 = .ok (.iload_n 3, 1) := by decide +kernel
theorem dX9_computed_179 : decode cX9_computed 179 = .ok (.goto 14, 3) := by decide +kernel
theorem dX9_computed_182 : decode cX9_computed 182 = .ok (.aload_n 0, 1) := by decide +kernel
theorem dX9_computed_183 : decode cX9_computed 183 = .ok (.getfield 68, 3) := by decide +kernel
theorem dX9_computed_186 : decode cX9_computed 186 = .ok (.aload_n 0, 1) := by decide +kernel
theorem dX9_computed_187 : decode cX9_computed 187 = .ok (.getfield 19, 3) := by decide +kernel
theorem dX9_computed_190 : decode cX9_computed 190 = .ok (.iload_n 1, 1) := by decide +kernel
theorem dX9_computed_191 : decode cX9_computed 191 = .ok (.iaload, 1) := by decide +kernel
theorem dX9_computed_192 : decode cX9_computed 192 = .ok (.iaload, 1) := by decide +kernel
theorem dX9_computed_193 : decode cX9_computed 193 = .ok (.ireturn, 1) := by decide +kernel
theorem dX9_evaluates_0 : decode cX9_evaluates 0 = .ok (.aload_n 0, 1) := by decide +kernel
theorem dX9_evaluates_1 : decode cX9_evaluates 1 = .ok (.invokevirtual 243, 3) := by decide +kernel
theorem dX9_evaluates_4 : decode cX9_evaluates 4 = .ok (.iconst 0, 1) := by decide +kernel
theorem dX9_evaluates_5 : decode cX9_evaluates 5 = .ok (.istore_n 2, 1) := by decide +kernel
theorem dX9_evaluates_6 : decode cX9_evaluates 6 = .ok (.iload_n 2, 1) := by decide +kernel
theorem dX9_evaluates_7 : decode cX9_evaluates 7 = .ok (.aload_n 0, 1) := by decide +kernel
theorem dX9_evaluates_8 : decode cX9_evaluates 8 = .ok (.getfield 102, 3) := by decide +kernel
theorem dX9_evaluates_11 : decode cX9_evaluates 11 = .ok (.if_icmp .ge 85, 3) := by decide +kernel
theorem dX9_evaluates_14 : decode cX9_evaluates 14 = .ok (.aload_n 0, 1) := by decide +kernel
theorem dX9_evaluates_15 : decode cX9_evaluates 15 = .ok (.getfield 7, 3) := by decide +kernel
theorem dX9_evaluates_18 : decode cX9_evaluates 18 = .ok (.iload_n 2, 1) := by decide +kernel
theorem dX9_evaluates_19 : decode cX9_evaluates 19 = .ok (.iaload, 1) := by decide +kernel
theorem dX9_evaluates_20 : decode cX9_evaluates 20 = .ok (.ifCond .ne 12, 3) := by decide +kernel
theorem dX9_evaluates_23 : decode cX9_evaluates 23 = .ok (.aload_n 0, 1) := by decide +kernel
theorem dX9_evaluates_24 : decode cX9_evaluates 24 = .ok (.getfield 31, 3) := by decide +kernel
theorem dX9_evaluates_27 : decode cX9_evaluates 27 = .ok (.iload_n 2, 1) := by decide +kernel
theorem dX9_evaluates_28 : decode cX9_evaluates 28 = .ok (.iaload, 1) := by decide +kernel
theorem dX9_evaluates_29 : decode cX9_evaluates 29 = .ok (.goto 40, 3) := by decide +kernel
theorem dX9_evaluates_32 : decode cX9_evaluates 32 = .ok (.aload_n 0, 1) := by decide +kernel
theorem dX9_evaluates_33 : decode cX9_evaluates 33 = .ok (.getfield 7, 3) := by decide +kernel
theorem dX9_evaluates_36 : decode cX9_evaluates 36 = .ok (.iload_n 2, 1) := by decide +kernel
theorem dX9_evaluates_37 : decode cX9_evaluates 37 = .ok (.iaload, 1) := by decide +kernel
theorem dX9_evaluates_38 : decode cX9_evaluates 38 = .ok (.iconst 2, 1) := by decide +kernel
theorem dX9_evaluates_39 : decode cX9_evaluates 39 = .ok (.if_icmp .ne 25, 3) := by decide +kernel
theorem dX9_evaluates_42 : decode cX9_evaluates 42 = .ok (.iload_n 1, 1) := by decide +kernel
theorem dX9_evaluates_43 : decode cX9_evaluates 43 = .ok (.ifCond .eq 12, 3) := by decide +kernel
theorem dX9_evaluates_46 : decode cX9_evaluates 46 = .ok (.aload_n 0, 1) := by decide +kernel
theorem dX9_evaluates_47 : decode cX9_evaluates 47 = .ok (.getfield 34, 3) := by decide +kernel
theorem dX9_evaluates_50 : decode cX9_evaluates 50 = .ok (.iload_n 2, 1) := by decide +kernel
theorem dX9_evaluates_51 : decode cX9_evaluates 51 = .ok (.iaload, 1) := by decide +kernel
theorem dX9_evaluates_52 : decode cX9_evaluates 52 = .ok (.goto 17, 3) := by decide +kernel
theorem dX9_evaluates_55 : decode cX9_evaluates 55 = .ok (.aload_n 0, 1) := by decide +kernel
theorem dX9_evaluates_56 : decode cX9_evaluates 56 = .ok (.getfield 31, 3) := by decide +kernel
theorem dX9_evaluates_59 : decode cX9_evaluates 59 = .ok (.iload_n 2, 1) := by decide +kernel
theorem dX9_evaluates_60 : decode cX9_evaluates 60 = .ok (.iaload, 1) := by decide +kernel
theorem dX9_evaluates_61 : decode cX9_evaluates 61 = .ok (.goto 8, 3) := by decide +kernel
theorem dX9_evaluates_64 : decode cX9_evaluates 64 = .ok (.aload_n 0, 1) := by decide +kernel
theorem dX9_evaluates_65 : decode cX9_evaluates 65 = .ok (.iload_n 2, 1) := by decide +kernel
theorem dX9_evaluates_66 : decode cX9_evaluates 66 = .ok (.invokevirtual 277, 3) := by decide +kernel
theorem dX9_evaluates_69 : decode cX9_evaluates 69 = .ok (.istore_n 3, 1) := by decide +kernel
theorem dX9_evaluates_70 : decode cX9_evaluates 70 = .ok (.aload_n 0, 1) := by decide +kernel
theorem dX9_evaluates_71 : decode cX9_evaluates 71 = .ok (.getfield 68, 3) := by decide +kernel
theorem dX9_evaluates_74 : decode cX9_evaluates 74 = .ok (.iload_n 2, 1) := by decide +kernel
theorem dX9_evaluates_75 : decode cX9_evaluates 75 = .ok (.iload_n 1, 1) := by decide +kernel
theorem dX9_evaluates_76 : decode cX9_evaluates 76 = .ok (.ifCond .eq 12, 3) := by decide +kernel
theorem dX9_evaluates_79 : decode cX9_evaluates 79 = .ok (.aload_n 0, 1) := by decide +kernel
theorem dX9_evaluates_80 : decode cX9_evaluates 80 = .ok (.iload_n 2, 1) := by decide +kernel
theorem dX9_evaluates_81 : decode cX9_evaluates 81 = .ok (.iload_n 3, 1) := by decide +kernel
theorem dX9_evaluates_82 : decode cX9_evaluates 82 = .ok (.invokevirtual 280, 3) := by decide +kernel
theorem dX9_evaluates_85 : decode cX9_evaluates 85 = .ok (.goto 4, 3) := by decide +kernel
theorem dX9_evaluates_88 : decode cX9_evaluates 88 = .ok (.iload_n 3, 1) := by decide +kernel
theorem dX9_evaluates_89 : decode cX9_evaluates 89 = .ok (.iastore, 1) := by decide +kernel
theorem dX9_evaluates_90 : decode cX9_evaluates 90 = .ok (.iinc 2 1, 3) := by decide +kernel
theorem dX9_evaluates_93 : decode cX9_evaluates 93 = .ok (.goto (-87), 3) := by decide +kernel
theorem dX9_evaluates_96 : decode cX9_evaluates 96 = .ok (.return_, 1) := by decide +kernel
theorem dX9_restarts_0 : decode cX9_restarts 0 = .ok (.aload_n 0, 1) := by decide +kernel
theorem dX9_restarts_1 : decode cX9_restarts 1 = .ok (.iconst 0, 1) := by decide +kernel
theorem dX9_restarts_2 : decode cX9_restarts 2 = .ok (.putfield 227, 3) := by decide +kernel
theorem dX9_restarts_5 : decode cX9_restarts 5 = .ok (.aload_n 0, 1) := by decide +kernel
theorem dX9_restarts_6 : decode cX9_restarts 6 = .ok (.iconst 0, 1) := by decide +kernel
theorem dX9_restarts_7 : decode cX9_restarts 7 = .ok (.putfield 283, 3) := by decide +kernel
theorem dX9_restarts_10 : decode cX9_restarts 10 = .ok (.iconst 0, 1) := by decide +kernel
theorem dX9_restarts_11 : decode cX9_restarts 11 = .ok (.istore_n 1, 1) := by decide +kernel
theorem dX9_restarts_12 : decode cX9_restarts 12 = .ok (.iload_n 1, 1) := by decide +kernel
theorem dX9_restarts_13 : decode cX9_restarts 13 = .ok (.aload_n 0, 1) := by decide +kernel
theorem dX9_restarts_14 : decode cX9_restarts 14 = .ok (.getfield 102, 3) := by decide +kernel
theorem dX9_restarts_17 : decode cX9_restarts 17 = .ok (.if_icmp .ge 46, 3) := by decide +kernel
theorem dX9_restarts_20 : decode cX9_restarts 20 = .ok (.aload_n 0, 1) := by decide +kernel
theorem dX9_restarts_21 : decode cX9_restarts 21 = .ok (.getfield 7, 3) := by decide +kernel
theorem dX9_restarts_24 : decode cX9_restarts 24 = .ok (.iload_n 1, 1) := by decide +kernel
theorem dX9_restarts_25 : decode cX9_restarts 25 = .ok (.iaload, 1) := by decide +kernel
theorem dX9_restarts_26 : decode cX9_restarts 26 = .ok (.iconst 2, 1) := by decide +kernel
theorem dX9_restarts_27 : decode cX9_restarts 27 = .ok (.if_icmp .eq 6, 3) := by decide +kernel
theorem dX9_restarts_30 : decode cX9_restarts 30 = .ok (.goto 27, 3) := by decide +kernel
theorem dX9_restarts_33 : decode cX9_restarts 33 = .ok (.aload_n 0, 1) := by decide +kernel
theorem dX9_restarts_34 : decode cX9_restarts 34 = .ok (.getfield 31, 3) := by decide +kernel
theorem dX9_restarts_37 : decode cX9_restarts 37 = .ok (.iload_n 1, 1) := by decide +kernel
theorem dX9_restarts_38 : decode cX9_restarts 38 = .ok (.aload_n 0, 1) := by decide +kernel
theorem dX9_restarts_39 : decode cX9_restarts 39 = .ok (.getfield 13, 3) := by decide +kernel
theorem dX9_restarts_42 : decode cX9_restarts 42 = .ok (.iload_n 1, 1) := by decide +kernel
theorem dX9_restarts_43 : decode cX9_restarts 43 = .ok (.iaload, 1) := by decide +kernel
theorem dX9_restarts_44 : decode cX9_restarts 44 = .ok (.iastore, 1) := by decide +kernel
theorem dX9_restarts_45 : decode cX9_restarts 45 = .ok (.aload_n 0, 1) := by decide +kernel
theorem dX9_restarts_46 : decode cX9_restarts 46 = .ok (.getfield 34, 3) := by decide +kernel
theorem dX9_restarts_49 : decode cX9_restarts 49 = .ok (.iload_n 1, 1) := by decide +kernel
theorem dX9_restarts_50 : decode cX9_restarts 50 = .ok (.aload_n 0, 1) := by decide +kernel
theorem dX9_restarts_51 : decode cX9_restarts 51 = .ok (.getfield 13, 3) := by decide +kernel
theorem dX9_restarts_54 : decode cX9_restarts 54 = .ok (.iload_n 1, 1) := by decide +kernel
theorem dX9_restarts_55 : decode cX9_restarts 55 = .ok (.iaload, 1) := by decide +kernel
theorem dX9_restarts_56 : decode cX9_restarts 56 = .ok (.iastore, 1) := by decide +kernel
theorem dX9_restarts_57 : decode cX9_restarts 57 = .ok (.iinc 1 1, 3) := by decide +kernel
theorem dX9_restarts_60 : decode cX9_restarts 60 = .ok (.goto (-48), 3) := by decide +kernel
theorem dX9_restarts_63 : decode cX9_restarts 63 = .ok (.return_, 1) := by decide +kernel
theorem dX9_setInput_0 : decode cX9_setInput 0 = .ok (.aload_n 0, 1) := by decide +kernel
theorem dX9_setInput_1 : decode cX9_setInput 1 = .ok (.iload_n 1, 1) := by decide +kernel
theorem dX9_setInput_2 : decode cX9_setInput 2 = .ok (.invokevirtual 123, 3) := by decide +kernel
theorem dX9_setInput_5 : decode cX9_setInput 5 = .ok (.ifCond .ne 9, 3) := by decide +kernel
theorem dX9_setInput_8 : decode cX9_setInput 8 = .ok (.aload_n 0, 1) := by decide +kernel
theorem dX9_setInput_9 : decode cX9_setInput 9 = .ok (.iconst 1, 1) := by decide +kernel
theorem dX9_setInput_10 : decode cX9_setInput 10 = .ok (.invokevirtual 132, 3) := by decide +kernel
theorem dX9_setInput_13 : decode cX9_setInput 13 = .ok (.ireturn, 1) := by decide +kernel
theorem dX9_setInput_14 : decode cX9_setInput 14 = .ok (.aload_n 0, 1) := by decide +kernel
theorem dX9_setInput_15 : decode cX9_setInput 15 = .ok (.getfield 7, 3) := by decide +kernel
theorem dX9_setInput_18 : decode cX9_setInput 18 = .ok (.iload_n 1, 1) := by decide +kernel
theorem dX9_setInput_19 : decode cX9_setInput 19 = .ok (.iaload, 1) := by decide +kernel
theorem dX9_setInput_20 : decode cX9_setInput 20 = .ok (.ifCond .eq 9, 3) := by decide +kernel
theorem dX9_setInput_23 : decode cX9_setInput 23 = .ok (.aload_n 0, 1) := by decide +kernel
theorem dX9_setInput_24 : decode cX9_setInput 24 = .ok (.iconst 2, 1) := by decide +kernel
theorem dX9_setInput_25 : decode cX9_setInput 25 = .ok (.invokevirtual 132, 3) := by decide +kernel
theorem dX9_setInput_28 : decode cX9_setInput 28 = .ok (.ireturn, 1) := by decide +kernel
theorem dX9_setInput_29 : decode cX9_setInput 29 = .ok (.iload_n 2, 1) := by decide +kernel
theorem dX9_setInput_30 : decode cX9_setInput 30 = .ok (.i2l, 1) := by decide +kernel
theorem dX9_setInput_31 : decode cX9_setInput 31 = .ok (.aload_n 0, 1) := by decide +kernel
theorem dX9_setInput_32 : decode cX9_setInput 32 = .ok (.getfield 13, 3) := by decide +kernel
theorem dX9_setInput_35 : decode cX9_setInput 35 = .ok (.iload_n 1, 1) := by decide +kernel
theorem dX9_setInput_36 : decode cX9_setInput 36 = .ok (.iaload, 1) := by decide +kernel
theorem dX9_setInput_37 : decode cX9_setInput 37 = .ok (.i2l, 1) := by decide +kernel
theorem dX9_setInput_38 : decode cX9_setInput 38 = .ok (.aload_n 0, 1) := by decide +kernel
theorem dX9_setInput_39 : decode cX9_setInput 39 = .ok (.getfield 16, 3) := by decide +kernel
theorem dX9_setInput_42 : decode cX9_setInput 42 = .ok (.iload_n 1, 1) := by decide +kernel
theorem dX9_setInput_43 : decode cX9_setInput 43 = .ok (.iaload, 1) := by decide +kernel
theorem dX9_setInput_44 : decode cX9_setInput 44 = .ok (.i2l, 1) := by decide +kernel
theorem dX9_setInput_45 : decode cX9_setInput 45 = .ok (.invokestatic 109, 3) := by decide +kernel
theorem dX9_setInput_48 : decode cX9_setInput 48 = .ok (.ifCond .ne 9, 3) := by decide +kernel
theorem dX9_setInput_51 : decode cX9_setInput 51 = .ok (.aload_n 0, 1) := by decide +kernel
theorem dX9_setInput_52 : decode cX9_setInput 52 = .ok (.iconst 3, 1) := by decide +kernel
theorem dX9_setInput_53 : decode cX9_setInput 53 = .ok (.invokevirtual 132, 3) := by decide +kernel
theorem dX9_setInput_56 : decode cX9_setInput 56 = .ok (.ireturn, 1) := by decide +kernel
theorem dX9_setInput_57 : decode cX9_setInput 57 = .ok (.aload_n 0, 1) := by decide +kernel
theorem dX9_setInput_58 : decode cX9_setInput 58 = .ok (.iconst 0, 1) := by decide +kernel
theorem dX9_setInput_59 : decode cX9_setInput 59 = .ok (.putfield 98, 3) := by decide +kernel
theorem dX9_setInput_62 : decode cX9_setInput 62 = .ok (.aload_n 0, 1) := by decide +kernel
theorem dX9_setInput_63 : decode cX9_setInput 63 = .ok (.getfield 31, 3) := by decide +kernel
theorem dX9_setInput_66 : decode cX9_setInput 66 = .ok (.iload_n 1, 1) := by decide +kernel
theorem dX9_setInput_67 : decode cX9_setInput 67 = .ok (.iaload, 1) := by decide +kernel
theorem dX9_setInput_68 : decode cX9_setInput 68 = .ok (.istore_n 3, 1) := by decide +kernel
theorem dX9_setInput_69 : decode cX9_setInput 69 = .ok (.aload_n 0, 1) := by decide +kernel
theorem dX9_setInput_70 : decode cX9_setInput 70 = .ok (.getfield 31, 3) := by decide +kernel
theorem dX9_setInput_73 : decode cX9_setInput 73 = .ok (.iload_n 1, 1) := by decide +kernel
theorem dX9_setInput_74 : decode cX9_setInput 74 = .ok (.iload_n 2, 1) := by decide +kernel
theorem dX9_setInput_75 : decode cX9_setInput 75 = .ok (.iastore, 1) := by decide +kernel
theorem dX9_setInput_76 : decode cX9_setInput 76 = .ok (.iload_n 3, 1) := by decide +kernel
theorem dX9_setInput_77 : decode cX9_setInput 77 = .ok (.ireturn, 1) := by decide +kernel
theorem dX9_takesOver_0 : decode cX9_takesOver 0 = .ok (.aload_n 0, 1) := by decide +kernel
theorem dX9_takesOver_1 : decode cX9_takesOver 1 = .ok (.iload_n 1, 1) := by decide +kernel
theorem dX9_takesOver_2 : decode cX9_takesOver 2 = .ok (.invokevirtual 286, 3) := by decide +kernel
theorem dX9_takesOver_5 : decode cX9_takesOver 5 = .ok (.iconst 0, 1) := by decide +kernel
theorem dX9_takesOver_6 : decode cX9_takesOver 6 = .ok (.istore_n 2, 1) := by decide +kernel
theorem dX9_takesOver_7 : decode cX9_takesOver 7 = .ok (.iload_n 2, 1) := by decide +kernel
theorem dX9_takesOver_8 : decode cX9_takesOver 8 = .ok (.aload_n 0, 1) := by decide +kernel
theorem dX9_takesOver_9 : decode cX9_takesOver 9 = .ok (.getfield 102, 3) := by decide +kernel
theorem dX9_takesOver_12 : decode cX9_takesOver 12 = .ok (.if_icmp .ge 40, 3) := by decide +kernel
theorem dX9_takesOver_15 : decode cX9_takesOver 15 = .ok (.aload_n 0, 1) := by decide +kernel
theorem dX9_takesOver_16 : decode cX9_takesOver 16 = .ok (.getfield 71, 3) := by decide +kernel
theorem dX9_takesOver_19 : decode cX9_takesOver 19 = .ok (.iload_n 2, 1) := by decide +kernel
theorem dX9_takesOver_20 : decode cX9_takesOver 20 = .ok (.aload_n 0, 1) := by decide +kernel
theorem dX9_takesOver_21 : decode cX9_takesOver 21 = .ok (.getfield 7, 3) := by decide +kernel
theorem dX9_takesOver_24 : decode cX9_takesOver 24 = .ok (.iload_n 2, 1) := by decide +kernel
theorem dX9_takesOver_25 : decode cX9_takesOver 25 = .ok (.iaload, 1) := by decide +kernel
theorem dX9_takesOver_26 : decode cX9_takesOver 26 = .ok (.iconst 2, 1) := by decide +kernel
theorem dX9_takesOver_27 : decode cX9_takesOver 27 = .ok (.if_icmp .ne 17, 3) := by decide +kernel
theorem dX9_takesOver_30 : decode cX9_takesOver 30 = .ok (.aload_n 0, 1) := by decide +kernel
theorem dX9_takesOver_31 : decode cX9_takesOver 31 = .ok (.getfield 68, 3) := by decide +kernel
theorem dX9_takesOver_34 : decode cX9_takesOver 34 = .ok (.aload_n 0, 1) := by decide +kernel
theorem dX9_takesOver_35 : decode cX9_takesOver 35 = .ok (.getfield 22, 3) := by decide +kernel
theorem dX9_takesOver_38 : decode cX9_takesOver 38 = .ok (.iload_n 2, 1) := by decide +kernel
theorem dX9_takesOver_39 : decode cX9_takesOver 39 = .ok (.iaload, 1) := by decide +kernel
theorem dX9_takesOver_40 : decode cX9_takesOver 40 = .ok (.iaload, 1) := by decide +kernel
theorem dX9_takesOver_41 : decode cX9_takesOver 41 = .ok (.goto 4, 3) := by decide +kernel
theorem dX9_takesOver_44 : decode cX9_takesOver 44 = .ok (.iconst 0, 1) := by decide +kernel
theorem dX9_takesOver_45 : decode cX9_takesOver 45 = .ok (.iastore, 1) := by decide +kernel
theorem dX9_takesOver_46 : decode cX9_takesOver 46 = .ok (.iinc 2 1, 3) := by decide +kernel
theorem dX9_takesOver_49 : decode cX9_takesOver 49 = .ok (.goto (-42), 3) := by decide +kernel
theorem dX9_takesOver_52 : decode cX9_takesOver 52 = .ok (.iconst 0, 1) := by decide +kernel
theorem dX9_takesOver_53 : decode cX9_takesOver 53 = .ok (.istore_n 2, 1) := by decide +kernel
theorem dX9_takesOver_54 : decode cX9_takesOver 54 = .ok (.iload_n 2, 1) := by decide +kernel
theorem dX9_takesOver_55 : decode cX9_takesOver 55 = .ok (.aload_n 0, 1) := by decide +kernel
theorem dX9_takesOver_56 : decode cX9_takesOver 56 = .ok (.getfield 102, 3) := by decide +kernel
theorem dX9_takesOver_59 : decode cX9_takesOver 59 = .ok (.if_icmp .ge 58, 3) := by decide +kernel
theorem dX9_takesOver_62 : decode cX9_takesOver 62 = .ok (.aload_n 0, 1) := by decide +kernel
theorem dX9_takesOver_63 : decode cX9_takesOver 63 = .ok (.getfield 7, 3) := by decide +kernel
theorem dX9_takesOver_66 : decode cX9_takesOver 66 = .ok (.iload_n 2, 1) := by decide +kernel
theorem dX9_takesOver_67 : decode cX9_takesOver 67 = .ok (.iaload, 1) := by decide +kernel
theorem dX9_takesOver_68 : decode cX9_takesOver 68 = .ok (.iconst 2, 1) := by decide +kernel
theorem dX9_takesOver_69 : decode cX9_takesOver 69 = .ok (.if_icmp .eq 6, 3) := by decide +kernel
theorem dX9_takesOver_72 : decode cX9_takesOver 72 = .ok (.goto 39, 3) := by decide +kernel
theorem dX9_takesOver_75 : decode cX9_takesOver 75 = .ok (.iload_n 1, 1) := by decide +kernel
theorem dX9_takesOver_76 : decode cX9_takesOver 76 = .ok (.ifCond .eq 23, 3) := by decide +kernel
theorem dX9_takesOver_79 : decode cX9_takesOver 79 = .ok (.aload_n 0, 1) := by decide +kernel
theorem dX9_takesOver_80 : decode cX9_takesOver 80 = .ok (.getfield 34, 3) := by decide +kernel
theorem dX9_takesOver_83 : decode cX9_takesOver 83 = .ok (.iload_n 2, 1) := by decide +kernel
theorem dX9_takesOver_84 : decode cX9_takesOver 84 = .ok (.aload_n 0, 1) := by decide +kernel
theorem dX9_takesOver_85 : decode cX9_takesOver 85 = .ok (.iload_n 2, 1) := by decide +kernel
theorem dX9_takesOver_86 : decode cX9_takesOver 86 = .ok (.aload_n 0, 1) := by decide +kernel
theorem dX9_takesOver_87 : decode cX9_takesOver 87 = .ok (.getfield 71, 3) := by decide +kernel
theorem dX9_takesOver_90 : decode cX9_takesOver 90 = .ok (.iload_n 2, 1) := by decide +kernel
theorem dX9_takesOver_91 : decode cX9_takesOver 91 = .ok (.iaload, 1) := by decide +kernel
theorem dX9_takesOver_92 : decode cX9_takesOver 92 = .ok (.invokevirtual 280, 3) := by decide +kernel
theorem dX9_takesOver_95 : decode cX9_takesOver 95 = .ok (.iastore, 1) := by decide +kernel
theorem dX9_takesOver_96 : decode cX9_takesOver 96 = .ok (.goto 15, 3) := by decide +kernel
theorem dX9_takesOver_99 : decode cX9_takesOver 99 = .ok (.aload_n 0, 1) := by decide +kernel
theorem dX9_takesOver_100 : decode cX9_takesOver 100 = .ok (.getfield 31, 3) := by decide +kernel
theorem dX9_takesOver_103 : decode cX9_takesOver 103 = .ok (.iload_n 2, 1) := by decide +kernel
theorem dX9_takesOver_104 : decode cX9_takesOver 104 = .ok (.aload_n 0, 1) := by decide +kernel
theorem dX9_takesOver_105 : decode cX9_takesOver 105 = .ok (.getfield 71, 3) := by decide +kernel
theorem dX9_takesOver_108 : decode cX9_takesOver 108 = .ok (.iload_n 2, 1) := by decide +kernel
theorem dX9_takesOver_109 : decode cX9_takesOver 109 = .ok (.iaload, 1) := by decide +kernel
theorem dX9_takesOver_110 : decode cX9_takesOver 110 = .ok (.iastore, 1) := by decide +kernel
theorem dX9_takesOver_111 : decode cX9_takesOver 111 = .ok (.iinc 2 1, 3) := by decide +kernel
theorem dX9_takesOver_114 : decode cX9_takesOver 114 = .ok (.goto (-60), 3) := by decide +kernel
theorem dX9_takesOver_117 : decode cX9_takesOver 117 = .ok (.return_, 1) := by decide +kernel
theorem dX9_run_0 : decode cX9_run 0 = .ok (.iload_n 1, 1) := by decide +kernel
theorem dX9_run_1 : decode cX9_run 1 = .ok (.i2l, 1) := by decide +kernel
theorem dX9_run_2 : decode cX9_run 2 = .ok (.lconst 1, 1) := by decide +kernel
theorem dX9_run_3 : decode cX9_run 3 = .ok (.ldc2_w 290, 3) := by decide +kernel
theorem dX9_run_6 : decode cX9_run 6 = .ok (.invokestatic 109, 3) := by decide +kernel
theorem dX9_run_9 : decode cX9_run 9 = .ok (.ifCond .ne 9, 3) := by decide +kernel
theorem dX9_run_12 : decode cX9_run 12 = .ok (.aload_n 0, 1) := by decide +kernel
theorem dX9_run_13 : decode cX9_run 13 = .ok (.iconst 1, 1) := by decide +kernel
theorem dX9_run_14 : decode cX9_run 14 = .ok (.invokevirtual 132, 3) := by decide +kernel
theorem dX9_run_17 : decode cX9_run 17 = .ok (.ireturn, 1) := by decide +kernel
theorem dX9_run_18 : decode cX9_run 18 = .ok (.aload_n 0, 1) := by decide +kernel
theorem dX9_run_19 : decode cX9_run 19 = .ok (.iconst 0, 1) := by decide +kernel
theorem dX9_run_20 : decode cX9_run 20 = .ok (.putfield 98, 3) := by decide +kernel
theorem dX9_run_23 : decode cX9_run 23 = .ok (.iconst 0, 1) := by decide +kernel
theorem dX9_run_24 : decode cX9_run 24 = .ok (.istore_n 2, 1) := by decide +kernel
theorem dX9_run_25 : decode cX9_run 25 = .ok (.iload_n 2, 1) := by decide +kernel
theorem dX9_run_26 : decode cX9_run 26 = .ok (.iload_n 1, 1) := by decide +kernel
theorem dX9_run_27 : decode cX9_run 27 = .ok (.if_icmp .ge 19, 3) := by decide +kernel
theorem dX9_run_30 : decode cX9_run 30 = .ok (.aload_n 0, 1) := by decide +kernel
theorem dX9_run_31 : decode cX9_run 31 = .ok (.iconst 0, 1) := by decide +kernel
theorem dX9_run_32 : decode cX9_run 32 = .ok (.invokevirtual 292, 3) := by decide +kernel
theorem dX9_run_35 : decode cX9_run 35 = .ok (.aload_n 0, 1) := by decide +kernel
theorem dX9_run_36 : decode cX9_run 36 = .ok (.iconst 1, 1) := by decide +kernel
theorem dX9_run_37 : decode cX9_run 37 = .ok (.invokevirtual 292, 3) := by decide +kernel
theorem dX9_run_40 : decode cX9_run 40 = .ok (.iinc 2 1, 3) := by decide +kernel
theorem dX9_run_43 : decode cX9_run 43 = .ok (.goto (-18), 3) := by decide +kernel
theorem dX9_run_46 : decode cX9_run 46 = .ok (.aload_n 0, 1) := by decide +kernel
theorem dX9_run_47 : decode cX9_run 47 = .ok (.dup, 1) := by decide +kernel
theorem dX9_run_48 : decode cX9_run 48 = .ok (.getfield 283, 3) := by decide +kernel
theorem dX9_run_51 : decode cX9_run 51 = .ok (.iload_n 1, 1) := by decide +kernel
theorem dX9_run_52 : decode cX9_run 52 = .ok (.iadd, 1) := by decide +kernel
theorem dX9_run_53 : decode cX9_run 53 = .ok (.putfield 283, 3) := by decide +kernel
theorem dX9_run_56 : decode cX9_run 56 = .ok (.aload_n 0, 1) := by decide +kernel
theorem dX9_run_57 : decode cX9_run 57 = .ok (.iconst 0, 1) := by decide +kernel
theorem dX9_run_58 : decode cX9_run 58 = .ok (.invokevirtual 286, 3) := by decide +kernel
theorem dX9_run_61 : decode cX9_run 61 = .ok (.iconst 0, 1) := by decide +kernel
theorem dX9_run_62 : decode cX9_run 62 = .ok (.istore_n 2, 1) := by decide +kernel
theorem dX9_run_63 : decode cX9_run 63 = .ok (.iload_n 2, 1) := by decide +kernel
theorem dX9_run_64 : decode cX9_run 64 = .ok (.aload_n 0, 1) := by decide +kernel
theorem dX9_run_65 : decode cX9_run 65 = .ok (.getfield 102, 3) := by decide +kernel
theorem dX9_run_68 : decode cX9_run 68 = .ok (.if_icmp .ge 21, 3) := by decide +kernel
theorem dX9_run_71 : decode cX9_run 71 = .ok (.aload_n 0, 1) := by decide +kernel
theorem dX9_run_72 : decode cX9_run 72 = .ok (.getfield 71, 3) := by decide +kernel
theorem dX9_run_75 : decode cX9_run 75 = .ok (.iload_n 2, 1) := by decide +kernel
theorem dX9_run_76 : decode cX9_run 76 = .ok (.aload_n 0, 1) := by decide +kernel
theorem dX9_run_77 : decode cX9_run 77 = .ok (.getfield 68, 3) := by decide +kernel
theorem dX9_run_80 : decode cX9_run 80 = .ok (.iload_n 2, 1) := by decide +kernel
theorem dX9_run_81 : decode cX9_run 81 = .ok (.iaload, 1) := by decide +kernel
theorem dX9_run_82 : decode cX9_run 82 = .ok (.iastore, 1) := by decide +kernel
theorem dX9_run_83 : decode cX9_run 83 = .ok (.iinc 2 1, 3) := by decide +kernel
theorem dX9_run_86 : decode cX9_run 86 = .ok (.goto (-23), 3) := by decide +kernel
theorem dX9_run_89 : decode cX9_run 89 = .ok (.aload_n 0, 1) := by decide +kernel
theorem dX9_run_90 : decode cX9_run 90 = .ok (.iconst 1, 1) := by decide +kernel
theorem dX9_run_91 : decode cX9_run 91 = .ok (.invokevirtual 286, 3) := by decide +kernel
theorem dX9_run_94 : decode cX9_run 94 = .ok (.iconst 0, 1) := by decide +kernel
theorem dX9_run_95 : decode cX9_run 95 = .ok (.istore_n 2, 1) := by decide +kernel
theorem dX9_run_96 : decode cX9_run 96 = .ok (.iconst 0, 1) := by decide +kernel
theorem dX9_run_97 : decode cX9_run 97 = .ok (.istore_n 3, 1) := by decide +kernel
theorem dX9_run_98 : decode cX9_run 98 = .ok (.iload_n 3, 1) := by decide +kernel
theorem dX9_run_99 : decode cX9_run 99 = .ok (.aload_n 0, 1) := by decide +kernel
theorem dX9_run_100 : decode cX9_run 100 = .ok (.getfield 102, 3) := by decide +kernel
theorem dX9_run_103 : decode cX9_run 103 = .ok (.if_icmp .ge 42, 3) := by decide +kernel
theorem dX9_run_106 : decode cX9_run 106 = .ok (.iload_n 2, 1) := by decide +kernel
theorem dX9_run_107 : decode cX9_run 107 = .ok (.aload_n 0, 1) := by decide +kernel
theorem dX9_run_108 : decode cX9_run 108 = .ok (.getfield 25, 3) := by decide +kernel
theorem dX9_run_111 : decode cX9_run 111 = .ok (.iload_n 3, 1) := by decide +kernel
theorem dX9_run_112 : decode cX9_run 112 = .ok (.iaload, 1) := by decide +kernel
theorem dX9_run_113 : decode cX9_run 113 = .ok (.iconst 1, 1) := by decide +kernel
theorem dX9_run_114 : decode cX9_run 114 = .ok (.if_icmp .ne 22, 3) := by decide +kernel
theorem dX9_run_117 : decode cX9_run 117 = .ok (.aload_n 0, 1) := by decide +kernel
theorem dX9_run_118 : decode cX9_run 118 = .ok (.getfield 71, 3) := by decide +kernel
theorem dX9_run_121 : decode cX9_run 121 = .ok (.iload_n 3, 1) := by decide +kernel
theorem dX9_run_122 : decode cX9_run 122 = .ok (.iaload, 1) := by decide +kernel
theorem dX9_run_123 : decode cX9_run 123 = .ok (.aload_n 0, 1) := by decide +kernel
theorem dX9_run_124 : decode cX9_run 124 = .ok (.getfield 68, 3) := by decide +kernel
theorem dX9_run_127 : decode cX9_run 127 = .ok (.iload_n 3, 1) := by decide +kernel
theorem dX9_run_128 : decode cX9_run 128 = .ok (.iaload, 1) := by decide +kernel
theorem dX9_run_129 : decode cX9_run 129 = .ok (.if_icmp .eq 7, 3) := by decide +kernel
theorem dX9_run_132 : decode cX9_run 132 = .ok (.iconst 1, 1) := by decide +kernel
theorem dX9_run_133 : decode cX9_run 133 = .ok (.goto 4, 3) := by decide +kernel
theorem dX9_run_136 : decode cX9_run 136 = .ok (.iconst 0, 1) := by decide +kernel
theorem dX9_run_137 : decode cX9_run 137 = .ok (.iadd, 1) := by decide +kernel
theorem dX9_run_138 : decode cX9_run 138 = .ok (.istore_n 2, 1) := by decide +kernel
theorem dX9_run_139 : decode cX9_run 139 = .ok (.iinc 3 1, 3) := by decide +kernel
theorem dX9_run_142 : decode cX9_run 142 = .ok (.goto (-44), 3) := by decide +kernel
theorem dX9_run_145 : decode cX9_run 145 = .ok (.iload_n 2, 1) := by decide +kernel
theorem dX9_run_146 : decode cX9_run 146 = .ok (.ireturn, 1) := by decide +kernel
theorem dX9_value_0 : decode cX9_value 0 = .ok (.aload_n 0, 1) := by decide +kernel
theorem dX9_value_1 : decode cX9_value 1 = .ok (.iload_n 1, 1) := by decide +kernel
theorem dX9_value_2 : decode cX9_value 2 = .ok (.invokevirtual 123, 3) := by decide +kernel
theorem dX9_value_5 : decode cX9_value 5 = .ok (.ifCond .ne 9, 3) := by decide +kernel
theorem dX9_value_8 : decode cX9_value 8 = .ok (.aload_n 0, 1) := by decide +kernel
theorem dX9_value_9 : decode cX9_value 9 = .ok (.iconst 1, 1) := by decide +kernel
theorem dX9_value_10 : decode cX9_value 10 = .ok (.invokevirtual 132, 3) := by decide +kernel
theorem dX9_value_13 : decode cX9_value 13 = .ok (.ireturn, 1) := by decide +kernel
theorem dX9_value_14 : decode cX9_value 14 = .ok (.aload_n 0, 1) := by decide +kernel
theorem dX9_value_15 : decode cX9_value 15 = .ok (.iconst 0, 1) := by decide +kernel
theorem dX9_value_16 : decode cX9_value 16 = .ok (.putfield 98, 3) := by decide +kernel
theorem dX9_value_19 : decode cX9_value 19 = .ok (.aload_n 0, 1) := by decide +kernel
theorem dX9_value_20 : decode cX9_value 20 = .ok (.iload_n 2, 1) := by decide +kernel
theorem dX9_value_21 : decode cX9_value 21 = .ok (.invokevirtual 286, 3) := by decide +kernel
theorem dX9_value_24 : decode cX9_value 24 = .ok (.aload_n 0, 1) := by decide +kernel
theorem dX9_value_25 : decode cX9_value 25 = .ok (.getfield 68, 3) := by decide +kernel
theorem dX9_value_28 : decode cX9_value 28 = .ok (.iload_n 1, 1) := by decide +kernel
theorem dX9_value_29 : decode cX9_value 29 = .ok (.iaload, 1) := by decide +kernel
theorem dX9_value_30 : decode cX9_value 30 = .ok (.ireturn, 1) := by decide +kernel
theorem dX9_restart_0 : decode cX9_restart 0 = .ok (.aload_n 0, 1) := by decide +kernel
theorem dX9_restart_1 : decode cX9_restart 1 = .ok (.iconst 0, 1) := by decide +kernel
theorem dX9_restart_2 : decode cX9_restart 2 = .ok (.putfield 98, 3) := by decide +kernel
theorem dX9_restart_5 : decode cX9_restart 5 = .ok (.aload_n 0, 1) := by decide +kernel
theorem dX9_restart_6 : decode cX9_restart 6 = .ok (.getfield 283, 3) := by decide +kernel
theorem dX9_restart_9 : decode cX9_restart 9 = .ok (.istore_n 1, 1) := by decide +kernel
theorem dX9_restart_10 : decode cX9_restart 10 = .ok (.aload_n 0, 1) := by decide +kernel
theorem dX9_restart_11 : decode cX9_restart 11 = .ok (.invokevirtual 144, 3) := by decide +kernel
theorem dX9_restart_14 : decode cX9_restart 14 = .ok (.iload_n 1, 1) := by decide +kernel
theorem dX9_restart_15 : decode cX9_restart 15 = .ok (.ireturn, 1) := by decide +kernel
theorem dX9_feed_0 : decode cX9_feed 0 = .ok (.aload_n 0, 1) := by decide +kernel
theorem dX9_feed_1 : decode cX9_feed 1 = .ok (.getfield 295, 3) := by decide +kernel
theorem dX9_feed_4 : decode cX9_feed 4 = .ok (.bipush 80, 2) := by decide +kernel
theorem dX9_feed_6 : decode cX9_feed 6 = .ok (.if_icmp .ne 9, 3) := by decide +kernel
theorem dX9_feed_9 : decode cX9_feed 9 = .ok (.aload_n 0, 1) := by decide +kernel
theorem dX9_feed_10 : decode cX9_feed 10 = .ok (.iconst 1, 1) := by decide +kernel
theorem dX9_feed_11 : decode cX9_feed 11 = .ok (.invokevirtual 132, 3) := by decide +kernel
theorem dX9_feed_14 : decode cX9_feed 14 = .ok (.ireturn, 1) := by decide +kernel
theorem dX9_feed_15 : decode cX9_feed 15 = .ok (.aload_n 0, 1) := by decide +kernel
theorem dX9_feed_16 : decode cX9_feed 16 = .ok (.iconst 0, 1) := by decide +kernel
theorem dX9_feed_17 : decode cX9_feed 17 = .ok (.putfield 98, 3) := by decide +kernel
theorem dX9_feed_20 : decode cX9_feed 20 = .ok (.aload_n 0, 1) := by decide +kernel
theorem dX9_feed_21 : decode cX9_feed 21 = .ok (.getfield 74, 3) := by decide +kernel
theorem dX9_feed_24 : decode cX9_feed 24 = .ok (.aload_n 0, 1) := by decide +kernel
theorem dX9_feed_25 : decode cX9_feed 25 = .ok (.getfield 295, 3) := by decide +kernel
theorem dX9_feed_28 : decode cX9_feed 28 = .ok (.iload_n 1, 1) := by decide +kernel
theorem dX9_feed_29 : decode cX9_feed 29 = .ok (.iastore, 1) := by decide +kernel
theorem dX9_feed_30 : decode cX9_feed 30 = .ok (.aload_n 0, 1) := by decide +kernel
theorem dX9_feed_31 : decode cX9_feed 31 = .ok (.dup, 1) := by decide +kernel
theorem dX9_feed_32 : decode cX9_feed 32 = .ok (.getfield 295, 3) := by decide +kernel
theorem dX9_feed_35 : decode cX9_feed 35 = .ok (.iconst 1, 1) := by decide +kernel
theorem dX9_feed_36 : decode cX9_feed 36 = .ok (.iadd, 1) := by decide +kernel
theorem dX9_feed_37 : decode cX9_feed 37 = .ok (.putfield 295, 3) := by decide +kernel
theorem dX9_feed_40 : decode cX9_feed 40 = .ok (.aload_n 0, 1) := by decide +kernel
theorem dX9_feed_41 : decode cX9_feed 41 = .ok (.getfield 295, 3) := by decide +kernel
theorem dX9_feed_44 : decode cX9_feed 44 = .ok (.ireturn, 1) := by decide +kernel
theorem dX9_isDigit_0 : decode cX9_isDigit 0 = .ok (.aload_n 0, 1) := by decide +kernel
theorem dX9_isDigit_1 : decode cX9_isDigit 1 = .ok (.getfield 298, 3) := by decide +kernel
theorem dX9_isDigit_4 : decode cX9_isDigit 4 = .ok (.aload_n 0, 1) := by decide +kernel
theorem dX9_isDigit_5 : decode cX9_isDigit 5 = .ok (.getfield 295, 3) := by decide +kernel
theorem dX9_isDigit_8 : decode cX9_isDigit 8 = .ok (.if_icmp .ge 29, 3) := by decide +kernel
theorem dX9_isDigit_11 : decode cX9_isDigit 11 = .ok (.aload_n 0, 1) := by decide +kernel
theorem dX9_isDigit_12 : decode cX9_isDigit 12 = .ok (.getfield 74, 3) := by decide +kernel
theorem dX9_isDigit_15 : decode cX9_isDigit 15 = .ok (.aload_n 0, 1) := by decide +kernel
theorem dX9_isDigit_16 : decode cX9_isDigit 16 = .ok (.getfield 298, 3) := by decide +kernel
theorem dX9_isDigit_19 : decode cX9_isDigit 19 = .ok (.iaload, 1) := by decide +kernel
theorem dX9_isDigit_20 : decode cX9_isDigit 20 = .ok (.i2l, 1) := by decide +kernel
theorem dX9_isDigit_21 : decode cX9_isDigit 21 = .ok (.ldc2_w 301, 3) := by decide +kernel
theorem dX9_isDigit_24 : decode cX9_isDigit 24 = .ok (.ldc2_w 303, 3) := by decide +kernel
theorem dX9_isDigit_27 : decode cX9_isDigit 27 = .ok (.invokestatic 109, 3) := by decide +kernel
theorem dX9_isDigit_30 : decode cX9_isDigit 30 = .ok (.ifCond .eq 7, 3) := by decide +kernel
theorem dX9_isDigit_33 : decode cX9_isDigit 33 = .ok (.iconst 1, 1) := by decide +kernel
theorem dX9_isDigit_34 : decode cX9_isDigit 34 = .ok (.goto 4, 3) := by decide +kernel
theorem dX9_isDigit_37 : decode cX9_isDigit 37 = .ok (.iconst 0, 1) := by decide +kernel
theorem dX9_isDigit_38 : decode cX9_isDigit 38 = .ok (.ireturn, 1) := by decide +kernel
theorem dX9_skips_0 : decode cX9_skips 0 = .ok (.aload_n 0, 1) := by decide +kernel
theorem dX9_skips_1 : decode cX9_skips 1 = .ok (.getfield 298, 3) := by decide +kernel
theorem dX9_skips_4 : decode cX9_skips 4 = .ok (.aload_n 0, 1) := by decide +kernel
theorem dX9_skips_5 : decode cX9_skips 5 = .ok (.getfield 295, 3) := by decide +kernel
theorem dX9_skips_8 : decode cX9_skips 8 = .ok (.if_icmp .eq 16, 3) := by decide +kernel
theorem dX9_skips_11 : decode cX9_skips 11 = .ok (.aload_n 0, 1) := by decide +kernel
theorem dX9_skips_12 : decode cX9_skips 12 = .ok (.getfield 74, 3) := by decide +kernel
theorem dX9_skips_15 : decode cX9_skips 15 = .ok (.aload_n 0, 1) := by decide +kernel
theorem dX9_skips_16 : decode cX9_skips 16 = .ok (.getfield 298, 3) := by decide +kernel
theorem dX9_skips_19 : decode cX9_skips 19 = .ok (.iaload, 1) := by decide +kernel
theorem dX9_skips_20 : decode cX9_skips 20 = .ok (.iload_n 1, 1) := by decide +kernel
theorem dX9_skips_21 : decode cX9_skips 21 = .ok (.if_icmp .eq 5, 3) := by decide +kernel
theorem dX9_skips_24 : decode cX9_skips 24 = .ok (.iconst 0, 1) := by decide +kernel
theorem dX9_skips_25 : decode cX9_skips 25 = .ok (.ireturn, 1) := by decide +kernel
theorem dX9_skips_26 : decode cX9_skips 26 = .ok (.aload_n 0, 1) := by decide +kernel
theorem dX9_skips_27 : decode cX9_skips 27 = .ok (.dup, 1) := by decide +kernel
theorem dX9_skips_28 : decode cX9_skips 28 = .ok (.getfield 298, 3) := by decide +kernel
theorem dX9_skips_31 : decode cX9_skips 31 = .ok (.iconst 1, 1) := by decide +kernel
theorem dX9_skips_32 : decode cX9_skips 32 = .ok (.iadd, 1) := by decide +kernel
theorem dX9_skips_33 : decode cX9_skips 33 = .ok (.putfield 298, 3) := by decide +kernel
theorem dX9_skips_36 : decode cX9_skips 36 = .ok (.iconst 1, 1) := by decide +kernel
theorem dX9_skips_37 : decode cX9_skips 37 = .ok (.ireturn, 1) := by decide +kernel
theorem dX9_digits_0 : decode cX9_digits 0 = .ok (.iconst (-1), 1) := by decide +kernel
theorem dX9_digits_1 : decode cX9_digits 1 = .ok (.istore_n 2, 1) := by decide +kernel
theorem dX9_digits_2 : decode cX9_digits 2 = .ok (.iconst 0, 1) := by decide +kernel
theorem dX9_digits_3 : decode cX9_digits 3 = .ok (.istore_n 3, 1) := by decide +kernel
theorem dX9_digits_4 : decode cX9_digits 4 = .ok (.iload_n 3, 1) := by decide +kernel
theorem dX9_digits_5 : decode cX9_digits 5 = .ok (.iload_n 1, 1) := by decide +kernel
theorem dX9_digits_6 : decode cX9_digits 6 = .ok (.if_icmp .ge 52, 3) := by decide +kernel
theorem dX9_digits_9 : decode cX9_digits 9 = .ok (.aload_n 0, 1) := by decide +kernel
theorem dX9_digits_10 : decode cX9_digits 10 = .ok (.invokevirtual 305, 3) := by decide +kernel
theorem dX9_digits_13 : decode cX9_digits 13 = .ok (.ifCond .eq 45, 3) := by decide +kernel
theorem dX9_digits_16 : decode cX9_digits 16 = .ok (.iload_n 2, 1) := by decide +kernel
theorem dX9_digits_17 : decode cX9_digits 17 = .ok (.ifCond .ge 7, 3) := by decide +kernel
theorem dX9_digits_20 : decode cX9_digits 20 = .ok (.iconst 0, 1) := by decide +kernel
theorem dX9_digits_21 : decode cX9_digits 21 = .ok (.goto 7, 3) := by decide +kernel
theorem dX9_digits_24 : decode cX9_digits 24 = .ok (.bipush 10, 2) := by decide +kernel
theorem dX9_digits_26 : decode cX9_digits 26 = .ok (.iload_n 2, 1) := by decide +kernel
theorem dX9_digits_27 : decode cX9_digits 27 = .ok (.imul, 1) := by decide +kernel
theorem dX9_digits_28 : decode cX9_digits 28 = .ok (.aload_n 0, 1) := by decide +kernel
theorem dX9_digits_29 : decode cX9_digits 29 = .ok (.getfield 74, 3) := by decide +kernel
theorem dX9_digits_32 : decode cX9_digits 32 = .ok (.aload_n 0, 1) := by decide +kernel
theorem dX9_digits_33 : decode cX9_digits 33 = .ok (.getfield 298, 3) := by decide +kernel
theorem dX9_digits_36 : decode cX9_digits 36 = .ok (.iaload, 1) := by decide +kernel
theorem dX9_digits_37 : decode cX9_digits 37 = .ok (.iadd, 1) := by decide +kernel
theorem dX9_digits_38 : decode cX9_digits 38 = .ok (.bipush 48, 2) := by decide +kernel
theorem dX9_digits_40 : decode cX9_digits 40 = .ok (.isub, 1) := by decide +kernel
theorem dX9_digits_41 : decode cX9_digits 41 = .ok (.istore_n 2, 1) := by decide +kernel
theorem dX9_digits_42 : decode cX9_digits 42 = .ok (.aload_n 0, 1) := by decide +kernel
theorem dX9_digits_43 : decode cX9_digits 43 = .ok (.dup, 1) := by decide +kernel
theorem dX9_digits_44 : decode cX9_digits 44 = .ok (.getfield 298, 3) := by decide +kernel
theorem dX9_digits_47 : decode cX9_digits 47 = .ok (.iconst 1, 1) := by decide +kernel
theorem dX9_digits_48 : decode cX9_digits 48 = .ok (.iadd, 1) := by decide +kernel
theorem dX9_digits_49 : decode cX9_digits 49 = .ok (.putfield 298, 3) := by decide +kernel
theorem dX9_digits_52 : decode cX9_digits 52 = .ok (.iinc 3 1, 3) := by decide +kernel
theorem dX9_digits_55 : decode cX9_digits 55 = .ok (.goto (-51), 3) := by decide +kernel
theorem dX9_digits_58 : decode cX9_digits 58 = .ok (.iload_n 2, 1) := by decide +kernel
theorem dX9_digits_59 : decode cX9_digits 59 = .ok (.ireturn, 1) := by decide +kernel
theorem dX9_takesNumber_0 : decode cX9_takesNumber 0 = .ok (.aload_n 0, 1) := by decide +kernel
theorem dX9_takesNumber_1 : decode cX9_takesNumber 1 = .ok (.bipush 45, 2) := by decide +kernel
theorem dX9_takesNumber_3 : decode cX9_takesNumber 3 = .ok (.invokevirtual 309, 3) := by decide +kernel
theorem dX9_takesNumber_6 : decode cX9_takesNumber 6 = .ok (.istore_n 1, 1) := by decide +kernel
theorem dX9_takesNumber_7 : decode cX9_takesNumber 7 = .ok (.aload_n 0, 1) := by decide +kernel
theorem dX9_takesNumber_8 : decode cX9_takesNumber 8 = .ok (.iconst 4, 1) := by decide +kernel
theorem dX9_takesNumber_9 : decode cX9_takesNumber 9 = .ok (.invokevirtual 312, 3) := by decide +kernel
theorem dX9_takesNumber_12 : decode cX9_takesNumber 12 = .ok (.istore_n 2, 1) := by decide +kernel
theorem dX9_takesNumber_13 : decode cX9_takesNumber 13 = .ok (.aload_n 0, 1) := by decide +kernel
theorem dX9_takesNumber_14 : decode cX9_takesNumber 14 = .ok (.iload_n 1, 1) := by decide +kernel
theorem dX9_takesNumber_15 : decode cX9_takesNumber 15 = .ok (.ifCond .eq 8, 3) := by decide +kernel
theorem dX9_takesNumber_18 : decode cX9_takesNumber 18 = .ok (.iload_n 2, 1) := by decide +kernel
theorem dX9_takesNumber_19 : decode cX9_takesNumber 19 = .ok (.ineg, 1) := by decide +kernel
theorem dX9_takesNumber_20 : decode cX9_takesNumber 20 = .ok (.goto 4, 3) := by decide +kernel
theorem dX9_takesNumber_23 : decode cX9_takesNumber 23 = .ok (.iload_n 2, 1) := by decide +kernel
theorem dX9_takesNumber_24 : decode cX9_takesNumber 24 = .ok (.putfield 315, 3) := by decide +kernel
theorem dX9_takesNumber_27 : decode cX9_takesNumber 27 = .ok (.iload_n 2, 1) := by decide +kernel
theorem dX9_takesNumber_28 : decode cX9_takesNumber 28 = .ok (.ifCond .lt 7, 3) := by decide +kernel
theorem dX9_takesNumber_31 : decode cX9_takesNumber 31 = .ok (.iconst 1, 1) := by decide +kernel
theorem dX9_takesNumber_32 : decode cX9_takesNumber 32 = .ok (.goto 4, 3) := by decide +kernel
theorem dX9_takesNumber_35 : decode cX9_takesNumber 35 = .ok (.iconst 0, 1) := by decide +kernel
theorem dX9_takesNumber_36 : decode cX9_takesNumber 36 = .ok (.ireturn, 1) := by decide +kernel
theorem dX9_takesDigits_0 : decode cX9_takesDigits 0 = .ok (.aload_n 0, 1) := by decide +kernel
theorem dX9_takesDigits_1 : decode cX9_takesDigits 1 = .ok (.aload_n 0, 1) := by decide +kernel
theorem dX9_takesDigits_2 : decode cX9_takesDigits 2 = .ok (.iconst 2, 1) := by decide +kernel
theorem dX9_takesDigits_3 : decode cX9_takesDigits 3 = .ok (.invokevirtual 312, 3) := by decide +kernel
theorem dX9_takesDigits_6 : decode cX9_takesDigits 6 = .ok (.putfield 315, 3) := by decide +kernel
theorem dX9_takesDigits_9 : decode cX9_takesDigits 9 = .ok (.aload_n 0, 1) := by decide +kernel
theorem dX9_takesDigits_10 : decode cX9_takesDigits 10 = .ok (.getfield 315, 3) := by decide +kernel
theorem dX9_takesDigits_13 : decode cX9_takesDigits 13 = .ok (.ifCond .lt 7, 3) := by decide +kernel
theorem dX9_takesDigits_16 : decode cX9_takesDigits 16 = .ok (.iconst 1, 1) := by decide +kernel
theorem dX9_takesDigits_17 : decode cX9_takesDigits 17 = .ok (.goto 4, 3) := by decide +kernel
theorem dX9_takesDigits_20 : decode cX9_takesDigits 20 = .ok (.iconst 0, 1) := by decide +kernel
theorem dX9_takesDigits_21 : decode cX9_takesDigits 21 = .ok (.ireturn, 1) := by decide +kernel
theorem dX9_kindOf_0 : decode cX9_kindOf 0 = .ok (.iload_n 0, 1) := by decide +kernel
theorem dX9_kindOf_1 : decode cX9_kindOf 1 = .ok (.lookupswitch 118 #[(38, 97), (42, 95), (43, 91), (45, 93), (60, 112), (63, 115), (94, 103), (104, 109), (108, 106), (124, 100)], 91) := by decide +kernel
theorem dX9_kindOf_92 : decode cX9_kindOf 92 = .ok (.iconst 3, 1) := by decide +kernel
theorem dX9_kindOf_93 : decode cX9_kindOf 93 = .ok (.ireturn, 1) := by decide +kernel
theorem dX9_kindOf_94 : decode cX9_kindOf 94 = .ok (.iconst 4, 1) := by decide +kernel
theorem dX9_kindOf_95 : decode cX9_kindOf 95 = .ok (.ireturn, 1) := by decide +kernel
theorem dX9_kindOf_96 : decode cX9_kindOf 96 = .ok (.iconst 5, 1) := by decide +kernel
theorem dX9_kindOf_97 : decode cX9_kindOf 97 = .ok (.ireturn, 1) := by decide +kernel
theorem dX9_kindOf_98 : decode cX9_kindOf 98 = .ok (.bipush 6, 2) := by decide +kernel
theorem dX9_kindOf_100 : decode cX9_kindOf 100 = .ok (.ireturn, 1) := by decide +kernel
theorem dX9_kindOf_101 : decode cX9_kindOf 101 = .ok (.bipush 7, 2) := by decide +kernel
theorem dX9_kindOf_103 : decode cX9_kindOf 103 = .ok (.ireturn, 1) := by decide +kernel
theorem dX9_kindOf_104 : decode cX9_kindOf 104 = .ok (.bipush 8, 2) := by decide +kernel
theorem dX9_kindOf_106 : decode cX9_kindOf 106 = .ok (.ireturn, 1) := by decide +kernel
theorem dX9_kindOf_107 : decode cX9_kindOf 107 = .ok (.bipush 9, 2) := by decide +kernel
theorem dX9_kindOf_109 : decode cX9_kindOf 109 = .ok (.ireturn, 1) := by decide +kernel
theorem dX9_kindOf_110 : decode cX9_kindOf 110 = .ok (.bipush 10, 2) := by decide +kernel
theorem dX9_kindOf_112 : decode cX9_kindOf 112 = .ok (.ireturn, 1) := by decide +kernel
theorem dX9_kindOf_113 : decode cX9_kindOf 113 = .ok (.bipush 11, 2) := by decide +kernel
theorem dX9_kindOf_115 : decode cX9_kindOf 115 = .ok (.ireturn, 1) := by decide +kernel
theorem dX9_kindOf_116 : decode cX9_kindOf 116 = .ok (.bipush 12, 2) := by decide +kernel
theorem dX9_kindOf_118 : decode cX9_kindOf 118 = .ok (.ireturn, 1) := by decide +kernel
theorem dX9_kindOf_119 : decode cX9_kindOf 119 = .ok (.iconst (-1), 1) := by decide +kernel
theorem dX9_kindOf_120 : decode cX9_kindOf 120 = .ok (.ireturn, 1) := by decide +kernel
theorem dX9_takesPair_0 : decode cX9_takesPair 0 = .ok (.iload_n 1, 1) := by decide +kernel
theorem dX9_takesPair_1 : decode cX9_takesPair 1 = .ok (.ifCond .eq 13, 3) := by decide +kernel
theorem dX9_takesPair_4 : decode cX9_takesPair 4 = .ok (.aload_n 0, 1) := by decide +kernel
theorem dX9_takesPair_5 : decode cX9_takesPair 5 = .ok (.invokevirtual 318, 3) := by decide +kernel
theorem dX9_takesPair_8 : decode cX9_takesPair 8 = .ok (.ifCond .ne 15, 3) := by decide +kernel
theorem dX9_takesPair_11 : decode cX9_takesPair 11 = .ok (.goto 10, 3) := by decide +kernel
theorem dX9_takesPair_14 : decode cX9_takesPair 14 = .ok (.aload_n 0, 1) := by decide +kernel
theorem dX9_takesPair_15 : decode cX9_takesPair 15 = .ok (.invokevirtual 321, 3) := by decide +kernel
theorem dX9_takesPair_18 : decode cX9_takesPair 18 = .ok (.ifCond .ne 5, 3) := by decide +kernel
theorem dX9_takesPair_21 : decode cX9_takesPair 21 = .ok (.iconst 0, 1) := by decide +kernel
theorem dX9_takesPair_22 : decode cX9_takesPair 22 = .ok (.ireturn, 1) := by decide +kernel
theorem dX9_takesPair_23 : decode cX9_takesPair 23 = .ok (.aload_n 0, 1) := by decide +kernel
theorem dX9_takesPair_24 : decode cX9_takesPair 24 = .ok (.getfield 80, 3) := by decide +kernel
theorem dX9_takesPair_27 : decode cX9_takesPair 27 = .ok (.aload_n 0, 1) := by decide +kernel
theorem dX9_takesPair_28 : decode cX9_takesPair 28 = .ok (.getfield 324, 3) := by decide +kernel
theorem dX9_takesPair_31 : decode cX9_takesPair 31 = .ok (.aload_n 0, 1) := by decide +kernel
theorem dX9_takesPair_32 : decode cX9_takesPair 32 = .ok (.getfield 315, 3) := by decide +kernel
theorem dX9_takesPair_35 : decode cX9_takesPair 35 = .ok (.iastore, 1) := by decide +kernel
theorem dX9_takesPair_36 : decode cX9_takesPair 36 = .ok (.aload_n 0, 1) := by decide +kernel
theorem dX9_takesPair_37 : decode cX9_takesPair 37 = .ok (.bipush 58, 2) := by decide +kernel
theorem dX9_takesPair_39 : decode cX9_takesPair 39 = .ok (.invokevirtual 309, 3) := by decide +kernel
theorem dX9_takesPair_42 : decode cX9_takesPair 42 = .ok (.ifCond .eq 24, 3) := by decide +kernel
theorem dX9_takesPair_45 : decode cX9_takesPair 45 = .ok (.iload_n 1, 1) := by decide +kernel
theorem dX9_takesPair_46 : decode cX9_takesPair 46 = .ok (.ifCond .eq 13, 3) := by decide +kernel
theorem dX9_takesPair_49 : decode cX9_takesPair 49 = .ok (.aload_n 0, 1) := by decide +kernel
theorem dX9_takesPair_50 : decode cX9_takesPair 50 = .ok (.invokevirtual 318, 3) := by decide +kernel
theorem dX9_takesPair_53 : decode cX9_takesPair 53 = .ok (.ifCond .ne 15, 3) := by decide +kernel
theorem dX9_takesPair_56 : decode cX9_takesPair 56 = .ok (.goto 10, 3) := by decide +kernel
theorem dX9_takesPair_59 : decode cX9_takesPair 59 = .ok (.aload_n 0, 1) := by decide +kernel
theorem dX9_takesPair_60 : decode cX9_takesPair 60 = .ok (.invokevirtual 321, 3) := by decide +kernel
theorem dX9_takesPair_63 : decode cX9_takesPair 63 = .ok (.ifCond .ne 5, 3) := by decide +kernel
theorem dX9_takesPair_66 : decode cX9_takesPair 66 = .ok (.iconst 0, 1) := by decide +kernel
theorem dX9_takesPair_67 : decode cX9_takesPair 67 = .ok (.ireturn, 1) := by decide +kernel
theorem dX9_takesPair_68 : decode cX9_takesPair 68 = .ok (.aload_n 0, 1) := by decide +kernel
theorem dX9_takesPair_69 : decode cX9_takesPair 69 = .ok (.getfield 83, 3) := by decide +kernel
theorem dX9_takesPair_72 : decode cX9_takesPair 72 = .ok (.aload_n 0, 1) := by decide +kernel
theorem dX9_takesPair_73 : decode cX9_takesPair 73 = .ok (.getfield 324, 3) := by decide +kernel
theorem dX9_takesPair_76 : decode cX9_takesPair 76 = .ok (.aload_n 0, 1) := by decide +kernel
theorem dX9_takesPair_77 : decode cX9_takesPair 77 = .ok (.getfield 315, 3) := by decide +kernel
theorem dX9_takesPair_80 : decode cX9_takesPair 80 = .ok (.iastore, 1) := by decide +kernel
theorem dX9_takesPair_81 : decode cX9_takesPair 81 = .ok (.iconst 1, 1) := by decide +kernel
theorem dX9_takesPair_82 : decode cX9_takesPair 82 = .ok (.ireturn, 1) := by decide +kernel
theorem dX9_takesOne_0 : decode cX9_takesOne 0 = .ok (.aload_n 0, 1) := by decide +kernel
theorem dX9_takesOne_1 : decode cX9_takesOne 1 = .ok (.getfield 77, 3) := by decide +kernel
theorem dX9_takesOne_4 : decode cX9_takesOne 4 = .ok (.aload_n 0, 1) := by decide +kernel
theorem dX9_takesOne_5 : decode cX9_takesOne 5 = .ok (.getfield 324, 3) := by decide +kernel
theorem dX9_takesOne_8 : decode cX9_takesOne 8 = .ok (.iload_n 1, 1) := by decide +kernel
theorem dX9_takesOne_9 : decode cX9_takesOne 9 = .ok (.iastore, 1) := by decide +kernel
theorem dX9_takesOne_10 : decode cX9_takesOne 10 = .ok (.iload_n 1, 1) := by decide +kernel
theorem dX9_takesOne_11 : decode cX9_takesOne 11 = .ok (.bipush 14, 2) := by decide +kernel
theorem dX9_takesOne_13 : decode cX9_takesOne 13 = .ok (.if_icmp .ne 13, 3) := by decide +kernel
theorem dX9_takesOne_16 : decode cX9_takesOne 16 = .ok (.aload_n 0, 1) := by decide +kernel
theorem dX9_takesOne_17 : decode cX9_takesOne 17 = .ok (.invokevirtual 321, 3) := by decide +kernel
theorem dX9_takesOne_20 : decode cX9_takesOne 20 = .ok (.ifCond .ne 15, 3) := by decide +kernel
theorem dX9_takesOne_23 : decode cX9_takesOne 23 = .ok (.goto 10, 3) := by decide +kernel
theorem dX9_takesOne_26 : decode cX9_takesOne 26 = .ok (.aload_n 0, 1) := by decide +kernel
theorem dX9_takesOne_27 : decode cX9_takesOne 27 = .ok (.invokevirtual 318, 3) := by decide +kernel
theorem dX9_takesOne_30 : decode cX9_takesOne 30 = .ok (.ifCond .ne 5, 3) := by decide +kernel
theorem dX9_takesOne_33 : decode cX9_takesOne 33 = .ok (.iconst 0, 1) := by decide +kernel
theorem dX9_takesOne_34 : decode cX9_takesOne 34 = .ok (.ireturn, 1) := by decide +kernel
theorem dX9_takesOne_35 : decode cX9_takesOne 35 = .ok (.aload_n 0, 1) := by decide +kernel
theorem dX9_takesOne_36 : decode cX9_takesOne 36 = .ok (.getfield 80, 3) := by decide +kernel
theorem dX9_takesOne_39 : decode cX9_takesOne 39 = .ok (.aload_n 0, 1) := by decide +kernel
theorem dX9_takesOne_40 : decode cX9_takesOne 40 = .ok (.getfield 324, 3) := by decide +kernel
theorem dX9_takesOne_43 : decode cX9_takesOne 43 = .ok (.aload_n 0, 1) := by decide +kernel
theorem dX9_takesOne_44 : decode cX9_takesOne 44 = .ok (.getfield 315, 3) := by decide +kernel
theorem dX9_takesOne_47 : decode cX9_takesOne 47 = .ok (.iastore, 1) := by decide +kernel
theorem dX9_takesOne_48 : decode cX9_takesOne 48 = .ok (.iconst 1, 1) := by decide +kernel
theorem dX9_takesOne_49 : decode cX9_takesOne 49 = .ok (.ireturn, 1) := by decide +kernel
theorem dX9_takesSignal_0 : decode cX9_takesSignal 0 = .ok (.aload_n 0, 1) := by decide +kernel
theorem dX9_takesSignal_1 : decode cX9_takesSignal 1 = .ok (.invokevirtual 321, 3) := by decide +kernel
theorem dX9_takesSignal_4 : decode cX9_takesSignal 4 = .ok (.ifCond .ne 5, 3) := by decide +kernel
theorem dX9_takesSignal_7 : decode cX9_takesSignal 7 = .ok (.iconst 0, 1) := by decide +kernel
theorem dX9_takesSignal_8 : decode cX9_takesSignal 8 = .ok (.ireturn, 1) := by decide +kernel
theorem dX9_takesSignal_9 : decode cX9_takesSignal 9 = .ok (.aload_n 0, 1) := by decide +kernel
theorem dX9_takesSignal_10 : decode cX9_takesSignal 10 = .ok (.getfield 80, 3) := by decide +kernel
theorem dX9_takesSignal_13 : decode cX9_takesSignal 13 = .ok (.aload_n 0, 1) := by decide +kernel
theorem dX9_takesSignal_14 : decode cX9_takesSignal 14 = .ok (.getfield 324, 3) := by decide +kernel
theorem dX9_takesSignal_17 : decode cX9_takesSignal 17 = .ok (.aload_n 0, 1) := by decide +kernel
theorem dX9_takesSignal_18 : decode cX9_takesSignal 18 = .ok (.getfield 315, 3) := by decide +kernel
theorem dX9_takesSignal_21 : decode cX9_takesSignal 21 = .ok (.iastore, 1) := by decide +kernel
theorem dX9_takesSignal_22 : decode cX9_takesSignal 22 = .ok (.aload_n 0, 1) := by decide +kernel
theorem dX9_takesSignal_23 : decode cX9_takesSignal 23 = .ok (.getfield 298, 3) := by decide +kernel
theorem dX9_takesSignal_26 : decode cX9_takesSignal 26 = .ok (.aload_n 0, 1) := by decide +kernel
theorem dX9_takesSignal_27 : decode cX9_takesSignal 27 = .ok (.getfield 295, 3) := by decide +kernel
theorem dX9_takesSignal_30 : decode cX9_takesSignal 30 = .ok (.if_icmp .ge 18, 3) := by decide +kernel
theorem dX9_takesSignal_33 : decode cX9_takesSignal 33 = .ok (.aload_n 0, 1) := by decide +kernel
theorem dX9_takesSignal_34 : decode cX9_takesSignal 34 = .ok (.getfield 74, 3) := by decide +kernel
theorem dX9_takesSignal_37 : decode cX9_takesSignal 37 = .ok (.aload_n 0, 1) := by decide +kernel
theorem dX9_takesSignal_38 : decode cX9_takesSignal 38 = .ok (.getfield 298, 3) := by decide +kernel
theorem dX9_takesSignal_41 : decode cX9_takesSignal 41 = .ok (.iaload, 1) := by decide +kernel
theorem dX9_takesSignal_42 : decode cX9_takesSignal 42 = .ok (.invokestatic 327, 3) := by decide +kernel
theorem dX9_takesSignal_45 : decode cX9_takesSignal 45 = .ok (.goto 4, 3) := by decide +kernel
theorem dX9_takesSignal_48 : decode cX9_takesSignal 48 = .ok (.iconst (-1), 1) := by decide +kernel
theorem dX9_takesSignal_49 : decode cX9_takesSignal 49 = .ok (.istore_n 1, 1) := by decide +kernel
theorem dX9_takesSignal_50 : decode cX9_takesSignal 50 = .ok (.iload_n 1, 1) := by decide +kernel
theorem dX9_takesSignal_51 : decode cX9_takesSignal 51 = .ok (.ifCond .ge 5, 3) := by decide +kernel
theorem dX9_takesSignal_54 : decode cX9_takesSignal 54 = .ok (.iconst 0, 1) := by decide +kernel
theorem dX9_takesSignal_55 : decode cX9_takesSignal 55 = .ok (.ireturn, 1) := by decide +kernel
theorem dX9_takesSignal_56 : decode cX9_takesSignal 56 = .ok (.aload_n 0, 1) := by decide +kernel
theorem dX9_takesSignal_57 : decode cX9_takesSignal 57 = .ok (.getfield 77, 3) := by decide +kernel
theorem dX9_takesSignal_60 : decode cX9_takesSignal 60 = .ok (.aload_n 0, 1) := by decide +kernel
theorem dX9_takesSignal_61 : decode cX9_takesSignal 61 = .ok (.getfield 324, 3) := by decide +kernel
theorem dX9_takesSignal_64 : decode cX9_takesSignal 64 = .ok (.iload_n 1, 1) := by decide +kernel
theorem dX9_takesSignal_65 : decode cX9_takesSignal 65 = .ok (.iastore, 1) := by decide +kernel
theorem dX9_takesSignal_66 : decode cX9_takesSignal 66 = .ok (.aload_n 0, 1) := by decide +kernel
theorem dX9_takesSignal_67 : decode cX9_takesSignal 67 = .ok (.dup, 1) := by decide +kernel
theorem dX9_takesSignal_68 : decode cX9_takesSignal 68 = .ok (.getfield 298, 3) := by decide +kernel
theorem dX9_takesSignal_71 : decode cX9_takesSignal 71 = .ok (.iconst 1, 1) := by decide +kernel
theorem dX9_takesSignal_72 : decode cX9_takesSignal 72 = .ok (.iadd, 1) := by decide +kernel
theorem dX9_takesSignal_73 : decode cX9_takesSignal 73 = .ok (.putfield 298, 3) := by decide +kernel
theorem dX9_takesSignal_76 : decode cX9_takesSignal 76 = .ok (.aload_n 0, 1) := by decide +kernel
theorem dX9_takesSignal_77 : decode cX9_takesSignal 77 = .ok (.invokevirtual 321, 3) := by decide +kernel
theorem dX9_takesSignal_80 : decode cX9_takesSignal 80 = .ok (.ifCond .ne 5, 3) := by decide +kernel
theorem dX9_takesSignal_83 : decode cX9_takesSignal 83 = .ok (.iconst 0, 1) := by decide +kernel
theorem dX9_takesSignal_84 : decode cX9_takesSignal 84 = .ok (.ireturn, 1) := by decide +kernel
theorem dX9_takesSignal_85 : decode cX9_takesSignal 85 = .ok (.aload_n 0, 1) := by decide +kernel
theorem dX9_takesSignal_86 : decode cX9_takesSignal 86 = .ok (.getfield 83, 3) := by decide +kernel
theorem dX9_takesSignal_89 : decode cX9_takesSignal 89 = .ok (.aload_n 0, 1) := by decide +kernel
theorem dX9_takesSignal_90 : decode cX9_takesSignal 90 = .ok (.getfield 324, 3) := by decide +kernel
theorem dX9_takesSignal_93 : decode cX9_takesSignal 93 = .ok (.aload_n 0, 1) := by decide +kernel
theorem dX9_takesSignal_94 : decode cX9_takesSignal 94 = .ok (.getfield 315, 3) := by decide +kernel
theorem dX9_takesSignal_97 : decode cX9_takesSignal 97 = .ok (.iastore, 1) := by decide +kernel
theorem dX9_takesSignal_98 : decode cX9_takesSignal 98 = .ok (.iload_n 1, 1) := by decide +kernel
theorem dX9_takesSignal_99 : decode cX9_takesSignal 99 = .ok (.bipush 12, 2) := by decide +kernel
theorem dX9_takesSignal_101 : decode cX9_takesSignal 101 = .ok (.if_icmp .eq 5, 3) := by decide +kernel
theorem dX9_takesSignal_104 : decode cX9_takesSignal 104 = .ok (.iconst 1, 1) := by decide +kernel
theorem dX9_takesSignal_105 : decode cX9_takesSignal 105 = .ok (.ireturn, 1) := by decide +kernel
theorem dX9_takesSignal_106 : decode cX9_takesSignal 106 = .ok (.aload_n 0, 1) := by decide +kernel
theorem dX9_takesSignal_107 : decode cX9_takesSignal 107 = .ok (.bipush 58, 2) := by decide +kernel
theorem dX9_takesSignal_109 : decode cX9_takesSignal 109 = .ok (.invokevirtual 309, 3) := by decide +kernel
theorem dX9_takesSignal_112 : decode cX9_takesSignal 112 = .ok (.ifCond .eq 10, 3) := by decide +kernel
theorem dX9_takesSignal_115 : decode cX9_takesSignal 115 = .ok (.aload_n 0, 1) := by decide +kernel
theorem dX9_takesSignal_116 : decode cX9_takesSignal 116 = .ok (.invokevirtual 321, 3) := by decide +kernel
theorem dX9_takesSignal_119 : decode cX9_takesSignal 119 = .ok (.ifCond .ne 5, 3) := by decide +kernel
theorem dX9_takesSignal_122 : decode cX9_takesSignal 122 = .ok (.iconst 0, 1) := by decide +kernel
theorem dX9_takesSignal_123 : decode cX9_takesSignal 123 = .ok (.ireturn, 1) := by decide +kernel
theorem dX9_takesSignal_124 : decode cX9_takesSignal 124 = .ok (.aload_n 0, 1) := by decide +kernel
theorem dX9_takesSignal_125 : decode cX9_takesSignal 125 = .ok (.getfield 86, 3) := by decide +kernel
theorem dX9_takesSignal_128 : decode cX9_takesSignal 128 = .ok (.aload_n 0, 1) := by decide +kernel
theorem dX9_takesSignal_129 : decode cX9_takesSignal 129 = .ok (.getfield 324, 3) := by decide +kernel
theorem dX9_takesSignal_132 : decode cX9_takesSignal 132 = .ok (.aload_n 0, 1) := by decide +kernel
theorem dX9_takesSignal_133 : decode cX9_takesSignal 133 = .ok (.getfield 315, 3) := by decide +kernel
theorem dX9_takesSignal_136 : decode cX9_takesSignal 136 = .ok (.iastore, 1) := by decide +kernel
theorem dX9_takesSignal_137 : decode cX9_takesSignal 137 = .ok (.iconst 1, 1) := by decide +kernel
theorem dX9_takesSignal_138 : decode cX9_takesSignal 138 = .ok (.ireturn, 1) := by decide +kernel
theorem dX9_takesItem_0 : decode cX9_takesItem 0 = .ok (.aload_n 0, 1) := by decide +kernel
theorem dX9_takesItem_1 : decode cX9_takesItem 1 = .ok (.getfield 83, 3) := by decide +kernel
theorem dX9_takesItem_4 : decode cX9_takesItem 4 = .ok (.aload_n 0, 1) := by decide +kernel
theorem dX9_takesItem_5 : decode cX9_takesItem 5 = .ok (.getfield 324, 3) := by decide +kernel
theorem dX9_takesItem_8 : decode cX9_takesItem 8 = .ok (.iconst 0, 1) := by decide +kernel
theorem dX9_takesItem_9 : decode cX9_takesItem 9 = .ok (.iastore, 1) := by decide +kernel
theorem dX9_takesItem_10 : decode cX9_takesItem 10 = .ok (.aload_n 0, 1) := by decide +kernel
theorem dX9_takesItem_11 : decode cX9_takesItem 11 = .ok (.getfield 86, 3) := by decide +kernel
theorem dX9_takesItem_14 : decode cX9_takesItem 14 = .ok (.aload_n 0, 1) := by decide +kernel
theorem dX9_takesItem_15 : decode cX9_takesItem 15 = .ok (.getfield 324, 3) := by decide +kernel
theorem dX9_takesItem_18 : decode cX9_takesItem 18 = .ok (.iconst 0, 1) := by decide +kernel
theorem dX9_takesItem_19 : decode cX9_takesItem 19 = .ok (.iastore, 1) := by decide +kernel
theorem dX9_takesItem_20 : decode cX9_takesItem 20 = .ok (.aload_n 0, 1) := by decide +kernel
theorem dX9_takesItem_21 : decode cX9_takesItem 21 = .ok (.bipush 105, 2) := by decide +kernel
theorem dX9_takesItem_23 : decode cX9_takesItem 23 = .ok (.invokevirtual 309, 3) := by decide +kernel
theorem dX9_takesItem_26 : decode cX9_takesItem 26 = .ok (.ifCond .eq 19, 3) := by decide +kernel
theorem dX9_takesItem_29 : decode cX9_takesItem 29 = .ok (.aload_n 0, 1) := by decide +kernel
theorem dX9_takesItem_30 : decode cX9_takesItem 30 = .ok (.getfield 77, 3) := by decide +kernel
theorem dX9_takesItem_33 : decode cX9_takesItem 33 = .ok (.aload_n 0, 1) := by decide +kernel
theorem dX9_takesItem_34 : decode cX9_takesItem 34 = .ok (.getfield 324, 3) := by decide +kernel
theorem dX9_takesItem_37 : decode cX9_takesItem 37 = .ok (.iconst 0, 1) := by decide +kernel
theorem dX9_takesItem_38 : decode cX9_takesItem 38 = .ok (.iastore, 1) := by decide +kernel
theorem dX9_takesItem_39 : decode cX9_takesItem 39 = .ok (.aload_n 0, 1) := by decide +kernel
theorem dX9_takesItem_40 : decode cX9_takesItem 40 = .ok (.iconst 1, 1) := by decide +kernel
theorem dX9_takesItem_41 : decode cX9_takesItem 41 = .ok (.invokevirtual 330, 3) := by decide +kernel
theorem dX9_takesItem_44 : decode cX9_takesItem 44 = .ok (.ireturn, 1) := by decide +kernel
theorem dX9_takesItem_45 : decode cX9_takesItem 45 = .ok (.aload_n 0, 1) := by decide +kernel
theorem dX9_takesItem_46 : decode cX9_takesItem 46 = .ok (.bipush 110, 2) := by decide +kernel
theorem dX9_takesItem_48 : decode cX9_takesItem 48 = .ok (.invokevirtual 309, 3) := by decide +kernel
theorem dX9_takesItem_51 : decode cX9_takesItem 51 = .ok (.ifCond .eq 20, 3) := by decide +kernel
theorem dX9_takesItem_54 : decode cX9_takesItem 54 = .ok (.aload_n 0, 1) := by decide +kernel
theorem dX9_takesItem_55 : decode cX9_takesItem 55 = .ok (.getfield 77, 3) := by decide +kernel
theorem dX9_takesItem_58 : decode cX9_takesItem 58 = .ok (.aload_n 0, 1) := by decide +kernel
theorem dX9_takesItem_59 : decode cX9_takesItem 59 = .ok (.getfield 324, 3) := by decide +kernel
theorem dX9_takesItem_62 : decode cX9_takesItem 62 = .ok (.bipush 13, 2) := by decide +kernel
theorem dX9_takesItem_64 : decode cX9_takesItem 64 = .ok (.iastore, 1) := by decide +kernel
theorem dX9_takesItem_65 : decode cX9_takesItem 65 = .ok (.aload_n 0, 1) := by decide +kernel
theorem dX9_takesItem_66 : decode cX9_takesItem 66 = .ok (.iconst 0, 1) := by decide +kernel
theorem dX9_takesItem_67 : decode cX9_takesItem 67 = .ok (.invokevirtual 330, 3) := by decide +kernel
theorem dX9_takesItem_70 : decode cX9_takesItem 70 = .ok (.ireturn, 1) := by decide +kernel
theorem dX9_takesItem_71 : decode cX9_takesItem 71 = .ok (.aload_n 0, 1) := by decide +kernel
theorem dX9_takesItem_72 : decode cX9_takesItem 72 = .ok (.bipush 107, 2) := by decide +kernel
theorem dX9_takesItem_74 : decode cX9_takesItem 74 = .ok (.invokevirtual 309, 3) := by decide +kernel
theorem dX9_takesItem_77 : decode cX9_takesItem 77 = .ok (.ifCond .eq 9, 3) := by decide +kernel
theorem dX9_takesItem_80 : decode cX9_takesItem 80 = .ok (.aload_n 0, 1) := by decide +kernel
theorem dX9_takesItem_81 : decode cX9_takesItem 81 = .ok (.iconst 1, 1) := by decide +kernel
theorem dX9_takesItem_82 : decode cX9_takesItem 82 = .ok (.invokevirtual 334, 3) := by decide +kernel
theorem dX9_takesItem_85 : decode cX9_takesItem 85 = .ok (.ireturn, 1) := by decide +kernel
theorem dX9_takesItem_86 : decode cX9_takesItem 86 = .ok (.aload_n 0, 1) := by decide +kernel
theorem dX9_takesItem_87 : decode cX9_takesItem 87 = .ok (.bipush 114, 2) := by decide +kernel
theorem dX9_takesItem_89 : decode cX9_takesItem 89 = .ok (.invokevirtual 309, 3) := by decide +kernel
theorem dX9_takesItem_92 : decode cX9_takesItem 92 = .ok (.ifCond .eq 9, 3) := by decide +kernel
theorem dX9_takesItem_95 : decode cX9_takesItem 95 = .ok (.aload_n 0, 1) := by decide +kernel
theorem dX9_takesItem_96 : decode cX9_takesItem 96 = .ok (.iconst 2, 1) := by decide +kernel
theorem dX9_takesItem_97 : decode cX9_takesItem 97 = .ok (.invokevirtual 334, 3) := by decide +kernel
theorem dX9_takesItem_100 : decode cX9_takesItem 100 = .ok (.ireturn, 1) := by decide +kernel
theorem dX9_takesItem_101 : decode cX9_takesItem 101 = .ok (.aload_n 0, 1) := by decide +kernel
theorem dX9_takesItem_102 : decode cX9_takesItem 102 = .ok (.bipush 111, 2) := by decide +kernel
theorem dX9_takesItem_104 : decode cX9_takesItem 104 = .ok (.invokevirtual 309, 3) := by decide +kernel
theorem dX9_takesItem_107 : decode cX9_takesItem 107 = .ok (.ifCond .eq 12, 3) := by decide +kernel
theorem dX9_takesItem_110 : decode cX9_takesItem 110 = .ok (.aload_n 0, 1) := by decide +kernel
theorem dX9_takesItem_111 : decode cX9_takesItem 111 = .ok (.bipush 14, 2) := by decide +kernel
theorem dX9_takesItem_113 : decode cX9_takesItem 113 = .ok (.invokevirtual 334, 3) := by decide +kernel
theorem dX9_takesItem_116 : decode cX9_takesItem 116 = .ok (.goto 7, 3) := by decide +kernel
theorem dX9_takesItem_119 : decode cX9_takesItem 119 = .ok (.aload_n 0, 1) := by decide +kernel
theorem dX9_takesItem_120 : decode cX9_takesItem 120 = .ok (.invokevirtual 337, 3) := by decide +kernel
theorem dX9_takesItem_123 : decode cX9_takesItem 123 = .ok (.ireturn, 1) := by decide +kernel
theorem dX9_takesText_0 : decode cX9_takesText 0 = .ok (.aload_n 0, 1) := by decide +kernel
theorem dX9_takesText_1 : decode cX9_takesText 1 = .ok (.iconst 0, 1) := by decide +kernel
theorem dX9_takesText_2 : decode cX9_takesText 2 = .ok (.putfield 298, 3) := by decide +kernel
theorem dX9_takesText_5 : decode cX9_takesText 5 = .ok (.aload_n 0, 1) := by decide +kernel
theorem dX9_takesText_6 : decode cX9_takesText 6 = .ok (.iconst 0, 1) := by decide +kernel
theorem dX9_takesText_7 : decode cX9_takesText 7 = .ok (.putfield 324, 3) := by decide +kernel
theorem dX9_takesText_10 : decode cX9_takesText 10 = .ok (.iconst 1, 1) := by decide +kernel
theorem dX9_takesText_11 : decode cX9_takesText 11 = .ok (.istore_n 1, 1) := by decide +kernel
theorem dX9_takesText_12 : decode cX9_takesText 12 = .ok (.iload_n 1, 1) := by decide +kernel
theorem dX9_takesText_13 : decode cX9_takesText 13 = .ok (.ifCond .eq 59, 3) := by decide +kernel
theorem dX9_takesText_16 : decode cX9_takesText 16 = .ok (.aload_n 0, 1) := by decide +kernel
theorem dX9_takesText_17 : decode cX9_takesText 17 = .ok (.invokevirtual 340, 3) := by decide +kernel
theorem dX9_takesText_20 : decode cX9_takesText 20 = .ok (.ifCond .ne 5, 3) := by decide +kernel
theorem dX9_takesText_23 : decode cX9_takesText 23 = .ok (.iconst 0, 1) := by decide +kernel
theorem dX9_takesText_24 : decode cX9_takesText 24 = .ok (.ireturn, 1) := by decide +kernel
theorem dX9_takesText_25 : decode cX9_takesText 25 = .ok (.aload_n 0, 1) := by decide +kernel
theorem dX9_takesText_26 : decode cX9_takesText 26 = .ok (.getfield 298, 3) := by decide +kernel
theorem dX9_takesText_29 : decode cX9_takesText 29 = .ok (.aload_n 0, 1) := by decide +kernel
theorem dX9_takesText_30 : decode cX9_takesText 30 = .ok (.getfield 295, 3) := by decide +kernel
theorem dX9_takesText_33 : decode cX9_takesText 33 = .ok (.if_icmp .ge 19, 3) := by decide +kernel
theorem dX9_takesText_36 : decode cX9_takesText 36 = .ok (.aload_n 0, 1) := by decide +kernel
theorem dX9_takesText_37 : decode cX9_takesText 37 = .ok (.getfield 74, 3) := by decide +kernel
theorem dX9_takesText_40 : decode cX9_takesText 40 = .ok (.aload_n 0, 1) := by decide +kernel
theorem dX9_takesText_41 : decode cX9_takesText 41 = .ok (.getfield 298, 3) := by decide +kernel
theorem dX9_takesText_44 : decode cX9_takesText 44 = .ok (.iaload, 1) := by decide +kernel
theorem dX9_takesText_45 : decode cX9_takesText 45 = .ok (.bipush 59, 2) := by decide +kernel
theorem dX9_takesText_47 : decode cX9_takesText 47 = .ok (.if_icmp .eq 5, 3) := by decide +kernel
theorem dX9_takesText_50 : decode cX9_takesText 50 = .ok (.iconst 0, 1) := by decide +kernel
theorem dX9_takesText_51 : decode cX9_takesText 51 = .ok (.ireturn, 1) := by decide +kernel
theorem dX9_takesText_52 : decode cX9_takesText 52 = .ok (.aload_n 0, 1) := by decide +kernel
theorem dX9_takesText_53 : decode cX9_takesText 53 = .ok (.dup, 1) := by decide +kernel
theorem dX9_takesText_54 : decode cX9_takesText 54 = .ok (.getfield 324, 3) := by decide +kernel
theorem dX9_takesText_57 : decode cX9_takesText 57 = .ok (.iconst 1, 1) := by decide +kernel
theorem dX9_takesText_58 : decode cX9_takesText 58 = .ok (.iadd, 1) := by decide +kernel
theorem dX9_takesText_59 : decode cX9_takesText 59 = .ok (.putfield 324, 3) := by decide +kernel
theorem dX9_takesText_62 : decode cX9_takesText 62 = .ok (.aload_n 0, 1) := by decide +kernel
theorem dX9_takesText_63 : decode cX9_takesText 63 = .ok (.bipush 59, 2) := by decide +kernel
theorem dX9_takesText_65 : decode cX9_takesText 65 = .ok (.invokevirtual 309, 3) := by decide +kernel
theorem dX9_takesText_68 : decode cX9_takesText 68 = .ok (.istore_n 1, 1) := by decide +kernel
theorem dX9_takesText_69 : decode cX9_takesText 69 = .ok (.goto (-57), 3) := by decide +kernel
theorem dX9_takesText_72 : decode cX9_takesText 72 = .ok (.iconst 1, 1) := by decide +kernel
theorem dX9_takesText_73 : decode cX9_takesText 73 = .ok (.ireturn, 1) := by decide +kernel
theorem dX9_faults_0 : decode cX9_faults 0 = .ok (.aload_n 0, 1) := by decide +kernel
theorem dX9_faults_1 : decode cX9_faults 1 = .ok (.getfield 89, 3) := by decide +kernel
theorem dX9_faults_4 : decode cX9_faults 4 = .ok (.iconst 0, 1) := by decide +kernel
theorem dX9_faults_5 : decode cX9_faults 5 = .ok (.iconst 1, 1) := by decide +kernel
theorem dX9_faults_6 : decode cX9_faults 6 = .ok (.iastore, 1) := by decide +kernel
theorem dX9_faults_7 : decode cX9_faults 7 = .ok (.aload_n 0, 1) := by decide +kernel
theorem dX9_faults_8 : decode cX9_faults 8 = .ok (.getfield 92, 3) := by decide +kernel
theorem dX9_faults_11 : decode cX9_faults 11 = .ok (.iconst 0, 1) := by decide +kernel
theorem dX9_faults_12 : decode cX9_faults 12 = .ok (.iload_n 1, 1) := by decide +kernel
theorem dX9_faults_13 : decode cX9_faults 13 = .ok (.iastore, 1) := by decide +kernel
theorem dX9_faults_14 : decode cX9_faults 14 = .ok (.aload_n 0, 1) := by decide +kernel
theorem dX9_faults_15 : decode cX9_faults 15 = .ok (.getfield 89, 3) := by decide +kernel
theorem dX9_faults_18 : decode cX9_faults 18 = .ok (.iconst 1, 1) := by decide +kernel
theorem dX9_faults_19 : decode cX9_faults 19 = .ok (.iload_n 2, 1) := by decide +kernel
theorem dX9_faults_20 : decode cX9_faults 20 = .ok (.iastore, 1) := by decide +kernel
theorem dX9_faults_21 : decode cX9_faults 21 = .ok (.aload_n 0, 1) := by decide +kernel
theorem dX9_faults_22 : decode cX9_faults 22 = .ok (.getfield 92, 3) := by decide +kernel
theorem dX9_faults_25 : decode cX9_faults 25 = .ok (.iconst 1, 1) := by decide +kernel
theorem dX9_faults_26 : decode cX9_faults 26 = .ok (.iload_n 3, 1) := by decide +kernel
theorem dX9_faults_27 : decode cX9_faults 27 = .ok (.iastore, 1) := by decide +kernel
theorem dX9_faults_28 : decode cX9_faults 28 = .ok (.aload_n 0, 1) := by decide +kernel
theorem dX9_faults_29 : decode cX9_faults 29 = .ok (.getfield 89, 3) := by decide +kernel
theorem dX9_faults_32 : decode cX9_faults 32 = .ok (.iconst 2, 1) := by decide +kernel
theorem dX9_faults_33 : decode cX9_faults 33 = .ok (.iload 4, 2) := by decide +kernel
theorem dX9_faults_35 : decode cX9_faults 35 = .ok (.iastore, 1) := by decide +kernel
theorem dX9_faults_36 : decode cX9_faults 36 = .ok (.aload_n 0, 1) := by decide +kernel
theorem dX9_faults_37 : decode cX9_faults 37 = .ok (.getfield 92, 3) := by decide +kernel
theorem dX9_faults_40 : decode cX9_faults 40 = .ok (.iconst 2, 1) := by decide +kernel
theorem dX9_faults_41 : decode cX9_faults 41 = .ok (.iload 5, 2) := by decide +kernel
theorem dX9_faults_43 : decode cX9_faults 43 = .ok (.iastore, 1) := by decide +kernel
theorem dX9_faults_44 : decode cX9_faults 44 = .ok (.return_, 1) := by decide +kernel
theorem dX9_notDone_0 : decode cX9_notDone 0 = .ok (.aload_n 0, 1) := by decide +kernel
theorem dX9_notDone_1 : decode cX9_notDone 1 = .ok (.getfield 80, 3) := by decide +kernel
theorem dX9_notDone_4 : decode cX9_notDone 4 = .ok (.iload_n 1, 1) := by decide +kernel
theorem dX9_notDone_5 : decode cX9_notDone 5 = .ok (.iaload, 1) := by decide +kernel
theorem dX9_notDone_6 : decode cX9_notDone 6 = .ok (.istore_n 2, 1) := by decide +kernel
theorem dX9_notDone_7 : decode cX9_notDone 7 = .ok (.aload_n 0, 1) := by decide +kernel
theorem dX9_notDone_8 : decode cX9_notDone 8 = .ok (.getfield 83, 3) := by decide +kernel
theorem dX9_notDone_11 : decode cX9_notDone 11 = .ok (.iload_n 1, 1) := by decide +kernel
theorem dX9_notDone_12 : decode cX9_notDone 12 = .ok (.iaload, 1) := by decide +kernel
theorem dX9_notDone_13 : decode cX9_notDone 13 = .ok (.istore_n 3, 1) := by decide +kernel
theorem dX9_notDone_14 : decode cX9_notDone 14 = .ok (.aload_n 0, 1) := by decide +kernel
theorem dX9_notDone_15 : decode cX9_notDone 15 = .ok (.iconst 0, 1) := by decide +kernel
theorem dX9_notDone_16 : decode cX9_notDone 16 = .ok (.putfield 343, 3) := by decide +kernel
theorem dX9_notDone_19 : decode cX9_notDone 19 = .ok (.aload_n 0, 1) := by decide +kernel
theorem dX9_notDone_20 : decode cX9_notDone 20 = .ok (.getfield 77, 3) := by decide +kernel
theorem dX9_notDone_23 : decode cX9_notDone 23 = .ok (.iload_n 1, 1) := by decide +kernel
theorem dX9_notDone_24 : decode cX9_notDone 24 = .ok (.iaload, 1) := by decide +kernel
theorem dX9_notDone_25 : decode cX9_notDone 25 = .ok (.bipush 13, 2) := by decide +kernel
theorem dX9_notDone_27 : decode cX9_notDone 27 = .ok (.if_icmp .lt 77, 3) := by decide +kernel
theorem dX9_notDone_30 : decode cX9_notDone 30 = .ok (.aload_n 0, 1) := by decide +kernel
theorem dX9_notDone_31 : decode cX9_notDone 31 = .ok (.iload_n 2, 1) := by decide +kernel
theorem dX9_notDone_32 : decode cX9_notDone 32 = .ok (.invokevirtual 123, 3) := by decide +kernel
theorem dX9_notDone_35 : decode cX9_notDone 35 = .ok (.ifCond .eq 50, 3) := by decide +kernel
theorem dX9_notDone_38 : decode cX9_notDone 38 = .ok (.aload_n 0, 1) := by decide +kernel
theorem dX9_notDone_39 : decode cX9_notDone 39 = .ok (.getfield 77, 3) := by decide +kernel
theorem dX9_notDone_42 : decode cX9_notDone 42 = .ok (.iload_n 1, 1) := by decide +kernel
theorem dX9_notDone_43 : decode cX9_notDone 43 = .ok (.iaload, 1) := by decide +kernel
theorem dX9_notDone_44 : decode cX9_notDone 44 = .ok (.bipush 14, 2) := by decide +kernel
theorem dX9_notDone_46 : decode cX9_notDone 46 = .ok (.if_icmp .eq 11, 3) := by decide +kernel
theorem dX9_notDone_49 : decode cX9_notDone 49 = .ok (.aload_n 0, 1) := by decide +kernel
theorem dX9_notDone_50 : decode cX9_notDone 50 = .ok (.iload_n 3, 1) := by decide +kernel
theorem dX9_notDone_51 : decode cX9_notDone 51 = .ok (.invokevirtual 123, 3) := by decide +kernel
theorem dX9_notDone_54 : decode cX9_notDone 54 = .ok (.ifCond .eq 31, 3) := by decide +kernel
theorem dX9_notDone_57 : decode cX9_notDone 57 = .ok (.aload_n 0, 1) := by decide +kernel
theorem dX9_notDone_58 : decode cX9_notDone 58 = .ok (.getfield 77, 3) := by decide +kernel
theorem dX9_notDone_61 : decode cX9_notDone 61 = .ok (.iload_n 1, 1) := by decide +kernel
theorem dX9_notDone_62 : decode cX9_notDone 62 = .ok (.iaload, 1) := by decide +kernel
theorem dX9_notDone_63 : decode cX9_notDone 63 = .ok (.bipush 13, 2) := by decide +kernel
theorem dX9_notDone_65 : decode cX9_notDone 65 = .ok (.if_icmp .ne 18, 3) := by decide +kernel
theorem dX9_notDone_68 : decode cX9_notDone 68 = .ok (.aload_n 0, 1) := by decide +kernel
theorem dX9_notDone_69 : decode cX9_notDone 69 = .ok (.getfield 7, 3) := by decide +kernel
theorem dX9_notDone_72 : decode cX9_notDone 72 = .ok (.iload_n 2, 1) := by decide +kernel
theorem dX9_notDone_73 : decode cX9_notDone 73 = .ok (.iaload, 1) := by decide +kernel
theorem dX9_notDone_74 : decode cX9_notDone 74 = .ok (.iconst 2, 1) := by decide +kernel
theorem dX9_notDone_75 : decode cX9_notDone 75 = .ok (.if_icmp .eq 8, 3) := by decide +kernel
theorem dX9_notDone_78 : decode cX9_notDone 78 = .ok (.bipush 7, 2) := by decide +kernel
theorem dX9_notDone_80 : decode cX9_notDone 80 = .ok (.goto 4, 3) := by decide +kernel
theorem dX9_notDone_83 : decode cX9_notDone 83 = .ok (.iconst 0, 1) := by decide +kernel
theorem dX9_notDone_84 : decode cX9_notDone 84 = .ok (.ireturn, 1) := by decide +kernel
theorem dX9_notDone_85 : decode cX9_notDone 85 = .ok (.aload_n 0, 1) := by decide +kernel
theorem dX9_notDone_86 : decode cX9_notDone 86 = .ok (.aload_n 0, 1) := by decide +kernel
theorem dX9_notDone_87 : decode cX9_notDone 87 = .ok (.iload_n 2, 1) := by decide +kernel
theorem dX9_notDone_88 : decode cX9_notDone 88 = .ok (.invokevirtual 123, 3) := by decide +kernel
theorem dX9_notDone_91 : decode cX9_notDone 91 = .ok (.ifCond .eq 7, 3) := by decide +kernel
theorem dX9_notDone_94 : decode cX9_notDone 94 = .ok (.iconst 1, 1) := by decide +kernel
theorem dX9_notDone_95 : decode cX9_notDone 95 = .ok (.goto 4, 3) := by decide +kernel
theorem dX9_notDone_98 : decode cX9_notDone 98 = .ok (.iconst 0, 1) := by decide +kernel
theorem dX9_notDone_99 : decode cX9_notDone 99 = .ok (.putfield 343, 3) := by decide +kernel
theorem dX9_notDone_102 : decode cX9_notDone 102 = .ok (.iconst 5, 1) := by decide +kernel
theorem dX9_notDone_103 : decode cX9_notDone 103 = .ok (.ireturn, 1) := by decide +kernel
theorem dX9_notDone_104 : decode cX9_notDone 104 = .ok (.aload_n 0, 1) := by decide +kernel
theorem dX9_notDone_105 : decode cX9_notDone 105 = .ok (.getfield 77, 3) := by decide +kernel
theorem dX9_notDone_108 : decode cX9_notDone 108 = .ok (.iload_n 1, 1) := by decide +kernel
theorem dX9_notDone_109 : decode cX9_notDone 109 = .ok (.iaload, 1) := by decide +kernel
theorem dX9_notDone_110 : decode cX9_notDone 110 = .ok (.iload_n 2, 1) := by decide +kernel
theorem dX9_notDone_111 : decode cX9_notDone 111 = .ok (.iload_n 3, 1) := by decide +kernel
theorem dX9_notDone_112 : decode cX9_notDone 112 = .ok (.invokestatic 128, 3) := by decide +kernel
theorem dX9_notDone_115 : decode cX9_notDone 115 = .ok (.istore 4, 2) := by decide +kernel
theorem dX9_notDone_117 : decode cX9_notDone 117 = .ok (.aload_n 0, 1) := by decide +kernel
theorem dX9_notDone_118 : decode cX9_notDone 118 = .ok (.aload_n 0, 1) := by decide +kernel
theorem dX9_notDone_119 : decode cX9_notDone 119 = .ok (.getfield 77, 3) := by decide +kernel
theorem dX9_notDone_122 : decode cX9_notDone 122 = .ok (.iload_n 1, 1) := by decide +kernel
theorem dX9_notDone_123 : decode cX9_notDone 123 = .ok (.iaload, 1) := by decide +kernel
theorem dX9_notDone_124 : decode cX9_notDone 124 = .ok (.iload_n 2, 1) := by decide +kernel
theorem dX9_notDone_125 : decode cX9_notDone 125 = .ok (.iload_n 3, 1) := by decide +kernel
theorem dX9_notDone_126 : decode cX9_notDone 126 = .ok (.aload_n 0, 1) := by decide +kernel
theorem dX9_notDone_127 : decode cX9_notDone 127 = .ok (.getfield 86, 3) := by decide +kernel
theorem dX9_notDone_130 : decode cX9_notDone 130 = .ok (.iload_n 1, 1) := by decide +kernel
theorem dX9_notDone_131 : decode cX9_notDone 131 = .ok (.iaload, 1) := by decide +kernel
theorem dX9_notDone_132 : decode cX9_notDone 132 = .ok (.invokevirtual 136, 3) := by decide +kernel
theorem dX9_notDone_135 : decode cX9_notDone 135 = .ok (.istore 5, 2) := by decide +kernel
theorem dX9_notDone_137 : decode cX9_notDone 137 = .ok (.iload 4, 2) := by decide +kernel
theorem dX9_notDone_139 : decode cX9_notDone 139 = .ok (.ifCond .ge 24, 3) := by decide +kernel
theorem dX9_notDone_142 : decode cX9_notDone 142 = .ok (.iload 5, 2) := by decide +kernel
theorem dX9_notDone_144 : decode cX9_notDone 144 = .ok (.ifCond .ge 19, 3) := by decide +kernel
theorem dX9_notDone_147 : decode cX9_notDone 147 = .ok (.aload_n 0, 1) := by decide +kernel
theorem dX9_notDone_148 : decode cX9_notDone 148 = .ok (.getfield 102, 3) := by decide +kernel
theorem dX9_notDone_151 : decode cX9_notDone 151 = .ok (.bipush 24, 2) := by decide +kernel
theorem dX9_notDone_153 : decode cX9_notDone 153 = .ok (.if_icmp .ne 8, 3) := by decide +kernel
theorem dX9_notDone_156 : decode cX9_notDone 156 = .ok (.bipush 6, 2) := by decide +kernel
theorem dX9_notDone_158 : decode cX9_notDone 158 = .ok (.goto 4, 3) := by decide +kernel
theorem dX9_notDone_161 : decode cX9_notDone 161 = .ok (.iconst 0, 1) := by decide +kernel
theorem dX9_notDone_162 : decode cX9_notDone 162 = .ok (.ireturn, 1) := by decide +kernel
theorem dX9_notDone_163 : decode cX9_notDone 163 = .ok (.iload 5, 2) := by decide +kernel
theorem dX9_notDone_165 : decode cX9_notDone 165 = .ok (.ifCond .lt 15, 3) := by decide +kernel
theorem dX9_notDone_168 : decode cX9_notDone 168 = .ok (.iload 4, 2) := by decide +kernel
theorem dX9_notDone_170 : decode cX9_notDone 170 = .ok (.ifCond .lt 14, 3) := by decide +kernel
theorem dX9_notDone_173 : decode cX9_notDone 173 = .ok (.iload 4, 2) := by decide +kernel
theorem dX9_notDone_175 : decode cX9_notDone 175 = .ok (.iload 5, 2) := by decide +kernel
theorem dX9_notDone_177 : decode cX9_notDone 177 = .ok (.if_icmp .ge 7, 3) := by decide +kernel
theorem dX9_notDone_180 : decode cX9_notDone 180 = .ok (.iconst 1, 1) := by decide +kernel
theorem dX9_notDone_181 : decode cX9_notDone 181 = .ok (.goto 4, 3) := by decide +kernel
theorem dX9_notDone_184 : decode cX9_notDone 184 = .ok (.iconst 0, 1) := by decide +kernel
theorem dX9_notDone_185 : decode cX9_notDone 185 = .ok (.istore 6, 2) := by decide +kernel
theorem dX9_notDone_187 : decode cX9_notDone 187 = .ok (.aload_n 0, 1) := by decide +kernel
theorem dX9_notDone_188 : decode cX9_notDone 188 = .ok (.iload 6, 2) := by decide +kernel
theorem dX9_notDone_190 : decode cX9_notDone 190 = .ok (.ifCond .eq 8, 3) := by decide +kernel
theorem dX9_notDone_193 : decode cX9_notDone 193 = .ok (.iload 4, 2) := by decide +kernel
theorem dX9_notDone_195 : decode cX9_notDone 195 = .ok (.goto 5, 3) := by decide +kernel
theorem dX9_notDone_198 : decode cX9_notDone 198 = .ok (.iload 5, 2) := by decide +kernel
theorem dX9_notDone_200 : decode cX9_notDone 200 = .ok (.putfield 343, 3) := by decide +kernel
theorem dX9_notDone_203 : decode cX9_notDone 203 = .ok (.iload 6, 2) := by decide +kernel
theorem dX9_notDone_205 : decode cX9_notDone 205 = .ok (.ifCond .eq 7, 3) := by decide +kernel
theorem dX9_notDone_208 : decode cX9_notDone 208 = .ok (.iconst 4, 1) := by decide +kernel
theorem dX9_notDone_209 : decode cX9_notDone 209 = .ok (.goto 4, 3) := by decide +kernel
theorem dX9_notDone_212 : decode cX9_notDone 212 = .ok (.iconst 5, 1) := by decide +kernel
theorem dX9_notDone_213 : decode cX9_notDone 213 = .ok (.ireturn, 1) := by decide +kernel
theorem dX9_does_0 : decode cX9_does 0 = .ok (.aload_n 0, 1) := by decide +kernel
theorem dX9_does_1 : decode cX9_does 1 = .ok (.getfield 77, 3) := by decide +kernel
theorem dX9_does_4 : decode cX9_does 4 = .ok (.iload_n 1, 1) := by decide +kernel
theorem dX9_does_5 : decode cX9_does 5 = .ok (.iaload, 1) := by decide +kernel
theorem dX9_does_6 : decode cX9_does 6 = .ok (.bipush 13, 2) := by decide +kernel
theorem dX9_does_8 : decode cX9_does 8 = .ok (.if_icmp .ne 23, 3) := by decide +kernel
theorem dX9_does_11 : decode cX9_does 11 = .ok (.aload_n 0, 1) := by decide +kernel
theorem dX9_does_12 : decode cX9_does 12 = .ok (.getfield 22, 3) := by decide +kernel
theorem dX9_does_15 : decode cX9_does 15 = .ok (.aload_n 0, 1) := by decide +kernel
theorem dX9_does_16 : decode cX9_does 16 = .ok (.getfield 80, 3) := by decide +kernel
theorem dX9_does_19 : decode cX9_does 19 = .ok (.iload_n 1, 1) := by decide +kernel
theorem dX9_does_20 : decode cX9_does 20 = .ok (.iaload, 1) := by decide +kernel
theorem dX9_does_21 : decode cX9_does 21 = .ok (.aload_n 0, 1) := by decide +kernel
theorem dX9_does_22 : decode cX9_does 22 = .ok (.getfield 83, 3) := by decide +kernel
theorem dX9_does_25 : decode cX9_does 25 = .ok (.iload_n 1, 1) := by decide +kernel
theorem dX9_does_26 : decode cX9_does 26 = .ok (.iaload, 1) := by decide +kernel
theorem dX9_does_27 : decode cX9_does 27 = .ok (.iastore, 1) := by decide +kernel
theorem dX9_does_28 : decode cX9_does 28 = .ok (.goto 57, 3) := by decide +kernel
theorem dX9_does_31 : decode cX9_does 31 = .ok (.aload_n 0, 1) := by decide +kernel
theorem dX9_does_32 : decode cX9_does 32 = .ok (.getfield 77, 3) := by decide +kernel
theorem dX9_does_35 : decode cX9_does 35 = .ok (.iload_n 1, 1) := by decide +kernel
theorem dX9_does_36 : decode cX9_does 36 = .ok (.iaload, 1) := by decide +kernel
theorem dX9_does_37 : decode cX9_does 37 = .ok (.bipush 14, 2) := by decide +kernel
theorem dX9_does_39 : decode cX9_does 39 = .ok (.if_icmp .ne 18, 3) := by decide +kernel
theorem dX9_does_42 : decode cX9_does 42 = .ok (.aload_n 0, 1) := by decide +kernel
theorem dX9_does_43 : decode cX9_does 43 = .ok (.getfield 25, 3) := by decide +kernel
theorem dX9_does_46 : decode cX9_does 46 = .ok (.aload_n 0, 1) := by decide +kernel
theorem dX9_does_47 : decode cX9_does 47 = .ok (.getfield 80, 3) := by decide +kernel
theorem dX9_does_50 : decode cX9_does 50 = .ok (.iload_n 1, 1) := by decide +kernel
theorem dX9_does_51 : decode cX9_does 51 = .ok (.iaload, 1) := by decide +kernel
theorem dX9_does_52 : decode cX9_does 52 = .ok (.iconst 1, 1) := by decide +kernel
theorem dX9_does_53 : decode cX9_does 53 = .ok (.iastore, 1) := by decide +kernel
theorem dX9_does_54 : decode cX9_does 54 = .ok (.goto 31, 3) := by decide +kernel
theorem dX9_does_57 : decode cX9_does 57 = .ok (.aload_n 0, 1) := by decide +kernel
theorem dX9_does_58 : decode cX9_does 58 = .ok (.aload_n 0, 1) := by decide +kernel
theorem dX9_does_59 : decode cX9_does 59 = .ok (.getfield 77, 3) := by decide +kernel
theorem dX9_does_62 : decode cX9_does 62 = .ok (.iload_n 1, 1) := by decide +kernel
theorem dX9_does_63 : decode cX9_does 63 = .ok (.iaload, 1) := by decide +kernel
theorem dX9_does_64 : decode cX9_does 64 = .ok (.aload_n 0, 1) := by decide +kernel
theorem dX9_does_65 : decode cX9_does 65 = .ok (.getfield 80, 3) := by decide +kernel
theorem dX9_does_68 : decode cX9_does 68 = .ok (.iload_n 1, 1) := by decide +kernel
theorem dX9_does_69 : decode cX9_does 69 = .ok (.iaload, 1) := by decide +kernel
theorem dX9_does_70 : decode cX9_does 70 = .ok (.aload_n 0, 1) := by decide +kernel
theorem dX9_does_71 : decode cX9_does 71 = .ok (.getfield 83, 3) := by decide +kernel
theorem dX9_does_74 : decode cX9_does 74 = .ok (.iload_n 1, 1) := by decide +kernel
theorem dX9_does_75 : decode cX9_does 75 = .ok (.iaload, 1) := by decide +kernel
theorem dX9_does_76 : decode cX9_does 76 = .ok (.aload_n 0, 1) := by decide +kernel
theorem dX9_does_77 : decode cX9_does 77 = .ok (.getfield 86, 3) := by decide +kernel
theorem dX9_does_80 : decode cX9_does 80 = .ok (.iload_n 1, 1) := by decide +kernel
theorem dX9_does_81 : decode cX9_does 81 = .ok (.iaload, 1) := by decide +kernel
theorem dX9_does_82 : decode cX9_does 82 = .ok (.invokevirtual 140, 3) := by decide +kernel
theorem dX9_does_85 : decode cX9_does 85 = .ok (.return_, 1) := by decide +kernel
theorem dX9_read_0 : decode cX9_read 0 = .ok (.aload_n 0, 1) := by decide +kernel
theorem dX9_read_1 : decode cX9_read 1 = .ok (.iconst 0, 1) := by decide +kernel
theorem dX9_read_2 : decode cX9_read 2 = .ok (.putfield 98, 3) := by decide +kernel
theorem dX9_read_5 : decode cX9_read 5 = .ok (.iconst 0, 1) := by decide +kernel
theorem dX9_read_6 : decode cX9_read 6 = .ok (.istore_n 1, 1) := by decide +kernel
theorem dX9_read_7 : decode cX9_read 7 = .ok (.iload_n 1, 1) := by decide +kernel
theorem dX9_read_8 : decode cX9_read 8 = .ok (.iconst 3, 1) := by decide +kernel
theorem dX9_read_9 : decode cX9_read 9 = .ok (.if_icmp .ge 16, 3) := by decide +kernel
theorem dX9_read_12 : decode cX9_read 12 = .ok (.aload_n 0, 1) := by decide +kernel
theorem dX9_read_13 : decode cX9_read 13 = .ok (.getfield 89, 3) := by decide +kernel
theorem dX9_read_16 : decode cX9_read 16 = .ok (.iload_n 1, 1) := by decide +kernel
theorem dX9_read_17 : decode cX9_read 17 = .ok (.iconst 0, 1) := by decide +kernel
theorem dX9_read_18 : decode cX9_read 18 = .ok (.iastore, 1) := by decide +kernel
theorem dX9_read_19 : decode cX9_read 19 = .ok (.iinc 1 1, 3) := by decide +kernel
theorem dX9_read_22 : decode cX9_read 22 = .ok (.goto (-15), 3) := by decide +kernel
theorem dX9_read_25 : decode cX9_read 25 = .ok (.aload_n 0, 1) := by decide +kernel
theorem dX9_read_26 : decode cX9_read 26 = .ok (.invokevirtual 346, 3) := by decide +kernel
theorem dX9_read_29 : decode cX9_read 29 = .ok (.istore_n 1, 1) := by decide +kernel
theorem dX9_read_30 : decode cX9_read 30 = .ok (.aload_n 0, 1) := by decide +kernel
theorem dX9_read_31 : decode cX9_read 31 = .ok (.iconst 0, 1) := by decide +kernel
theorem dX9_read_32 : decode cX9_read 32 = .ok (.putfield 295, 3) := by decide +kernel
theorem dX9_read_35 : decode cX9_read 35 = .ok (.iload_n 1, 1) := by decide +kernel
theorem dX9_read_36 : decode cX9_read 36 = .ok (.ifCond .ne 20, 3) := by decide +kernel
theorem dX9_read_39 : decode cX9_read 39 = .ok (.aload_n 0, 1) := by decide +kernel
theorem dX9_read_40 : decode cX9_read 40 = .ok (.aload_n 0, 1) := by decide +kernel
theorem dX9_read_41 : decode cX9_read 41 = .ok (.getfield 324, 3) := by decide +kernel
theorem dX9_read_44 : decode cX9_read 44 = .ok (.iconst 2, 1) := by decide +kernel
theorem dX9_read_45 : decode cX9_read 45 = .ok (.aload_n 0, 1) := by decide +kernel
theorem dX9_read_46 : decode cX9_read 46 = .ok (.getfield 298, 3) := by decide +kernel
theorem dX9_read_49 : decode cX9_read 49 = .ok (.iconst 0, 1) := by decide +kernel
theorem dX9_read_50 : decode cX9_read 50 = .ok (.iconst 0, 1) := by decide +kernel
theorem dX9_read_51 : decode cX9_read 51 = .ok (.invokevirtual 349, 3) := by decide +kernel
theorem dX9_read_54 : decode cX9_read 54 = .ok (.iconst (-1), 1) := by decide +kernel
theorem dX9_read_55 : decode cX9_read 55 = .ok (.ireturn, 1) := by decide +kernel
theorem dX9_read_56 : decode cX9_read 56 = .ok (.aload_n 0, 1) := by decide +kernel
theorem dX9_read_57 : decode cX9_read 57 = .ok (.iconst 1, 1) := by decide +kernel
theorem dX9_read_58 : decode cX9_read 58 = .ok (.iconst 1, 1) := by decide +kernel
theorem dX9_read_59 : decode cX9_read 59 = .ok (.invokevirtual 353, 3) := by decide +kernel
theorem dX9_read_62 : decode cX9_read 62 = .ok (.iconst 0, 1) := by decide +kernel
theorem dX9_read_63 : decode cX9_read 63 = .ok (.istore_n 2, 1) := by decide +kernel
theorem dX9_read_64 : decode cX9_read 64 = .ok (.iload_n 2, 1) := by decide +kernel
theorem dX9_read_65 : decode cX9_read 65 = .ok (.aload_n 0, 1) := by decide +kernel
theorem dX9_read_66 : decode cX9_read 66 = .ok (.getfield 324, 3) := by decide +kernel
theorem dX9_read_69 : decode cX9_read 69 = .ok (.if_icmp .ge 47, 3) := by decide +kernel
theorem dX9_read_72 : decode cX9_read 72 = .ok (.aload_n 0, 1) := by decide +kernel
theorem dX9_read_73 : decode cX9_read 73 = .ok (.iload_n 2, 1) := by decide +kernel
theorem dX9_read_74 : decode cX9_read 74 = .ok (.invokevirtual 357, 3) := by decide +kernel
theorem dX9_read_77 : decode cX9_read 77 = .ok (.istore_n 3, 1) := by decide +kernel
theorem dX9_read_78 : decode cX9_read 78 = .ok (.iload_n 3, 1) := by decide +kernel
theorem dX9_read_79 : decode cX9_read 79 = .ok (.ifCond .le 26, 3) := by decide +kernel
theorem dX9_read_82 : decode cX9_read 82 = .ok (.aload_n 0, 1) := by decide +kernel
theorem dX9_read_83 : decode cX9_read 83 = .ok (.iload_n 2, 1) := by decide +kernel
theorem dX9_read_84 : decode cX9_read 84 = .ok (.iconst 3, 1) := by decide +kernel
theorem dX9_read_85 : decode cX9_read 85 = .ok (.aload_n 0, 1) := by decide +kernel
theorem dX9_read_86 : decode cX9_read 86 = .ok (.getfield 102, 3) := by decide +kernel
theorem dX9_read_89 : decode cX9_read 89 = .ok (.iload_n 3, 1) := by decide +kernel
theorem dX9_read_90 : decode cX9_read 90 = .ok (.aload_n 0, 1) := by decide +kernel
theorem dX9_read_91 : decode cX9_read 91 = .ok (.getfield 343, 3) := by decide +kernel
theorem dX9_read_94 : decode cX9_read 94 = .ok (.invokevirtual 349, 3) := by decide +kernel
theorem dX9_read_97 : decode cX9_read 97 = .ok (.aload_n 0, 1) := by decide +kernel
theorem dX9_read_98 : decode cX9_read 98 = .ok (.iconst 1, 1) := by decide +kernel
theorem dX9_read_99 : decode cX9_read 99 = .ok (.iconst 0, 1) := by decide +kernel
theorem dX9_read_100 : decode cX9_read 100 = .ok (.invokevirtual 353, 3) := by decide +kernel
theorem dX9_read_103 : decode cX9_read 103 = .ok (.iconst (-1), 1) := by decide +kernel
theorem dX9_read_104 : decode cX9_read 104 = .ok (.ireturn, 1) := by decide +kernel
theorem dX9_read_105 : decode cX9_read 105 = .ok (.aload_n 0, 1) := by decide +kernel
theorem dX9_read_106 : decode cX9_read 106 = .ok (.iload_n 2, 1) := by decide +kernel
theorem dX9_read_107 : decode cX9_read 107 = .ok (.invokevirtual 360, 3) := by decide +kernel
theorem dX9_read_110 : decode cX9_read 110 = .ok (.iinc 2 1, 3) := by decide +kernel
theorem dX9_read_113 : decode cX9_read 113 = .ok (.goto (-49), 3) := by decide +kernel
theorem dX9_read_116 : decode cX9_read 116 = .ok (.aload_n 0, 1) := by decide +kernel
theorem dX9_read_117 : decode cX9_read 117 = .ok (.invokevirtual 144, 3) := by decide +kernel
theorem dX9_read_120 : decode cX9_read 120 = .ok (.aload_n 0, 1) := by decide +kernel
theorem dX9_read_121 : decode cX9_read 121 = .ok (.getfield 324, 3) := by decide +kernel
theorem dX9_read_124 : decode cX9_read 124 = .ok (.ireturn, 1) := by decide +kernel
theorem dX9_fault_0 : decode cX9_fault 0 = .ok (.iload_n 1, 1) := by decide +kernel
theorem dX9_fault_1 : decode cX9_fault 1 = .ok (.ifCond .lt 13, 3) := by decide +kernel
theorem dX9_fault_4 : decode cX9_fault 4 = .ok (.iload_n 2, 1) := by decide +kernel
theorem dX9_fault_5 : decode cX9_fault 5 = .ok (.i2l, 1) := by decide +kernel
theorem dX9_fault_6 : decode cX9_fault 6 = .ok (.lconst 0, 1) := by decide +kernel
theorem dX9_fault_7 : decode cX9_fault 7 = .ok (.lconst 1, 1) := by decide +kernel
theorem dX9_fault_8 : decode cX9_fault 8 = .ok (.invokestatic 109, 3) := by decide +kernel
theorem dX9_fault_11 : decode cX9_fault 11 = .ok (.ifCond .ne 9, 3) := by decide +kernel
theorem dX9_fault_14 : decode cX9_fault 14 = .ok (.aload_n 0, 1) := by decide +kernel
theorem dX9_fault_15 : decode cX9_fault 15 = .ok (.iconst 1, 1) := by decide +kernel
theorem dX9_fault_16 : decode cX9_fault 16 = .ok (.invokevirtual 132, 3) := by decide +kernel
theorem dX9_fault_19 : decode cX9_fault 19 = .ok (.ireturn, 1) := by decide +kernel
theorem dX9_fault_20 : decode cX9_fault 20 = .ok (.iload_n 1, 1) := by decide +kernel
theorem dX9_fault_21 : decode cX9_fault 21 = .ok (.iconst 2, 1) := by decide +kernel
theorem dX9_fault_22 : decode cX9_fault 22 = .ok (.if_icmp .gt 12, 3) := by decide +kernel
theorem dX9_fault_25 : decode cX9_fault 25 = .ok (.aload_n 0, 1) := by decide +kernel
theorem dX9_fault_26 : decode cX9_fault 26 = .ok (.getfield 89, 3) := by decide +kernel
theorem dX9_fault_29 : decode cX9_fault 29 = .ok (.iload_n 1, 1) := by decide +kernel
theorem dX9_fault_30 : decode cX9_fault 30 = .ok (.iaload, 1) := by decide +kernel
theorem dX9_fault_31 : decode cX9_fault 31 = .ok (.ifCond .ne 9, 3) := by decide +kernel
theorem dX9_fault_34 : decode cX9_fault 34 = .ok (.aload_n 0, 1) := by decide +kernel
theorem dX9_fault_35 : decode cX9_fault 35 = .ok (.iconst 2, 1) := by decide +kernel
theorem dX9_fault_36 : decode cX9_fault 36 = .ok (.invokevirtual 132, 3) := by decide +kernel
theorem dX9_fault_39 : decode cX9_fault 39 = .ok (.ireturn, 1) := by decide +kernel
theorem dX9_fault_40 : decode cX9_fault 40 = .ok (.aload_n 0, 1) := by decide +kernel
theorem dX9_fault_41 : decode cX9_fault 41 = .ok (.iconst 0, 1) := by decide +kernel
theorem dX9_fault_42 : decode cX9_fault 42 = .ok (.putfield 98, 3) := by decide +kernel
theorem dX9_fault_45 : decode cX9_fault 45 = .ok (.iload_n 2, 1) := by decide +kernel
theorem dX9_fault_46 : decode cX9_fault 46 = .ok (.ifCond .ne 12, 3) := by decide +kernel
theorem dX9_fault_49 : decode cX9_fault 49 = .ok (.aload_n 0, 1) := by decide +kernel
theorem dX9_fault_50 : decode cX9_fault 50 = .ok (.getfield 89, 3) := by decide +kernel
theorem dX9_fault_53 : decode cX9_fault 53 = .ok (.iload_n 1, 1) := by decide +kernel
theorem dX9_fault_54 : decode cX9_fault 54 = .ok (.iaload, 1) := by decide +kernel
theorem dX9_fault_55 : decode cX9_fault 55 = .ok (.goto 9, 3) := by decide +kernel
theorem dX9_fault_58 : decode cX9_fault 58 = .ok (.aload_n 0, 1) := by decide +kernel
theorem dX9_fault_59 : decode cX9_fault 59 = .ok (.getfield 92, 3) := by decide +kernel
theorem dX9_fault_62 : decode cX9_fault 62 = .ok (.iload_n 1, 1) := by decide +kernel
theorem dX9_fault_63 : decode cX9_fault 63 = .ok (.iaload, 1) := by decide +kernel
theorem dX9_fault_64 : decode cX9_fault 64 = .ok (.ireturn, 1) := by decide +kernel
theorem dX9_passes_0 : decode cX9_passes 0 = .ok (.iconst 0, 1) := by decide +kernel
theorem dX9_passes_1 : decode cX9_passes 1 = .ok (.istore_n 2, 1) := by decide +kernel
theorem dX9_passes_2 : decode cX9_passes 2 = .ok (.iload_n 2, 1) := by decide +kernel
theorem dX9_passes_3 : decode cX9_passes 3 = .ok (.aload_n 1, 1) := by decide +kernel
theorem dX9_passes_4 : decode cX9_passes 4 = .ok (.arraylength, 1) := by decide +kernel
theorem dX9_passes_5 : decode cX9_passes 5 = .ok (.if_icmp .ge 53, 3) := by decide +kernel
theorem dX9_passes_8 : decode cX9_passes 8 = .ok (.aload_n 0, 1) := by decide +kernel
theorem dX9_passes_9 : decode cX9_passes 9 = .ok (.getfield 363, 3) := by decide +kernel
theorem dX9_passes_12 : decode cX9_passes 12 = .ok (.ifCond .eq 18, 3) := by decide +kernel
theorem dX9_passes_15 : decode cX9_passes 15 = .ok (.aload_n 0, 1) := by decide +kernel
theorem dX9_passes_16 : decode cX9_passes 16 = .ok (.getfield 95, 3) := by decide +kernel
theorem dX9_passes_19 : decode cX9_passes 19 = .ok (.aload_n 0, 1) := by decide +kernel
theorem dX9_passes_20 : decode cX9_passes 20 = .ok (.getfield 366, 3) := by decide +kernel
theorem dX9_passes_23 : decode cX9_passes 23 = .ok (.aload_n 1, 1) := by decide +kernel
theorem dX9_passes_24 : decode cX9_passes 24 = .ok (.iload_n 2, 1) := by decide +kernel
theorem dX9_passes_25 : decode cX9_passes 25 = .ok (.iaload, 1) := by decide +kernel
theorem dX9_passes_26 : decode cX9_passes 26 = .ok (.iastore, 1) := by decide +kernel
theorem dX9_passes_27 : decode cX9_passes 27 = .ok (.goto 15, 3) := by decide +kernel
theorem dX9_passes_30 : decode cX9_passes 30 = .ok (.aload_n 1, 1) := by decide +kernel
theorem dX9_passes_31 : decode cX9_passes 31 = .ok (.iload_n 2, 1) := by decide +kernel
theorem dX9_passes_32 : decode cX9_passes 32 = .ok (.aload_n 0, 1) := by decide +kernel
theorem dX9_passes_33 : decode cX9_passes 33 = .ok (.getfield 95, 3) := by decide +kernel
theorem dX9_passes_36 : decode cX9_passes 36 = .ok (.aload_n 0, 1) := by decide +kernel
theorem dX9_passes_37 : decode cX9_passes 37 = .ok (.getfield 366, 3) := by decide +kernel
theorem dX9_passes_40 : decode cX9_passes 40 = .ok (.iaload, 1) := by decide +kernel
theorem dX9_passes_41 : decode cX9_passes 41 = .ok (.iastore, 1) := by decide +kernel
theorem dX9_passes_42 : decode cX9_passes 42 = .ok (.aload_n 0, 1) := by decide +kernel
theorem dX9_passes_43 : decode cX9_passes 43 = .ok (.dup, 1) := by decide +kernel
theorem dX9_passes_44 : decode cX9_passes 44 = .ok (.getfield 366, 3) := by decide +kernel
theorem dX9_passes_47 : decode cX9_passes 47 = .ok (.iconst 1, 1) := by decide +kernel
theorem dX9_passes_48 : decode cX9_passes 48 = .ok (.iadd, 1) := by decide +kernel
theorem dX9_passes_49 : decode cX9_passes 49 = .ok (.putfield 366, 3) := by decide +kernel
theorem dX9_passes_52 : decode cX9_passes 52 = .ok (.iinc 2 1, 3) := by decide +kernel
theorem dX9_passes_55 : decode cX9_passes 55 = .ok (.goto (-53), 3) := by decide +kernel
theorem dX9_passes_58 : decode cX9_passes 58 = .ok (.return_, 1) := by decide +kernel
theorem dX9_passOne_0 : decode cX9_passOne 0 = .ok (.aload_n 0, 1) := by decide +kernel
theorem dX9_passOne_1 : decode cX9_passOne 1 = .ok (.getfield 363, 3) := by decide +kernel
theorem dX9_passOne_4 : decode cX9_passOne 4 = .ok (.ifCond .eq 7, 3) := by decide +kernel
theorem dX9_passOne_7 : decode cX9_passOne 7 = .ok (.iload_n 1, 1) := by decide +kernel
theorem dX9_passOne_8 : decode cX9_passOne 8 = .ok (.goto 12, 3) := by decide +kernel
theorem dX9_passOne_11 : decode cX9_passOne 11 = .ok (.aload_n 0, 1) := by decide +kernel
theorem dX9_passOne_12 : decode cX9_passOne 12 = .ok (.getfield 95, 3) := by decide +kernel
theorem dX9_passOne_15 : decode cX9_passOne 15 = .ok (.aload_n 0, 1) := by decide +kernel
theorem dX9_passOne_16 : decode cX9_passOne 16 = .ok (.getfield 366, 3) := by decide +kernel
theorem dX9_passOne_19 : decode cX9_passOne 19 = .ok (.iaload, 1) := by decide +kernel
theorem dX9_passOne_20 : decode cX9_passOne 20 = .ok (.istore_n 2, 1) := by decide +kernel
theorem dX9_passOne_21 : decode cX9_passOne 21 = .ok (.aload_n 0, 1) := by decide +kernel
theorem dX9_passOne_22 : decode cX9_passOne 22 = .ok (.getfield 95, 3) := by decide +kernel
theorem dX9_passOne_25 : decode cX9_passOne 25 = .ok (.aload_n 0, 1) := by decide +kernel
theorem dX9_passOne_26 : decode cX9_passOne 26 = .ok (.getfield 366, 3) := by decide +kernel
theorem dX9_passOne_29 : decode cX9_passOne 29 = .ok (.iload_n 2, 1) := by decide +kernel
theorem dX9_passOne_30 : decode cX9_passOne 30 = .ok (.iastore, 1) := by decide +kernel
theorem dX9_passOne_31 : decode cX9_passOne 31 = .ok (.aload_n 0, 1) := by decide +kernel
theorem dX9_passOne_32 : decode cX9_passOne 32 = .ok (.dup, 1) := by decide +kernel
theorem dX9_passOne_33 : decode cX9_passOne 33 = .ok (.getfield 366, 3) := by decide +kernel
theorem dX9_passOne_36 : decode cX9_passOne 36 = .ok (.iconst 1, 1) := by decide +kernel
theorem dX9_passOne_37 : decode cX9_passOne 37 = .ok (.iadd, 1) := by decide +kernel
theorem dX9_passOne_38 : decode cX9_passOne 38 = .ok (.putfield 366, 3) := by decide +kernel
theorem dX9_passOne_41 : decode cX9_passOne 41 = .ok (.iload_n 2, 1) := by decide +kernel
theorem dX9_passOne_42 : decode cX9_passOne 42 = .ok (.ireturn, 1) := by decide +kernel
theorem dX9_passAll_0 : decode cX9_passAll 0 = .ok (.aload_n 0, 1) := by decide +kernel
theorem dX9_passAll_1 : decode cX9_passAll 1 = .ok (.iload_n 2, 1) := by decide +kernel
theorem dX9_passAll_2 : decode cX9_passAll 2 = .ok (.putfield 363, 3) := by decide +kernel
theorem dX9_passAll_5 : decode cX9_passAll 5 = .ok (.aload_n 0, 1) := by decide +kernel
theorem dX9_passAll_6 : decode cX9_passAll 6 = .ok (.sipush 220, 3) := by decide +kernel
theorem dX9_passAll_9 : decode cX9_passAll 9 = .ok (.iload_n 1, 1) := by decide +kernel
theorem dX9_passAll_10 : decode cX9_passAll 10 = .ok (.imul, 1) := by decide +kernel
theorem dX9_passAll_11 : decode cX9_passAll 11 = .ok (.putfield 366, 3) := by decide +kernel
theorem dX9_passAll_14 : decode cX9_passAll 14 = .ok (.aload_n 0, 1) := by decide +kernel
theorem dX9_passAll_15 : decode cX9_passAll 15 = .ok (.aload_n 0, 1) := by decide +kernel
theorem dX9_passAll_16 : decode cX9_passAll 16 = .ok (.getfield 7, 3) := by decide +kernel
theorem dX9_passAll_19 : decode cX9_passAll 19 = .ok (.invokevirtual 369, 3) := by decide +kernel
theorem dX9_passAll_22 : decode cX9_passAll 22 = .ok (.aload_n 0, 1) := by decide +kernel
theorem dX9_passAll_23 : decode cX9_passAll 23 = .ok (.aload_n 0, 1) := by decide +kernel
theorem dX9_passAll_24 : decode cX9_passAll 24 = .ok (.getfield 13, 3) := by decide +kernel
theorem dX9_passAll_27 : decode cX9_passAll 27 = .ok (.invokevirtual 369, 3) := by decide +kernel
theorem dX9_passAll_30 : decode cX9_passAll 30 = .ok (.aload_n 0, 1) := by decide +kernel
theorem dX9_passAll_31 : decode cX9_passAll 31 = .ok (.aload_n 0, 1) := by decide +kernel
theorem dX9_passAll_32 : decode cX9_passAll 32 = .ok (.getfield 16, 3) := by decide +kernel
theorem dX9_passAll_35 : decode cX9_passAll 35 = .ok (.invokevirtual 369, 3) := by decide +kernel
theorem dX9_passAll_38 : decode cX9_passAll 38 = .ok (.aload_n 0, 1) := by decide +kernel
theorem dX9_passAll_39 : decode cX9_passAll 39 = .ok (.aload_n 0, 1) := by decide +kernel
theorem dX9_passAll_40 : decode cX9_passAll 40 = .ok (.getfield 19, 3) := by decide +kernel
theorem dX9_passAll_43 : decode cX9_passAll 43 = .ok (.invokevirtual 369, 3) := by decide +kernel
theorem dX9_passAll_46 : decode cX9_passAll 46 = .ok (.aload_n 0, 1) := by decide +kernel
theorem dX9_passAll_47 : decode cX9_passAll 47 = .ok (.aload_n 0, 1) := by decide +kernel
theorem dX9_passAll_48 : decode cX9_passAll 48 = .ok (.getfield 22, 3) := by decide +kernel
theorem dX9_passAll_51 : decode cX9_passAll 51 = .ok (.invokevirtual 369, 3) := by decide +kernel
theorem dX9_passAll_54 : decode cX9_passAll 54 = .ok (.aload_n 0, 1) := by decide +kernel
theorem dX9_passAll_55 : decode cX9_passAll 55 = .ok (.aload_n 0, 1) := by decide +kernel
theorem dX9_passAll_56 : decode cX9_passAll 56 = .ok (.getfield 25, 3) := by decide +kernel
theorem dX9_passAll_59 : decode cX9_passAll 59 = .ok (.invokevirtual 369, 3) := by decide +kernel
theorem dX9_passAll_62 : decode cX9_passAll 62 = .ok (.aload_n 0, 1) := by decide +kernel
theorem dX9_passAll_63 : decode cX9_passAll 63 = .ok (.aload_n 0, 1) := by decide +kernel
theorem dX9_passAll_64 : decode cX9_passAll 64 = .ok (.getfield 28, 3) := by decide +kernel
theorem dX9_passAll_67 : decode cX9_passAll 67 = .ok (.invokevirtual 369, 3) := by decide +kernel
theorem dX9_passAll_70 : decode cX9_passAll 70 = .ok (.aload_n 0, 1) := by decide +kernel
theorem dX9_passAll_71 : decode cX9_passAll 71 = .ok (.aload_n 0, 1) := by decide +kernel
theorem dX9_passAll_72 : decode cX9_passAll 72 = .ok (.getfield 31, 3) := by decide +kernel
theorem dX9_passAll_75 : decode cX9_passAll 75 = .ok (.invokevirtual 369, 3) := by decide +kernel
theorem dX9_passAll_78 : decode cX9_passAll 78 = .ok (.aload_n 0, 1) := by decide +kernel
theorem dX9_passAll_79 : decode cX9_passAll 79 = .ok (.aload_n 0, 1) := by decide +kernel
theorem dX9_passAll_80 : decode cX9_passAll 80 = .ok (.getfield 34, 3) := by decide +kernel
theorem dX9_passAll_83 : decode cX9_passAll 83 = .ok (.invokevirtual 369, 3) := by decide +kernel
theorem dX9_passAll_86 : decode cX9_passAll 86 = .ok (.aload_n 0, 1) := by decide +kernel
theorem dX9_passAll_87 : decode cX9_passAll 87 = .ok (.aload_n 0, 1) := by decide +kernel
theorem dX9_passAll_88 : decode cX9_passAll 88 = .ok (.aload_n 0, 1) := by decide +kernel
theorem dX9_passAll_89 : decode cX9_passAll 89 = .ok (.getfield 102, 3) := by decide +kernel
theorem dX9_passAll_92 : decode cX9_passAll 92 = .ok (.invokevirtual 373, 3) := by decide +kernel
theorem dX9_passAll_95 : decode cX9_passAll 95 = .ok (.putfield 102, 3) := by decide +kernel
theorem dX9_passAll_98 : decode cX9_passAll 98 = .ok (.aload_n 0, 1) := by decide +kernel
theorem dX9_passAll_99 : decode cX9_passAll 99 = .ok (.aload_n 0, 1) := by decide +kernel
theorem dX9_passAll_100 : decode cX9_passAll 100 = .ok (.aload_n 0, 1) := by decide +kernel
theorem dX9_passAll_101 : decode cX9_passAll 101 = .ok (.getfield 283, 3) := by decide +kernel
theorem dX9_passAll_104 : decode cX9_passAll 104 = .ok (.invokevirtual 373, 3) := by decide +kernel
theorem dX9_passAll_107 : decode cX9_passAll 107 = .ok (.putfield 283, 3) := by decide +kernel
theorem dX9_passAll_110 : decode cX9_passAll 110 = .ok (.aload_n 0, 1) := by decide +kernel
theorem dX9_passAll_111 : decode cX9_passAll 111 = .ok (.aload_n 0, 1) := by decide +kernel
theorem dX9_passAll_112 : decode cX9_passAll 112 = .ok (.getfield 227, 3) := by decide +kernel
theorem dX9_passAll_115 : decode cX9_passAll 115 = .ok (.ifCond .eq 11, 3) := by decide +kernel
theorem dX9_passAll_118 : decode cX9_passAll 118 = .ok (.iload_n 2, 1) := by decide +kernel
theorem dX9_passAll_119 : decode cX9_passAll 119 = .ok (.ifCond .eq 7, 3) := by decide +kernel
theorem dX9_passAll_122 : decode cX9_passAll 122 = .ok (.iconst 1, 1) := by decide +kernel
theorem dX9_passAll_123 : decode cX9_passAll 123 = .ok (.goto 4, 3) := by decide +kernel
theorem dX9_passAll_126 : decode cX9_passAll 126 = .ok (.iconst 0, 1) := by decide +kernel
theorem dX9_passAll_127 : decode cX9_passAll 127 = .ok (.putfield 227, 3) := by decide +kernel
theorem dX9_passAll_130 : decode cX9_passAll 130 = .ok (.return_, 1) := by decide +kernel
theorem dX9_saveSnapshot_0 : decode cX9_saveSnapshot 0 = .ok (.aload_n 0, 1) := by decide +kernel
theorem dX9_saveSnapshot_1 : decode cX9_saveSnapshot 1 = .ok (.iconst 0, 1) := by decide +kernel
theorem dX9_saveSnapshot_2 : decode cX9_saveSnapshot 2 = .ok (.putfield 98, 3) := by decide +kernel
theorem dX9_saveSnapshot_5 : decode cX9_saveSnapshot 5 = .ok (.aload_n 0, 1) := by decide +kernel
theorem dX9_saveSnapshot_6 : decode cX9_saveSnapshot 6 = .ok (.iconst 1, 1) := by decide +kernel
theorem dX9_saveSnapshot_7 : decode cX9_saveSnapshot 7 = .ok (.putfield 376, 3) := by decide +kernel
theorem dX9_saveSnapshot_10 : decode cX9_saveSnapshot 10 = .ok (.aload_n 0, 1) := by decide +kernel
theorem dX9_saveSnapshot_11 : decode cX9_saveSnapshot 11 = .ok (.iconst 0, 1) := by decide +kernel
theorem dX9_saveSnapshot_12 : decode cX9_saveSnapshot 12 = .ok (.iconst 1, 1) := by decide +kernel
theorem dX9_saveSnapshot_13 : decode cX9_saveSnapshot 13 = .ok (.invokevirtual 353, 3) := by decide +kernel
theorem dX9_saveSnapshot_16 : decode cX9_saveSnapshot 16 = .ok (.aload_n 0, 1) := by decide +kernel
theorem dX9_saveSnapshot_17 : decode cX9_saveSnapshot 17 = .ok (.getfield 102, 3) := by decide +kernel
theorem dX9_saveSnapshot_20 : decode cX9_saveSnapshot 20 = .ok (.ireturn, 1) := by decide +kernel
theorem dX9_restoreSnapshot_0 : decode cX9_restoreSnapshot 0 = .ok (.aload_n 0, 1) := by decide +kernel
theorem dX9_restoreSnapshot_1 : decode cX9_restoreSnapshot 1 = .ok (.getfield 376, 3) := by decide +kernel
theorem dX9_restoreSnapshot_4 : decode cX9_restoreSnapshot 4 = .ok (.ifCond .ne 9, 3) := by decide +kernel
theorem dX9_restoreSnapshot_7 : decode cX9_restoreSnapshot 7 = .ok (.aload_n 0, 1) := by decide +kernel
theorem dX9_restoreSnapshot_8 : decode cX9_restoreSnapshot 8 = .ok (.iconst 1, 1) := by decide +kernel
theorem dX9_restoreSnapshot_9 : decode cX9_restoreSnapshot 9 = .ok (.invokevirtual 132, 3) := by decide +kernel
theorem dX9_restoreSnapshot_12 : decode cX9_restoreSnapshot 12 = .ok (.ireturn, 1) := by decide +kernel
theorem dX9_restoreSnapshot_13 : decode cX9_restoreSnapshot 13 = .ok (.aload_n 0, 1) := by decide +kernel
theorem dX9_restoreSnapshot_14 : decode cX9_restoreSnapshot 14 = .ok (.iconst 0, 1) := by decide +kernel
theorem dX9_restoreSnapshot_15 : decode cX9_restoreSnapshot 15 = .ok (.putfield 98, 3) := by decide +kernel
theorem dX9_restoreSnapshot_18 : decode cX9_restoreSnapshot 18 = .ok (.aload_n 0, 1) := by decide +kernel
theorem dX9_restoreSnapshot_19 : decode cX9_restoreSnapshot 19 = .ok (.iconst 0, 1) := by decide +kernel
theorem dX9_restoreSnapshot_20 : decode cX9_restoreSnapshot 20 = .ok (.iconst 0, 1) := by decide +kernel
theorem dX9_restoreSnapshot_21 : decode cX9_restoreSnapshot 21 = .ok (.invokevirtual 353, 3) := by decide +kernel
theorem dX9_restoreSnapshot_24 : decode cX9_restoreSnapshot 24 = .ok (.aload_n 0, 1) := by decide +kernel
theorem dX9_restoreSnapshot_25 : decode cX9_restoreSnapshot 25 = .ok (.getfield 102, 3) := by decide +kernel
theorem dX9_restoreSnapshot_28 : decode cX9_restoreSnapshot 28 = .ok (.ireturn, 1) := by decide +kernel
