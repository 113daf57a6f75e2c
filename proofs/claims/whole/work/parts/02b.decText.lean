abbrev b_Text_init : ByteArray := prog_6_method_1_code
def y_Text_init : MethodName := ⟨"RoundAndRound$Text", "<init>", "()V"⟩
theorem d_Text_init_0 : decode b_Text_init 0 = .ok (.aload_n 0, 1) := by decide +kernel
theorem d_Text_init_1 : decode b_Text_init 1 = .ok (.invokespecial 3, 3) := by decide +kernel
theorem d_Text_init_4 : decode b_Text_init 4 = .ok (.aload_n 0, 1) := by decide +kernel
theorem d_Text_init_5 : decode b_Text_init 5 = .ok (.sipush (160), 3) := by decide +kernel
theorem d_Text_init_8 : decode b_Text_init 8 = .ok (.newarray .int, 2) := by decide +kernel
theorem d_Text_init_10 : decode b_Text_init 10 = .ok (.putfield 9, 3) := by decide +kernel
theorem d_Text_init_13 : decode b_Text_init 13 = .ok (.aload_n 0, 1) := by decide +kernel
theorem d_Text_init_14 : decode b_Text_init 14 = .ok (.iconst 3, 1) := by decide +kernel
theorem d_Text_init_15 : decode b_Text_init 15 = .ok (.newarray .int, 2) := by decide +kernel
theorem d_Text_init_17 : decode b_Text_init 17 = .ok (.putfield 15, 3) := by decide +kernel
theorem d_Text_init_20 : decode b_Text_init 20 = .ok (.aload_n 0, 1) := by decide +kernel
theorem d_Text_init_21 : decode b_Text_init 21 = .ok (.bipush (40), 2) := by decide +kernel
theorem d_Text_init_23 : decode b_Text_init 23 = .ok (.newarray .int, 2) := by decide +kernel
theorem d_Text_init_25 : decode b_Text_init 25 = .ok (.putfield 18, 3) := by decide +kernel
theorem d_Text_init_28 : decode b_Text_init 28 = .ok (.return_, 1) := by decide +kernel
abbrev b_Text_clear : ByteArray := prog_6_method_2_code
def y_Text_clear : MethodName := ⟨"RoundAndRound$Text", "clear", "()V"⟩
theorem d_Text_clear_0 : decode b_Text_clear 0 = .ok (.aload_n 0, 1) := by decide +kernel
theorem d_Text_clear_1 : decode b_Text_clear 1 = .ok (.iconst 0, 1) := by decide +kernel
theorem d_Text_clear_2 : decode b_Text_clear 2 = .ok (.putfield 21, 3) := by decide +kernel
theorem d_Text_clear_5 : decode b_Text_clear 5 = .ok (.aload_n 0, 1) := by decide +kernel
theorem d_Text_clear_6 : decode b_Text_clear 6 = .ok (.iconst 0, 1) := by decide +kernel
theorem d_Text_clear_7 : decode b_Text_clear 7 = .ok (.putfield 25, 3) := by decide +kernel
theorem d_Text_clear_10 : decode b_Text_clear 10 = .ok (.return_, 1) := by decide +kernel
abbrev b_Text_add : ByteArray := prog_6_method_3_code
def y_Text_add : MethodName := ⟨"RoundAndRound$Text", "add", "(I)V"⟩
theorem d_Text_add_0 : decode b_Text_add 0 = .ok (.aload_n 0, 1) := by decide +kernel
theorem d_Text_add_1 : decode b_Text_add 1 = .ok (.getfield 21, 3) := by decide +kernel
theorem d_Text_add_4 : decode b_Text_add 4 = .ok (.ifCond .lt 35, 3) := by decide +kernel
theorem d_Text_add_7 : decode b_Text_add 7 = .ok (.aload_n 0, 1) := by decide +kernel
theorem d_Text_add_8 : decode b_Text_add 8 = .ok (.getfield 21, 3) := by decide +kernel
theorem d_Text_add_11 : decode b_Text_add 11 = .ok (.aload_n 0, 1) := by decide +kernel
theorem d_Text_add_12 : decode b_Text_add 12 = .ok (.getfield 9, 3) := by decide +kernel
theorem d_Text_add_15 : decode b_Text_add 15 = .ok (.arraylength, 1) := by decide +kernel
theorem d_Text_add_16 : decode b_Text_add 16 = .ok (.if_icmp .ge 23, 3) := by decide +kernel
theorem d_Text_add_19 : decode b_Text_add 19 = .ok (.aload_n 0, 1) := by decide +kernel
theorem d_Text_add_20 : decode b_Text_add 20 = .ok (.getfield 9, 3) := by decide +kernel
theorem d_Text_add_23 : decode b_Text_add 23 = .ok (.aload_n 0, 1) := by decide +kernel
theorem d_Text_add_24 : decode b_Text_add 24 = .ok (.getfield 21, 3) := by decide +kernel
theorem d_Text_add_27 : decode b_Text_add 27 = .ok (.iload_n 1, 1) := by decide +kernel
theorem d_Text_add_28 : decode b_Text_add 28 = .ok (.iastore, 1) := by decide +kernel
theorem d_Text_add_29 : decode b_Text_add 29 = .ok (.aload_n 0, 1) := by decide +kernel
theorem d_Text_add_30 : decode b_Text_add 30 = .ok (.dup, 1) := by decide +kernel
theorem d_Text_add_31 : decode b_Text_add 31 = .ok (.getfield 21, 3) := by decide +kernel
theorem d_Text_add_34 : decode b_Text_add 34 = .ok (.iconst 1, 1) := by decide +kernel
theorem d_Text_add_35 : decode b_Text_add 35 = .ok (.iadd, 1) := by decide +kernel
theorem d_Text_add_36 : decode b_Text_add 36 = .ok (.putfield 21, 3) := by decide +kernel
theorem d_Text_add_39 : decode b_Text_add 39 = .ok (.return_, 1) := by decide +kernel
abbrev b_Text_endPart : ByteArray := prog_6_method_4_code
def y_Text_endPart : MethodName := ⟨"RoundAndRound$Text", "endPart", "()V"⟩
theorem d_Text_endPart_0 : decode b_Text_endPart 0 = .ok (.aload_n 0, 1) := by decide +kernel
theorem d_Text_endPart_1 : decode b_Text_endPart 1 = .ok (.getfield 25, 3) := by decide +kernel
theorem d_Text_endPart_4 : decode b_Text_endPart 4 = .ok (.ifCond .lt 38, 3) := by decide +kernel
theorem d_Text_endPart_7 : decode b_Text_endPart 7 = .ok (.aload_n 0, 1) := by decide +kernel
theorem d_Text_endPart_8 : decode b_Text_endPart 8 = .ok (.getfield 25, 3) := by decide +kernel
theorem d_Text_endPart_11 : decode b_Text_endPart 11 = .ok (.aload_n 0, 1) := by decide +kernel
theorem d_Text_endPart_12 : decode b_Text_endPart 12 = .ok (.getfield 15, 3) := by decide +kernel
theorem d_Text_endPart_15 : decode b_Text_endPart 15 = .ok (.arraylength, 1) := by decide +kernel
theorem d_Text_endPart_16 : decode b_Text_endPart 16 = .ok (.if_icmp .ge 26, 3) := by decide +kernel
theorem d_Text_endPart_19 : decode b_Text_endPart 19 = .ok (.aload_n 0, 1) := by decide +kernel
theorem d_Text_endPart_20 : decode b_Text_endPart 20 = .ok (.getfield 15, 3) := by decide +kernel
theorem d_Text_endPart_23 : decode b_Text_endPart 23 = .ok (.aload_n 0, 1) := by decide +kernel
theorem d_Text_endPart_24 : decode b_Text_endPart 24 = .ok (.getfield 25, 3) := by decide +kernel
theorem d_Text_endPart_27 : decode b_Text_endPart 27 = .ok (.aload_n 0, 1) := by decide +kernel
theorem d_Text_endPart_28 : decode b_Text_endPart 28 = .ok (.getfield 21, 3) := by decide +kernel
theorem d_Text_endPart_31 : decode b_Text_endPart 31 = .ok (.iastore, 1) := by decide +kernel
theorem d_Text_endPart_32 : decode b_Text_endPart 32 = .ok (.aload_n 0, 1) := by decide +kernel
theorem d_Text_endPart_33 : decode b_Text_endPart 33 = .ok (.dup, 1) := by decide +kernel
theorem d_Text_endPart_34 : decode b_Text_endPart 34 = .ok (.getfield 25, 3) := by decide +kernel
theorem d_Text_endPart_37 : decode b_Text_endPart 37 = .ok (.iconst 1, 1) := by decide +kernel
theorem d_Text_endPart_38 : decode b_Text_endPart 38 = .ok (.iadd, 1) := by decide +kernel
theorem d_Text_endPart_39 : decode b_Text_endPart 39 = .ok (.putfield 25, 3) := by decide +kernel
theorem d_Text_endPart_42 : decode b_Text_endPart 42 = .ok (.return_, 1) := by decide +kernel
abbrev b_Text_partEnd : ByteArray := prog_6_method_5_code
def y_Text_partEnd : MethodName := ⟨"RoundAndRound$Text", "partEnd", "(I)I"⟩
theorem d_Text_partEnd_0 : decode b_Text_partEnd 0 = .ok (.iload_n 1, 1) := by decide +kernel
theorem d_Text_partEnd_1 : decode b_Text_partEnd 1 = .ok (.ifCond .lt 29, 3) := by decide +kernel
theorem d_Text_partEnd_4 : decode b_Text_partEnd 4 = .ok (.iload_n 1, 1) := by decide +kernel
theorem d_Text_partEnd_5 : decode b_Text_partEnd 5 = .ok (.aload_n 0, 1) := by decide +kernel
theorem d_Text_partEnd_6 : decode b_Text_partEnd 6 = .ok (.getfield 25, 3) := by decide +kernel
theorem d_Text_partEnd_9 : decode b_Text_partEnd 9 = .ok (.if_icmp .ge 21, 3) := by decide +kernel
theorem d_Text_partEnd_12 : decode b_Text_partEnd 12 = .ok (.iload_n 1, 1) := by decide +kernel
theorem d_Text_partEnd_13 : decode b_Text_partEnd 13 = .ok (.aload_n 0, 1) := by decide +kernel
theorem d_Text_partEnd_14 : decode b_Text_partEnd 14 = .ok (.getfield 15, 3) := by decide +kernel
theorem d_Text_partEnd_17 : decode b_Text_partEnd 17 = .ok (.arraylength, 1) := by decide +kernel
theorem d_Text_partEnd_18 : decode b_Text_partEnd 18 = .ok (.if_icmp .ge 12, 3) := by decide +kernel
theorem d_Text_partEnd_21 : decode b_Text_partEnd 21 = .ok (.aload_n 0, 1) := by decide +kernel
theorem d_Text_partEnd_22 : decode b_Text_partEnd 22 = .ok (.getfield 15, 3) := by decide +kernel
theorem d_Text_partEnd_25 : decode b_Text_partEnd 25 = .ok (.iload_n 1, 1) := by decide +kernel
theorem d_Text_partEnd_26 : decode b_Text_partEnd 26 = .ok (.iaload, 1) := by decide +kernel
theorem d_Text_partEnd_27 : decode b_Text_partEnd 27 = .ok (.goto 4, 3) := by decide +kernel
theorem d_Text_partEnd_30 : decode b_Text_partEnd 30 = .ok (.iconst 0, 1) := by decide +kernel
theorem d_Text_partEnd_31 : decode b_Text_partEnd 31 = .ok (.ireturn, 1) := by decide +kernel
abbrev b_Text_says : ByteArray := prog_6_method_6_code
def y_Text_says : MethodName := ⟨"RoundAndRound$Text", "says", "(ILRoundAndRound$Head;II)I"⟩
theorem d_Text_says_0 : decode b_Text_says 0 = .ok (.aload_n 0, 1) := by decide +kernel
theorem d_Text_says_1 : decode b_Text_says 1 = .ok (.iload_n 1, 1) := by decide +kernel
theorem d_Text_says_2 : decode b_Text_says 2 = .ok (.invokevirtual 28, 3) := by decide +kernel
theorem d_Text_says_5 : decode b_Text_says 5 = .ok (.aload_n 0, 1) := by decide +kernel
theorem d_Text_says_6 : decode b_Text_says 6 = .ok (.getfield 9, 3) := by decide +kernel
theorem d_Text_says_9 : decode b_Text_says 9 = .ok (.arraylength, 1) := by decide +kernel
theorem d_Text_says_10 : decode b_Text_says 10 = .ok (.invokestatic 32, 3) := by decide +kernel
theorem d_Text_says_13 : decode b_Text_says 13 = .ok (.istore 5, 2) := by decide +kernel
theorem d_Text_says_15 : decode b_Text_says 15 = .ok (.iconst 0, 1) := by decide +kernel
theorem d_Text_says_16 : decode b_Text_says 16 = .ok (.istore 6, 2) := by decide +kernel
theorem d_Text_says_18 : decode b_Text_says 18 = .ok (.iconst 0, 1) := by decide +kernel
theorem d_Text_says_19 : decode b_Text_says 19 = .ok (.aload_n 0, 1) := by decide +kernel
theorem d_Text_says_20 : decode b_Text_says 20 = .ok (.iload_n 1, 1) := by decide +kernel
theorem d_Text_says_21 : decode b_Text_says 21 = .ok (.iconst 1, 1) := by decide +kernel
theorem d_Text_says_22 : decode b_Text_says 22 = .ok (.isub, 1) := by decide +kernel
theorem d_Text_says_23 : decode b_Text_says 23 = .ok (.invokevirtual 28, 3) := by decide +kernel
theorem d_Text_says_26 : decode b_Text_says 26 = .ok (.invokestatic 38, 3) := by decide +kernel
theorem d_Text_says_29 : decode b_Text_says 29 = .ok (.istore 7, 2) := by decide +kernel
theorem d_Text_says_31 : decode b_Text_says 31 = .ok (.iload 7, 2) := by decide +kernel
theorem d_Text_says_33 : decode b_Text_says 33 = .ok (.iload 5, 2) := by decide +kernel
theorem d_Text_says_35 : decode b_Text_says 35 = .ok (.if_icmp .ge 179, 3) := by decide +kernel
theorem d_Text_says_38 : decode b_Text_says 38 = .ok (.aload_n 0, 1) := by decide +kernel
theorem d_Text_says_39 : decode b_Text_says 39 = .ok (.getfield 9, 3) := by decide +kernel
theorem d_Text_says_42 : decode b_Text_says 42 = .ok (.iload 7, 2) := by decide +kernel
theorem d_Text_says_44 : decode b_Text_says 44 = .ok (.iaload, 1) := by decide +kernel
theorem d_Text_says_45 : decode b_Text_says 45 = .ok (.istore 8, 2) := by decide +kernel
theorem d_Text_says_47 : decode b_Text_says 47 = .ok (.iload 8, 2) := by decide +kernel
theorem d_Text_says_49 : decode b_Text_says 49 = .ok (.sipush (20000), 3) := by decide +kernel
theorem d_Text_says_52 : decode b_Text_says 52 = .ok (.if_icmp .ge 48, 3) := by decide +kernel
theorem d_Text_says_55 : decode b_Text_says 55 = .ok (.iload 6, 2) := by decide +kernel
theorem d_Text_says_57 : decode b_Text_says 57 = .ok (.aload_n 0, 1) := by decide +kernel
theorem d_Text_says_58 : decode b_Text_says 58 = .ok (.getfield 18, 3) := by decide +kernel
theorem d_Text_says_61 : decode b_Text_says 61 = .ok (.arraylength, 1) := by decide +kernel
theorem d_Text_says_62 : decode b_Text_says 62 = .ok (.if_icmp .ge 38, 3) := by decide +kernel
theorem d_Text_says_65 : decode b_Text_says 65 = .ok (.aload_n 0, 1) := by decide +kernel
theorem d_Text_says_66 : decode b_Text_says 66 = .ok (.getfield 18, 3) := by decide +kernel
theorem d_Text_says_69 : decode b_Text_says 69 = .ok (.iload 6, 2) := by decide +kernel
theorem d_Text_says_71 : decode b_Text_says 71 = .ok (.iload 8, 2) := by decide +kernel
theorem d_Text_says_73 : decode b_Text_says 73 = .ok (.sipush (10000), 3) := by decide +kernel
theorem d_Text_says_76 : decode b_Text_says 76 = .ok (.if_icmp .ge 8, 3) := by decide +kernel
theorem d_Text_says_79 : decode b_Text_says 79 = .ok (.iload 8, 2) := by decide +kernel
theorem d_Text_says_81 : decode b_Text_says 81 = .ok (.goto 12, 3) := by decide +kernel
theorem d_Text_says_84 : decode b_Text_says 84 = .ok (.iload 8, 2) := by decide +kernel
theorem d_Text_says_86 : decode b_Text_says 86 = .ok (.aload_n 2, 1) := by decide +kernel
theorem d_Text_says_87 : decode b_Text_says 87 = .ok (.iload_n 3, 1) := by decide +kernel
theorem d_Text_says_88 : decode b_Text_says 88 = .ok (.iload 4, 2) := by decide +kernel
theorem d_Text_says_90 : decode b_Text_says 90 = .ok (.invokestatic 41, 3) := by decide +kernel
theorem d_Text_says_93 : decode b_Text_says 93 = .ok (.iastore, 1) := by decide +kernel
theorem d_Text_says_94 : decode b_Text_says 94 = .ok (.iinc 6 (1), 3) := by decide +kernel
theorem d_Text_says_97 : decode b_Text_says 97 = .ok (.goto 111, 3) := by decide +kernel
theorem d_Text_says_100 : decode b_Text_says 100 = .ok (.iload 8, 2) := by decide +kernel
theorem d_Text_says_102 : decode b_Text_says 102 = .ok (.sipush (30000), 3) := by decide +kernel
theorem d_Text_says_105 : decode b_Text_says 105 = .ok (.if_icmp .lt 56, 3) := by decide +kernel
theorem d_Text_says_108 : decode b_Text_says 108 = .ok (.iload 6, 2) := by decide +kernel
theorem d_Text_says_110 : decode b_Text_says 110 = .ok (.iconst 1, 1) := by decide +kernel
theorem d_Text_says_111 : decode b_Text_says 111 = .ok (.if_icmp .lt 50, 3) := by decide +kernel
theorem d_Text_says_114 : decode b_Text_says 114 = .ok (.aload_n 0, 1) := by decide +kernel
theorem d_Text_says_115 : decode b_Text_says 115 = .ok (.getfield 18, 3) := by decide +kernel
theorem d_Text_says_118 : decode b_Text_says 118 = .ok (.iload 6, 2) := by decide +kernel
theorem d_Text_says_120 : decode b_Text_says 120 = .ok (.iconst 1, 1) := by decide +kernel
theorem d_Text_says_121 : decode b_Text_says 121 = .ok (.isub, 1) := by decide +kernel
theorem d_Text_says_122 : decode b_Text_says 122 = .ok (.iaload, 1) := by decide +kernel
theorem d_Text_says_123 : decode b_Text_says 123 = .ok (.istore 9, 2) := by decide +kernel
theorem d_Text_says_125 : decode b_Text_says 125 = .ok (.aload_n 0, 1) := by decide +kernel
theorem d_Text_says_126 : decode b_Text_says 126 = .ok (.getfield 18, 3) := by decide +kernel
theorem d_Text_says_129 : decode b_Text_says 129 = .ok (.iload 6, 2) := by decide +kernel
theorem d_Text_says_131 : decode b_Text_says 131 = .ok (.iconst 1, 1) := by decide +kernel
theorem d_Text_says_132 : decode b_Text_says 132 = .ok (.isub, 1) := by decide +kernel
theorem d_Text_says_133 : decode b_Text_says 133 = .ok (.iload 8, 2) := by decide +kernel
theorem d_Text_says_135 : decode b_Text_says 135 = .ok (.sipush (30001), 3) := by decide +kernel
theorem d_Text_says_138 : decode b_Text_says 138 = .ok (.if_icmp .ne 9, 3) := by decide +kernel
theorem d_Text_says_141 : decode b_Text_says 141 = .ok (.iload 9, 2) := by decide +kernel
theorem d_Text_says_143 : decode b_Text_says 143 = .ok (.ineg, 1) := by decide +kernel
theorem d_Text_says_144 : decode b_Text_says 144 = .ok (.goto 13, 3) := by decide +kernel
theorem d_Text_says_147 : decode b_Text_says 147 = .ok (.iload 9, 2) := by decide +kernel
theorem d_Text_says_149 : decode b_Text_says 149 = .ok (.ifCond .ne 7, 3) := by decide +kernel
theorem d_Text_says_152 : decode b_Text_says 152 = .ok (.iconst 1, 1) := by decide +kernel
theorem d_Text_says_153 : decode b_Text_says 153 = .ok (.goto 4, 3) := by decide +kernel
theorem d_Text_says_156 : decode b_Text_says 156 = .ok (.iconst 0, 1) := by decide +kernel
theorem d_Text_says_157 : decode b_Text_says 157 = .ok (.iastore, 1) := by decide +kernel
theorem d_Text_says_158 : decode b_Text_says 158 = .ok (.goto 50, 3) := by decide +kernel
theorem d_Text_says_161 : decode b_Text_says 161 = .ok (.iload 8, 2) := by decide +kernel
theorem d_Text_says_163 : decode b_Text_says 163 = .ok (.sipush (20000), 3) := by decide +kernel
theorem d_Text_says_166 : decode b_Text_says 166 = .ok (.if_icmp .lt 42, 3) := by decide +kernel
theorem d_Text_says_169 : decode b_Text_says 169 = .ok (.iload 6, 2) := by decide +kernel
theorem d_Text_says_171 : decode b_Text_says 171 = .ok (.iconst 2, 1) := by decide +kernel
theorem d_Text_says_172 : decode b_Text_says 172 = .ok (.if_icmp .lt 36, 3) := by decide +kernel
theorem d_Text_says_175 : decode b_Text_says 175 = .ok (.iinc 6 (-1), 3) := by decide +kernel
theorem d_Text_says_178 : decode b_Text_says 178 = .ok (.aload_n 0, 1) := by decide +kernel
theorem d_Text_says_179 : decode b_Text_says 179 = .ok (.getfield 18, 3) := by decide +kernel
theorem d_Text_says_182 : decode b_Text_says 182 = .ok (.iload 6, 2) := by decide +kernel
theorem d_Text_says_184 : decode b_Text_says 184 = .ok (.iconst 1, 1) := by decide +kernel
theorem d_Text_says_185 : decode b_Text_says 185 = .ok (.isub, 1) := by decide +kernel
theorem d_Text_says_186 : decode b_Text_says 186 = .ok (.iload 8, 2) := by decide +kernel
theorem d_Text_says_188 : decode b_Text_says 188 = .ok (.aload_n 0, 1) := by decide +kernel
theorem d_Text_says_189 : decode b_Text_says 189 = .ok (.getfield 18, 3) := by decide +kernel
theorem d_Text_says_192 : decode b_Text_says 192 = .ok (.iload 6, 2) := by decide +kernel
theorem d_Text_says_194 : decode b_Text_says 194 = .ok (.iconst 1, 1) := by decide +kernel
theorem d_Text_says_195 : decode b_Text_says 195 = .ok (.isub, 1) := by decide +kernel
theorem d_Text_says_196 : decode b_Text_says 196 = .ok (.iaload, 1) := by decide +kernel
theorem d_Text_says_197 : decode b_Text_says 197 = .ok (.aload_n 0, 1) := by decide +kernel
theorem d_Text_says_198 : decode b_Text_says 198 = .ok (.getfield 18, 3) := by decide +kernel
theorem d_Text_says_201 : decode b_Text_says 201 = .ok (.iload 6, 2) := by decide +kernel
theorem d_Text_says_203 : decode b_Text_says 203 = .ok (.iaload, 1) := by decide +kernel
theorem d_Text_says_204 : decode b_Text_says 204 = .ok (.invokestatic 45, 3) := by decide +kernel
theorem d_Text_says_207 : decode b_Text_says 207 = .ok (.iastore, 1) := by decide +kernel
theorem d_Text_says_208 : decode b_Text_says 208 = .ok (.iinc 7 (1), 3) := by decide +kernel
theorem d_Text_says_211 : decode b_Text_says 211 = .ok (.goto (-180), 3) := by decide +kernel
theorem d_Text_says_214 : decode b_Text_says 214 = .ok (.aload_n 0, 1) := by decide +kernel
theorem d_Text_says_215 : decode b_Text_says 215 = .ok (.getfield 18, 3) := by decide +kernel
theorem d_Text_says_218 : decode b_Text_says 218 = .ok (.iconst 0, 1) := by decide +kernel
theorem d_Text_says_219 : decode b_Text_says 219 = .ok (.iaload, 1) := by decide +kernel
theorem d_Text_says_220 : decode b_Text_says 220 = .ok (.iconst 0, 1) := by decide +kernel
theorem d_Text_says_221 : decode b_Text_says 221 = .ok (.iload_n 1, 1) := by decide +kernel
theorem d_Text_says_222 : decode b_Text_says 222 = .ok (.iconst 1, 1) := by decide +kernel
theorem d_Text_says_223 : decode b_Text_says 223 = .ok (.if_icmp .ne 8, 3) := by decide +kernel
theorem d_Text_says_226 : decode b_Text_says 226 = .ok (.bipush (100), 2) := by decide +kernel
theorem d_Text_says_228 : decode b_Text_says 228 = .ok (.goto 6, 3) := by decide +kernel
theorem d_Text_says_231 : decode b_Text_says 231 = .ok (.sipush (999), 3) := by decide +kernel
theorem d_Text_says_234 : decode b_Text_says 234 = .ok (.invokestatic 49, 3) := by decide +kernel
theorem d_Text_says_237 : decode b_Text_says 237 = .ok (.ireturn, 1) := by decide +kernel
abbrev b_Text_named : ByteArray := prog_6_method_7_code
def y_Text_named : MethodName := ⟨"RoundAndRound$Text", "named", "(ILRoundAndRound$Head;II)I"⟩
theorem d_Text_named_0 : decode b_Text_named 0 = .ok (.iload_n 0, 1) := by decide +kernel
theorem d_Text_named_1 : decode b_Text_named 1 = .ok (.tableswitch 57 (10000) (10004) #[35, 37, 42, 47, 52], 35) := by decide +kernel
theorem d_Text_named_36 : decode b_Text_named 36 = .ok (.iload_n 2, 1) := by decide +kernel
theorem d_Text_named_37 : decode b_Text_named 37 = .ok (.ireturn, 1) := by decide +kernel
theorem d_Text_named_38 : decode b_Text_named 38 = .ok (.aload_n 1, 1) := by decide +kernel
theorem d_Text_named_39 : decode b_Text_named 39 = .ok (.getfield 52, 3) := by decide +kernel
theorem d_Text_named_42 : decode b_Text_named 42 = .ok (.ireturn, 1) := by decide +kernel
theorem d_Text_named_43 : decode b_Text_named 43 = .ok (.aload_n 1, 1) := by decide +kernel
theorem d_Text_named_44 : decode b_Text_named 44 = .ok (.getfield 57, 3) := by decide +kernel
theorem d_Text_named_47 : decode b_Text_named 47 = .ok (.ireturn, 1) := by decide +kernel
theorem d_Text_named_48 : decode b_Text_named 48 = .ok (.aload_n 1, 1) := by decide +kernel
theorem d_Text_named_49 : decode b_Text_named 49 = .ok (.getfield 60, 3) := by decide +kernel
theorem d_Text_named_52 : decode b_Text_named 52 = .ok (.ireturn, 1) := by decide +kernel
theorem d_Text_named_53 : decode b_Text_named 53 = .ok (.aload_n 1, 1) := by decide +kernel
theorem d_Text_named_54 : decode b_Text_named 54 = .ok (.getfield 63, 3) := by decide +kernel
theorem d_Text_named_57 : decode b_Text_named 57 = .ok (.ireturn, 1) := by decide +kernel
theorem d_Text_named_58 : decode b_Text_named 58 = .ok (.iload_n 3, 1) := by decide +kernel
theorem d_Text_named_59 : decode b_Text_named 59 = .ok (.ireturn, 1) := by decide +kernel
abbrev b_Text_joined : ByteArray := prog_6_method_8_code
def y_Text_joined : MethodName := ⟨"RoundAndRound$Text", "joined", "(III)I"⟩
theorem d_Text_joined_0 : decode b_Text_joined 0 = .ok (.iload_n 0, 1) := by decide +kernel
theorem d_Text_joined_1 : decode b_Text_joined 1 = .ok (.tableswitch 97 (20000) (20005) #[39, 53, 67, 78, 89, 93], 39) := by decide +kernel
theorem d_Text_joined_40 : decode b_Text_joined 40 = .ok (.iload_n 1, 1) := by decide +kernel
theorem d_Text_joined_41 : decode b_Text_joined 41 = .ok (.ifCond .ne 7, 3) := by decide +kernel
theorem d_Text_joined_44 : decode b_Text_joined 44 = .ok (.iload_n 2, 1) := by decide +kernel
theorem d_Text_joined_45 : decode b_Text_joined 45 = .ok (.ifCond .eq 7, 3) := by decide +kernel
theorem d_Text_joined_48 : decode b_Text_joined 48 = .ok (.iconst 1, 1) := by decide +kernel
theorem d_Text_joined_49 : decode b_Text_joined 49 = .ok (.goto 4, 3) := by decide +kernel
theorem d_Text_joined_52 : decode b_Text_joined 52 = .ok (.iconst 0, 1) := by decide +kernel
theorem d_Text_joined_53 : decode b_Text_joined 53 = .ok (.ireturn, 1) := by decide +kernel
theorem d_Text_joined_54 : decode b_Text_joined 54 = .ok (.iload_n 1, 1) := by decide +kernel
theorem d_Text_joined_55 : decode b_Text_joined 55 = .ok (.ifCond .eq 11, 3) := by decide +kernel
theorem d_Text_joined_58 : decode b_Text_joined 58 = .ok (.iload_n 2, 1) := by decide +kernel
theorem d_Text_joined_59 : decode b_Text_joined 59 = .ok (.ifCond .eq 7, 3) := by decide +kernel
theorem d_Text_joined_62 : decode b_Text_joined 62 = .ok (.iconst 1, 1) := by decide +kernel
theorem d_Text_joined_63 : decode b_Text_joined 63 = .ok (.goto 4, 3) := by decide +kernel
theorem d_Text_joined_66 : decode b_Text_joined 66 = .ok (.iconst 0, 1) := by decide +kernel
theorem d_Text_joined_67 : decode b_Text_joined 67 = .ok (.ireturn, 1) := by decide +kernel
theorem d_Text_joined_68 : decode b_Text_joined 68 = .ok (.iload_n 1, 1) := by decide +kernel
theorem d_Text_joined_69 : decode b_Text_joined 69 = .ok (.iload_n 2, 1) := by decide +kernel
theorem d_Text_joined_70 : decode b_Text_joined 70 = .ok (.if_icmp .ge 7, 3) := by decide +kernel
theorem d_Text_joined_73 : decode b_Text_joined 73 = .ok (.iconst 1, 1) := by decide +kernel
theorem d_Text_joined_74 : decode b_Text_joined 74 = .ok (.goto 4, 3) := by decide +kernel
theorem d_Text_joined_77 : decode b_Text_joined 77 = .ok (.iconst 0, 1) := by decide +kernel
theorem d_Text_joined_78 : decode b_Text_joined 78 = .ok (.ireturn, 1) := by decide +kernel
theorem d_Text_joined_79 : decode b_Text_joined 79 = .ok (.iload_n 1, 1) := by decide +kernel
theorem d_Text_joined_80 : decode b_Text_joined 80 = .ok (.iload_n 2, 1) := by decide +kernel
theorem d_Text_joined_81 : decode b_Text_joined 81 = .ok (.if_icmp .ne 7, 3) := by decide +kernel
theorem d_Text_joined_84 : decode b_Text_joined 84 = .ok (.iconst 1, 1) := by decide +kernel
theorem d_Text_joined_85 : decode b_Text_joined 85 = .ok (.goto 4, 3) := by decide +kernel
theorem d_Text_joined_88 : decode b_Text_joined 88 = .ok (.iconst 0, 1) := by decide +kernel
theorem d_Text_joined_89 : decode b_Text_joined 89 = .ok (.ireturn, 1) := by decide +kernel
theorem d_Text_joined_90 : decode b_Text_joined 90 = .ok (.iload_n 1, 1) := by decide +kernel
theorem d_Text_joined_91 : decode b_Text_joined 91 = .ok (.iload_n 2, 1) := by decide +kernel
theorem d_Text_joined_92 : decode b_Text_joined 92 = .ok (.iadd, 1) := by decide +kernel
theorem d_Text_joined_93 : decode b_Text_joined 93 = .ok (.ireturn, 1) := by decide +kernel
theorem d_Text_joined_94 : decode b_Text_joined 94 = .ok (.iload_n 1, 1) := by decide +kernel
theorem d_Text_joined_95 : decode b_Text_joined 95 = .ok (.iload_n 2, 1) := by decide +kernel
theorem d_Text_joined_96 : decode b_Text_joined 96 = .ok (.isub, 1) := by decide +kernel
theorem d_Text_joined_97 : decode b_Text_joined 97 = .ok (.ireturn, 1) := by decide +kernel
theorem d_Text_joined_98 : decode b_Text_joined 98 = .ok (.iload_n 1, 1) := by decide +kernel
theorem d_Text_joined_99 : decode b_Text_joined 99 = .ok (.iload_n 2, 1) := by decide +kernel
theorem d_Text_joined_100 : decode b_Text_joined 100 = .ok (.imul, 1) := by decide +kernel
theorem d_Text_joined_101 : decode b_Text_joined 101 = .ok (.ireturn, 1) := by decide +kernel
