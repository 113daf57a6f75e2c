abbrev b_X_init : ByteArray := prog_1_method_1_code
def y_X_init : MethodName := ⟨"RoundAndRound", "<init>", "()V"⟩
theorem d_X_init_0 : decode b_X_init 0 = .ok (.aload_n 0, 1) := by decide +kernel
theorem d_X_init_1 : decode b_X_init 1 = .ok (.invokespecial 1, 3) := by decide +kernel
theorem d_X_init_4 : decode b_X_init 4 = .ok (.aload_n 0, 1) := by decide +kernel
theorem d_X_init_5 : decode b_X_init 5 = .ok (.iconst 5, 1) := by decide +kernel
theorem d_X_init_6 : decode b_X_init 6 = .ok (.anewarray 9, 3) := by decide +kernel
theorem d_X_init_9 : decode b_X_init 9 = .ok (.putfield 11, 3) := by decide +kernel
theorem d_X_init_12 : decode b_X_init 12 = .ok (.aload_n 0, 1) := by decide +kernel
theorem d_X_init_13 : decode b_X_init 13 = .ok (.iconst 5, 1) := by decide +kernel
theorem d_X_init_14 : decode b_X_init 14 = .ok (.anewarray 9, 3) := by decide +kernel
theorem d_X_init_17 : decode b_X_init 17 = .ok (.putfield 15, 3) := by decide +kernel
theorem d_X_init_20 : decode b_X_init 20 = .ok (.aload_n 0, 1) := by decide +kernel
theorem d_X_init_21 : decode b_X_init 21 = .ok (.new 9, 3) := by decide +kernel
theorem d_X_init_24 : decode b_X_init 24 = .ok (.dup, 1) := by decide +kernel
theorem d_X_init_25 : decode b_X_init 25 = .ok (.invokespecial 18, 3) := by decide +kernel
theorem d_X_init_28 : decode b_X_init 28 = .ok (.putfield 19, 3) := by decide +kernel
theorem d_X_init_31 : decode b_X_init 31 = .ok (.aload_n 0, 1) := by decide +kernel
theorem d_X_init_32 : decode b_X_init 32 = .ok (.new 9, 3) := by decide +kernel
theorem d_X_init_35 : decode b_X_init 35 = .ok (.dup, 1) := by decide +kernel
theorem d_X_init_36 : decode b_X_init 36 = .ok (.invokespecial 18, 3) := by decide +kernel
theorem d_X_init_39 : decode b_X_init 39 = .ok (.putfield 23, 3) := by decide +kernel
theorem d_X_init_42 : decode b_X_init 42 = .ok (.aload_n 0, 1) := by decide +kernel
theorem d_X_init_43 : decode b_X_init 43 = .ok (.bipush (81), 2) := by decide +kernel
theorem d_X_init_45 : decode b_X_init 45 = .ok (.newarray .int, 2) := by decide +kernel
theorem d_X_init_47 : decode b_X_init 47 = .ok (.putfield 26, 3) := by decide +kernel
theorem d_X_init_50 : decode b_X_init 50 = .ok (.aload_n 0, 1) := by decide +kernel
theorem d_X_init_51 : decode b_X_init 51 = .ok (.bipush (6), 2) := by decide +kernel
theorem d_X_init_53 : decode b_X_init 53 = .ok (.anewarray 30, 3) := by decide +kernel
theorem d_X_init_56 : decode b_X_init 56 = .ok (.putfield 32, 3) := by decide +kernel
theorem d_X_init_59 : decode b_X_init 59 = .ok (.aload_n 0, 1) := by decide +kernel
theorem d_X_init_60 : decode b_X_init 60 = .ok (.new 30, 3) := by decide +kernel
theorem d_X_init_63 : decode b_X_init 63 = .ok (.dup, 1) := by decide +kernel
theorem d_X_init_64 : decode b_X_init 64 = .ok (.invokespecial 36, 3) := by decide +kernel
theorem d_X_init_67 : decode b_X_init 67 = .ok (.putfield 37, 3) := by decide +kernel
theorem d_X_init_70 : decode b_X_init 70 = .ok (.aload_n 0, 1) := by decide +kernel
theorem d_X_init_71 : decode b_X_init 71 = .ok (.new 41, 3) := by decide +kernel
theorem d_X_init_74 : decode b_X_init 74 = .ok (.dup, 1) := by decide +kernel
theorem d_X_init_75 : decode b_X_init 75 = .ok (.invokespecial 43, 3) := by decide +kernel
theorem d_X_init_78 : decode b_X_init 78 = .ok (.putfield 44, 3) := by decide +kernel
theorem d_X_init_81 : decode b_X_init 81 = .ok (.aload_n 0, 1) := by decide +kernel
theorem d_X_init_82 : decode b_X_init 82 = .ok (.iconst 4, 1) := by decide +kernel
theorem d_X_init_83 : decode b_X_init 83 = .ok (.anewarray 48, 3) := by decide +kernel
theorem d_X_init_86 : decode b_X_init 86 = .ok (.putfield 50, 3) := by decide +kernel
theorem d_X_init_89 : decode b_X_init 89 = .ok (.aload_n 0, 1) := by decide +kernel
theorem d_X_init_90 : decode b_X_init 90 = .ok (.new 48, 3) := by decide +kernel
theorem d_X_init_93 : decode b_X_init 93 = .ok (.dup, 1) := by decide +kernel
theorem d_X_init_94 : decode b_X_init 94 = .ok (.invokespecial 54, 3) := by decide +kernel
theorem d_X_init_97 : decode b_X_init 97 = .ok (.putfield 55, 3) := by decide +kernel
theorem d_X_init_100 : decode b_X_init 100 = .ok (.aload_n 0, 1) := by decide +kernel
theorem d_X_init_101 : decode b_X_init 101 = .ok (.iconst 0, 1) := by decide +kernel
theorem d_X_init_102 : decode b_X_init 102 = .ok (.putfield 59, 3) := by decide +kernel
theorem d_X_init_105 : decode b_X_init 105 = .ok (.aload_n 0, 1) := by decide +kernel
theorem d_X_init_106 : decode b_X_init 106 = .ok (.iconst 0, 1) := by decide +kernel
theorem d_X_init_107 : decode b_X_init 107 = .ok (.putfield 63, 3) := by decide +kernel
theorem d_X_init_110 : decode b_X_init 110 = .ok (.aload_n 0, 1) := by decide +kernel
theorem d_X_init_111 : decode b_X_init 111 = .ok (.iconst 0, 1) := by decide +kernel
theorem d_X_init_112 : decode b_X_init 112 = .ok (.putfield 66, 3) := by decide +kernel
theorem d_X_init_115 : decode b_X_init 115 = .ok (.aload_n 0, 1) := by decide +kernel
theorem d_X_init_116 : decode b_X_init 116 = .ok (.iconst (-1), 1) := by decide +kernel
theorem d_X_init_117 : decode b_X_init 117 = .ok (.putfield 69, 3) := by decide +kernel
theorem d_X_init_120 : decode b_X_init 120 = .ok (.aload_n 0, 1) := by decide +kernel
theorem d_X_init_121 : decode b_X_init 121 = .ok (.iconst 0, 1) := by decide +kernel
theorem d_X_init_122 : decode b_X_init 122 = .ok (.putfield 72, 3) := by decide +kernel
theorem d_X_init_125 : decode b_X_init 125 = .ok (.iconst 0, 1) := by decide +kernel
theorem d_X_init_126 : decode b_X_init 126 = .ok (.istore_n 1, 1) := by decide +kernel
theorem d_X_init_127 : decode b_X_init 127 = .ok (.iload_n 1, 1) := by decide +kernel
theorem d_X_init_128 : decode b_X_init 128 = .ok (.iconst 5, 1) := by decide +kernel
theorem d_X_init_129 : decode b_X_init 129 = .ok (.if_icmp .ge 35, 3) := by decide +kernel
theorem d_X_init_132 : decode b_X_init 132 = .ok (.aload_n 0, 1) := by decide +kernel
theorem d_X_init_133 : decode b_X_init 133 = .ok (.getfield 11, 3) := by decide +kernel
theorem d_X_init_136 : decode b_X_init 136 = .ok (.iload_n 1, 1) := by decide +kernel
theorem d_X_init_137 : decode b_X_init 137 = .ok (.new 9, 3) := by decide +kernel
theorem d_X_init_140 : decode b_X_init 140 = .ok (.dup, 1) := by decide +kernel
theorem d_X_init_141 : decode b_X_init 141 = .ok (.invokespecial 18, 3) := by decide +kernel
theorem d_X_init_144 : decode b_X_init 144 = .ok (.aastore, 1) := by decide +kernel
theorem d_X_init_145 : decode b_X_init 145 = .ok (.aload_n 0, 1) := by decide +kernel
theorem d_X_init_146 : decode b_X_init 146 = .ok (.getfield 15, 3) := by decide +kernel
theorem d_X_init_149 : decode b_X_init 149 = .ok (.iload_n 1, 1) := by decide +kernel
theorem d_X_init_150 : decode b_X_init 150 = .ok (.new 9, 3) := by decide +kernel
theorem d_X_init_153 : decode b_X_init 153 = .ok (.dup, 1) := by decide +kernel
theorem d_X_init_154 : decode b_X_init 154 = .ok (.invokespecial 18, 3) := by decide +kernel
theorem d_X_init_157 : decode b_X_init 157 = .ok (.aastore, 1) := by decide +kernel
theorem d_X_init_158 : decode b_X_init 158 = .ok (.iinc 1 (1), 3) := by decide +kernel
theorem d_X_init_161 : decode b_X_init 161 = .ok (.goto (-34), 3) := by decide +kernel
theorem d_X_init_164 : decode b_X_init 164 = .ok (.iconst 0, 1) := by decide +kernel
theorem d_X_init_165 : decode b_X_init 165 = .ok (.istore_n 1, 1) := by decide +kernel
theorem d_X_init_166 : decode b_X_init 166 = .ok (.iload_n 1, 1) := by decide +kernel
theorem d_X_init_167 : decode b_X_init 167 = .ok (.bipush (6), 2) := by decide +kernel
theorem d_X_init_169 : decode b_X_init 169 = .ok (.if_icmp .ge 22, 3) := by decide +kernel
theorem d_X_init_172 : decode b_X_init 172 = .ok (.aload_n 0, 1) := by decide +kernel
theorem d_X_init_173 : decode b_X_init 173 = .ok (.getfield 32, 3) := by decide +kernel
theorem d_X_init_176 : decode b_X_init 176 = .ok (.iload_n 1, 1) := by decide +kernel
theorem d_X_init_177 : decode b_X_init 177 = .ok (.new 30, 3) := by decide +kernel
theorem d_X_init_180 : decode b_X_init 180 = .ok (.dup, 1) := by decide +kernel
theorem d_X_init_181 : decode b_X_init 181 = .ok (.invokespecial 36, 3) := by decide +kernel
theorem d_X_init_184 : decode b_X_init 184 = .ok (.aastore, 1) := by decide +kernel
theorem d_X_init_185 : decode b_X_init 185 = .ok (.iinc 1 (1), 3) := by decide +kernel
theorem d_X_init_188 : decode b_X_init 188 = .ok (.goto (-22), 3) := by decide +kernel
theorem d_X_init_191 : decode b_X_init 191 = .ok (.iconst 0, 1) := by decide +kernel
theorem d_X_init_192 : decode b_X_init 192 = .ok (.istore_n 1, 1) := by decide +kernel
theorem d_X_init_193 : decode b_X_init 193 = .ok (.iload_n 1, 1) := by decide +kernel
theorem d_X_init_194 : decode b_X_init 194 = .ok (.iconst 4, 1) := by decide +kernel
theorem d_X_init_195 : decode b_X_init 195 = .ok (.if_icmp .ge 22, 3) := by decide +kernel
theorem d_X_init_198 : decode b_X_init 198 = .ok (.aload_n 0, 1) := by decide +kernel
theorem d_X_init_199 : decode b_X_init 199 = .ok (.getfield 50, 3) := by decide +kernel
theorem d_X_init_202 : decode b_X_init 202 = .ok (.iload_n 1, 1) := by decide +kernel
theorem d_X_init_203 : decode b_X_init 203 = .ok (.new 48, 3) := by decide +kernel
theorem d_X_init_206 : decode b_X_init 206 = .ok (.dup, 1) := by decide +kernel
theorem d_X_init_207 : decode b_X_init 207 = .ok (.invokespecial 54, 3) := by decide +kernel
theorem d_X_init_210 : decode b_X_init 210 = .ok (.aastore, 1) := by decide +kernel
theorem d_X_init_211 : decode b_X_init 211 = .ok (.iinc 1 (1), 3) := by decide +kernel
theorem d_X_init_214 : decode b_X_init 214 = .ok (.goto (-21), 3) := by decide +kernel
theorem d_X_init_217 : decode b_X_init 217 = .ok (.iconst 0, 1) := by decide +kernel
theorem d_X_init_218 : decode b_X_init 218 = .ok (.istore_n 1, 1) := by decide +kernel
theorem d_X_init_219 : decode b_X_init 219 = .ok (.iload_n 1, 1) := by decide +kernel
theorem d_X_init_220 : decode b_X_init 220 = .ok (.ldc 75, 2) := by decide +kernel
theorem d_X_init_222 : decode b_X_init 222 = .ok (.invokevirtual 77, 3) := by decide +kernel
theorem d_X_init_225 : decode b_X_init 225 = .ok (.if_icmp .ge 22, 3) := by decide +kernel
theorem d_X_init_228 : decode b_X_init 228 = .ok (.aload_n 0, 1) := by decide +kernel
theorem d_X_init_229 : decode b_X_init 229 = .ok (.getfield 44, 3) := by decide +kernel
theorem d_X_init_232 : decode b_X_init 232 = .ok (.ldc 75, 2) := by decide +kernel
theorem d_X_init_234 : decode b_X_init 234 = .ok (.iload_n 1, 1) := by decide +kernel
theorem d_X_init_235 : decode b_X_init 235 = .ok (.invokevirtual 83, 3) := by decide +kernel
theorem d_X_init_238 : decode b_X_init 238 = .ok (.invokevirtual 87, 3) := by decide +kernel
theorem d_X_init_241 : decode b_X_init 241 = .ok (.iinc 1 (1), 3) := by decide +kernel
theorem d_X_init_244 : decode b_X_init 244 = .ok (.goto (-25), 3) := by decide +kernel
theorem d_X_init_247 : decode b_X_init 247 = .ok (.aload_n 0, 1) := by decide +kernel
theorem d_X_init_248 : decode b_X_init 248 = .ok (.getfield 44, 3) := by decide +kernel
theorem d_X_init_251 : decode b_X_init 251 = .ok (.aload_n 0, 1) := by decide +kernel
theorem d_X_init_252 : decode b_X_init 252 = .ok (.iconst 0, 1) := by decide +kernel
theorem d_X_init_253 : decode b_X_init 253 = .ok (.invokevirtual 91, 3) := by decide +kernel
theorem d_X_init_256 : decode b_X_init 256 = .ok (.invokevirtual 95, 3) := by decide +kernel
theorem d_X_init_259 : decode b_X_init 259 = .ok (.pop, 1) := by decide +kernel
theorem d_X_init_260 : decode b_X_init 260 = .ok (.aload_n 0, 1) := by decide +kernel
theorem d_X_init_261 : decode b_X_init 261 = .ok (.getfield 44, 3) := by decide +kernel
theorem d_X_init_264 : decode b_X_init 264 = .ok (.invokevirtual 99, 3) := by decide +kernel
theorem d_X_init_267 : decode b_X_init 267 = .ok (.aload_n 0, 1) := by decide +kernel
theorem d_X_init_268 : decode b_X_init 268 = .ok (.iconst 1, 1) := by decide +kernel
theorem d_X_init_269 : decode b_X_init 269 = .ok (.putfield 63, 3) := by decide +kernel
theorem d_X_init_272 : decode b_X_init 272 = .ok (.return_, 1) := by decide +kernel
abbrev b_X_count : ByteArray := prog_1_method_2_code
def y_X_count : MethodName := ⟨"RoundAndRound", "count", "(I)I"⟩
theorem d_X_count_0 : decode b_X_count 0 = .ok (.iload_n 1, 1) := by decide +kernel
theorem d_X_count_1 : decode b_X_count 1 = .ok (.tableswitch 54 (0) (3) #[31, 36, 41, 46], 31) := by decide +kernel
theorem d_X_count_32 : decode b_X_count 32 = .ok (.aload_n 0, 1) := by decide +kernel
theorem d_X_count_33 : decode b_X_count 33 = .ok (.getfield 59, 3) := by decide +kernel
theorem d_X_count_36 : decode b_X_count 36 = .ok (.ireturn, 1) := by decide +kernel
theorem d_X_count_37 : decode b_X_count 37 = .ok (.aload_n 0, 1) := by decide +kernel
theorem d_X_count_38 : decode b_X_count 38 = .ok (.getfield 63, 3) := by decide +kernel
theorem d_X_count_41 : decode b_X_count 41 = .ok (.ireturn, 1) := by decide +kernel
theorem d_X_count_42 : decode b_X_count 42 = .ok (.aload_n 0, 1) := by decide +kernel
theorem d_X_count_43 : decode b_X_count 43 = .ok (.getfield 66, 3) := by decide +kernel
theorem d_X_count_46 : decode b_X_count 46 = .ok (.ireturn, 1) := by decide +kernel
theorem d_X_count_47 : decode b_X_count 47 = .ok (.aload_n 0, 1) := by decide +kernel
theorem d_X_count_48 : decode b_X_count 48 = .ok (.getfield 44, 3) := by decide +kernel
theorem d_X_count_51 : decode b_X_count 51 = .ok (.getfield 102, 3) := by decide +kernel
theorem d_X_count_54 : decode b_X_count 54 = .ok (.ireturn, 1) := by decide +kernel
theorem d_X_count_55 : decode b_X_count 55 = .ok (.bipush (-2), 2) := by decide +kernel
theorem d_X_count_57 : decode b_X_count 57 = .ok (.ireturn, 1) := by decide +kernel
abbrev b_X_feed : ByteArray := prog_1_method_3_code
def y_X_feed : MethodName := ⟨"RoundAndRound", "feed", "(IIIIII)I"⟩
theorem d_X_feed_0 : decode b_X_feed 0 = .ok (.iload_n 1, 1) := by decide +kernel
theorem d_X_feed_1 : decode b_X_feed 1 = .ok (.iconst 1, 1) := by decide +kernel
theorem d_X_feed_2 : decode b_X_feed 2 = .ok (.iconst 5, 1) := by decide +kernel
theorem d_X_feed_3 : decode b_X_feed 3 = .ok (.invokestatic 105, 3) := by decide +kernel
theorem d_X_feed_6 : decode b_X_feed 6 = .ok (.ifCond .eq 41, 3) := by decide +kernel
theorem d_X_feed_9 : decode b_X_feed 9 = .ok (.iload_n 2, 1) := by decide +kernel
theorem d_X_feed_10 : decode b_X_feed 10 = .ok (.invokestatic 109, 3) := by decide +kernel
theorem d_X_feed_13 : decode b_X_feed 13 = .ok (.ifCond .eq 34, 3) := by decide +kernel
theorem d_X_feed_16 : decode b_X_feed 16 = .ok (.iload_n 3, 1) := by decide +kernel
theorem d_X_feed_17 : decode b_X_feed 17 = .ok (.invokestatic 109, 3) := by decide +kernel
theorem d_X_feed_20 : decode b_X_feed 20 = .ok (.ifCond .eq 27, 3) := by decide +kernel
theorem d_X_feed_23 : decode b_X_feed 23 = .ok (.iload 4, 2) := by decide +kernel
theorem d_X_feed_25 : decode b_X_feed 25 = .ok (.invokestatic 109, 3) := by decide +kernel
theorem d_X_feed_28 : decode b_X_feed 28 = .ok (.ifCond .eq 19, 3) := by decide +kernel
theorem d_X_feed_31 : decode b_X_feed 31 = .ok (.iload 5, 2) := by decide +kernel
theorem d_X_feed_33 : decode b_X_feed 33 = .ok (.invokestatic 109, 3) := by decide +kernel
theorem d_X_feed_36 : decode b_X_feed 36 = .ok (.ifCond .eq 11, 3) := by decide +kernel
theorem d_X_feed_39 : decode b_X_feed 39 = .ok (.iload 6, 2) := by decide +kernel
theorem d_X_feed_41 : decode b_X_feed 41 = .ok (.invokestatic 109, 3) := by decide +kernel
theorem d_X_feed_44 : decode b_X_feed 44 = .ok (.ifCond .ne 6, 3) := by decide +kernel
theorem d_X_feed_47 : decode b_X_feed 47 = .ok (.bipush (-2), 2) := by decide +kernel
theorem d_X_feed_49 : decode b_X_feed 49 = .ok (.ireturn, 1) := by decide +kernel
theorem d_X_feed_50 : decode b_X_feed 50 = .ok (.aload_n 0, 1) := by decide +kernel
theorem d_X_feed_51 : decode b_X_feed 51 = .ok (.getfield 44, 3) := by decide +kernel
theorem d_X_feed_54 : decode b_X_feed 54 = .ok (.getfield 102, 3) := by decide +kernel
theorem d_X_feed_57 : decode b_X_feed 57 = .ok (.iload_n 1, 1) := by decide +kernel
theorem d_X_feed_58 : decode b_X_feed 58 = .ok (.iadd, 1) := by decide +kernel
theorem d_X_feed_59 : decode b_X_feed 59 = .ok (.sipush (160), 3) := by decide +kernel
theorem d_X_feed_62 : decode b_X_feed 62 = .ok (.if_icmp .le 6, 3) := by decide +kernel
theorem d_X_feed_65 : decode b_X_feed 65 = .ok (.bipush (-4), 2) := by decide +kernel
theorem d_X_feed_67 : decode b_X_feed 67 = .ok (.ireturn, 1) := by decide +kernel
theorem d_X_feed_68 : decode b_X_feed 68 = .ok (.iconst 0, 1) := by decide +kernel
theorem d_X_feed_69 : decode b_X_feed 69 = .ok (.istore 7, 2) := by decide +kernel
theorem d_X_feed_71 : decode b_X_feed 71 = .ok (.iload 7, 2) := by decide +kernel
theorem d_X_feed_73 : decode b_X_feed 73 = .ok (.iload_n 1, 1) := by decide +kernel
theorem d_X_feed_74 : decode b_X_feed 74 = .ok (.if_icmp .ge 59, 3) := by decide +kernel
theorem d_X_feed_77 : decode b_X_feed 77 = .ok (.aload_n 0, 1) := by decide +kernel
theorem d_X_feed_78 : decode b_X_feed 78 = .ok (.getfield 44, 3) := by decide +kernel
theorem d_X_feed_81 : decode b_X_feed 81 = .ok (.iload 7, 2) := by decide +kernel
theorem d_X_feed_83 : decode b_X_feed 83 = .ok (.ifCond .ne 7, 3) := by decide +kernel
theorem d_X_feed_86 : decode b_X_feed 86 = .ok (.iload_n 2, 1) := by decide +kernel
theorem d_X_feed_87 : decode b_X_feed 87 = .ok (.goto 37, 3) := by decide +kernel
theorem d_X_feed_90 : decode b_X_feed 90 = .ok (.iload 7, 2) := by decide +kernel
theorem d_X_feed_92 : decode b_X_feed 92 = .ok (.iconst 1, 1) := by decide +kernel
theorem d_X_feed_93 : decode b_X_feed 93 = .ok (.if_icmp .ne 7, 3) := by decide +kernel
theorem d_X_feed_96 : decode b_X_feed 96 = .ok (.iload_n 3, 1) := by decide +kernel
theorem d_X_feed_97 : decode b_X_feed 97 = .ok (.goto 27, 3) := by decide +kernel
theorem d_X_feed_100 : decode b_X_feed 100 = .ok (.iload 7, 2) := by decide +kernel
theorem d_X_feed_102 : decode b_X_feed 102 = .ok (.iconst 2, 1) := by decide +kernel
theorem d_X_feed_103 : decode b_X_feed 103 = .ok (.if_icmp .ne 8, 3) := by decide +kernel
theorem d_X_feed_106 : decode b_X_feed 106 = .ok (.iload 4, 2) := by decide +kernel
theorem d_X_feed_108 : decode b_X_feed 108 = .ok (.goto 16, 3) := by decide +kernel
theorem d_X_feed_111 : decode b_X_feed 111 = .ok (.iload 7, 2) := by decide +kernel
theorem d_X_feed_113 : decode b_X_feed 113 = .ok (.iconst 3, 1) := by decide +kernel
theorem d_X_feed_114 : decode b_X_feed 114 = .ok (.if_icmp .ne 8, 3) := by decide +kernel
theorem d_X_feed_117 : decode b_X_feed 117 = .ok (.iload 5, 2) := by decide +kernel
theorem d_X_feed_119 : decode b_X_feed 119 = .ok (.goto 5, 3) := by decide +kernel
theorem d_X_feed_122 : decode b_X_feed 122 = .ok (.iload 6, 2) := by decide +kernel
theorem d_X_feed_124 : decode b_X_feed 124 = .ok (.invokevirtual 87, 3) := by decide +kernel
theorem d_X_feed_127 : decode b_X_feed 127 = .ok (.iinc 7 (1), 3) := by decide +kernel
theorem d_X_feed_130 : decode b_X_feed 130 = .ok (.goto (-59), 3) := by decide +kernel
theorem d_X_feed_133 : decode b_X_feed 133 = .ok (.aload_n 0, 1) := by decide +kernel
theorem d_X_feed_134 : decode b_X_feed 134 = .ok (.getfield 44, 3) := by decide +kernel
theorem d_X_feed_137 : decode b_X_feed 137 = .ok (.getfield 102, 3) := by decide +kernel
theorem d_X_feed_140 : decode b_X_feed 140 = .ok (.ireturn, 1) := by decide +kernel
abbrev b_X_text : ByteArray := prog_1_method_4_code
def y_X_text : MethodName := ⟨"RoundAndRound", "text", "()I"⟩
theorem d_X_text_0 : decode b_X_text 0 = .ok (.aload_n 0, 1) := by decide +kernel
theorem d_X_text_1 : decode b_X_text 1 = .ok (.getfield 63, 3) := by decide +kernel
theorem d_X_text_4 : decode b_X_text 4 = .ok (.bipush (6), 2) := by decide +kernel
theorem d_X_text_6 : decode b_X_text 6 = .ok (.if_icmp .lt 6, 3) := by decide +kernel
theorem d_X_text_9 : decode b_X_text 9 = .ok (.bipush (-4), 2) := by decide +kernel
theorem d_X_text_11 : decode b_X_text 11 = .ok (.ireturn, 1) := by decide +kernel
theorem d_X_text_12 : decode b_X_text 12 = .ok (.aload_n 0, 1) := by decide +kernel
theorem d_X_text_13 : decode b_X_text 13 = .ok (.getfield 44, 3) := by decide +kernel
theorem d_X_text_16 : decode b_X_text 16 = .ok (.aload_n 0, 1) := by decide +kernel
theorem d_X_text_17 : decode b_X_text 17 = .ok (.aload_n 0, 1) := by decide +kernel
theorem d_X_text_18 : decode b_X_text 18 = .ok (.getfield 63, 3) := by decide +kernel
theorem d_X_text_21 : decode b_X_text 21 = .ok (.invokevirtual 91, 3) := by decide +kernel
theorem d_X_text_24 : decode b_X_text 24 = .ok (.invokevirtual 95, 3) := by decide +kernel
theorem d_X_text_27 : decode b_X_text 27 = .ok (.istore_n 1, 1) := by decide +kernel
theorem d_X_text_28 : decode b_X_text 28 = .ok (.aload_n 0, 1) := by decide +kernel
theorem d_X_text_29 : decode b_X_text 29 = .ok (.getfield 44, 3) := by decide +kernel
theorem d_X_text_32 : decode b_X_text 32 = .ok (.invokevirtual 99, 3) := by decide +kernel
theorem d_X_text_35 : decode b_X_text 35 = .ok (.iload_n 1, 1) := by decide +kernel
theorem d_X_text_36 : decode b_X_text 36 = .ok (.ifCond .lt 8, 3) := by decide +kernel
theorem d_X_text_39 : decode b_X_text 39 = .ok (.bipush (-100), 2) := by decide +kernel
theorem d_X_text_41 : decode b_X_text 41 = .ok (.iload_n 1, 1) := by decide +kernel
theorem d_X_text_42 : decode b_X_text 42 = .ok (.isub, 1) := by decide +kernel
theorem d_X_text_43 : decode b_X_text 43 = .ok (.ireturn, 1) := by decide +kernel
theorem d_X_text_44 : decode b_X_text 44 = .ok (.aload_n 0, 1) := by decide +kernel
theorem d_X_text_45 : decode b_X_text 45 = .ok (.dup, 1) := by decide +kernel
theorem d_X_text_46 : decode b_X_text 46 = .ok (.getfield 63, 3) := by decide +kernel
theorem d_X_text_49 : decode b_X_text 49 = .ok (.iconst 1, 1) := by decide +kernel
theorem d_X_text_50 : decode b_X_text 50 = .ok (.iadd, 1) := by decide +kernel
theorem d_X_text_51 : decode b_X_text 51 = .ok (.putfield 63, 3) := by decide +kernel
theorem d_X_text_54 : decode b_X_text 54 = .ok (.aload_n 0, 1) := by decide +kernel
theorem d_X_text_55 : decode b_X_text 55 = .ok (.getfield 63, 3) := by decide +kernel
theorem d_X_text_58 : decode b_X_text 58 = .ok (.iconst 1, 1) := by decide +kernel
theorem d_X_text_59 : decode b_X_text 59 = .ok (.isub, 1) := by decide +kernel
theorem d_X_text_60 : decode b_X_text 60 = .ok (.ireturn, 1) := by decide +kernel
abbrev b_X_force : ByteArray := prog_1_method_5_code
def y_X_force : MethodName := ⟨"RoundAndRound", "force", "(I)I"⟩
theorem d_X_force_0 : decode b_X_force 0 = .ok (.iload_n 1, 1) := by decide +kernel
theorem d_X_force_1 : decode b_X_force 1 = .ok (.iconst 0, 1) := by decide +kernel
theorem d_X_force_2 : decode b_X_force 2 = .ok (.aload_n 0, 1) := by decide +kernel
theorem d_X_force_3 : decode b_X_force 3 = .ok (.getfield 63, 3) := by decide +kernel
theorem d_X_force_6 : decode b_X_force 6 = .ok (.iconst 1, 1) := by decide +kernel
theorem d_X_force_7 : decode b_X_force 7 = .ok (.isub, 1) := by decide +kernel
theorem d_X_force_8 : decode b_X_force 8 = .ok (.invokestatic 105, 3) := by decide +kernel
theorem d_X_force_11 : decode b_X_force 11 = .ok (.ifCond .ne 6, 3) := by decide +kernel
theorem d_X_force_14 : decode b_X_force 14 = .ok (.bipush (-2), 2) := by decide +kernel
theorem d_X_force_16 : decode b_X_force 16 = .ok (.ireturn, 1) := by decide +kernel
theorem d_X_force_17 : decode b_X_force 17 = .ok (.aload_n 0, 1) := by decide +kernel
theorem d_X_force_18 : decode b_X_force 18 = .ok (.getfield 66, 3) := by decide +kernel
theorem d_X_force_21 : decode b_X_force 21 = .ok (.istore_n 2, 1) := by decide +kernel
theorem d_X_force_22 : decode b_X_force 22 = .ok (.aload_n 0, 1) := by decide +kernel
theorem d_X_force_23 : decode b_X_force 23 = .ok (.iload_n 1, 1) := by decide +kernel
theorem d_X_force_24 : decode b_X_force 24 = .ok (.putfield 66, 3) := by decide +kernel
theorem d_X_force_27 : decode b_X_force 27 = .ok (.iload_n 2, 1) := by decide +kernel
theorem d_X_force_28 : decode b_X_force 28 = .ok (.ireturn, 1) := by decide +kernel
abbrev b_X_asks : ByteArray := prog_1_method_6_code
def y_X_asks : MethodName := ⟨"RoundAndRound", "asks", "(III)I"⟩
theorem d_X_asks_0 : decode b_X_asks 0 = .ok (.iload_n 1, 1) := by decide +kernel
theorem d_X_asks_1 : decode b_X_asks 1 = .ok (.iconst 0, 1) := by decide +kernel
theorem d_X_asks_2 : decode b_X_asks 2 = .ok (.iconst 2, 1) := by decide +kernel
theorem d_X_asks_3 : decode b_X_asks 3 = .ok (.invokestatic 105, 3) := by decide +kernel
theorem d_X_asks_6 : decode b_X_asks 6 = .ok (.ifCond .eq 19, 3) := by decide +kernel
theorem d_X_asks_9 : decode b_X_asks 9 = .ok (.aload_n 0, 1) := by decide +kernel
theorem d_X_asks_10 : decode b_X_asks 10 = .ok (.iload_n 2, 1) := by decide +kernel
theorem d_X_asks_11 : decode b_X_asks 11 = .ok (.invokevirtual 113, 3) := by decide +kernel
theorem d_X_asks_14 : decode b_X_asks 14 = .ok (.ifCond .eq 11, 3) := by decide +kernel
theorem d_X_asks_17 : decode b_X_asks 17 = .ok (.iload_n 3, 1) := by decide +kernel
theorem d_X_asks_18 : decode b_X_asks 18 = .ok (.iconst 0, 1) := by decide +kernel
theorem d_X_asks_19 : decode b_X_asks 19 = .ok (.invokestatic 116, 3) := by decide +kernel
theorem d_X_asks_22 : decode b_X_asks 22 = .ok (.ifCond .ne 6, 3) := by decide +kernel
theorem d_X_asks_25 : decode b_X_asks 25 = .ok (.bipush (-2), 2) := by decide +kernel
theorem d_X_asks_27 : decode b_X_asks 27 = .ok (.ireturn, 1) := by decide +kernel
theorem d_X_asks_28 : decode b_X_asks 28 = .ok (.aload_n 0, 1) := by decide +kernel
theorem d_X_asks_29 : decode b_X_asks 29 = .ok (.invokevirtual 120, 3) := by decide +kernel
theorem d_X_asks_32 : decode b_X_asks 32 = .ok (.iload_n 1, 1) := by decide +kernel
theorem d_X_asks_33 : decode b_X_asks 33 = .ok (.aload_n 0, 1) := by decide +kernel
theorem d_X_asks_34 : decode b_X_asks 34 = .ok (.iload_n 2, 1) := by decide +kernel
theorem d_X_asks_35 : decode b_X_asks 35 = .ok (.invokevirtual 124, 3) := by decide +kernel
theorem d_X_asks_38 : decode b_X_asks 38 = .ok (.iload_n 3, 1) := by decide +kernel
theorem d_X_asks_39 : decode b_X_asks 39 = .ok (.bipush (10), 2) := by decide +kernel
theorem d_X_asks_41 : decode b_X_asks 41 = .ok (.idiv, 1) := by decide +kernel
theorem d_X_asks_42 : decode b_X_asks 42 = .ok (.iload_n 3, 1) := by decide +kernel
theorem d_X_asks_43 : decode b_X_asks 43 = .ok (.bipush (10), 2) := by decide +kernel
theorem d_X_asks_45 : decode b_X_asks 45 = .ok (.irem, 1) := by decide +kernel
theorem d_X_asks_46 : decode b_X_asks 46 = .ok (.invokevirtual 128, 3) := by decide +kernel
theorem d_X_asks_49 : decode b_X_asks 49 = .ok (.ireturn, 1) := by decide +kernel
abbrev b_X_head : ByteArray := prog_1_method_7_code
def y_X_head : MethodName := ⟨"RoundAndRound", "head", "(II)I"⟩
theorem d_X_head_0 : decode b_X_head 0 = .ok (.iload_n 1, 1) := by decide +kernel
theorem d_X_head_1 : decode b_X_head 1 = .ok (.invokestatic 132, 3) := by decide +kernel
theorem d_X_head_4 : decode b_X_head 4 = .ok (.ifCond .eq 13, 3) := by decide +kernel
theorem d_X_head_7 : decode b_X_head 7 = .ok (.iload_n 2, 1) := by decide +kernel
theorem d_X_head_8 : decode b_X_head 8 = .ok (.iconst 0, 1) := by decide +kernel
theorem d_X_head_9 : decode b_X_head 9 = .ok (.bipush (9), 2) := by decide +kernel
theorem d_X_head_11 : decode b_X_head 11 = .ok (.invokestatic 105, 3) := by decide +kernel
theorem d_X_head_14 : decode b_X_head 14 = .ok (.ifCond .ne 6, 3) := by decide +kernel
theorem d_X_head_17 : decode b_X_head 17 = .ok (.bipush (-2), 2) := by decide +kernel
theorem d_X_head_19 : decode b_X_head 19 = .ok (.ireturn, 1) := by decide +kernel
theorem d_X_head_20 : decode b_X_head 20 = .ok (.aload_n 0, 1) := by decide +kernel
theorem d_X_head_21 : decode b_X_head 21 = .ok (.getfield 59, 3) := by decide +kernel
theorem d_X_head_24 : decode b_X_head 24 = .ok (.iconst 5, 1) := by decide +kernel
theorem d_X_head_25 : decode b_X_head 25 = .ok (.if_icmp .lt 6, 3) := by decide +kernel
theorem d_X_head_28 : decode b_X_head 28 = .ok (.bipush (-4), 2) := by decide +kernel
theorem d_X_head_30 : decode b_X_head 30 = .ok (.ireturn, 1) := by decide +kernel
theorem d_X_head_31 : decode b_X_head 31 = .ok (.aload_n 0, 1) := by decide +kernel
theorem d_X_head_32 : decode b_X_head 32 = .ok (.aload_n 0, 1) := by decide +kernel
theorem d_X_head_33 : decode b_X_head 33 = .ok (.getfield 59, 3) := by decide +kernel
theorem d_X_head_36 : decode b_X_head 36 = .ok (.invokevirtual 124, 3) := by decide +kernel
theorem d_X_head_39 : decode b_X_head 39 = .ok (.iload_n 1, 1) := by decide +kernel
theorem d_X_head_40 : decode b_X_head 40 = .ok (.iload_n 2, 1) := by decide +kernel
theorem d_X_head_41 : decode b_X_head 41 = .ok (.invokevirtual 135, 3) := by decide +kernel
theorem d_X_head_44 : decode b_X_head 44 = .ok (.aload_n 0, 1) := by decide +kernel
theorem d_X_head_45 : decode b_X_head 45 = .ok (.dup, 1) := by decide +kernel
theorem d_X_head_46 : decode b_X_head 46 = .ok (.getfield 59, 3) := by decide +kernel
theorem d_X_head_49 : decode b_X_head 49 = .ok (.iconst 1, 1) := by decide +kernel
theorem d_X_head_50 : decode b_X_head 50 = .ok (.iadd, 1) := by decide +kernel
theorem d_X_head_51 : decode b_X_head 51 = .ok (.putfield 59, 3) := by decide +kernel
theorem d_X_head_54 : decode b_X_head 54 = .ok (.aload_n 0, 1) := by decide +kernel
theorem d_X_head_55 : decode b_X_head 55 = .ok (.getfield 59, 3) := by decide +kernel
theorem d_X_head_58 : decode b_X_head 58 = .ok (.iconst 1, 1) := by decide +kernel
theorem d_X_head_59 : decode b_X_head 59 = .ok (.isub, 1) := by decide +kernel
theorem d_X_head_60 : decode b_X_head 60 = .ok (.ireturn, 1) := by decide +kernel
abbrev b_X_set : ByteArray := prog_1_method_8_code
def y_X_set : MethodName := ⟨"RoundAndRound", "set", "(III)I"⟩
theorem d_X_set_0 : decode b_X_set 0 = .ok (.aload_n 0, 1) := by decide +kernel
theorem d_X_set_1 : decode b_X_set 1 = .ok (.iload_n 1, 1) := by decide +kernel
theorem d_X_set_2 : decode b_X_set 2 = .ok (.invokevirtual 113, 3) := by decide +kernel
theorem d_X_set_5 : decode b_X_set 5 = .ok (.ifCond .ne 6, 3) := by decide +kernel
theorem d_X_set_8 : decode b_X_set 8 = .ok (.ldc 139, 2) := by decide +kernel
theorem d_X_set_10 : decode b_X_set 10 = .ok (.ireturn, 1) := by decide +kernel
theorem d_X_set_11 : decode b_X_set 11 = .ok (.aload_n 0, 1) := by decide +kernel
theorem d_X_set_12 : decode b_X_set 12 = .ok (.iload_n 1, 1) := by decide +kernel
theorem d_X_set_13 : decode b_X_set 13 = .ok (.invokevirtual 124, 3) := by decide +kernel
theorem d_X_set_16 : decode b_X_set 16 = .ok (.astore 4, 2) := by decide +kernel
theorem d_X_set_18 : decode b_X_set 18 = .ok (.iload_n 2, 1) := by decide +kernel
theorem d_X_set_19 : decode b_X_set 19 = .ok (.ifCond .ne 32, 3) := by decide +kernel
theorem d_X_set_22 : decode b_X_set 22 = .ok (.iload_n 3, 1) := by decide +kernel
theorem d_X_set_23 : decode b_X_set 23 = .ok (.sipush (-9999), 3) := by decide +kernel
theorem d_X_set_26 : decode b_X_set 26 = .ok (.sipush (9999), 3) := by decide +kernel
theorem d_X_set_29 : decode b_X_set 29 = .ok (.invokestatic 105, 3) := by decide +kernel
theorem d_X_set_32 : decode b_X_set 32 = .ok (.ifCond .eq 19, 3) := by decide +kernel
theorem d_X_set_35 : decode b_X_set 35 = .ok (.aload 4, 2) := by decide +kernel
theorem d_X_set_37 : decode b_X_set 37 = .ok (.getfield 140, 3) := by decide +kernel
theorem d_X_set_40 : decode b_X_set 40 = .ok (.istore 5, 2) := by decide +kernel
theorem d_X_set_42 : decode b_X_set 42 = .ok (.aload 4, 2) := by decide +kernel
theorem d_X_set_44 : decode b_X_set 44 = .ok (.iload_n 3, 1) := by decide +kernel
theorem d_X_set_45 : decode b_X_set 45 = .ok (.putfield 140, 3) := by decide +kernel
theorem d_X_set_48 : decode b_X_set 48 = .ok (.goto 68, 3) := by decide +kernel
theorem d_X_set_51 : decode b_X_set 51 = .ok (.iload_n 2, 1) := by decide +kernel
theorem d_X_set_52 : decode b_X_set 52 = .ok (.iconst 1, 1) := by decide +kernel
theorem d_X_set_53 : decode b_X_set 53 = .ok (.if_icmp .ne 29, 3) := by decide +kernel
theorem d_X_set_56 : decode b_X_set 56 = .ok (.iload_n 3, 1) := by decide +kernel
theorem d_X_set_57 : decode b_X_set 57 = .ok (.iconst 0, 1) := by decide +kernel
theorem d_X_set_58 : decode b_X_set 58 = .ok (.bipush (9), 2) := by decide +kernel
theorem d_X_set_60 : decode b_X_set 60 = .ok (.invokestatic 105, 3) := by decide +kernel
theorem d_X_set_63 : decode b_X_set 63 = .ok (.ifCond .eq 19, 3) := by decide +kernel
theorem d_X_set_66 : decode b_X_set 66 = .ok (.aload 4, 2) := by decide +kernel
theorem d_X_set_68 : decode b_X_set 68 = .ok (.getfield 143, 3) := by decide +kernel
theorem d_X_set_71 : decode b_X_set 71 = .ok (.istore 5, 2) := by decide +kernel
theorem d_X_set_73 : decode b_X_set 73 = .ok (.aload 4, 2) := by decide +kernel
theorem d_X_set_75 : decode b_X_set 75 = .ok (.iload_n 3, 1) := by decide +kernel
theorem d_X_set_76 : decode b_X_set 76 = .ok (.putfield 143, 3) := by decide +kernel
theorem d_X_set_79 : decode b_X_set 79 = .ok (.goto 37, 3) := by decide +kernel
theorem d_X_set_82 : decode b_X_set 82 = .ok (.iload_n 2, 1) := by decide +kernel
theorem d_X_set_83 : decode b_X_set 83 = .ok (.iconst 2, 1) := by decide +kernel
theorem d_X_set_84 : decode b_X_set 84 = .ok (.if_icmp .ne 29, 3) := by decide +kernel
theorem d_X_set_87 : decode b_X_set 87 = .ok (.iload_n 3, 1) := by decide +kernel
theorem d_X_set_88 : decode b_X_set 88 = .ok (.iconst 0, 1) := by decide +kernel
theorem d_X_set_89 : decode b_X_set 89 = .ok (.bipush (99), 2) := by decide +kernel
theorem d_X_set_91 : decode b_X_set 91 = .ok (.invokestatic 105, 3) := by decide +kernel
theorem d_X_set_94 : decode b_X_set 94 = .ok (.ifCond .eq 19, 3) := by decide +kernel
theorem d_X_set_97 : decode b_X_set 97 = .ok (.aload 4, 2) := by decide +kernel
theorem d_X_set_99 : decode b_X_set 99 = .ok (.getfield 146, 3) := by decide +kernel
theorem d_X_set_102 : decode b_X_set 102 = .ok (.istore 5, 2) := by decide +kernel
theorem d_X_set_104 : decode b_X_set 104 = .ok (.aload 4, 2) := by decide +kernel
theorem d_X_set_106 : decode b_X_set 106 = .ok (.iload_n 3, 1) := by decide +kernel
theorem d_X_set_107 : decode b_X_set 107 = .ok (.putfield 146, 3) := by decide +kernel
theorem d_X_set_110 : decode b_X_set 110 = .ok (.goto 6, 3) := by decide +kernel
theorem d_X_set_113 : decode b_X_set 113 = .ok (.ldc 149, 2) := by decide +kernel
theorem d_X_set_115 : decode b_X_set 115 = .ok (.ireturn, 1) := by decide +kernel
theorem d_X_set_116 : decode b_X_set 116 = .ok (.iload 5, 2) := by decide +kernel
theorem d_X_set_118 : decode b_X_set 118 = .ok (.ireturn, 1) := by decide +kernel
abbrev b_X_told : ByteArray := prog_1_method_9_code
def y_X_told : MethodName := ⟨"RoundAndRound", "told", "(II)I"⟩
theorem d_X_told_0 : decode b_X_told 0 = .ok (.aload_n 0, 1) := by decide +kernel
theorem d_X_told_1 : decode b_X_told 1 = .ok (.iload_n 1, 1) := by decide +kernel
theorem d_X_told_2 : decode b_X_told 2 = .ok (.invokevirtual 113, 3) := by decide +kernel
theorem d_X_told_5 : decode b_X_told 5 = .ok (.ifCond .ne 6, 3) := by decide +kernel
theorem d_X_told_8 : decode b_X_told 8 = .ok (.ldc 139, 2) := by decide +kernel
theorem d_X_told_10 : decode b_X_told 10 = .ok (.ireturn, 1) := by decide +kernel
theorem d_X_told_11 : decode b_X_told 11 = .ok (.aload_n 0, 1) := by decide +kernel
theorem d_X_told_12 : decode b_X_told 12 = .ok (.iload_n 1, 1) := by decide +kernel
theorem d_X_told_13 : decode b_X_told 13 = .ok (.invokevirtual 124, 3) := by decide +kernel
theorem d_X_told_16 : decode b_X_told 16 = .ok (.astore_n 3, 1) := by decide +kernel
theorem d_X_told_17 : decode b_X_told 17 = .ok (.iload_n 2, 1) := by decide +kernel
theorem d_X_told_18 : decode b_X_told 18 = .ok (.tableswitch 103 (0) (8) #[50, 55, 60, 65, 70, 75, 80, 85, 98], 50) := by decide +kernel
theorem d_X_told_68 : decode b_X_told 68 = .ok (.aload_n 3, 1) := by decide +kernel
theorem d_X_told_69 : decode b_X_told 69 = .ok (.getfield 150, 3) := by decide +kernel
theorem d_X_told_72 : decode b_X_told 72 = .ok (.ireturn, 1) := by decide +kernel
theorem d_X_told_73 : decode b_X_told 73 = .ok (.aload_n 3, 1) := by decide +kernel
theorem d_X_told_74 : decode b_X_told 74 = .ok (.getfield 153, 3) := by decide +kernel
theorem d_X_told_77 : decode b_X_told 77 = .ok (.ireturn, 1) := by decide +kernel
theorem d_X_told_78 : decode b_X_told 78 = .ok (.aload_n 3, 1) := by decide +kernel
theorem d_X_told_79 : decode b_X_told 79 = .ok (.getfield 140, 3) := by decide +kernel
theorem d_X_told_82 : decode b_X_told 82 = .ok (.ireturn, 1) := by decide +kernel
theorem d_X_told_83 : decode b_X_told 83 = .ok (.aload_n 3, 1) := by decide +kernel
theorem d_X_told_84 : decode b_X_told 84 = .ok (.getfield 143, 3) := by decide +kernel
theorem d_X_told_87 : decode b_X_told 87 = .ok (.ireturn, 1) := by decide +kernel
theorem d_X_told_88 : decode b_X_told 88 = .ok (.aload_n 3, 1) := by decide +kernel
theorem d_X_told_89 : decode b_X_told 89 = .ok (.getfield 146, 3) := by decide +kernel
theorem d_X_told_92 : decode b_X_told 92 = .ok (.ireturn, 1) := by decide +kernel
theorem d_X_told_93 : decode b_X_told 93 = .ok (.aload_n 3, 1) := by decide +kernel
theorem d_X_told_94 : decode b_X_told 94 = .ok (.getfield 156, 3) := by decide +kernel
theorem d_X_told_97 : decode b_X_told 97 = .ok (.ireturn, 1) := by decide +kernel
theorem d_X_told_98 : decode b_X_told 98 = .ok (.aload_n 3, 1) := by decide +kernel
theorem d_X_told_99 : decode b_X_told 99 = .ok (.getfield 159, 3) := by decide +kernel
theorem d_X_told_102 : decode b_X_told 102 = .ok (.ireturn, 1) := by decide +kernel
theorem d_X_told_103 : decode b_X_told 103 = .ok (.aload_n 3, 1) := by decide +kernel
theorem d_X_told_104 : decode b_X_told 104 = .ok (.getfield 162, 3) := by decide +kernel
theorem d_X_told_107 : decode b_X_told 107 = .ok (.ifCond .eq 7, 3) := by decide +kernel
theorem d_X_told_110 : decode b_X_told 110 = .ok (.iconst 1, 1) := by decide +kernel
theorem d_X_told_111 : decode b_X_told 111 = .ok (.goto 4, 3) := by decide +kernel
theorem d_X_told_114 : decode b_X_told 114 = .ok (.iconst 0, 1) := by decide +kernel
theorem d_X_told_115 : decode b_X_told 115 = .ok (.ireturn, 1) := by decide +kernel
theorem d_X_told_116 : decode b_X_told 116 = .ok (.aload_n 3, 1) := by decide +kernel
theorem d_X_told_117 : decode b_X_told 117 = .ok (.invokevirtual 166, 3) := by decide +kernel
theorem d_X_told_120 : decode b_X_told 120 = .ok (.ireturn, 1) := by decide +kernel
theorem d_X_told_121 : decode b_X_told 121 = .ok (.ldc 149, 2) := by decide +kernel
theorem d_X_told_123 : decode b_X_told 123 = .ok (.ireturn, 1) := by decide +kernel
abbrev b_X_turn : ByteArray := prog_1_method_10_code
def y_X_turn : MethodName := ⟨"RoundAndRound", "turn", "(III)I"⟩
theorem d_X_turn_0 : decode b_X_turn 0 = .ok (.aload_n 0, 1) := by decide +kernel
theorem d_X_turn_1 : decode b_X_turn 1 = .ok (.iload_n 1, 1) := by decide +kernel
theorem d_X_turn_2 : decode b_X_turn 2 = .ok (.invokevirtual 113, 3) := by decide +kernel
theorem d_X_turn_5 : decode b_X_turn 5 = .ok (.ifCond .ne 6, 3) := by decide +kernel
theorem d_X_turn_8 : decode b_X_turn 8 = .ok (.ldc 139, 2) := by decide +kernel
theorem d_X_turn_10 : decode b_X_turn 10 = .ok (.ireturn, 1) := by decide +kernel
theorem d_X_turn_11 : decode b_X_turn 11 = .ok (.iload_n 2, 1) := by decide +kernel
theorem d_X_turn_12 : decode b_X_turn 12 = .ok (.invokestatic 169, 3) := by decide +kernel
theorem d_X_turn_15 : decode b_X_turn 15 = .ok (.ifCond .eq 10, 3) := by decide +kernel
theorem d_X_turn_18 : decode b_X_turn 18 = .ok (.iload_n 3, 1) := by decide +kernel
theorem d_X_turn_19 : decode b_X_turn 19 = .ok (.invokestatic 172, 3) := by decide +kernel
theorem d_X_turn_22 : decode b_X_turn 22 = .ok (.ifCond .ne 6, 3) := by decide +kernel
theorem d_X_turn_25 : decode b_X_turn 25 = .ok (.ldc 149, 2) := by decide +kernel
theorem d_X_turn_27 : decode b_X_turn 27 = .ok (.ireturn, 1) := by decide +kernel
theorem d_X_turn_28 : decode b_X_turn 28 = .ok (.aload_n 0, 1) := by decide +kernel
theorem d_X_turn_29 : decode b_X_turn 29 = .ok (.iload_n 1, 1) := by decide +kernel
theorem d_X_turn_30 : decode b_X_turn 30 = .ok (.invokevirtual 124, 3) := by decide +kernel
theorem d_X_turn_33 : decode b_X_turn 33 = .ok (.astore 4, 2) := by decide +kernel
theorem d_X_turn_35 : decode b_X_turn 35 = .ok (.aload 4, 2) := by decide +kernel
theorem d_X_turn_37 : decode b_X_turn 37 = .ok (.aload_n 0, 1) := by decide +kernel
theorem d_X_turn_38 : decode b_X_turn 38 = .ok (.invokevirtual 120, 3) := by decide +kernel
theorem d_X_turn_41 : decode b_X_turn 41 = .ok (.iload_n 2, 1) := by decide +kernel
theorem d_X_turn_42 : decode b_X_turn 42 = .ok (.iload_n 3, 1) := by decide +kernel
theorem d_X_turn_43 : decode b_X_turn 43 = .ok (.invokevirtual 175, 3) := by decide +kernel
theorem d_X_turn_46 : decode b_X_turn 46 = .ok (.aload 4, 2) := by decide +kernel
theorem d_X_turn_48 : decode b_X_turn 48 = .ok (.aload 4, 2) := by decide +kernel
theorem d_X_turn_50 : decode b_X_turn 50 = .ok (.getfield 146, 3) := by decide +kernel
theorem d_X_turn_53 : decode b_X_turn 53 = .ok (.iconst 1, 1) := by decide +kernel
theorem d_X_turn_54 : decode b_X_turn 54 = .ok (.iadd, 1) := by decide +kernel
theorem d_X_turn_55 : decode b_X_turn 55 = .ok (.bipush (99), 2) := by decide +kernel
theorem d_X_turn_57 : decode b_X_turn 57 = .ok (.invokestatic 179, 3) := by decide +kernel
theorem d_X_turn_60 : decode b_X_turn 60 = .ok (.putfield 146, 3) := by decide +kernel
theorem d_X_turn_63 : decode b_X_turn 63 = .ok (.aload 4, 2) := by decide +kernel
theorem d_X_turn_65 : decode b_X_turn 65 = .ok (.getfield 140, 3) := by decide +kernel
theorem d_X_turn_68 : decode b_X_turn 68 = .ok (.ireturn, 1) := by decide +kernel
abbrev b_X_rest : ByteArray := prog_1_method_11_code
def y_X_rest : MethodName := ⟨"RoundAndRound", "rest", "(III)I"⟩
theorem d_X_rest_0 : decode b_X_rest 0 = .ok (.aload_n 0, 1) := by decide +kernel
theorem d_X_rest_1 : decode b_X_rest 1 = .ok (.iload_n 1, 1) := by decide +kernel
theorem d_X_rest_2 : decode b_X_rest 2 = .ok (.invokevirtual 113, 3) := by decide +kernel
theorem d_X_rest_5 : decode b_X_rest 5 = .ok (.ifCond .ne 6, 3) := by decide +kernel
theorem d_X_rest_8 : decode b_X_rest 8 = .ok (.ldc 139, 2) := by decide +kernel
theorem d_X_rest_10 : decode b_X_rest 10 = .ok (.ireturn, 1) := by decide +kernel
theorem d_X_rest_11 : decode b_X_rest 11 = .ok (.iload_n 2, 1) := by decide +kernel
theorem d_X_rest_12 : decode b_X_rest 12 = .ok (.invokestatic 185, 3) := by decide +kernel
theorem d_X_rest_15 : decode b_X_rest 15 = .ok (.ifCond .eq 12, 3) := by decide +kernel
theorem d_X_rest_18 : decode b_X_rest 18 = .ok (.iload_n 3, 1) := by decide +kernel
theorem d_X_rest_19 : decode b_X_rest 19 = .ok (.iconst 0, 1) := by decide +kernel
theorem d_X_rest_20 : decode b_X_rest 20 = .ok (.iconst 1, 1) := by decide +kernel
theorem d_X_rest_21 : decode b_X_rest 21 = .ok (.invokestatic 105, 3) := by decide +kernel
theorem d_X_rest_24 : decode b_X_rest 24 = .ok (.ifCond .ne 6, 3) := by decide +kernel
theorem d_X_rest_27 : decode b_X_rest 27 = .ok (.ldc 149, 2) := by decide +kernel
theorem d_X_rest_29 : decode b_X_rest 29 = .ok (.ireturn, 1) := by decide +kernel
theorem d_X_rest_30 : decode b_X_rest 30 = .ok (.aload_n 0, 1) := by decide +kernel
theorem d_X_rest_31 : decode b_X_rest 31 = .ok (.iload_n 1, 1) := by decide +kernel
theorem d_X_rest_32 : decode b_X_rest 32 = .ok (.invokevirtual 124, 3) := by decide +kernel
theorem d_X_rest_35 : decode b_X_rest 35 = .ok (.astore 4, 2) := by decide +kernel
theorem d_X_rest_37 : decode b_X_rest 37 = .ok (.aload 4, 2) := by decide +kernel
theorem d_X_rest_39 : decode b_X_rest 39 = .ok (.aload_n 0, 1) := by decide +kernel
theorem d_X_rest_40 : decode b_X_rest 40 = .ok (.invokevirtual 120, 3) := by decide +kernel
theorem d_X_rest_43 : decode b_X_rest 43 = .ok (.iload_n 2, 1) := by decide +kernel
theorem d_X_rest_44 : decode b_X_rest 44 = .ok (.iload_n 3, 1) := by decide +kernel
theorem d_X_rest_45 : decode b_X_rest 45 = .ok (.invokevirtual 188, 3) := by decide +kernel
theorem d_X_rest_48 : decode b_X_rest 48 = .ok (.aload 4, 2) := by decide +kernel
theorem d_X_rest_50 : decode b_X_rest 50 = .ok (.getfield 140, 3) := by decide +kernel
theorem d_X_rest_53 : decode b_X_rest 53 = .ok (.ireturn, 1) := by decide +kernel
abbrev b_X_walk : ByteArray := prog_1_method_12_code
def y_X_walk : MethodName := ⟨"RoundAndRound", "walk", "(III)I"⟩
theorem d_X_walk_0 : decode b_X_walk 0 = .ok (.aload_n 0, 1) := by decide +kernel
theorem d_X_walk_1 : decode b_X_walk 1 = .ok (.iload_n 1, 1) := by decide +kernel
theorem d_X_walk_2 : decode b_X_walk 2 = .ok (.invokevirtual 113, 3) := by decide +kernel
theorem d_X_walk_5 : decode b_X_walk 5 = .ok (.ifCond .ne 6, 3) := by decide +kernel
theorem d_X_walk_8 : decode b_X_walk 8 = .ok (.ldc 139, 2) := by decide +kernel
theorem d_X_walk_10 : decode b_X_walk 10 = .ok (.ireturn, 1) := by decide +kernel
theorem d_X_walk_11 : decode b_X_walk 11 = .ok (.iload_n 2, 1) := by decide +kernel
theorem d_X_walk_12 : decode b_X_walk 12 = .ok (.invokestatic 185, 3) := by decide +kernel
theorem d_X_walk_15 : decode b_X_walk 15 = .ok (.ifCond .eq 11, 3) := by decide +kernel
theorem d_X_walk_18 : decode b_X_walk 18 = .ok (.iload_n 3, 1) := by decide +kernel
theorem d_X_walk_19 : decode b_X_walk 19 = .ok (.iconst 1, 1) := by decide +kernel
theorem d_X_walk_20 : decode b_X_walk 20 = .ok (.invokestatic 116, 3) := by decide +kernel
theorem d_X_walk_23 : decode b_X_walk 23 = .ok (.ifCond .ne 6, 3) := by decide +kernel
theorem d_X_walk_26 : decode b_X_walk 26 = .ok (.ldc 149, 2) := by decide +kernel
theorem d_X_walk_28 : decode b_X_walk 28 = .ok (.ireturn, 1) := by decide +kernel
theorem d_X_walk_29 : decode b_X_walk 29 = .ok (.aload_n 0, 1) := by decide +kernel
theorem d_X_walk_30 : decode b_X_walk 30 = .ok (.iload_n 1, 1) := by decide +kernel
theorem d_X_walk_31 : decode b_X_walk 31 = .ok (.invokevirtual 124, 3) := by decide +kernel
theorem d_X_walk_34 : decode b_X_walk 34 = .ok (.astore 4, 2) := by decide +kernel
theorem d_X_walk_36 : decode b_X_walk 36 = .ok (.aload 4, 2) := by decide +kernel
theorem d_X_walk_38 : decode b_X_walk 38 = .ok (.aload_n 0, 1) := by decide +kernel
theorem d_X_walk_39 : decode b_X_walk 39 = .ok (.invokevirtual 120, 3) := by decide +kernel
theorem d_X_walk_42 : decode b_X_walk 42 = .ok (.iload_n 2, 1) := by decide +kernel
theorem d_X_walk_43 : decode b_X_walk 43 = .ok (.iload_n 3, 1) := by decide +kernel
theorem d_X_walk_44 : decode b_X_walk 44 = .ok (.bipush (10), 2) := by decide +kernel
theorem d_X_walk_46 : decode b_X_walk 46 = .ok (.idiv, 1) := by decide +kernel
theorem d_X_walk_47 : decode b_X_walk 47 = .ok (.iload_n 3, 1) := by decide +kernel
theorem d_X_walk_48 : decode b_X_walk 48 = .ok (.bipush (10), 2) := by decide +kernel
theorem d_X_walk_50 : decode b_X_walk 50 = .ok (.irem, 1) := by decide +kernel
theorem d_X_walk_51 : decode b_X_walk 51 = .ok (.invokevirtual 191, 3) := by decide +kernel
theorem d_X_walk_54 : decode b_X_walk 54 = .ok (.pop, 1) := by decide +kernel
theorem d_X_walk_55 : decode b_X_walk 55 = .ok (.aload 4, 2) := by decide +kernel
theorem d_X_walk_57 : decode b_X_walk 57 = .ok (.getfield 159, 3) := by decide +kernel
theorem d_X_walk_60 : decode b_X_walk 60 = .ok (.ireturn, 1) := by decide +kernel
abbrev b_X_up : ByteArray := prog_1_method_13_code
def y_X_up : MethodName := ⟨"RoundAndRound", "up", "(I)I"⟩
theorem d_X_up_0 : decode b_X_up 0 = .ok (.aload_n 0, 1) := by decide +kernel
theorem d_X_up_1 : decode b_X_up 1 = .ok (.iload_n 1, 1) := by decide +kernel
theorem d_X_up_2 : decode b_X_up 2 = .ok (.invokevirtual 113, 3) := by decide +kernel
theorem d_X_up_5 : decode b_X_up 5 = .ok (.ifCond .ne 6, 3) := by decide +kernel
theorem d_X_up_8 : decode b_X_up 8 = .ok (.ldc 139, 2) := by decide +kernel
theorem d_X_up_10 : decode b_X_up 10 = .ok (.ireturn, 1) := by decide +kernel
theorem d_X_up_11 : decode b_X_up 11 = .ok (.aload_n 0, 1) := by decide +kernel
theorem d_X_up_12 : decode b_X_up 12 = .ok (.iload_n 1, 1) := by decide +kernel
theorem d_X_up_13 : decode b_X_up 13 = .ok (.invokevirtual 124, 3) := by decide +kernel
theorem d_X_up_16 : decode b_X_up 16 = .ok (.astore_n 2, 1) := by decide +kernel
theorem d_X_up_17 : decode b_X_up 17 = .ok (.aload_n 2, 1) := by decide +kernel
theorem d_X_up_18 : decode b_X_up 18 = .ok (.getfield 159, 3) := by decide +kernel
theorem d_X_up_21 : decode b_X_up 21 = .ok (.istore_n 3, 1) := by decide +kernel
theorem d_X_up_22 : decode b_X_up 22 = .ok (.aload_n 2, 1) := by decide +kernel
theorem d_X_up_23 : decode b_X_up 23 = .ok (.invokevirtual 195, 3) := by decide +kernel
theorem d_X_up_26 : decode b_X_up 26 = .ok (.iload_n 3, 1) := by decide +kernel
theorem d_X_up_27 : decode b_X_up 27 = .ok (.ireturn, 1) := by decide +kernel
abbrev b_X_ends : ByteArray := prog_1_method_14_code
def y_X_ends : MethodName := ⟨"RoundAndRound", "ends", "(IIIII)I"⟩
theorem d_X_ends_0 : decode b_X_ends 0 = .ok (.aload_n 0, 1) := by decide +kernel
theorem d_X_ends_1 : decode b_X_ends 1 = .ok (.iload_n 1, 1) := by decide +kernel
theorem d_X_ends_2 : decode b_X_ends 2 = .ok (.invokevirtual 113, 3) := by decide +kernel
theorem d_X_ends_5 : decode b_X_ends 5 = .ok (.ifCond .ne 6, 3) := by decide +kernel
theorem d_X_ends_8 : decode b_X_ends 8 = .ok (.ldc 139, 2) := by decide +kernel
theorem d_X_ends_10 : decode b_X_ends 10 = .ok (.ireturn, 1) := by decide +kernel
theorem d_X_ends_11 : decode b_X_ends 11 = .ok (.iload_n 2, 1) := by decide +kernel
theorem d_X_ends_12 : decode b_X_ends 12 = .ok (.invokestatic 169, 3) := by decide +kernel
theorem d_X_ends_15 : decode b_X_ends 15 = .ok (.ifCond .eq 28, 3) := by decide +kernel
theorem d_X_ends_18 : decode b_X_ends 18 = .ok (.iload_n 3, 1) := by decide +kernel
theorem d_X_ends_19 : decode b_X_ends 19 = .ok (.invokestatic 198, 3) := by decide +kernel
theorem d_X_ends_22 : decode b_X_ends 22 = .ok (.ifCond .eq 21, 3) := by decide +kernel
theorem d_X_ends_25 : decode b_X_ends 25 = .ok (.iload 4, 2) := by decide +kernel
theorem d_X_ends_27 : decode b_X_ends 27 = .ok (.invokestatic 185, 3) := by decide +kernel
theorem d_X_ends_30 : decode b_X_ends 30 = .ok (.ifCond .eq 13, 3) := by decide +kernel
theorem d_X_ends_33 : decode b_X_ends 33 = .ok (.iload 5, 2) := by decide +kernel
theorem d_X_ends_35 : decode b_X_ends 35 = .ok (.iconst 0, 1) := by decide +kernel
theorem d_X_ends_36 : decode b_X_ends 36 = .ok (.iconst 3, 1) := by decide +kernel
theorem d_X_ends_37 : decode b_X_ends 37 = .ok (.invokestatic 105, 3) := by decide +kernel
theorem d_X_ends_40 : decode b_X_ends 40 = .ok (.ifCond .ne 6, 3) := by decide +kernel
theorem d_X_ends_43 : decode b_X_ends 43 = .ok (.ldc 149, 2) := by decide +kernel
theorem d_X_ends_45 : decode b_X_ends 45 = .ok (.ireturn, 1) := by decide +kernel
theorem d_X_ends_46 : decode b_X_ends 46 = .ok (.aload_n 0, 1) := by decide +kernel
theorem d_X_ends_47 : decode b_X_ends 47 = .ok (.aload_n 0, 1) := by decide +kernel
theorem d_X_ends_48 : decode b_X_ends 48 = .ok (.iload_n 1, 1) := by decide +kernel
theorem d_X_ends_49 : decode b_X_ends 49 = .ok (.invokevirtual 124, 3) := by decide +kernel
theorem d_X_ends_52 : decode b_X_ends 52 = .ok (.aload_n 0, 1) := by decide +kernel
theorem d_X_ends_53 : decode b_X_ends 53 = .ok (.invokevirtual 120, 3) := by decide +kernel
theorem d_X_ends_56 : decode b_X_ends 56 = .ok (.iload_n 2, 1) := by decide +kernel
theorem d_X_ends_57 : decode b_X_ends 57 = .ok (.iload_n 3, 1) := by decide +kernel
theorem d_X_ends_58 : decode b_X_ends 58 = .ok (.bipush (10), 2) := by decide +kernel
theorem d_X_ends_60 : decode b_X_ends 60 = .ok (.idiv, 1) := by decide +kernel
theorem d_X_ends_61 : decode b_X_ends 61 = .ok (.bipush (10), 2) := by decide +kernel
theorem d_X_ends_63 : decode b_X_ends 63 = .ok (.irem, 1) := by decide +kernel
theorem d_X_ends_64 : decode b_X_ends 64 = .ok (.invokevirtual 201, 3) := by decide +kernel
theorem d_X_ends_67 : decode b_X_ends 67 = .ok (.aload_n 0, 1) := by decide +kernel
theorem d_X_ends_68 : decode b_X_ends 68 = .ok (.getfield 19, 3) := by decide +kernel
theorem d_X_ends_71 : decode b_X_ends 71 = .ok (.aload_n 0, 1) := by decide +kernel
theorem d_X_ends_72 : decode b_X_ends 72 = .ok (.invokevirtual 120, 3) := by decide +kernel
theorem d_X_ends_75 : decode b_X_ends 75 = .ok (.iload_n 3, 1) := by decide +kernel
theorem d_X_ends_76 : decode b_X_ends 76 = .ok (.bipush (100), 2) := by decide +kernel
theorem d_X_ends_78 : decode b_X_ends 78 = .ok (.idiv, 1) := by decide +kernel
theorem d_X_ends_79 : decode b_X_ends 79 = .ok (.iconst 1, 1) := by decide +kernel
theorem d_X_ends_80 : decode b_X_ends 80 = .ok (.invokevirtual 188, 3) := by decide +kernel
theorem d_X_ends_83 : decode b_X_ends 83 = .ok (.aload_n 0, 1) := by decide +kernel
theorem d_X_ends_84 : decode b_X_ends 84 = .ok (.getfield 19, 3) := by decide +kernel
theorem d_X_ends_87 : decode b_X_ends 87 = .ok (.aload_n 0, 1) := by decide +kernel
theorem d_X_ends_88 : decode b_X_ends 88 = .ok (.invokevirtual 120, 3) := by decide +kernel
theorem d_X_ends_91 : decode b_X_ends 91 = .ok (.iload 4, 2) := by decide +kernel
theorem d_X_ends_93 : decode b_X_ends 93 = .ok (.iload_n 3, 1) := by decide +kernel
theorem d_X_ends_94 : decode b_X_ends 94 = .ok (.bipush (10), 2) := by decide +kernel
theorem d_X_ends_96 : decode b_X_ends 96 = .ok (.irem, 1) := by decide +kernel
theorem d_X_ends_97 : decode b_X_ends 97 = .ok (.iconst 1, 1) := by decide +kernel
theorem d_X_ends_98 : decode b_X_ends 98 = .ok (.invokevirtual 191, 3) := by decide +kernel
theorem d_X_ends_101 : decode b_X_ends 101 = .ok (.istore 6, 2) := by decide +kernel
theorem d_X_ends_103 : decode b_X_ends 103 = .ok (.iload 5, 2) := by decide +kernel
theorem d_X_ends_105 : decode b_X_ends 105 = .ok (.tableswitch 51 (0) (2) #[27, 35, 43], 27) := by decide +kernel
theorem d_X_ends_132 : decode b_X_ends 132 = .ok (.aload_n 0, 1) := by decide +kernel
theorem d_X_ends_133 : decode b_X_ends 133 = .ok (.getfield 19, 3) := by decide +kernel
theorem d_X_ends_136 : decode b_X_ends 136 = .ok (.getfield 140, 3) := by decide +kernel
theorem d_X_ends_139 : decode b_X_ends 139 = .ok (.ireturn, 1) := by decide +kernel
theorem d_X_ends_140 : decode b_X_ends 140 = .ok (.aload_n 0, 1) := by decide +kernel
theorem d_X_ends_141 : decode b_X_ends 141 = .ok (.getfield 19, 3) := by decide +kernel
theorem d_X_ends_144 : decode b_X_ends 144 = .ok (.getfield 159, 3) := by decide +kernel
theorem d_X_ends_147 : decode b_X_ends 147 = .ok (.ireturn, 1) := by decide +kernel
theorem d_X_ends_148 : decode b_X_ends 148 = .ok (.aload_n 0, 1) := by decide +kernel
theorem d_X_ends_149 : decode b_X_ends 149 = .ok (.getfield 19, 3) := by decide +kernel
theorem d_X_ends_152 : decode b_X_ends 152 = .ok (.getfield 156, 3) := by decide +kernel
theorem d_X_ends_155 : decode b_X_ends 155 = .ok (.ireturn, 1) := by decide +kernel
theorem d_X_ends_156 : decode b_X_ends 156 = .ok (.iload 6, 2) := by decide +kernel
theorem d_X_ends_158 : decode b_X_ends 158 = .ok (.ireturn, 1) := by decide +kernel
abbrev b_X_stands : ByteArray := prog_1_method_15_code
def y_X_stands : MethodName := ⟨"RoundAndRound", "stands", "(II)I"⟩
theorem d_X_stands_0 : decode b_X_stands 0 = .ok (.aload_n 0, 1) := by decide +kernel
theorem d_X_stands_1 : decode b_X_stands 1 = .ok (.iload_n 1, 1) := by decide +kernel
theorem d_X_stands_2 : decode b_X_stands 2 = .ok (.invokevirtual 113, 3) := by decide +kernel
theorem d_X_stands_5 : decode b_X_stands 5 = .ok (.ifCond .ne 6, 3) := by decide +kernel
theorem d_X_stands_8 : decode b_X_stands 8 = .ok (.ldc 139, 2) := by decide +kernel
theorem d_X_stands_10 : decode b_X_stands 10 = .ok (.ireturn, 1) := by decide +kernel
theorem d_X_stands_11 : decode b_X_stands 11 = .ok (.iload_n 2, 1) := by decide +kernel
theorem d_X_stands_12 : decode b_X_stands 12 = .ok (.invokestatic 172, 3) := by decide +kernel
theorem d_X_stands_15 : decode b_X_stands 15 = .ok (.ifCond .ne 6, 3) := by decide +kernel
theorem d_X_stands_18 : decode b_X_stands 18 = .ok (.ldc 149, 2) := by decide +kernel
theorem d_X_stands_20 : decode b_X_stands 20 = .ok (.ireturn, 1) := by decide +kernel
theorem d_X_stands_21 : decode b_X_stands 21 = .ok (.aload_n 0, 1) := by decide +kernel
theorem d_X_stands_22 : decode b_X_stands 22 = .ok (.aload_n 0, 1) := by decide +kernel
theorem d_X_stands_23 : decode b_X_stands 23 = .ok (.iload_n 1, 1) := by decide +kernel
theorem d_X_stands_24 : decode b_X_stands 24 = .ok (.invokevirtual 124, 3) := by decide +kernel
theorem d_X_stands_27 : decode b_X_stands 27 = .ok (.invokevirtual 205, 3) := by decide +kernel
theorem d_X_stands_30 : decode b_X_stands 30 = .ok (.iconst 0, 1) := by decide +kernel
theorem d_X_stands_31 : decode b_X_stands 31 = .ok (.istore_n 3, 1) := by decide +kernel
theorem d_X_stands_32 : decode b_X_stands 32 = .ok (.iconst 1, 1) := by decide +kernel
theorem d_X_stands_33 : decode b_X_stands 33 = .ok (.istore 4, 2) := by decide +kernel
theorem d_X_stands_35 : decode b_X_stands 35 = .ok (.iload 4, 2) := by decide +kernel
theorem d_X_stands_37 : decode b_X_stands 37 = .ok (.bipush (40), 2) := by decide +kernel
theorem d_X_stands_39 : decode b_X_stands 39 = .ok (.if_icmp .gt 35, 3) := by decide +kernel
theorem d_X_stands_42 : decode b_X_stands 42 = .ok (.aload_n 0, 1) := by decide +kernel
theorem d_X_stands_43 : decode b_X_stands 43 = .ok (.getfield 19, 3) := by decide +kernel
theorem d_X_stands_46 : decode b_X_stands 46 = .ok (.aload_n 0, 1) := by decide +kernel
theorem d_X_stands_47 : decode b_X_stands 47 = .ok (.invokevirtual 120, 3) := by decide +kernel
theorem d_X_stands_50 : decode b_X_stands 50 = .ok (.iload_n 2, 1) := by decide +kernel
theorem d_X_stands_51 : decode b_X_stands 51 = .ok (.iconst 1, 1) := by decide +kernel
theorem d_X_stands_52 : decode b_X_stands 52 = .ok (.invokevirtual 209, 3) := by decide +kernel
theorem d_X_stands_55 : decode b_X_stands 55 = .ok (.aload_n 0, 1) := by decide +kernel
theorem d_X_stands_56 : decode b_X_stands 56 = .ok (.getfield 19, 3) := by decide +kernel
theorem d_X_stands_59 : decode b_X_stands 59 = .ok (.invokevirtual 212, 3) := by decide +kernel
theorem d_X_stands_62 : decode b_X_stands 62 = .ok (.ifCond .ne 6, 3) := by decide +kernel
theorem d_X_stands_65 : decode b_X_stands 65 = .ok (.iload 4, 2) := by decide +kernel
theorem d_X_stands_67 : decode b_X_stands 67 = .ok (.istore_n 3, 1) := by decide +kernel
theorem d_X_stands_68 : decode b_X_stands 68 = .ok (.iinc 4 (1), 3) := by decide +kernel
theorem d_X_stands_71 : decode b_X_stands 71 = .ok (.goto (-36), 3) := by decide +kernel
theorem d_X_stands_74 : decode b_X_stands 74 = .ok (.iload_n 3, 1) := by decide +kernel
theorem d_X_stands_75 : decode b_X_stands 75 = .ok (.ireturn, 1) := by decide +kernel
abbrev b_X_undo : ByteArray := prog_1_method_16_code
def y_X_undo : MethodName := ⟨"RoundAndRound", "undo", "(III)I"⟩
theorem d_X_undo_0 : decode b_X_undo 0 = .ok (.aload_n 0, 1) := by decide +kernel
theorem d_X_undo_1 : decode b_X_undo 1 = .ok (.iload_n 1, 1) := by decide +kernel
theorem d_X_undo_2 : decode b_X_undo 2 = .ok (.invokevirtual 113, 3) := by decide +kernel
theorem d_X_undo_5 : decode b_X_undo 5 = .ok (.ifCond .ne 6, 3) := by decide +kernel
theorem d_X_undo_8 : decode b_X_undo 8 = .ok (.ldc 139, 2) := by decide +kernel
theorem d_X_undo_10 : decode b_X_undo 10 = .ok (.ireturn, 1) := by decide +kernel
theorem d_X_undo_11 : decode b_X_undo 11 = .ok (.iload_n 2, 1) := by decide +kernel
theorem d_X_undo_12 : decode b_X_undo 12 = .ok (.invokestatic 172, 3) := by decide +kernel
theorem d_X_undo_15 : decode b_X_undo 15 = .ok (.ifCond .eq 12, 3) := by decide +kernel
theorem d_X_undo_18 : decode b_X_undo 18 = .ok (.iload_n 3, 1) := by decide +kernel
theorem d_X_undo_19 : decode b_X_undo 19 = .ok (.iconst 0, 1) := by decide +kernel
theorem d_X_undo_20 : decode b_X_undo 20 = .ok (.iconst 1, 1) := by decide +kernel
theorem d_X_undo_21 : decode b_X_undo 21 = .ok (.invokestatic 105, 3) := by decide +kernel
theorem d_X_undo_24 : decode b_X_undo 24 = .ok (.ifCond .ne 6, 3) := by decide +kernel
theorem d_X_undo_27 : decode b_X_undo 27 = .ok (.ldc 149, 2) := by decide +kernel
theorem d_X_undo_29 : decode b_X_undo 29 = .ok (.ireturn, 1) := by decide +kernel
theorem d_X_undo_30 : decode b_X_undo 30 = .ok (.aload_n 0, 1) := by decide +kernel
theorem d_X_undo_31 : decode b_X_undo 31 = .ok (.aload_n 0, 1) := by decide +kernel
theorem d_X_undo_32 : decode b_X_undo 32 = .ok (.iload_n 1, 1) := by decide +kernel
theorem d_X_undo_33 : decode b_X_undo 33 = .ok (.invokevirtual 124, 3) := by decide +kernel
theorem d_X_undo_36 : decode b_X_undo 36 = .ok (.invokevirtual 205, 3) := by decide +kernel
theorem d_X_undo_39 : decode b_X_undo 39 = .ok (.aload_n 0, 1) := by decide +kernel
theorem d_X_undo_40 : decode b_X_undo 40 = .ok (.getfield 19, 3) := by decide +kernel
theorem d_X_undo_43 : decode b_X_undo 43 = .ok (.getfield 140, 3) := by decide +kernel
theorem d_X_undo_46 : decode b_X_undo 46 = .ok (.ifCond .le 7, 3) := by decide +kernel
theorem d_X_undo_49 : decode b_X_undo 49 = .ok (.iconst (-1), 1) := by decide +kernel
theorem d_X_undo_50 : decode b_X_undo 50 = .ok (.goto 4, 3) := by decide +kernel
theorem d_X_undo_53 : decode b_X_undo 53 = .ok (.iconst 1, 1) := by decide +kernel
theorem d_X_undo_54 : decode b_X_undo 54 = .ok (.istore 4, 2) := by decide +kernel
theorem d_X_undo_56 : decode b_X_undo 56 = .ok (.iconst 0, 1) := by decide +kernel
theorem d_X_undo_57 : decode b_X_undo 57 = .ok (.istore 5, 2) := by decide +kernel
theorem d_X_undo_59 : decode b_X_undo 59 = .ok (.aload_n 0, 1) := by decide +kernel
theorem d_X_undo_60 : decode b_X_undo 60 = .ok (.getfield 19, 3) := by decide +kernel
theorem d_X_undo_63 : decode b_X_undo 63 = .ok (.getfield 140, 3) := by decide +kernel
theorem d_X_undo_66 : decode b_X_undo 66 = .ok (.invokestatic 216, 3) := by decide +kernel
theorem d_X_undo_69 : decode b_X_undo 69 = .ok (.istore 6, 2) := by decide +kernel
theorem d_X_undo_71 : decode b_X_undo 71 = .ok (.iconst 1, 1) := by decide +kernel
theorem d_X_undo_72 : decode b_X_undo 72 = .ok (.istore 7, 2) := by decide +kernel
theorem d_X_undo_74 : decode b_X_undo 74 = .ok (.iload 7, 2) := by decide +kernel
theorem d_X_undo_76 : decode b_X_undo 76 = .ok (.bipush (40), 2) := by decide +kernel
theorem d_X_undo_78 : decode b_X_undo 78 = .ok (.if_icmp .gt 54, 3) := by decide +kernel
theorem d_X_undo_81 : decode b_X_undo 81 = .ok (.aload_n 0, 1) := by decide +kernel
theorem d_X_undo_82 : decode b_X_undo 82 = .ok (.getfield 19, 3) := by decide +kernel
theorem d_X_undo_85 : decode b_X_undo 85 = .ok (.aload_n 0, 1) := by decide +kernel
theorem d_X_undo_86 : decode b_X_undo 86 = .ok (.invokevirtual 120, 3) := by decide +kernel
theorem d_X_undo_89 : decode b_X_undo 89 = .ok (.iload_n 2, 1) := by decide +kernel
theorem d_X_undo_90 : decode b_X_undo 90 = .ok (.iload 4, 2) := by decide +kernel
theorem d_X_undo_92 : decode b_X_undo 92 = .ok (.invokevirtual 209, 3) := by decide +kernel
theorem d_X_undo_95 : decode b_X_undo 95 = .ok (.aload_n 0, 1) := by decide +kernel
theorem d_X_undo_96 : decode b_X_undo 96 = .ok (.getfield 19, 3) := by decide +kernel
theorem d_X_undo_99 : decode b_X_undo 99 = .ok (.getfield 140, 3) := by decide +kernel
theorem d_X_undo_102 : decode b_X_undo 102 = .ok (.invokestatic 216, 3) := by decide +kernel
theorem d_X_undo_105 : decode b_X_undo 105 = .ok (.iload 6, 2) := by decide +kernel
theorem d_X_undo_107 : decode b_X_undo 107 = .ok (.if_icmp .ge 19, 3) := by decide +kernel
theorem d_X_undo_110 : decode b_X_undo 110 = .ok (.aload_n 0, 1) := by decide +kernel
theorem d_X_undo_111 : decode b_X_undo 111 = .ok (.getfield 19, 3) := by decide +kernel
theorem d_X_undo_114 : decode b_X_undo 114 = .ok (.getfield 140, 3) := by decide +kernel
theorem d_X_undo_117 : decode b_X_undo 117 = .ok (.invokestatic 216, 3) := by decide +kernel
theorem d_X_undo_120 : decode b_X_undo 120 = .ok (.istore 6, 2) := by decide +kernel
theorem d_X_undo_122 : decode b_X_undo 122 = .ok (.iload 7, 2) := by decide +kernel
theorem d_X_undo_124 : decode b_X_undo 124 = .ok (.istore 5, 2) := by decide +kernel
theorem d_X_undo_126 : decode b_X_undo 126 = .ok (.iinc 7 (1), 3) := by decide +kernel
theorem d_X_undo_129 : decode b_X_undo 129 = .ok (.goto (-55), 3) := by decide +kernel
theorem d_X_undo_132 : decode b_X_undo 132 = .ok (.iload_n 3, 1) := by decide +kernel
theorem d_X_undo_133 : decode b_X_undo 133 = .ok (.ifCond .ne 8, 3) := by decide +kernel
theorem d_X_undo_136 : decode b_X_undo 136 = .ok (.iload 5, 2) := by decide +kernel
theorem d_X_undo_138 : decode b_X_undo 138 = .ok (.goto 5, 3) := by decide +kernel
theorem d_X_undo_141 : decode b_X_undo 141 = .ok (.iload 6, 2) := by decide +kernel
theorem d_X_undo_143 : decode b_X_undo 143 = .ok (.ireturn, 1) := by decide +kernel
abbrev b_X_fine : ByteArray := prog_1_method_17_code
def y_X_fine : MethodName := ⟨"RoundAndRound", "fine", "(II)I"⟩
theorem d_X_fine_0 : decode b_X_fine 0 = .ok (.aload_n 0, 1) := by decide +kernel
theorem d_X_fine_1 : decode b_X_fine 1 = .ok (.iload_n 1, 1) := by decide +kernel
theorem d_X_fine_2 : decode b_X_fine 2 = .ok (.invokevirtual 113, 3) := by decide +kernel
theorem d_X_fine_5 : decode b_X_fine 5 = .ok (.ifCond .ne 6, 3) := by decide +kernel
theorem d_X_fine_8 : decode b_X_fine 8 = .ok (.ldc 139, 2) := by decide +kernel
theorem d_X_fine_10 : decode b_X_fine 10 = .ok (.ireturn, 1) := by decide +kernel
theorem d_X_fine_11 : decode b_X_fine 11 = .ok (.iload_n 2, 1) := by decide +kernel
theorem d_X_fine_12 : decode b_X_fine 12 = .ok (.iconst 1, 1) := by decide +kernel
theorem d_X_fine_13 : decode b_X_fine 13 = .ok (.sipush (9999), 3) := by decide +kernel
theorem d_X_fine_16 : decode b_X_fine 16 = .ok (.invokestatic 105, 3) := by decide +kernel
theorem d_X_fine_19 : decode b_X_fine 19 = .ok (.ifCond .ne 6, 3) := by decide +kernel
theorem d_X_fine_22 : decode b_X_fine 22 = .ok (.ldc 149, 2) := by decide +kernel
theorem d_X_fine_24 : decode b_X_fine 24 = .ok (.ireturn, 1) := by decide +kernel
theorem d_X_fine_25 : decode b_X_fine 25 = .ok (.aload_n 0, 1) := by decide +kernel
theorem d_X_fine_26 : decode b_X_fine 26 = .ok (.aload_n 0, 1) := by decide +kernel
theorem d_X_fine_27 : decode b_X_fine 27 = .ok (.iload_n 1, 1) := by decide +kernel
theorem d_X_fine_28 : decode b_X_fine 28 = .ok (.invokevirtual 124, 3) := by decide +kernel
theorem d_X_fine_31 : decode b_X_fine 31 = .ok (.invokevirtual 205, 3) := by decide +kernel
theorem d_X_fine_34 : decode b_X_fine 34 = .ok (.iconst 0, 1) := by decide +kernel
theorem d_X_fine_35 : decode b_X_fine 35 = .ok (.istore_n 3, 1) := by decide +kernel
theorem d_X_fine_36 : decode b_X_fine 36 = .ok (.iload_n 3, 1) := by decide +kernel
theorem d_X_fine_37 : decode b_X_fine 37 = .ok (.bipush (60), 2) := by decide +kernel
theorem d_X_fine_39 : decode b_X_fine 39 = .ok (.if_icmp .gt 37, 3) := by decide +kernel
theorem d_X_fine_42 : decode b_X_fine 42 = .ok (.aload_n 0, 1) := by decide +kernel
theorem d_X_fine_43 : decode b_X_fine 43 = .ok (.getfield 19, 3) := by decide +kernel
theorem d_X_fine_46 : decode b_X_fine 46 = .ok (.getfield 140, 3) := by decide +kernel
theorem d_X_fine_49 : decode b_X_fine 49 = .ok (.invokestatic 216, 3) := by decide +kernel
theorem d_X_fine_52 : decode b_X_fine 52 = .ok (.iload_n 2, 1) := by decide +kernel
theorem d_X_fine_53 : decode b_X_fine 53 = .ok (.if_icmp .ge 5, 3) := by decide +kernel
theorem d_X_fine_56 : decode b_X_fine 56 = .ok (.iload_n 3, 1) := by decide +kernel
theorem d_X_fine_57 : decode b_X_fine 57 = .ok (.ireturn, 1) := by decide +kernel
theorem d_X_fine_58 : decode b_X_fine 58 = .ok (.aload_n 0, 1) := by decide +kernel
theorem d_X_fine_59 : decode b_X_fine 59 = .ok (.getfield 19, 3) := by decide +kernel
theorem d_X_fine_62 : decode b_X_fine 62 = .ok (.aload_n 0, 1) := by decide +kernel
theorem d_X_fine_63 : decode b_X_fine 63 = .ok (.invokevirtual 120, 3) := by decide +kernel
theorem d_X_fine_66 : decode b_X_fine 66 = .ok (.iconst 1, 1) := by decide +kernel
theorem d_X_fine_67 : decode b_X_fine 67 = .ok (.invokevirtual 220, 3) := by decide +kernel
theorem d_X_fine_70 : decode b_X_fine 70 = .ok (.iinc 3 (1), 3) := by decide +kernel
theorem d_X_fine_73 : decode b_X_fine 73 = .ok (.goto (-37), 3) := by decide +kernel
theorem d_X_fine_76 : decode b_X_fine 76 = .ok (.iconst (-1), 1) := by decide +kernel
theorem d_X_fine_77 : decode b_X_fine 77 = .ok (.ireturn, 1) := by decide +kernel
abbrev b_X_race : ByteArray := prog_1_method_18_code
def y_X_race : MethodName := ⟨"RoundAndRound", "race", "(IIIII)I"⟩
theorem d_X_race_0 : decode b_X_race 0 = .ok (.aload_n 0, 1) := by decide +kernel
theorem d_X_race_1 : decode b_X_race 1 = .ok (.iload_n 1, 1) := by decide +kernel
theorem d_X_race_2 : decode b_X_race 2 = .ok (.invokevirtual 113, 3) := by decide +kernel
theorem d_X_race_5 : decode b_X_race 5 = .ok (.ifCond .ne 6, 3) := by decide +kernel
theorem d_X_race_8 : decode b_X_race 8 = .ok (.ldc 139, 2) := by decide +kernel
theorem d_X_race_10 : decode b_X_race 10 = .ok (.ireturn, 1) := by decide +kernel
theorem d_X_race_11 : decode b_X_race 11 = .ok (.iload_n 2, 1) := by decide +kernel
theorem d_X_race_12 : decode b_X_race 12 = .ok (.iload_n 3, 1) := by decide +kernel
theorem d_X_race_13 : decode b_X_race 13 = .ok (.iload 4, 2) := by decide +kernel
theorem d_X_race_15 : decode b_X_race 15 = .ok (.iload 5, 2) := by decide +kernel
theorem d_X_race_17 : decode b_X_race 17 = .ok (.invokestatic 224, 3) := by decide +kernel
theorem d_X_race_20 : decode b_X_race 20 = .ok (.ifCond .ne 6, 3) := by decide +kernel
theorem d_X_race_23 : decode b_X_race 23 = .ok (.ldc 149, 2) := by decide +kernel
theorem d_X_race_25 : decode b_X_race 25 = .ok (.ireturn, 1) := by decide +kernel
theorem d_X_race_26 : decode b_X_race 26 = .ok (.aload_n 0, 1) := by decide +kernel
theorem d_X_race_27 : decode b_X_race 27 = .ok (.aload_n 0, 1) := by decide +kernel
theorem d_X_race_28 : decode b_X_race 28 = .ok (.iload_n 1, 1) := by decide +kernel
theorem d_X_race_29 : decode b_X_race 29 = .ok (.invokevirtual 124, 3) := by decide +kernel
theorem d_X_race_32 : decode b_X_race 32 = .ok (.iload_n 2, 1) := by decide +kernel
theorem d_X_race_33 : decode b_X_race 33 = .ok (.iload_n 3, 1) := by decide +kernel
theorem d_X_race_34 : decode b_X_race 34 = .ok (.iload 4, 2) := by decide +kernel
theorem d_X_race_36 : decode b_X_race 36 = .ok (.invokevirtual 228, 3) := by decide +kernel
theorem d_X_race_39 : decode b_X_race 39 = .ok (.istore 6, 2) := by decide +kernel
theorem d_X_race_41 : decode b_X_race 41 = .ok (.iload 6, 2) := by decide +kernel
theorem d_X_race_43 : decode b_X_race 43 = .ok (.ifCond .lt 8, 3) := by decide +kernel
theorem d_X_race_46 : decode b_X_race 46 = .ok (.iload 5, 2) := by decide +kernel
theorem d_X_race_48 : decode b_X_race 48 = .ok (.ifCond .ne 8, 3) := by decide +kernel
theorem d_X_race_51 : decode b_X_race 51 = .ok (.iload 6, 2) := by decide +kernel
theorem d_X_race_53 : decode b_X_race 53 = .ok (.goto 12, 3) := by decide +kernel
theorem d_X_race_56 : decode b_X_race 56 = .ok (.iload 6, 2) := by decide +kernel
theorem d_X_race_58 : decode b_X_race 58 = .ok (.iload_n 3, 1) := by decide +kernel
theorem d_X_race_59 : decode b_X_race 59 = .ok (.iload 4, 2) := by decide +kernel
theorem d_X_race_61 : decode b_X_race 61 = .ok (.invokestatic 232, 3) := by decide +kernel
theorem d_X_race_64 : decode b_X_race 64 = .ok (.iadd, 1) := by decide +kernel
theorem d_X_race_65 : decode b_X_race 65 = .ok (.ireturn, 1) := by decide +kernel
abbrev b_X_wins : ByteArray := prog_1_method_19_code
def y_X_wins : MethodName := ⟨"RoundAndRound", "wins", "(IIII)I"⟩
theorem d_X_wins_0 : decode b_X_wins 0 = .ok (.iload_n 1, 1) := by decide +kernel
theorem d_X_wins_1 : decode b_X_wins 1 = .ok (.iload_n 2, 1) := by decide +kernel
theorem d_X_wins_2 : decode b_X_wins 2 = .ok (.iload_n 3, 1) := by decide +kernel
theorem d_X_wins_3 : decode b_X_wins 3 = .ok (.iload 4, 2) := by decide +kernel
theorem d_X_wins_5 : decode b_X_wins 5 = .ok (.invokestatic 224, 3) := by decide +kernel
theorem d_X_wins_8 : decode b_X_wins 8 = .ok (.ifCond .ne 6, 3) := by decide +kernel
theorem d_X_wins_11 : decode b_X_wins 11 = .ok (.ldc 149, 2) := by decide +kernel
theorem d_X_wins_13 : decode b_X_wins 13 = .ok (.ireturn, 1) := by decide +kernel
theorem d_X_wins_14 : decode b_X_wins 14 = .ok (.iconst (-1), 1) := by decide +kernel
theorem d_X_wins_15 : decode b_X_wins 15 = .ok (.istore 5, 2) := by decide +kernel
theorem d_X_wins_17 : decode b_X_wins 17 = .ok (.iconst (-1), 1) := by decide +kernel
theorem d_X_wins_18 : decode b_X_wins 18 = .ok (.istore 6, 2) := by decide +kernel
theorem d_X_wins_20 : decode b_X_wins 20 = .ok (.iconst 0, 1) := by decide +kernel
theorem d_X_wins_21 : decode b_X_wins 21 = .ok (.istore 7, 2) := by decide +kernel
theorem d_X_wins_23 : decode b_X_wins 23 = .ok (.iload 7, 2) := by decide +kernel
theorem d_X_wins_25 : decode b_X_wins 25 = .ok (.aload_n 0, 1) := by decide +kernel
theorem d_X_wins_26 : decode b_X_wins 26 = .ok (.getfield 59, 3) := by decide +kernel
theorem d_X_wins_29 : decode b_X_wins 29 = .ok (.if_icmp .ge 49, 3) := by decide +kernel
theorem d_X_wins_32 : decode b_X_wins 32 = .ok (.aload_n 0, 1) := by decide +kernel
theorem d_X_wins_33 : decode b_X_wins 33 = .ok (.aload_n 0, 1) := by decide +kernel
theorem d_X_wins_34 : decode b_X_wins 34 = .ok (.iload 7, 2) := by decide +kernel
theorem d_X_wins_36 : decode b_X_wins 36 = .ok (.invokevirtual 124, 3) := by decide +kernel
theorem d_X_wins_39 : decode b_X_wins 39 = .ok (.iload_n 1, 1) := by decide +kernel
theorem d_X_wins_40 : decode b_X_wins 40 = .ok (.iload_n 2, 1) := by decide +kernel
theorem d_X_wins_41 : decode b_X_wins 41 = .ok (.iload_n 3, 1) := by decide +kernel
theorem d_X_wins_42 : decode b_X_wins 42 = .ok (.invokevirtual 228, 3) := by decide +kernel
theorem d_X_wins_45 : decode b_X_wins 45 = .ok (.istore 8, 2) := by decide +kernel
theorem d_X_wins_47 : decode b_X_wins 47 = .ok (.iload 8, 2) := by decide +kernel
theorem d_X_wins_49 : decode b_X_wins 49 = .ok (.ifCond .lt 23, 3) := by decide +kernel
theorem d_X_wins_52 : decode b_X_wins 52 = .ok (.iload 5, 2) := by decide +kernel
theorem d_X_wins_54 : decode b_X_wins 54 = .ok (.ifCond .lt 10, 3) := by decide +kernel
theorem d_X_wins_57 : decode b_X_wins 57 = .ok (.iload 8, 2) := by decide +kernel
theorem d_X_wins_59 : decode b_X_wins 59 = .ok (.iload 6, 2) := by decide +kernel
theorem d_X_wins_61 : decode b_X_wins 61 = .ok (.if_icmp .ge 11, 3) := by decide +kernel
theorem d_X_wins_64 : decode b_X_wins 64 = .ok (.iload 7, 2) := by decide +kernel
theorem d_X_wins_66 : decode b_X_wins 66 = .ok (.istore 5, 2) := by decide +kernel
theorem d_X_wins_68 : decode b_X_wins 68 = .ok (.iload 8, 2) := by decide +kernel
theorem d_X_wins_70 : decode b_X_wins 70 = .ok (.istore 6, 2) := by decide +kernel
theorem d_X_wins_72 : decode b_X_wins 72 = .ok (.iinc 7 (1), 3) := by decide +kernel
theorem d_X_wins_75 : decode b_X_wins 75 = .ok (.goto (-52), 3) := by decide +kernel
theorem d_X_wins_78 : decode b_X_wins 78 = .ok (.iload 5, 2) := by decide +kernel
theorem d_X_wins_80 : decode b_X_wins 80 = .ok (.ifCond .lt 8, 3) := by decide +kernel
theorem d_X_wins_83 : decode b_X_wins 83 = .ok (.iload 4, 2) := by decide +kernel
theorem d_X_wins_85 : decode b_X_wins 85 = .ok (.ifCond .ne 8, 3) := by decide +kernel
theorem d_X_wins_88 : decode b_X_wins 88 = .ok (.iload 5, 2) := by decide +kernel
theorem d_X_wins_90 : decode b_X_wins 90 = .ok (.goto 11, 3) := by decide +kernel
theorem d_X_wins_93 : decode b_X_wins 93 = .ok (.iload 6, 2) := by decide +kernel
theorem d_X_wins_95 : decode b_X_wins 95 = .ok (.iload_n 2, 1) := by decide +kernel
theorem d_X_wins_96 : decode b_X_wins 96 = .ok (.iload_n 3, 1) := by decide +kernel
theorem d_X_wins_97 : decode b_X_wins 97 = .ok (.invokestatic 232, 3) := by decide +kernel
theorem d_X_wins_100 : decode b_X_wins 100 = .ok (.iadd, 1) := by decide +kernel
theorem d_X_wins_101 : decode b_X_wins 101 = .ok (.ireturn, 1) := by decide +kernel
abbrev b_X_pace : ByteArray := prog_1_method_20_code
def y_X_pace : MethodName := ⟨"RoundAndRound", "pace", "(IIIII)I"⟩
theorem d_X_pace_0 : decode b_X_pace 0 = .ok (.aload_n 0, 1) := by decide +kernel
theorem d_X_pace_1 : decode b_X_pace 1 = .ok (.iload_n 1, 1) := by decide +kernel
theorem d_X_pace_2 : decode b_X_pace 2 = .ok (.invokevirtual 113, 3) := by decide +kernel
theorem d_X_pace_5 : decode b_X_pace 5 = .ok (.ifCond .ne 6, 3) := by decide +kernel
theorem d_X_pace_8 : decode b_X_pace 8 = .ok (.ldc 139, 2) := by decide +kernel
theorem d_X_pace_10 : decode b_X_pace 10 = .ok (.ireturn, 1) := by decide +kernel
theorem d_X_pace_11 : decode b_X_pace 11 = .ok (.iload_n 2, 1) := by decide +kernel
theorem d_X_pace_12 : decode b_X_pace 12 = .ok (.invokestatic 169, 3) := by decide +kernel
theorem d_X_pace_15 : decode b_X_pace 15 = .ok (.ifCond .eq 31, 3) := by decide +kernel
theorem d_X_pace_18 : decode b_X_pace 18 = .ok (.iload_n 3, 1) := by decide +kernel
theorem d_X_pace_19 : decode b_X_pace 19 = .ok (.invokestatic 172, 3) := by decide +kernel
theorem d_X_pace_22 : decode b_X_pace 22 = .ok (.ifCond .eq 24, 3) := by decide +kernel
theorem d_X_pace_25 : decode b_X_pace 25 = .ok (.iload 4, 2) := by decide +kernel
theorem d_X_pace_27 : decode b_X_pace 27 = .ok (.iconst 1, 1) := by decide +kernel
theorem d_X_pace_28 : decode b_X_pace 28 = .ok (.bipush (60), 2) := by decide +kernel
theorem d_X_pace_30 : decode b_X_pace 30 = .ok (.invokestatic 105, 3) := by decide +kernel
theorem d_X_pace_33 : decode b_X_pace 33 = .ok (.ifCond .eq 13, 3) := by decide +kernel
theorem d_X_pace_36 : decode b_X_pace 36 = .ok (.iload 5, 2) := by decide +kernel
theorem d_X_pace_38 : decode b_X_pace 38 = .ok (.iconst 0, 1) := by decide +kernel
theorem d_X_pace_39 : decode b_X_pace 39 = .ok (.iconst 1, 1) := by decide +kernel
theorem d_X_pace_40 : decode b_X_pace 40 = .ok (.invokestatic 105, 3) := by decide +kernel
theorem d_X_pace_43 : decode b_X_pace 43 = .ok (.ifCond .ne 6, 3) := by decide +kernel
theorem d_X_pace_46 : decode b_X_pace 46 = .ok (.ldc 149, 2) := by decide +kernel
theorem d_X_pace_48 : decode b_X_pace 48 = .ok (.ireturn, 1) := by decide +kernel
theorem d_X_pace_49 : decode b_X_pace 49 = .ok (.aload_n 0, 1) := by decide +kernel
theorem d_X_pace_50 : decode b_X_pace 50 = .ok (.aload_n 0, 1) := by decide +kernel
theorem d_X_pace_51 : decode b_X_pace 51 = .ok (.iload_n 1, 1) := by decide +kernel
theorem d_X_pace_52 : decode b_X_pace 52 = .ok (.invokevirtual 124, 3) := by decide +kernel
theorem d_X_pace_55 : decode b_X_pace 55 = .ok (.aload_n 0, 1) := by decide +kernel
theorem d_X_pace_56 : decode b_X_pace 56 = .ok (.invokevirtual 120, 3) := by decide +kernel
theorem d_X_pace_59 : decode b_X_pace 59 = .ok (.iload_n 2, 1) := by decide +kernel
theorem d_X_pace_60 : decode b_X_pace 60 = .ok (.iload_n 3, 1) := by decide +kernel
theorem d_X_pace_61 : decode b_X_pace 61 = .ok (.invokevirtual 201, 3) := by decide +kernel
theorem d_X_pace_64 : decode b_X_pace 64 = .ok (.aload_n 0, 1) := by decide +kernel
theorem d_X_pace_65 : decode b_X_pace 65 = .ok (.getfield 23, 3) := by decide +kernel
theorem d_X_pace_68 : decode b_X_pace 68 = .ok (.aload_n 0, 1) := by decide +kernel
theorem d_X_pace_69 : decode b_X_pace 69 = .ok (.getfield 19, 3) := by decide +kernel
theorem d_X_pace_72 : decode b_X_pace 72 = .ok (.invokevirtual 235, 3) := by decide +kernel
theorem d_X_pace_75 : decode b_X_pace 75 = .ok (.iconst (-1), 1) := by decide +kernel
theorem d_X_pace_76 : decode b_X_pace 76 = .ok (.istore 6, 2) := by decide +kernel
theorem d_X_pace_78 : decode b_X_pace 78 = .ok (.iconst (-1), 1) := by decide +kernel
theorem d_X_pace_79 : decode b_X_pace 79 = .ok (.istore 7, 2) := by decide +kernel
theorem d_X_pace_81 : decode b_X_pace 81 = .ok (.bipush (9), 2) := by decide +kernel
theorem d_X_pace_83 : decode b_X_pace 83 = .ok (.istore 8, 2) := by decide +kernel
theorem d_X_pace_85 : decode b_X_pace 85 = .ok (.iload 8, 2) := by decide +kernel
theorem d_X_pace_87 : decode b_X_pace 87 = .ok (.iconst 1, 1) := by decide +kernel
theorem d_X_pace_88 : decode b_X_pace 88 = .ok (.if_icmp .lt 84, 3) := by decide +kernel
theorem d_X_pace_91 : decode b_X_pace 91 = .ok (.aload_n 0, 1) := by decide +kernel
theorem d_X_pace_92 : decode b_X_pace 92 = .ok (.getfield 19, 3) := by decide +kernel
theorem d_X_pace_95 : decode b_X_pace 95 = .ok (.aload_n 0, 1) := by decide +kernel
theorem d_X_pace_96 : decode b_X_pace 96 = .ok (.getfield 23, 3) := by decide +kernel
theorem d_X_pace_99 : decode b_X_pace 99 = .ok (.invokevirtual 235, 3) := by decide +kernel
theorem d_X_pace_102 : decode b_X_pace 102 = .ok (.aload_n 0, 1) := by decide +kernel
theorem d_X_pace_103 : decode b_X_pace 103 = .ok (.getfield 19, 3) := by decide +kernel
theorem d_X_pace_106 : decode b_X_pace 106 = .ok (.aload_n 0, 1) := by decide +kernel
theorem d_X_pace_107 : decode b_X_pace 107 = .ok (.invokevirtual 120, 3) := by decide +kernel
theorem d_X_pace_110 : decode b_X_pace 110 = .ok (.iload 4, 2) := by decide +kernel
theorem d_X_pace_112 : decode b_X_pace 112 = .ok (.iload 8, 2) := by decide +kernel
theorem d_X_pace_114 : decode b_X_pace 114 = .ok (.invokestatic 238, 3) := by decide +kernel
theorem d_X_pace_117 : decode b_X_pace 117 = .ok (.iload 8, 2) := by decide +kernel
theorem d_X_pace_119 : decode b_X_pace 119 = .ok (.iconst 1, 1) := by decide +kernel
theorem d_X_pace_120 : decode b_X_pace 120 = .ok (.invokevirtual 191, 3) := by decide +kernel
theorem d_X_pace_123 : decode b_X_pace 123 = .ok (.pop, 1) := by decide +kernel
theorem d_X_pace_124 : decode b_X_pace 124 = .ok (.aload_n 0, 1) := by decide +kernel
theorem d_X_pace_125 : decode b_X_pace 125 = .ok (.getfield 19, 3) := by decide +kernel
theorem d_X_pace_128 : decode b_X_pace 128 = .ok (.getfield 159, 3) := by decide +kernel
theorem d_X_pace_131 : decode b_X_pace 131 = .ok (.invokestatic 216, 3) := by decide +kernel
theorem d_X_pace_134 : decode b_X_pace 134 = .ok (.istore 9, 2) := by decide +kernel
theorem d_X_pace_136 : decode b_X_pace 136 = .ok (.aload_n 0, 1) := by decide +kernel
theorem d_X_pace_137 : decode b_X_pace 137 = .ok (.getfield 19, 3) := by decide +kernel
theorem d_X_pace_140 : decode b_X_pace 140 = .ok (.getfield 162, 3) := by decide +kernel
theorem d_X_pace_143 : decode b_X_pace 143 = .ok (.ifCond .ne 23, 3) := by decide +kernel
theorem d_X_pace_146 : decode b_X_pace 146 = .ok (.iload 6, 2) := by decide +kernel
theorem d_X_pace_148 : decode b_X_pace 148 = .ok (.ifCond .lt 10, 3) := by decide +kernel
theorem d_X_pace_151 : decode b_X_pace 151 = .ok (.iload 9, 2) := by decide +kernel
theorem d_X_pace_153 : decode b_X_pace 153 = .ok (.iload 7, 2) := by decide +kernel
theorem d_X_pace_155 : decode b_X_pace 155 = .ok (.if_icmp .ge 11, 3) := by decide +kernel
theorem d_X_pace_158 : decode b_X_pace 158 = .ok (.iload 8, 2) := by decide +kernel
theorem d_X_pace_160 : decode b_X_pace 160 = .ok (.istore 6, 2) := by decide +kernel
theorem d_X_pace_162 : decode b_X_pace 162 = .ok (.iload 9, 2) := by decide +kernel
theorem d_X_pace_164 : decode b_X_pace 164 = .ok (.istore 7, 2) := by decide +kernel
theorem d_X_pace_166 : decode b_X_pace 166 = .ok (.iinc 8 (-1), 3) := by decide +kernel
theorem d_X_pace_169 : decode b_X_pace 169 = .ok (.goto (-84), 3) := by decide +kernel
theorem d_X_pace_172 : decode b_X_pace 172 = .ok (.iload 5, 2) := by decide +kernel
theorem d_X_pace_174 : decode b_X_pace 174 = .ok (.ifCond .ne 8, 3) := by decide +kernel
theorem d_X_pace_177 : decode b_X_pace 177 = .ok (.iload 6, 2) := by decide +kernel
theorem d_X_pace_179 : decode b_X_pace 179 = .ok (.goto 5, 3) := by decide +kernel
theorem d_X_pace_182 : decode b_X_pace 182 = .ok (.iload 7, 2) := by decide +kernel
theorem d_X_pace_184 : decode b_X_pace 184 = .ok (.ireturn, 1) := by decide +kernel
abbrev b_X_roses : ByteArray := prog_1_method_21_code
def y_X_roses : MethodName := ⟨"RoundAndRound", "roses", "(IIIII)I"⟩
theorem d_X_roses_0 : decode b_X_roses 0 = .ok (.aload_n 0, 1) := by decide +kernel
theorem d_X_roses_1 : decode b_X_roses 1 = .ok (.iload_n 1, 1) := by decide +kernel
theorem d_X_roses_2 : decode b_X_roses 2 = .ok (.invokevirtual 113, 3) := by decide +kernel
theorem d_X_roses_5 : decode b_X_roses 5 = .ok (.ifCond .ne 6, 3) := by decide +kernel
theorem d_X_roses_8 : decode b_X_roses 8 = .ok (.ldc 139, 2) := by decide +kernel
theorem d_X_roses_10 : decode b_X_roses 10 = .ok (.ireturn, 1) := by decide +kernel
theorem d_X_roses_11 : decode b_X_roses 11 = .ok (.iload_n 2, 1) := by decide +kernel
theorem d_X_roses_12 : decode b_X_roses 12 = .ok (.invokestatic 241, 3) := by decide +kernel
theorem d_X_roses_15 : decode b_X_roses 15 = .ok (.ifCond .eq 32, 3) := by decide +kernel
theorem d_X_roses_18 : decode b_X_roses 18 = .ok (.iload_n 3, 1) := by decide +kernel
theorem d_X_roses_19 : decode b_X_roses 19 = .ok (.invokestatic 185, 3) := by decide +kernel
theorem d_X_roses_22 : decode b_X_roses 22 = .ok (.ifCond .eq 25, 3) := by decide +kernel
theorem d_X_roses_25 : decode b_X_roses 25 = .ok (.iload 4, 2) := by decide +kernel
theorem d_X_roses_27 : decode b_X_roses 27 = .ok (.ldc 244, 2) := by decide +kernel
theorem d_X_roses_29 : decode b_X_roses 29 = .ok (.ldc 245, 2) := by decide +kernel
theorem d_X_roses_31 : decode b_X_roses 31 = .ok (.invokestatic 105, 3) := by decide +kernel
theorem d_X_roses_34 : decode b_X_roses 34 = .ok (.ifCond .eq 13, 3) := by decide +kernel
theorem d_X_roses_37 : decode b_X_roses 37 = .ok (.iload 5, 2) := by decide +kernel
theorem d_X_roses_39 : decode b_X_roses 39 = .ok (.iconst 0, 1) := by decide +kernel
theorem d_X_roses_40 : decode b_X_roses 40 = .ok (.iconst 1, 1) := by decide +kernel
theorem d_X_roses_41 : decode b_X_roses 41 = .ok (.invokestatic 105, 3) := by decide +kernel
theorem d_X_roses_44 : decode b_X_roses 44 = .ok (.ifCond .ne 6, 3) := by decide +kernel
theorem d_X_roses_47 : decode b_X_roses 47 = .ok (.ldc 149, 2) := by decide +kernel
theorem d_X_roses_49 : decode b_X_roses 49 = .ok (.ireturn, 1) := by decide +kernel
theorem d_X_roses_50 : decode b_X_roses 50 = .ok (.aload_n 0, 1) := by decide +kernel
theorem d_X_roses_51 : decode b_X_roses 51 = .ok (.iload_n 1, 1) := by decide +kernel
theorem d_X_roses_52 : decode b_X_roses 52 = .ok (.invokevirtual 124, 3) := by decide +kernel
theorem d_X_roses_55 : decode b_X_roses 55 = .ok (.astore 6, 2) := by decide +kernel
theorem d_X_roses_57 : decode b_X_roses 57 = .ok (.aload_n 0, 1) := by decide +kernel
theorem d_X_roses_58 : decode b_X_roses 58 = .ok (.aload 6, 2) := by decide +kernel
theorem d_X_roses_60 : decode b_X_roses 60 = .ok (.iload_n 2, 1) := by decide +kernel
theorem d_X_roses_61 : decode b_X_roses 61 = .ok (.bipush (10), 2) := by decide +kernel
theorem d_X_roses_63 : decode b_X_roses 63 = .ok (.idiv, 1) := by decide +kernel
theorem d_X_roses_64 : decode b_X_roses 64 = .ok (.invokevirtual 246, 3) := by decide +kernel
theorem d_X_roses_67 : decode b_X_roses 67 = .ok (.iconst 0, 1) := by decide +kernel
theorem d_X_roses_68 : decode b_X_roses 68 = .ok (.istore 7, 2) := by decide +kernel
theorem d_X_roses_70 : decode b_X_roses 70 = .ok (.iconst 0, 1) := by decide +kernel
theorem d_X_roses_71 : decode b_X_roses 71 = .ok (.istore 8, 2) := by decide +kernel
theorem d_X_roses_73 : decode b_X_roses 73 = .ok (.iconst 0, 1) := by decide +kernel
theorem d_X_roses_74 : decode b_X_roses 74 = .ok (.istore 9, 2) := by decide +kernel
theorem d_X_roses_76 : decode b_X_roses 76 = .ok (.iload 9, 2) := by decide +kernel
theorem d_X_roses_78 : decode b_X_roses 78 = .ok (.aload_n 0, 1) := by decide +kernel
theorem d_X_roses_79 : decode b_X_roses 79 = .ok (.getfield 26, 3) := by decide +kernel
theorem d_X_roses_82 : decode b_X_roses 82 = .ok (.arraylength, 1) := by decide +kernel
theorem d_X_roses_83 : decode b_X_roses 83 = .ok (.if_icmp .ge 85, 3) := by decide +kernel
theorem d_X_roses_86 : decode b_X_roses 86 = .ok (.aload_n 0, 1) := by decide +kernel
theorem d_X_roses_87 : decode b_X_roses 87 = .ok (.aload 6, 2) := by decide +kernel
theorem d_X_roses_89 : decode b_X_roses 89 = .ok (.invokevirtual 205, 3) := by decide +kernel
theorem d_X_roses_92 : decode b_X_roses 92 = .ok (.aload_n 0, 1) := by decide +kernel
theorem d_X_roses_93 : decode b_X_roses 93 = .ok (.getfield 19, 3) := by decide +kernel
theorem d_X_roses_96 : decode b_X_roses 96 = .ok (.aload_n 0, 1) := by decide +kernel
theorem d_X_roses_97 : decode b_X_roses 97 = .ok (.getfield 26, 3) := by decide +kernel
theorem d_X_roses_100 : decode b_X_roses 100 = .ok (.iload 9, 2) := by decide +kernel
theorem d_X_roses_102 : decode b_X_roses 102 = .ok (.iaload, 1) := by decide +kernel
theorem d_X_roses_103 : decode b_X_roses 103 = .ok (.putfield 140, 3) := by decide +kernel
theorem d_X_roses_106 : decode b_X_roses 106 = .ok (.aload_n 0, 1) := by decide +kernel
theorem d_X_roses_107 : decode b_X_roses 107 = .ok (.getfield 19, 3) := by decide +kernel
theorem d_X_roses_110 : decode b_X_roses 110 = .ok (.aload_n 0, 1) := by decide +kernel
theorem d_X_roses_111 : decode b_X_roses 111 = .ok (.invokevirtual 120, 3) := by decide +kernel
theorem d_X_roses_114 : decode b_X_roses 114 = .ok (.iload_n 3, 1) := by decide +kernel
theorem d_X_roses_115 : decode b_X_roses 115 = .ok (.iload_n 2, 1) := by decide +kernel
theorem d_X_roses_116 : decode b_X_roses 116 = .ok (.bipush (10), 2) := by decide +kernel
theorem d_X_roses_118 : decode b_X_roses 118 = .ok (.irem, 1) := by decide +kernel
theorem d_X_roses_119 : decode b_X_roses 119 = .ok (.iconst 1, 1) := by decide +kernel
theorem d_X_roses_120 : decode b_X_roses 120 = .ok (.invokevirtual 191, 3) := by decide +kernel
theorem d_X_roses_123 : decode b_X_roses 123 = .ok (.pop, 1) := by decide +kernel
theorem d_X_roses_124 : decode b_X_roses 124 = .ok (.aload_n 0, 1) := by decide +kernel
theorem d_X_roses_125 : decode b_X_roses 125 = .ok (.getfield 19, 3) := by decide +kernel
theorem d_X_roses_128 : decode b_X_roses 128 = .ok (.getfield 159, 3) := by decide +kernel
theorem d_X_roses_131 : decode b_X_roses 131 = .ok (.iload 4, 2) := by decide +kernel
theorem d_X_roses_133 : decode b_X_roses 133 = .ok (.isub, 1) := by decide +kernel
theorem d_X_roses_134 : decode b_X_roses 134 = .ok (.invokestatic 216, 3) := by decide +kernel
theorem d_X_roses_137 : decode b_X_roses 137 = .ok (.istore 10, 2) := by decide +kernel
theorem d_X_roses_139 : decode b_X_roses 139 = .ok (.iload 9, 2) := by decide +kernel
theorem d_X_roses_141 : decode b_X_roses 141 = .ok (.ifCond .eq 10, 3) := by decide +kernel
theorem d_X_roses_144 : decode b_X_roses 144 = .ok (.iload 10, 2) := by decide +kernel
theorem d_X_roses_146 : decode b_X_roses 146 = .ok (.iload 8, 2) := by decide +kernel
theorem d_X_roses_148 : decode b_X_roses 148 = .ok (.if_icmp .ge 14, 3) := by decide +kernel
theorem d_X_roses_151 : decode b_X_roses 151 = .ok (.iload 9, 2) := by decide +kernel
theorem d_X_roses_153 : decode b_X_roses 153 = .ok (.invokestatic 250, 3) := by decide +kernel
theorem d_X_roses_156 : decode b_X_roses 156 = .ok (.istore 7, 2) := by decide +kernel
theorem d_X_roses_158 : decode b_X_roses 158 = .ok (.iload 10, 2) := by decide +kernel
theorem d_X_roses_160 : decode b_X_roses 160 = .ok (.istore 8, 2) := by decide +kernel
theorem d_X_roses_162 : decode b_X_roses 162 = .ok (.iinc 9 (1), 3) := by decide +kernel
theorem d_X_roses_165 : decode b_X_roses 165 = .ok (.goto (-89), 3) := by decide +kernel
theorem d_X_roses_168 : decode b_X_roses 168 = .ok (.iload 5, 2) := by decide +kernel
theorem d_X_roses_170 : decode b_X_roses 170 = .ok (.ifCond .ne 8, 3) := by decide +kernel
theorem d_X_roses_173 : decode b_X_roses 173 = .ok (.iload 7, 2) := by decide +kernel
theorem d_X_roses_175 : decode b_X_roses 175 = .ok (.goto 5, 3) := by decide +kernel
theorem d_X_roses_178 : decode b_X_roses 178 = .ok (.iload 8, 2) := by decide +kernel
theorem d_X_roses_180 : decode b_X_roses 180 = .ok (.ireturn, 1) := by decide +kernel
abbrev b_X_judge : ByteArray := prog_1_method_22_code
def y_X_judge : MethodName := ⟨"RoundAndRound", "judge", "(IIII)I"⟩
theorem d_X_judge_0 : decode b_X_judge 0 = .ok (.aload_n 0, 1) := by decide +kernel
theorem d_X_judge_1 : decode b_X_judge 1 = .ok (.iload_n 1, 1) := by decide +kernel
theorem d_X_judge_2 : decode b_X_judge 2 = .ok (.iload_n 2, 1) := by decide +kernel
theorem d_X_judge_3 : decode b_X_judge 3 = .ok (.invokevirtual 253, 3) := by decide +kernel
theorem d_X_judge_6 : decode b_X_judge 6 = .ok (.istore 5, 2) := by decide +kernel
theorem d_X_judge_8 : decode b_X_judge 8 = .ok (.iload 5, 2) := by decide +kernel
theorem d_X_judge_10 : decode b_X_judge 10 = .ok (.ifCond .eq 6, 3) := by decide +kernel
theorem d_X_judge_13 : decode b_X_judge 13 = .ok (.iload 5, 2) := by decide +kernel
theorem d_X_judge_15 : decode b_X_judge 15 = .ok (.ireturn, 1) := by decide +kernel
theorem d_X_judge_16 : decode b_X_judge 16 = .ok (.iload_n 3, 1) := by decide +kernel
theorem d_X_judge_17 : decode b_X_judge 17 = .ok (.invokestatic 169, 3) := by decide +kernel
theorem d_X_judge_20 : decode b_X_judge 20 = .ok (.ifCond .eq 11, 3) := by decide +kernel
theorem d_X_judge_23 : decode b_X_judge 23 = .ok (.iload 4, 2) := by decide +kernel
theorem d_X_judge_25 : decode b_X_judge 25 = .ok (.invokestatic 241, 3) := by decide +kernel
theorem d_X_judge_28 : decode b_X_judge 28 = .ok (.ifCond .ne 6, 3) := by decide +kernel
theorem d_X_judge_31 : decode b_X_judge 31 = .ok (.bipush (-7), 2) := by decide +kernel
theorem d_X_judge_33 : decode b_X_judge 33 = .ok (.ireturn, 1) := by decide +kernel
theorem d_X_judge_34 : decode b_X_judge 34 = .ok (.aload_n 0, 1) := by decide +kernel
theorem d_X_judge_35 : decode b_X_judge 35 = .ok (.aload_n 0, 1) := by decide +kernel
theorem d_X_judge_36 : decode b_X_judge 36 = .ok (.iload_n 2, 1) := by decide +kernel
theorem d_X_judge_37 : decode b_X_judge 37 = .ok (.invokevirtual 124, 3) := by decide +kernel
theorem d_X_judge_40 : decode b_X_judge 40 = .ok (.aload_n 0, 1) := by decide +kernel
theorem d_X_judge_41 : decode b_X_judge 41 = .ok (.invokevirtual 120, 3) := by decide +kernel
theorem d_X_judge_44 : decode b_X_judge 44 = .ok (.iload_n 3, 1) := by decide +kernel
theorem d_X_judge_45 : decode b_X_judge 45 = .ok (.iload 4, 2) := by decide +kernel
theorem d_X_judge_47 : decode b_X_judge 47 = .ok (.bipush (10), 2) := by decide +kernel
theorem d_X_judge_49 : decode b_X_judge 49 = .ok (.idiv, 1) := by decide +kernel
theorem d_X_judge_50 : decode b_X_judge 50 = .ok (.invokevirtual 201, 3) := by decide +kernel
theorem d_X_judge_53 : decode b_X_judge 53 = .ok (.aload_n 0, 1) := by decide +kernel
theorem d_X_judge_54 : decode b_X_judge 54 = .ok (.aload_n 0, 1) := by decide +kernel
theorem d_X_judge_55 : decode b_X_judge 55 = .ok (.iload_n 1, 1) := by decide +kernel
theorem d_X_judge_56 : decode b_X_judge 56 = .ok (.invokevirtual 256, 3) := by decide +kernel
theorem d_X_judge_59 : decode b_X_judge 59 = .ok (.aload_n 0, 1) := by decide +kernel
theorem d_X_judge_60 : decode b_X_judge 60 = .ok (.invokevirtual 120, 3) := by decide +kernel
theorem d_X_judge_63 : decode b_X_judge 63 = .ok (.iload 4, 2) := by decide +kernel
theorem d_X_judge_65 : decode b_X_judge 65 = .ok (.bipush (10), 2) := by decide +kernel
theorem d_X_judge_67 : decode b_X_judge 67 = .ok (.irem, 1) := by decide +kernel
theorem d_X_judge_68 : decode b_X_judge 68 = .ok (.invokevirtual 260, 3) := by decide +kernel
theorem d_X_judge_71 : decode b_X_judge 71 = .ok (.ireturn, 1) := by decide +kernel
abbrev b_X_turned : ByteArray := prog_1_method_23_code
def y_X_turned : MethodName := ⟨"RoundAndRound", "turned", "(IIII)I"⟩
theorem d_X_turned_0 : decode b_X_turned 0 = .ok (.aload_n 0, 1) := by decide +kernel
theorem d_X_turned_1 : decode b_X_turned 1 = .ok (.iload_n 1, 1) := by decide +kernel
theorem d_X_turned_2 : decode b_X_turned 2 = .ok (.iload_n 2, 1) := by decide +kernel
theorem d_X_turned_3 : decode b_X_turned 3 = .ok (.invokevirtual 253, 3) := by decide +kernel
theorem d_X_turned_6 : decode b_X_turned 6 = .ok (.istore 5, 2) := by decide +kernel
theorem d_X_turned_8 : decode b_X_turned 8 = .ok (.iload 5, 2) := by decide +kernel
theorem d_X_turned_10 : decode b_X_turned 10 = .ok (.ifCond .eq 6, 3) := by decide +kernel
theorem d_X_turned_13 : decode b_X_turned 13 = .ok (.iload 5, 2) := by decide +kernel
theorem d_X_turned_15 : decode b_X_turned 15 = .ok (.ireturn, 1) := by decide +kernel
theorem d_X_turned_16 : decode b_X_turned 16 = .ok (.iload_n 3, 1) := by decide +kernel
theorem d_X_turned_17 : decode b_X_turned 17 = .ok (.invokestatic 241, 3) := by decide +kernel
theorem d_X_turned_20 : decode b_X_turned 20 = .ok (.ifCond .eq 13, 3) := by decide +kernel
theorem d_X_turned_23 : decode b_X_turned 23 = .ok (.iload 4, 2) := by decide +kernel
theorem d_X_turned_25 : decode b_X_turned 25 = .ok (.iconst 0, 1) := by decide +kernel
theorem d_X_turned_26 : decode b_X_turned 26 = .ok (.iconst 1, 1) := by decide +kernel
theorem d_X_turned_27 : decode b_X_turned 27 = .ok (.invokestatic 105, 3) := by decide +kernel
theorem d_X_turned_30 : decode b_X_turned 30 = .ok (.ifCond .ne 6, 3) := by decide +kernel
theorem d_X_turned_33 : decode b_X_turned 33 = .ok (.bipush (-7), 2) := by decide +kernel
theorem d_X_turned_35 : decode b_X_turned 35 = .ok (.ireturn, 1) := by decide +kernel
theorem d_X_turned_36 : decode b_X_turned 36 = .ok (.aload_n 0, 1) := by decide +kernel
theorem d_X_turned_37 : decode b_X_turned 37 = .ok (.iload_n 2, 1) := by decide +kernel
theorem d_X_turned_38 : decode b_X_turned 38 = .ok (.invokevirtual 124, 3) := by decide +kernel
theorem d_X_turned_41 : decode b_X_turned 41 = .ok (.astore 6, 2) := by decide +kernel
theorem d_X_turned_43 : decode b_X_turned 43 = .ok (.aload_n 0, 1) := by decide +kernel
theorem d_X_turned_44 : decode b_X_turned 44 = .ok (.aload 6, 2) := by decide +kernel
theorem d_X_turned_46 : decode b_X_turned 46 = .ok (.iload_n 3, 1) := by decide +kernel
theorem d_X_turned_47 : decode b_X_turned 47 = .ok (.bipush (10), 2) := by decide +kernel
theorem d_X_turned_49 : decode b_X_turned 49 = .ok (.idiv, 1) := by decide +kernel
theorem d_X_turned_50 : decode b_X_turned 50 = .ok (.invokevirtual 246, 3) := by decide +kernel
theorem d_X_turned_53 : decode b_X_turned 53 = .ok (.iconst 0, 1) := by decide +kernel
theorem d_X_turned_54 : decode b_X_turned 54 = .ok (.istore 7, 2) := by decide +kernel
theorem d_X_turned_56 : decode b_X_turned 56 = .ok (.bipush (-100), 2) := by decide +kernel
theorem d_X_turned_58 : decode b_X_turned 58 = .ok (.istore 8, 2) := by decide +kernel
theorem d_X_turned_60 : decode b_X_turned 60 = .ok (.iconst 0, 1) := by decide +kernel
theorem d_X_turned_61 : decode b_X_turned 61 = .ok (.istore 9, 2) := by decide +kernel
theorem d_X_turned_63 : decode b_X_turned 63 = .ok (.iload 9, 2) := by decide +kernel
theorem d_X_turned_65 : decode b_X_turned 65 = .ok (.aload_n 0, 1) := by decide +kernel
theorem d_X_turned_66 : decode b_X_turned 66 = .ok (.getfield 26, 3) := by decide +kernel
theorem d_X_turned_69 : decode b_X_turned 69 = .ok (.arraylength, 1) := by decide +kernel
theorem d_X_turned_70 : decode b_X_turned 70 = .ok (.if_icmp .ge 69, 3) := by decide +kernel
theorem d_X_turned_73 : decode b_X_turned 73 = .ok (.aload_n 0, 1) := by decide +kernel
theorem d_X_turned_74 : decode b_X_turned 74 = .ok (.aload 6, 2) := by decide +kernel
theorem d_X_turned_76 : decode b_X_turned 76 = .ok (.invokevirtual 205, 3) := by decide +kernel
theorem d_X_turned_79 : decode b_X_turned 79 = .ok (.aload_n 0, 1) := by decide +kernel
theorem d_X_turned_80 : decode b_X_turned 80 = .ok (.getfield 19, 3) := by decide +kernel
theorem d_X_turned_83 : decode b_X_turned 83 = .ok (.aload_n 0, 1) := by decide +kernel
theorem d_X_turned_84 : decode b_X_turned 84 = .ok (.getfield 26, 3) := by decide +kernel
theorem d_X_turned_87 : decode b_X_turned 87 = .ok (.iload 9, 2) := by decide +kernel
theorem d_X_turned_89 : decode b_X_turned 89 = .ok (.iaload, 1) := by decide +kernel
theorem d_X_turned_90 : decode b_X_turned 90 = .ok (.putfield 140, 3) := by decide +kernel
theorem d_X_turned_93 : decode b_X_turned 93 = .ok (.aload_n 0, 1) := by decide +kernel
theorem d_X_turned_94 : decode b_X_turned 94 = .ok (.aload_n 0, 1) := by decide +kernel
theorem d_X_turned_95 : decode b_X_turned 95 = .ok (.iload_n 1, 1) := by decide +kernel
theorem d_X_turned_96 : decode b_X_turned 96 = .ok (.invokevirtual 256, 3) := by decide +kernel
theorem d_X_turned_99 : decode b_X_turned 99 = .ok (.aload_n 0, 1) := by decide +kernel
theorem d_X_turned_100 : decode b_X_turned 100 = .ok (.invokevirtual 120, 3) := by decide +kernel
theorem d_X_turned_103 : decode b_X_turned 103 = .ok (.iload_n 3, 1) := by decide +kernel
theorem d_X_turned_104 : decode b_X_turned 104 = .ok (.bipush (10), 2) := by decide +kernel
theorem d_X_turned_106 : decode b_X_turned 106 = .ok (.irem, 1) := by decide +kernel
theorem d_X_turned_107 : decode b_X_turned 107 = .ok (.invokevirtual 260, 3) := by decide +kernel
theorem d_X_turned_110 : decode b_X_turned 110 = .ok (.ifCond .ge 23, 3) := by decide +kernel
theorem d_X_turned_113 : decode b_X_turned 113 = .ok (.iload 7, 2) := by decide +kernel
theorem d_X_turned_115 : decode b_X_turned 115 = .ok (.ifCond .ne 11, 3) := by decide +kernel
theorem d_X_turned_118 : decode b_X_turned 118 = .ok (.iload 9, 2) := by decide +kernel
theorem d_X_turned_120 : decode b_X_turned 120 = .ok (.invokestatic 250, 3) := by decide +kernel
theorem d_X_turned_123 : decode b_X_turned 123 = .ok (.goto 5, 3) := by decide +kernel
theorem d_X_turned_126 : decode b_X_turned 126 = .ok (.iload 8, 2) := by decide +kernel
theorem d_X_turned_128 : decode b_X_turned 128 = .ok (.istore 8, 2) := by decide +kernel
theorem d_X_turned_130 : decode b_X_turned 130 = .ok (.iinc 7 (1), 3) := by decide +kernel
theorem d_X_turned_133 : decode b_X_turned 133 = .ok (.iinc 9 (1), 3) := by decide +kernel
theorem d_X_turned_136 : decode b_X_turned 136 = .ok (.goto (-73), 3) := by decide +kernel
theorem d_X_turned_139 : decode b_X_turned 139 = .ok (.iload 4, 2) := by decide +kernel
theorem d_X_turned_141 : decode b_X_turned 141 = .ok (.ifCond .ne 8, 3) := by decide +kernel
theorem d_X_turned_144 : decode b_X_turned 144 = .ok (.iload 7, 2) := by decide +kernel
theorem d_X_turned_146 : decode b_X_turned 146 = .ok (.goto 5, 3) := by decide +kernel
theorem d_X_turned_149 : decode b_X_turned 149 = .ok (.iload 8, 2) := by decide +kernel
theorem d_X_turned_151 : decode b_X_turned 151 = .ok (.ireturn, 1) := by decide +kernel
abbrev b_X_kinds : ByteArray := prog_1_method_24_code
def y_X_kinds : MethodName := ⟨"RoundAndRound", "kinds", "(IIIII)I"⟩
theorem d_X_kinds_0 : decode b_X_kinds 0 = .ok (.aload_n 0, 1) := by decide +kernel
theorem d_X_kinds_1 : decode b_X_kinds 1 = .ok (.iload_n 1, 1) := by decide +kernel
theorem d_X_kinds_2 : decode b_X_kinds 2 = .ok (.iload_n 2, 1) := by decide +kernel
theorem d_X_kinds_3 : decode b_X_kinds 3 = .ok (.invokevirtual 253, 3) := by decide +kernel
theorem d_X_kinds_6 : decode b_X_kinds 6 = .ok (.istore 6, 2) := by decide +kernel
theorem d_X_kinds_8 : decode b_X_kinds 8 = .ok (.iload 6, 2) := by decide +kernel
theorem d_X_kinds_10 : decode b_X_kinds 10 = .ok (.ifCond .eq 6, 3) := by decide +kernel
theorem d_X_kinds_13 : decode b_X_kinds 13 = .ok (.iload 6, 2) := by decide +kernel
theorem d_X_kinds_15 : decode b_X_kinds 15 = .ok (.ireturn, 1) := by decide +kernel
theorem d_X_kinds_16 : decode b_X_kinds 16 = .ok (.iload_n 3, 1) := by decide +kernel
theorem d_X_kinds_17 : decode b_X_kinds 17 = .ok (.invokestatic 169, 3) := by decide +kernel
theorem d_X_kinds_20 : decode b_X_kinds 20 = .ok (.ifCond .eq 21, 3) := by decide +kernel
theorem d_X_kinds_23 : decode b_X_kinds 23 = .ok (.iload 4, 2) := by decide +kernel
theorem d_X_kinds_25 : decode b_X_kinds 25 = .ok (.invokestatic 241, 3) := by decide +kernel
theorem d_X_kinds_28 : decode b_X_kinds 28 = .ok (.ifCond .eq 13, 3) := by decide +kernel
theorem d_X_kinds_31 : decode b_X_kinds 31 = .ok (.iload 5, 2) := by decide +kernel
theorem d_X_kinds_33 : decode b_X_kinds 33 = .ok (.iconst 0, 1) := by decide +kernel
theorem d_X_kinds_34 : decode b_X_kinds 34 = .ok (.iconst 2, 1) := by decide +kernel
theorem d_X_kinds_35 : decode b_X_kinds 35 = .ok (.invokestatic 105, 3) := by decide +kernel
theorem d_X_kinds_38 : decode b_X_kinds 38 = .ok (.ifCond .ne 6, 3) := by decide +kernel
theorem d_X_kinds_41 : decode b_X_kinds 41 = .ok (.bipush (-7), 2) := by decide +kernel
theorem d_X_kinds_43 : decode b_X_kinds 43 = .ok (.ireturn, 1) := by decide +kernel
theorem d_X_kinds_44 : decode b_X_kinds 44 = .ok (.iload 5, 2) := by decide +kernel
theorem d_X_kinds_46 : decode b_X_kinds 46 = .ok (.ifCond .ne 8, 3) := by decide +kernel
theorem d_X_kinds_49 : decode b_X_kinds 49 = .ok (.bipush (6), 2) := by decide +kernel
theorem d_X_kinds_51 : decode b_X_kinds 51 = .ok (.goto 16, 3) := by decide +kernel
theorem d_X_kinds_54 : decode b_X_kinds 54 = .ok (.iload 5, 2) := by decide +kernel
theorem d_X_kinds_56 : decode b_X_kinds 56 = .ok (.iconst 1, 1) := by decide +kernel
theorem d_X_kinds_57 : decode b_X_kinds 57 = .ok (.if_icmp .ne 8, 3) := by decide +kernel
theorem d_X_kinds_60 : decode b_X_kinds 60 = .ok (.bipush (10), 2) := by decide +kernel
theorem d_X_kinds_62 : decode b_X_kinds 62 = .ok (.goto 5, 3) := by decide +kernel
theorem d_X_kinds_65 : decode b_X_kinds 65 = .ok (.bipush (10), 2) := by decide +kernel
theorem d_X_kinds_67 : decode b_X_kinds 67 = .ok (.istore 7, 2) := by decide +kernel
theorem d_X_kinds_69 : decode b_X_kinds 69 = .ok (.iconst 0, 1) := by decide +kernel
theorem d_X_kinds_70 : decode b_X_kinds 70 = .ok (.istore 8, 2) := by decide +kernel
theorem d_X_kinds_72 : decode b_X_kinds 72 = .ok (.iconst 0, 1) := by decide +kernel
theorem d_X_kinds_73 : decode b_X_kinds 73 = .ok (.istore 9, 2) := by decide +kernel
theorem d_X_kinds_75 : decode b_X_kinds 75 = .ok (.iload 9, 2) := by decide +kernel
theorem d_X_kinds_77 : decode b_X_kinds 77 = .ok (.iload 7, 2) := by decide +kernel
theorem d_X_kinds_79 : decode b_X_kinds 79 = .ok (.if_icmp .ge 139, 3) := by decide +kernel
theorem d_X_kinds_82 : decode b_X_kinds 82 = .ok (.aload_n 0, 1) := by decide +kernel
theorem d_X_kinds_83 : decode b_X_kinds 83 = .ok (.aload_n 0, 1) := by decide +kernel
theorem d_X_kinds_84 : decode b_X_kinds 84 = .ok (.iload_n 2, 1) := by decide +kernel
theorem d_X_kinds_85 : decode b_X_kinds 85 = .ok (.invokevirtual 124, 3) := by decide +kernel
theorem d_X_kinds_88 : decode b_X_kinds 88 = .ok (.invokevirtual 205, 3) := by decide +kernel
theorem d_X_kinds_91 : decode b_X_kinds 91 = .ok (.aload_n 0, 1) := by decide +kernel
theorem d_X_kinds_92 : decode b_X_kinds 92 = .ok (.getfield 19, 3) := by decide +kernel
theorem d_X_kinds_95 : decode b_X_kinds 95 = .ok (.iload 5, 2) := by decide +kernel
theorem d_X_kinds_97 : decode b_X_kinds 97 = .ok (.ifCond .ne 8, 3) := by decide +kernel
theorem d_X_kinds_100 : decode b_X_kinds 100 = .ok (.iload 9, 2) := by decide +kernel
theorem d_X_kinds_102 : decode b_X_kinds 102 = .ok (.goto 10, 3) := by decide +kernel
theorem d_X_kinds_105 : decode b_X_kinds 105 = .ok (.aload_n 0, 1) := by decide +kernel
theorem d_X_kinds_106 : decode b_X_kinds 106 = .ok (.getfield 19, 3) := by decide +kernel
theorem d_X_kinds_109 : decode b_X_kinds 109 = .ok (.getfield 150, 3) := by decide +kernel
theorem d_X_kinds_112 : decode b_X_kinds 112 = .ok (.putfield 150, 3) := by decide +kernel
theorem d_X_kinds_115 : decode b_X_kinds 115 = .ok (.aload_n 0, 1) := by decide +kernel
theorem d_X_kinds_116 : decode b_X_kinds 116 = .ok (.getfield 19, 3) := by decide +kernel
theorem d_X_kinds_119 : decode b_X_kinds 119 = .ok (.iload 5, 2) := by decide +kernel
theorem d_X_kinds_121 : decode b_X_kinds 121 = .ok (.iconst 1, 1) := by decide +kernel
theorem d_X_kinds_122 : decode b_X_kinds 122 = .ok (.if_icmp .ne 8, 3) := by decide +kernel
theorem d_X_kinds_125 : decode b_X_kinds 125 = .ok (.iload 9, 2) := by decide +kernel
theorem d_X_kinds_127 : decode b_X_kinds 127 = .ok (.goto 10, 3) := by decide +kernel
theorem d_X_kinds_130 : decode b_X_kinds 130 = .ok (.aload_n 0, 1) := by decide +kernel
theorem d_X_kinds_131 : decode b_X_kinds 131 = .ok (.getfield 19, 3) := by decide +kernel
theorem d_X_kinds_134 : decode b_X_kinds 134 = .ok (.getfield 153, 3) := by decide +kernel
theorem d_X_kinds_137 : decode b_X_kinds 137 = .ok (.putfield 153, 3) := by decide +kernel
theorem d_X_kinds_140 : decode b_X_kinds 140 = .ok (.aload_n 0, 1) := by decide +kernel
theorem d_X_kinds_141 : decode b_X_kinds 141 = .ok (.getfield 19, 3) := by decide +kernel
theorem d_X_kinds_144 : decode b_X_kinds 144 = .ok (.iload 5, 2) := by decide +kernel
theorem d_X_kinds_146 : decode b_X_kinds 146 = .ok (.iconst 2, 1) := by decide +kernel
theorem d_X_kinds_147 : decode b_X_kinds 147 = .ok (.if_icmp .ne 8, 3) := by decide +kernel
theorem d_X_kinds_150 : decode b_X_kinds 150 = .ok (.iload 9, 2) := by decide +kernel
theorem d_X_kinds_152 : decode b_X_kinds 152 = .ok (.goto 10, 3) := by decide +kernel
theorem d_X_kinds_155 : decode b_X_kinds 155 = .ok (.aload_n 0, 1) := by decide +kernel
theorem d_X_kinds_156 : decode b_X_kinds 156 = .ok (.getfield 19, 3) := by decide +kernel
theorem d_X_kinds_159 : decode b_X_kinds 159 = .ok (.getfield 143, 3) := by decide +kernel
theorem d_X_kinds_162 : decode b_X_kinds 162 = .ok (.putfield 143, 3) := by decide +kernel
theorem d_X_kinds_165 : decode b_X_kinds 165 = .ok (.aload_n 0, 1) := by decide +kernel
theorem d_X_kinds_166 : decode b_X_kinds 166 = .ok (.getfield 19, 3) := by decide +kernel
theorem d_X_kinds_169 : decode b_X_kinds 169 = .ok (.aload_n 0, 1) := by decide +kernel
theorem d_X_kinds_170 : decode b_X_kinds 170 = .ok (.invokevirtual 120, 3) := by decide +kernel
theorem d_X_kinds_173 : decode b_X_kinds 173 = .ok (.iload_n 3, 1) := by decide +kernel
theorem d_X_kinds_174 : decode b_X_kinds 174 = .ok (.iload 4, 2) := by decide +kernel
theorem d_X_kinds_176 : decode b_X_kinds 176 = .ok (.bipush (10), 2) := by decide +kernel
theorem d_X_kinds_178 : decode b_X_kinds 178 = .ok (.idiv, 1) := by decide +kernel
theorem d_X_kinds_179 : decode b_X_kinds 179 = .ok (.invokevirtual 175, 3) := by decide +kernel
theorem d_X_kinds_182 : decode b_X_kinds 182 = .ok (.aload_n 0, 1) := by decide +kernel
theorem d_X_kinds_183 : decode b_X_kinds 183 = .ok (.aload_n 0, 1) := by decide +kernel
theorem d_X_kinds_184 : decode b_X_kinds 184 = .ok (.iload_n 1, 1) := by decide +kernel
theorem d_X_kinds_185 : decode b_X_kinds 185 = .ok (.invokevirtual 256, 3) := by decide +kernel
theorem d_X_kinds_188 : decode b_X_kinds 188 = .ok (.aload_n 0, 1) := by decide +kernel
theorem d_X_kinds_189 : decode b_X_kinds 189 = .ok (.invokevirtual 120, 3) := by decide +kernel
theorem d_X_kinds_192 : decode b_X_kinds 192 = .ok (.iload 4, 2) := by decide +kernel
theorem d_X_kinds_194 : decode b_X_kinds 194 = .ok (.bipush (10), 2) := by decide +kernel
theorem d_X_kinds_196 : decode b_X_kinds 196 = .ok (.irem, 1) := by decide +kernel
theorem d_X_kinds_197 : decode b_X_kinds 197 = .ok (.invokevirtual 260, 3) := by decide +kernel
theorem d_X_kinds_200 : decode b_X_kinds 200 = .ok (.ifCond .ge 12, 3) := by decide +kernel
theorem d_X_kinds_203 : decode b_X_kinds 203 = .ok (.iload 8, 2) := by decide +kernel
theorem d_X_kinds_205 : decode b_X_kinds 205 = .ok (.iconst 1, 1) := by decide +kernel
theorem d_X_kinds_206 : decode b_X_kinds 206 = .ok (.iload 9, 2) := by decide +kernel
theorem d_X_kinds_208 : decode b_X_kinds 208 = .ok (.ishl, 1) := by decide +kernel
theorem d_X_kinds_209 : decode b_X_kinds 209 = .ok (.ior, 1) := by decide +kernel
theorem d_X_kinds_210 : decode b_X_kinds 210 = .ok (.istore 8, 2) := by decide +kernel
theorem d_X_kinds_212 : decode b_X_kinds 212 = .ok (.iinc 9 (1), 3) := by decide +kernel
theorem d_X_kinds_215 : decode b_X_kinds 215 = .ok (.goto (-140), 3) := by decide +kernel
theorem d_X_kinds_218 : decode b_X_kinds 218 = .ok (.iload 8, 2) := by decide +kernel
theorem d_X_kinds_220 : decode b_X_kinds 220 = .ok (.ireturn, 1) := by decide +kernel
abbrev b_X_laws : ByteArray := prog_1_method_25_code
def y_X_laws : MethodName := ⟨"RoundAndRound", "laws", "(IIII)I"⟩
theorem d_X_laws_0 : decode b_X_laws 0 = .ok (.aload_n 0, 1) := by decide +kernel
theorem d_X_laws_1 : decode b_X_laws 1 = .ok (.iload_n 1, 1) := by decide +kernel
theorem d_X_laws_2 : decode b_X_laws 2 = .ok (.iload_n 2, 1) := by decide +kernel
theorem d_X_laws_3 : decode b_X_laws 3 = .ok (.invokevirtual 253, 3) := by decide +kernel
theorem d_X_laws_6 : decode b_X_laws 6 = .ok (.istore 5, 2) := by decide +kernel
theorem d_X_laws_8 : decode b_X_laws 8 = .ok (.iload 5, 2) := by decide +kernel
theorem d_X_laws_10 : decode b_X_laws 10 = .ok (.ifCond .eq 6, 3) := by decide +kernel
theorem d_X_laws_13 : decode b_X_laws 13 = .ok (.iload 5, 2) := by decide +kernel
theorem d_X_laws_15 : decode b_X_laws 15 = .ok (.ireturn, 1) := by decide +kernel
theorem d_X_laws_16 : decode b_X_laws 16 = .ok (.iload_n 3, 1) := by decide +kernel
theorem d_X_laws_17 : decode b_X_laws 17 = .ok (.invokestatic 169, 3) := by decide +kernel
theorem d_X_laws_20 : decode b_X_laws 20 = .ok (.ifCond .eq 11, 3) := by decide +kernel
theorem d_X_laws_23 : decode b_X_laws 23 = .ok (.iload 4, 2) := by decide +kernel
theorem d_X_laws_25 : decode b_X_laws 25 = .ok (.invokestatic 241, 3) := by decide +kernel
theorem d_X_laws_28 : decode b_X_laws 28 = .ok (.ifCond .ne 6, 3) := by decide +kernel
theorem d_X_laws_31 : decode b_X_laws 31 = .ok (.bipush (-7), 2) := by decide +kernel
theorem d_X_laws_33 : decode b_X_laws 33 = .ok (.ireturn, 1) := by decide +kernel
theorem d_X_laws_34 : decode b_X_laws 34 = .ok (.iconst 0, 1) := by decide +kernel
theorem d_X_laws_35 : decode b_X_laws 35 = .ok (.istore 6, 2) := by decide +kernel
theorem d_X_laws_37 : decode b_X_laws 37 = .ok (.iconst 0, 1) := by decide +kernel
theorem d_X_laws_38 : decode b_X_laws 38 = .ok (.istore 7, 2) := by decide +kernel
theorem d_X_laws_40 : decode b_X_laws 40 = .ok (.iload 7, 2) := by decide +kernel
theorem d_X_laws_42 : decode b_X_laws 42 = .ok (.aload_n 0, 1) := by decide +kernel
theorem d_X_laws_43 : decode b_X_laws 43 = .ok (.getfield 63, 3) := by decide +kernel
theorem d_X_laws_46 : decode b_X_laws 46 = .ok (.if_icmp .ge 62, 3) := by decide +kernel
theorem d_X_laws_49 : decode b_X_laws 49 = .ok (.aload_n 0, 1) := by decide +kernel
theorem d_X_laws_50 : decode b_X_laws 50 = .ok (.aload_n 0, 1) := by decide +kernel
theorem d_X_laws_51 : decode b_X_laws 51 = .ok (.iload_n 2, 1) := by decide +kernel
theorem d_X_laws_52 : decode b_X_laws 52 = .ok (.invokevirtual 124, 3) := by decide +kernel
theorem d_X_laws_55 : decode b_X_laws 55 = .ok (.aload_n 0, 1) := by decide +kernel
theorem d_X_laws_56 : decode b_X_laws 56 = .ok (.iload 7, 2) := by decide +kernel
theorem d_X_laws_58 : decode b_X_laws 58 = .ok (.invokevirtual 91, 3) := by decide +kernel
theorem d_X_laws_61 : decode b_X_laws 61 = .ok (.iload_n 3, 1) := by decide +kernel
theorem d_X_laws_62 : decode b_X_laws 62 = .ok (.iload 4, 2) := by decide +kernel
theorem d_X_laws_64 : decode b_X_laws 64 = .ok (.bipush (10), 2) := by decide +kernel
theorem d_X_laws_66 : decode b_X_laws 66 = .ok (.idiv, 1) := by decide +kernel
theorem d_X_laws_67 : decode b_X_laws 67 = .ok (.invokevirtual 201, 3) := by decide +kernel
theorem d_X_laws_70 : decode b_X_laws 70 = .ok (.aload_n 0, 1) := by decide +kernel
theorem d_X_laws_71 : decode b_X_laws 71 = .ok (.aload_n 0, 1) := by decide +kernel
theorem d_X_laws_72 : decode b_X_laws 72 = .ok (.iload_n 1, 1) := by decide +kernel
theorem d_X_laws_73 : decode b_X_laws 73 = .ok (.invokevirtual 256, 3) := by decide +kernel
theorem d_X_laws_76 : decode b_X_laws 76 = .ok (.aload_n 0, 1) := by decide +kernel
theorem d_X_laws_77 : decode b_X_laws 77 = .ok (.iload 7, 2) := by decide +kernel
theorem d_X_laws_79 : decode b_X_laws 79 = .ok (.invokevirtual 91, 3) := by decide +kernel
theorem d_X_laws_82 : decode b_X_laws 82 = .ok (.iload 4, 2) := by decide +kernel
theorem d_X_laws_84 : decode b_X_laws 84 = .ok (.bipush (10), 2) := by decide +kernel
theorem d_X_laws_86 : decode b_X_laws 86 = .ok (.irem, 1) := by decide +kernel
theorem d_X_laws_87 : decode b_X_laws 87 = .ok (.invokevirtual 260, 3) := by decide +kernel
theorem d_X_laws_90 : decode b_X_laws 90 = .ok (.ifCond .ge 12, 3) := by decide +kernel
theorem d_X_laws_93 : decode b_X_laws 93 = .ok (.iload 6, 2) := by decide +kernel
theorem d_X_laws_95 : decode b_X_laws 95 = .ok (.iconst 1, 1) := by decide +kernel
theorem d_X_laws_96 : decode b_X_laws 96 = .ok (.iload 7, 2) := by decide +kernel
theorem d_X_laws_98 : decode b_X_laws 98 = .ok (.ishl, 1) := by decide +kernel
theorem d_X_laws_99 : decode b_X_laws 99 = .ok (.ior, 1) := by decide +kernel
theorem d_X_laws_100 : decode b_X_laws 100 = .ok (.istore 6, 2) := by decide +kernel
theorem d_X_laws_102 : decode b_X_laws 102 = .ok (.iinc 7 (1), 3) := by decide +kernel
theorem d_X_laws_105 : decode b_X_laws 105 = .ok (.goto (-65), 3) := by decide +kernel
theorem d_X_laws_108 : decode b_X_laws 108 = .ok (.iload 6, 2) := by decide +kernel
theorem d_X_laws_110 : decode b_X_laws 110 = .ok (.ireturn, 1) := by decide +kernel
abbrev b_X_whose : ByteArray := prog_1_method_26_code
def y_X_whose : MethodName := ⟨"RoundAndRound", "whose", "(III)I"⟩
theorem d_X_whose_0 : decode b_X_whose 0 = .ok (.aload_n 0, 1) := by decide +kernel
theorem d_X_whose_1 : decode b_X_whose 1 = .ok (.iload_n 1, 1) := by decide +kernel
theorem d_X_whose_2 : decode b_X_whose 2 = .ok (.invokevirtual 264, 3) := by decide +kernel
theorem d_X_whose_5 : decode b_X_whose 5 = .ok (.istore 4, 2) := by decide +kernel
theorem d_X_whose_7 : decode b_X_whose 7 = .ok (.iload 4, 2) := by decide +kernel
theorem d_X_whose_9 : decode b_X_whose 9 = .ok (.ifCond .eq 6, 3) := by decide +kernel
theorem d_X_whose_12 : decode b_X_whose 12 = .ok (.iload 4, 2) := by decide +kernel
theorem d_X_whose_14 : decode b_X_whose 14 = .ok (.ireturn, 1) := by decide +kernel
theorem d_X_whose_15 : decode b_X_whose 15 = .ok (.iload_n 2, 1) := by decide +kernel
theorem d_X_whose_16 : decode b_X_whose 16 = .ok (.invokestatic 169, 3) := by decide +kernel
theorem d_X_whose_19 : decode b_X_whose 19 = .ok (.ifCond .eq 10, 3) := by decide +kernel
theorem d_X_whose_22 : decode b_X_whose 22 = .ok (.iload_n 3, 1) := by decide +kernel
theorem d_X_whose_23 : decode b_X_whose 23 = .ok (.invokestatic 241, 3) := by decide +kernel
theorem d_X_whose_26 : decode b_X_whose 26 = .ok (.ifCond .ne 6, 3) := by decide +kernel
theorem d_X_whose_29 : decode b_X_whose 29 = .ok (.bipush (-7), 2) := by decide +kernel
theorem d_X_whose_31 : decode b_X_whose 31 = .ok (.ireturn, 1) := by decide +kernel
theorem d_X_whose_32 : decode b_X_whose 32 = .ok (.iconst 0, 1) := by decide +kernel
theorem d_X_whose_33 : decode b_X_whose 33 = .ok (.istore 5, 2) := by decide +kernel
theorem d_X_whose_35 : decode b_X_whose 35 = .ok (.iconst 0, 1) := by decide +kernel
theorem d_X_whose_36 : decode b_X_whose 36 = .ok (.istore 6, 2) := by decide +kernel
theorem d_X_whose_38 : decode b_X_whose 38 = .ok (.iload 6, 2) := by decide +kernel
theorem d_X_whose_40 : decode b_X_whose 40 = .ok (.aload_n 0, 1) := by decide +kernel
theorem d_X_whose_41 : decode b_X_whose 41 = .ok (.getfield 59, 3) := by decide +kernel
theorem d_X_whose_44 : decode b_X_whose 44 = .ok (.if_icmp .ge 57, 3) := by decide +kernel
theorem d_X_whose_47 : decode b_X_whose 47 = .ok (.aload_n 0, 1) := by decide +kernel
theorem d_X_whose_48 : decode b_X_whose 48 = .ok (.aload_n 0, 1) := by decide +kernel
theorem d_X_whose_49 : decode b_X_whose 49 = .ok (.iload 6, 2) := by decide +kernel
theorem d_X_whose_51 : decode b_X_whose 51 = .ok (.invokevirtual 124, 3) := by decide +kernel
theorem d_X_whose_54 : decode b_X_whose 54 = .ok (.aload_n 0, 1) := by decide +kernel
theorem d_X_whose_55 : decode b_X_whose 55 = .ok (.invokevirtual 120, 3) := by decide +kernel
theorem d_X_whose_58 : decode b_X_whose 58 = .ok (.iload_n 2, 1) := by decide +kernel
theorem d_X_whose_59 : decode b_X_whose 59 = .ok (.iload_n 3, 1) := by decide +kernel
theorem d_X_whose_60 : decode b_X_whose 60 = .ok (.bipush (10), 2) := by decide +kernel
theorem d_X_whose_62 : decode b_X_whose 62 = .ok (.idiv, 1) := by decide +kernel
theorem d_X_whose_63 : decode b_X_whose 63 = .ok (.invokevirtual 201, 3) := by decide +kernel
theorem d_X_whose_66 : decode b_X_whose 66 = .ok (.aload_n 0, 1) := by decide +kernel
theorem d_X_whose_67 : decode b_X_whose 67 = .ok (.aload_n 0, 1) := by decide +kernel
theorem d_X_whose_68 : decode b_X_whose 68 = .ok (.iload_n 1, 1) := by decide +kernel
theorem d_X_whose_69 : decode b_X_whose 69 = .ok (.invokevirtual 256, 3) := by decide +kernel
theorem d_X_whose_72 : decode b_X_whose 72 = .ok (.aload_n 0, 1) := by decide +kernel
theorem d_X_whose_73 : decode b_X_whose 73 = .ok (.invokevirtual 120, 3) := by decide +kernel
theorem d_X_whose_76 : decode b_X_whose 76 = .ok (.iload_n 3, 1) := by decide +kernel
theorem d_X_whose_77 : decode b_X_whose 77 = .ok (.bipush (10), 2) := by decide +kernel
theorem d_X_whose_79 : decode b_X_whose 79 = .ok (.irem, 1) := by decide +kernel
theorem d_X_whose_80 : decode b_X_whose 80 = .ok (.invokevirtual 260, 3) := by decide +kernel
theorem d_X_whose_83 : decode b_X_whose 83 = .ok (.ifCond .ge 12, 3) := by decide +kernel
theorem d_X_whose_86 : decode b_X_whose 86 = .ok (.iload 5, 2) := by decide +kernel
theorem d_X_whose_88 : decode b_X_whose 88 = .ok (.iconst 1, 1) := by decide +kernel
theorem d_X_whose_89 : decode b_X_whose 89 = .ok (.iload 6, 2) := by decide +kernel
theorem d_X_whose_91 : decode b_X_whose 91 = .ok (.ishl, 1) := by decide +kernel
theorem d_X_whose_92 : decode b_X_whose 92 = .ok (.ior, 1) := by decide +kernel
theorem d_X_whose_93 : decode b_X_whose 93 = .ok (.istore 5, 2) := by decide +kernel
theorem d_X_whose_95 : decode b_X_whose 95 = .ok (.iinc 6 (1), 3) := by decide +kernel
theorem d_X_whose_98 : decode b_X_whose 98 = .ok (.goto (-60), 3) := by decide +kernel
theorem d_X_whose_101 : decode b_X_whose 101 = .ok (.iload 5, 2) := by decide +kernel
theorem d_X_whose_103 : decode b_X_whose 103 = .ok (.ireturn, 1) := by decide +kernel
abbrev b_X_film : ByteArray := prog_1_method_27_code
def y_X_film : MethodName := ⟨"RoundAndRound", "film", "(IIIII)I"⟩
theorem d_X_film_0 : decode b_X_film 0 = .ok (.iload_n 1, 1) := by decide +kernel
theorem d_X_film_1 : decode b_X_film 1 = .ok (.invokestatic 267, 3) := by decide +kernel
theorem d_X_film_4 : decode b_X_film 4 = .ok (.ifCond .ne 6, 3) := by decide +kernel
theorem d_X_film_7 : decode b_X_film 7 = .ok (.bipush (-2), 2) := by decide +kernel
theorem d_X_film_9 : decode b_X_film 9 = .ok (.ireturn, 1) := by decide +kernel
theorem d_X_film_10 : decode b_X_film 10 = .ok (.aload_n 0, 1) := by decide +kernel
theorem d_X_film_11 : decode b_X_film 11 = .ok (.iload_n 2, 1) := by decide +kernel
theorem d_X_film_12 : decode b_X_film 12 = .ok (.invokevirtual 113, 3) := by decide +kernel
theorem d_X_film_15 : decode b_X_film 15 = .ok (.ifCond .ne 6, 3) := by decide +kernel
theorem d_X_film_18 : decode b_X_film 18 = .ok (.bipush (-5), 2) := by decide +kernel
theorem d_X_film_20 : decode b_X_film 20 = .ok (.ireturn, 1) := by decide +kernel
theorem d_X_film_21 : decode b_X_film 21 = .ok (.iload_n 3, 1) := by decide +kernel
theorem d_X_film_22 : decode b_X_film 22 = .ok (.invokestatic 169, 3) := by decide +kernel
theorem d_X_film_25 : decode b_X_film 25 = .ok (.ifCond .eq 22, 3) := by decide +kernel
theorem d_X_film_28 : decode b_X_film 28 = .ok (.iload 4, 2) := by decide +kernel
theorem d_X_film_30 : decode b_X_film 30 = .ok (.invokestatic 241, 3) := by decide +kernel
theorem d_X_film_33 : decode b_X_film 33 = .ok (.ifCond .eq 14, 3) := by decide +kernel
theorem d_X_film_36 : decode b_X_film 36 = .ok (.iload 5, 2) := by decide +kernel
theorem d_X_film_38 : decode b_X_film 38 = .ok (.iconst 0, 1) := by decide +kernel
theorem d_X_film_39 : decode b_X_film 39 = .ok (.bipush (40), 2) := by decide +kernel
theorem d_X_film_41 : decode b_X_film 41 = .ok (.invokestatic 105, 3) := by decide +kernel
theorem d_X_film_44 : decode b_X_film 44 = .ok (.ifCond .ne 6, 3) := by decide +kernel
theorem d_X_film_47 : decode b_X_film 47 = .ok (.bipush (-7), 2) := by decide +kernel
theorem d_X_film_49 : decode b_X_film 49 = .ok (.ireturn, 1) := by decide +kernel
theorem d_X_film_50 : decode b_X_film 50 = .ok (.aload_n 0, 1) := by decide +kernel
theorem d_X_film_51 : decode b_X_film 51 = .ok (.iload_n 1, 1) := by decide +kernel
theorem d_X_film_52 : decode b_X_film 52 = .ok (.invokevirtual 256, 3) := by decide +kernel
theorem d_X_film_55 : decode b_X_film 55 = .ok (.astore 6, 2) := by decide +kernel
theorem d_X_film_57 : decode b_X_film 57 = .ok (.aload 6, 2) := by decide +kernel
theorem d_X_film_59 : decode b_X_film 59 = .ok (.iconst 2, 1) := by decide +kernel
theorem d_X_film_60 : decode b_X_film 60 = .ok (.iload 5, 2) := by decide +kernel
theorem d_X_film_62 : decode b_X_film 62 = .ok (.invokevirtual 270, 3) := by decide +kernel
theorem d_X_film_65 : decode b_X_film 65 = .ok (.aload_n 0, 1) := by decide +kernel
theorem d_X_film_66 : decode b_X_film 66 = .ok (.aload_n 0, 1) := by decide +kernel
theorem d_X_film_67 : decode b_X_film 67 = .ok (.iload_n 2, 1) := by decide +kernel
theorem d_X_film_68 : decode b_X_film 68 = .ok (.invokevirtual 124, 3) := by decide +kernel
theorem d_X_film_71 : decode b_X_film 71 = .ok (.aload_n 0, 1) := by decide +kernel
theorem d_X_film_72 : decode b_X_film 72 = .ok (.invokevirtual 120, 3) := by decide +kernel
theorem d_X_film_75 : decode b_X_film 75 = .ok (.iload_n 3, 1) := by decide +kernel
theorem d_X_film_76 : decode b_X_film 76 = .ok (.iload 4, 2) := by decide +kernel
theorem d_X_film_78 : decode b_X_film 78 = .ok (.bipush (10), 2) := by decide +kernel
theorem d_X_film_80 : decode b_X_film 80 = .ok (.idiv, 1) := by decide +kernel
theorem d_X_film_81 : decode b_X_film 81 = .ok (.invokevirtual 201, 3) := by decide +kernel
theorem d_X_film_84 : decode b_X_film 84 = .ok (.iconst 0, 1) := by decide +kernel
theorem d_X_film_85 : decode b_X_film 85 = .ok (.istore 7, 2) := by decide +kernel
theorem d_X_film_87 : decode b_X_film 87 = .ok (.iload 7, 2) := by decide +kernel
theorem d_X_film_89 : decode b_X_film 89 = .ok (.iload 5, 2) := by decide +kernel
theorem d_X_film_91 : decode b_X_film 91 = .ok (.if_icmp .ge 40, 3) := by decide +kernel
theorem d_X_film_94 : decode b_X_film 94 = .ok (.aload_n 0, 1) := by decide +kernel
theorem d_X_film_95 : decode b_X_film 95 = .ok (.getfield 19, 3) := by decide +kernel
theorem d_X_film_98 : decode b_X_film 98 = .ok (.aload_n 0, 1) := by decide +kernel
theorem d_X_film_99 : decode b_X_film 99 = .ok (.invokevirtual 120, 3) := by decide +kernel
theorem d_X_film_102 : decode b_X_film 102 = .ok (.iload 4, 2) := by decide +kernel
theorem d_X_film_104 : decode b_X_film 104 = .ok (.bipush (10), 2) := by decide +kernel
theorem d_X_film_106 : decode b_X_film 106 = .ok (.irem, 1) := by decide +kernel
theorem d_X_film_107 : decode b_X_film 107 = .ok (.iconst 1, 1) := by decide +kernel
theorem d_X_film_108 : decode b_X_film 108 = .ok (.invokevirtual 271, 3) := by decide +kernel
theorem d_X_film_111 : decode b_X_film 111 = .ok (.aload 6, 2) := by decide +kernel
theorem d_X_film_113 : decode b_X_film 113 = .ok (.iload 7, 2) := by decide +kernel
theorem d_X_film_115 : decode b_X_film 115 = .ok (.aload_n 0, 1) := by decide +kernel
theorem d_X_film_116 : decode b_X_film 116 = .ok (.getfield 19, 3) := by decide +kernel
theorem d_X_film_119 : decode b_X_film 119 = .ok (.getfield 159, 3) := by decide +kernel
theorem d_X_film_122 : decode b_X_film 122 = .ok (.invokevirtual 274, 3) := by decide +kernel
theorem d_X_film_125 : decode b_X_film 125 = .ok (.iinc 7 (1), 3) := by decide +kernel
theorem d_X_film_128 : decode b_X_film 128 = .ok (.goto (-41), 3) := by decide +kernel
theorem d_X_film_131 : decode b_X_film 131 = .ok (.iload 5, 2) := by decide +kernel
theorem d_X_film_133 : decode b_X_film 133 = .ok (.ireturn, 1) := by decide +kernel
abbrev b_X_drawn : ByteArray := prog_1_method_28_code
def y_X_drawn : MethodName := ⟨"RoundAndRound", "drawn", "(IIIII)I"⟩
theorem d_X_drawn_0 : decode b_X_drawn 0 = .ok (.aload_n 0, 1) := by decide +kernel
theorem d_X_drawn_1 : decode b_X_drawn 1 = .ok (.iload_n 2, 1) := by decide +kernel
theorem d_X_drawn_2 : decode b_X_drawn 2 = .ok (.invokevirtual 113, 3) := by decide +kernel
theorem d_X_drawn_5 : decode b_X_drawn 5 = .ok (.ifCond .ne 6, 3) := by decide +kernel
theorem d_X_drawn_8 : decode b_X_drawn 8 = .ok (.ldc 139, 2) := by decide +kernel
theorem d_X_drawn_10 : decode b_X_drawn 10 = .ok (.ireturn, 1) := by decide +kernel
theorem d_X_drawn_11 : decode b_X_drawn 11 = .ok (.iload_n 1, 1) := by decide +kernel
theorem d_X_drawn_12 : decode b_X_drawn 12 = .ok (.iconst 0, 1) := by decide +kernel
theorem d_X_drawn_13 : decode b_X_drawn 13 = .ok (.ldc 245, 2) := by decide +kernel
theorem d_X_drawn_15 : decode b_X_drawn 15 = .ok (.invokestatic 105, 3) := by decide +kernel
theorem d_X_drawn_18 : decode b_X_drawn 18 = .ok (.ifCond .eq 28, 3) := by decide +kernel
theorem d_X_drawn_21 : decode b_X_drawn 21 = .ok (.iload_n 3, 1) := by decide +kernel
theorem d_X_drawn_22 : decode b_X_drawn 22 = .ok (.invokestatic 185, 3) := by decide +kernel
theorem d_X_drawn_25 : decode b_X_drawn 25 = .ok (.ifCond .eq 21, 3) := by decide +kernel
theorem d_X_drawn_28 : decode b_X_drawn 28 = .ok (.iload 4, 2) := by decide +kernel
theorem d_X_drawn_30 : decode b_X_drawn 30 = .ok (.invokestatic 277, 3) := by decide +kernel
theorem d_X_drawn_33 : decode b_X_drawn 33 = .ok (.ifCond .eq 13, 3) := by decide +kernel
theorem d_X_drawn_36 : decode b_X_drawn 36 = .ok (.iload 5, 2) := by decide +kernel
theorem d_X_drawn_38 : decode b_X_drawn 38 = .ok (.iconst 0, 1) := by decide +kernel
theorem d_X_drawn_39 : decode b_X_drawn 39 = .ok (.iconst 2, 1) := by decide +kernel
theorem d_X_drawn_40 : decode b_X_drawn 40 = .ok (.invokestatic 105, 3) := by decide +kernel
theorem d_X_drawn_43 : decode b_X_drawn 43 = .ok (.ifCond .ne 6, 3) := by decide +kernel
theorem d_X_drawn_46 : decode b_X_drawn 46 = .ok (.ldc 149, 2) := by decide +kernel
theorem d_X_drawn_48 : decode b_X_drawn 48 = .ok (.ireturn, 1) := by decide +kernel
theorem d_X_drawn_49 : decode b_X_drawn 49 = .ok (.aload_n 0, 1) := by decide +kernel
theorem d_X_drawn_50 : decode b_X_drawn 50 = .ok (.aload_n 0, 1) := by decide +kernel
theorem d_X_drawn_51 : decode b_X_drawn 51 = .ok (.iload_n 2, 1) := by decide +kernel
theorem d_X_drawn_52 : decode b_X_drawn 52 = .ok (.invokevirtual 124, 3) := by decide +kernel
theorem d_X_drawn_55 : decode b_X_drawn 55 = .ok (.iload_n 1, 1) := by decide +kernel
theorem d_X_drawn_56 : decode b_X_drawn 56 = .ok (.iload_n 3, 1) := by decide +kernel
theorem d_X_drawn_57 : decode b_X_drawn 57 = .ok (.iload 4, 2) := by decide +kernel
theorem d_X_drawn_59 : decode b_X_drawn 59 = .ok (.invokevirtual 280, 3) := by decide +kernel
theorem d_X_drawn_62 : decode b_X_drawn 62 = .ok (.iload 5, 2) := by decide +kernel
theorem d_X_drawn_64 : decode b_X_drawn 64 = .ok (.lookupswitch 44 #[(0, 28), (1, 36)], 28) := by decide +kernel
theorem d_X_drawn_92 : decode b_X_drawn 92 = .ok (.aload_n 0, 1) := by decide +kernel
theorem d_X_drawn_93 : decode b_X_drawn 93 = .ok (.getfield 19, 3) := by decide +kernel
theorem d_X_drawn_96 : decode b_X_drawn 96 = .ok (.getfield 159, 3) := by decide +kernel
theorem d_X_drawn_99 : decode b_X_drawn 99 = .ok (.ireturn, 1) := by decide +kernel
theorem d_X_drawn_100 : decode b_X_drawn 100 = .ok (.aload_n 0, 1) := by decide +kernel
theorem d_X_drawn_101 : decode b_X_drawn 101 = .ok (.getfield 19, 3) := by decide +kernel
theorem d_X_drawn_104 : decode b_X_drawn 104 = .ok (.getfield 156, 3) := by decide +kernel
theorem d_X_drawn_107 : decode b_X_drawn 107 = .ok (.ireturn, 1) := by decide +kernel
theorem d_X_drawn_108 : decode b_X_drawn 108 = .ok (.aload_n 0, 1) := by decide +kernel
theorem d_X_drawn_109 : decode b_X_drawn 109 = .ok (.getfield 19, 3) := by decide +kernel
theorem d_X_drawn_112 : decode b_X_drawn 112 = .ok (.getfield 162, 3) := by decide +kernel
theorem d_X_drawn_115 : decode b_X_drawn 115 = .ok (.ifCond .eq 7, 3) := by decide +kernel
theorem d_X_drawn_118 : decode b_X_drawn 118 = .ok (.iconst 1, 1) := by decide +kernel
theorem d_X_drawn_119 : decode b_X_drawn 119 = .ok (.goto 4, 3) := by decide +kernel
theorem d_X_drawn_122 : decode b_X_drawn 122 = .ok (.iconst 0, 1) := by decide +kernel
theorem d_X_drawn_123 : decode b_X_drawn 123 = .ok (.ireturn, 1) := by decide +kernel
abbrev b_X_odds : ByteArray := prog_1_method_29_code
def y_X_odds : MethodName := ⟨"RoundAndRound", "odds", "(IIIIII)J"⟩
theorem d_X_odds_0 : decode b_X_odds 0 = .ok (.aload_n 0, 1) := by decide +kernel
theorem d_X_odds_1 : decode b_X_odds 1 = .ok (.iload_n 3, 1) := by decide +kernel
theorem d_X_odds_2 : decode b_X_odds 2 = .ok (.invokevirtual 113, 3) := by decide +kernel
theorem d_X_odds_5 : decode b_X_odds 5 = .ok (.ifCond .eq 20, 3) := by decide +kernel
theorem d_X_odds_8 : decode b_X_odds 8 = .ok (.iload_n 1, 1) := by decide +kernel
theorem d_X_odds_9 : decode b_X_odds 9 = .ok (.iconst 0, 1) := by decide +kernel
theorem d_X_odds_10 : decode b_X_odds 10 = .ok (.ldc 245, 2) := by decide +kernel
theorem d_X_odds_12 : decode b_X_odds 12 = .ok (.invokestatic 105, 3) := by decide +kernel
theorem d_X_odds_15 : decode b_X_odds 15 = .ok (.ifCond .eq 10, 3) := by decide +kernel
theorem d_X_odds_18 : decode b_X_odds 18 = .ok (.iload_n 2, 1) := by decide +kernel
theorem d_X_odds_19 : decode b_X_odds 19 = .ok (.invokestatic 284, 3) := by decide +kernel
theorem d_X_odds_22 : decode b_X_odds 22 = .ok (.ifCond .ne 7, 3) := by decide +kernel
theorem d_X_odds_25 : decode b_X_odds 25 = .ok (.ldc2_w 287, 3) := by decide +kernel
theorem d_X_odds_28 : decode b_X_odds 28 = .ok (.lreturn, 1) := by decide +kernel
theorem d_X_odds_29 : decode b_X_odds 29 = .ok (.iload 4, 2) := by decide +kernel
theorem d_X_odds_31 : decode b_X_odds 31 = .ok (.invokestatic 277, 3) := by decide +kernel
theorem d_X_odds_34 : decode b_X_odds 34 = .ok (.ifCond .eq 24, 3) := by decide +kernel
theorem d_X_odds_37 : decode b_X_odds 37 = .ok (.iload 5, 2) := by decide +kernel
theorem d_X_odds_39 : decode b_X_odds 39 = .ok (.iconst 0, 1) := by decide +kernel
theorem d_X_odds_40 : decode b_X_odds 40 = .ok (.ldc 245, 2) := by decide +kernel
theorem d_X_odds_42 : decode b_X_odds 42 = .ok (.invokestatic 105, 3) := by decide +kernel
theorem d_X_odds_45 : decode b_X_odds 45 = .ok (.ifCond .eq 13, 3) := by decide +kernel
theorem d_X_odds_48 : decode b_X_odds 48 = .ok (.iload 6, 2) := by decide +kernel
theorem d_X_odds_50 : decode b_X_odds 50 = .ok (.iconst 0, 1) := by decide +kernel
theorem d_X_odds_51 : decode b_X_odds 51 = .ok (.iconst 1, 1) := by decide +kernel
theorem d_X_odds_52 : decode b_X_odds 52 = .ok (.invokestatic 105, 3) := by decide +kernel
theorem d_X_odds_55 : decode b_X_odds 55 = .ok (.ifCond .ne 7, 3) := by decide +kernel
theorem d_X_odds_58 : decode b_X_odds 58 = .ok (.ldc2_w 287, 3) := by decide +kernel
theorem d_X_odds_61 : decode b_X_odds 61 = .ok (.lreturn, 1) := by decide +kernel
theorem d_X_odds_62 : decode b_X_odds 62 = .ok (.iload_n 2, 1) := by decide +kernel
theorem d_X_odds_63 : decode b_X_odds 63 = .ok (.bipush (100), 2) := by decide +kernel
theorem d_X_odds_65 : decode b_X_odds 65 = .ok (.irem, 1) := by decide +kernel
theorem d_X_odds_66 : decode b_X_odds 66 = .ok (.istore 7, 2) := by decide +kernel
theorem d_X_odds_68 : decode b_X_odds 68 = .ok (.iconst 0, 1) := by decide +kernel
theorem d_X_odds_69 : decode b_X_odds 69 = .ok (.istore 8, 2) := by decide +kernel
theorem d_X_odds_71 : decode b_X_odds 71 = .ok (.iconst 0, 1) := by decide +kernel
theorem d_X_odds_72 : decode b_X_odds 72 = .ok (.istore 9, 2) := by decide +kernel
theorem d_X_odds_74 : decode b_X_odds 74 = .ok (.iload 9, 2) := by decide +kernel
theorem d_X_odds_76 : decode b_X_odds 76 = .ok (.iload 7, 2) := by decide +kernel
theorem d_X_odds_78 : decode b_X_odds 78 = .ok (.if_icmp .ge 46, 3) := by decide +kernel
theorem d_X_odds_81 : decode b_X_odds 81 = .ok (.aload_n 0, 1) := by decide +kernel
theorem d_X_odds_82 : decode b_X_odds 82 = .ok (.aload_n 0, 1) := by decide +kernel
theorem d_X_odds_83 : decode b_X_odds 83 = .ok (.iload_n 3, 1) := by decide +kernel
theorem d_X_odds_84 : decode b_X_odds 84 = .ok (.invokevirtual 124, 3) := by decide +kernel
theorem d_X_odds_87 : decode b_X_odds 87 = .ok (.iload_n 1, 1) := by decide +kernel
theorem d_X_odds_88 : decode b_X_odds 88 = .ok (.iload 9, 2) := by decide +kernel
theorem d_X_odds_90 : decode b_X_odds 90 = .ok (.iadd, 1) := by decide +kernel
theorem d_X_odds_91 : decode b_X_odds 91 = .ok (.iload_n 2, 1) := by decide +kernel
theorem d_X_odds_92 : decode b_X_odds 92 = .ok (.bipush (100), 2) := by decide +kernel
theorem d_X_odds_94 : decode b_X_odds 94 = .ok (.idiv, 1) := by decide +kernel
theorem d_X_odds_95 : decode b_X_odds 95 = .ok (.iload 4, 2) := by decide +kernel
theorem d_X_odds_97 : decode b_X_odds 97 = .ok (.invokevirtual 280, 3) := by decide +kernel
theorem d_X_odds_100 : decode b_X_odds 100 = .ok (.aload_n 0, 1) := by decide +kernel
theorem d_X_odds_101 : decode b_X_odds 101 = .ok (.getfield 19, 3) := by decide +kernel
theorem d_X_odds_104 : decode b_X_odds 104 = .ok (.getfield 159, 3) := by decide +kernel
theorem d_X_odds_107 : decode b_X_odds 107 = .ok (.invokestatic 216, 3) := by decide +kernel
theorem d_X_odds_110 : decode b_X_odds 110 = .ok (.iload 5, 2) := by decide +kernel
theorem d_X_odds_112 : decode b_X_odds 112 = .ok (.if_icmp .gt 6, 3) := by decide +kernel
theorem d_X_odds_115 : decode b_X_odds 115 = .ok (.iinc 8 (1), 3) := by decide +kernel
theorem d_X_odds_118 : decode b_X_odds 118 = .ok (.iinc 9 (1), 3) := by decide +kernel
theorem d_X_odds_121 : decode b_X_odds 121 = .ok (.goto (-47), 3) := by decide +kernel
theorem d_X_odds_124 : decode b_X_odds 124 = .ok (.iload 8, 2) := by decide +kernel
theorem d_X_odds_126 : decode b_X_odds 126 = .ok (.iload 7, 2) := by decide +kernel
theorem d_X_odds_128 : decode b_X_odds 128 = .ok (.invokestatic 289, 3) := by decide +kernel
theorem d_X_odds_131 : decode b_X_odds 131 = .ok (.istore 9, 2) := by decide +kernel
theorem d_X_odds_133 : decode b_X_odds 133 = .ok (.iload 6, 2) := by decide +kernel
theorem d_X_odds_135 : decode b_X_odds 135 = .ok (.ifCond .ne 8, 3) := by decide +kernel
theorem d_X_odds_138 : decode b_X_odds 138 = .ok (.iload 8, 2) := by decide +kernel
theorem d_X_odds_140 : decode b_X_odds 140 = .ok (.goto 5, 3) := by decide +kernel
theorem d_X_odds_143 : decode b_X_odds 143 = .ok (.iload 7, 2) := by decide +kernel
theorem d_X_odds_145 : decode b_X_odds 145 = .ok (.iload 9, 2) := by decide +kernel
theorem d_X_odds_147 : decode b_X_odds 147 = .ok (.idiv, 1) := by decide +kernel
theorem d_X_odds_148 : decode b_X_odds 148 = .ok (.i2l, 1) := by decide +kernel
theorem d_X_odds_149 : decode b_X_odds 149 = .ok (.lreturn, 1) := by decide +kernel
abbrev b_X_image : ByteArray := prog_1_method_30_code
def y_X_image : MethodName := ⟨"RoundAndRound", "image", "()I"⟩
theorem d_X_image_0 : decode b_X_image 0 = .ok (.iconst 0, 1) := by decide +kernel
theorem d_X_image_1 : decode b_X_image 1 = .ok (.istore_n 1, 1) := by decide +kernel
theorem d_X_image_2 : decode b_X_image 2 = .ok (.iload_n 1, 1) := by decide +kernel
theorem d_X_image_3 : decode b_X_image 3 = .ok (.aload_n 0, 1) := by decide +kernel
theorem d_X_image_4 : decode b_X_image 4 = .ok (.getfield 59, 3) := by decide +kernel
theorem d_X_image_7 : decode b_X_image 7 = .ok (.if_icmp .ge 22, 3) := by decide +kernel
theorem d_X_image_10 : decode b_X_image 10 = .ok (.aload_n 0, 1) := by decide +kernel
theorem d_X_image_11 : decode b_X_image 11 = .ok (.iload_n 1, 1) := by decide +kernel
theorem d_X_image_12 : decode b_X_image 12 = .ok (.invokevirtual 292, 3) := by decide +kernel
theorem d_X_image_15 : decode b_X_image 15 = .ok (.aload_n 0, 1) := by decide +kernel
theorem d_X_image_16 : decode b_X_image 16 = .ok (.iload_n 1, 1) := by decide +kernel
theorem d_X_image_17 : decode b_X_image 17 = .ok (.invokevirtual 124, 3) := by decide +kernel
theorem d_X_image_20 : decode b_X_image 20 = .ok (.invokevirtual 235, 3) := by decide +kernel
theorem d_X_image_23 : decode b_X_image 23 = .ok (.iinc 1 (1), 3) := by decide +kernel
theorem d_X_image_26 : decode b_X_image 26 = .ok (.goto (-24), 3) := by decide +kernel
theorem d_X_image_29 : decode b_X_image 29 = .ok (.aload_n 0, 1) := by decide +kernel
theorem d_X_image_30 : decode b_X_image 30 = .ok (.aload_n 0, 1) := by decide +kernel
theorem d_X_image_31 : decode b_X_image 31 = .ok (.getfield 59, 3) := by decide +kernel
theorem d_X_image_34 : decode b_X_image 34 = .ok (.putfield 69, 3) := by decide +kernel
theorem d_X_image_37 : decode b_X_image 37 = .ok (.aload_n 0, 1) := by decide +kernel
theorem d_X_image_38 : decode b_X_image 38 = .ok (.aload_n 0, 1) := by decide +kernel
theorem d_X_image_39 : decode b_X_image 39 = .ok (.getfield 66, 3) := by decide +kernel
theorem d_X_image_42 : decode b_X_image 42 = .ok (.putfield 72, 3) := by decide +kernel
theorem d_X_image_45 : decode b_X_image 45 = .ok (.aload_n 0, 1) := by decide +kernel
theorem d_X_image_46 : decode b_X_image 46 = .ok (.getfield 59, 3) := by decide +kernel
theorem d_X_image_49 : decode b_X_image 49 = .ok (.ireturn, 1) := by decide +kernel
abbrev b_X_back : ByteArray := prog_1_method_31_code
def y_X_back : MethodName := ⟨"RoundAndRound", "back", "()I"⟩
theorem d_X_back_0 : decode b_X_back 0 = .ok (.aload_n 0, 1) := by decide +kernel
theorem d_X_back_1 : decode b_X_back 1 = .ok (.getfield 69, 3) := by decide +kernel
theorem d_X_back_4 : decode b_X_back 4 = .ok (.ifCond .ge 6, 3) := by decide +kernel
theorem d_X_back_7 : decode b_X_back 7 = .ok (.bipush (-3), 2) := by decide +kernel
theorem d_X_back_9 : decode b_X_back 9 = .ok (.ireturn, 1) := by decide +kernel
theorem d_X_back_10 : decode b_X_back 10 = .ok (.iconst 0, 1) := by decide +kernel
theorem d_X_back_11 : decode b_X_back 11 = .ok (.istore_n 1, 1) := by decide +kernel
theorem d_X_back_12 : decode b_X_back 12 = .ok (.iload_n 1, 1) := by decide +kernel
theorem d_X_back_13 : decode b_X_back 13 = .ok (.aload_n 0, 1) := by decide +kernel
theorem d_X_back_14 : decode b_X_back 14 = .ok (.getfield 69, 3) := by decide +kernel
theorem d_X_back_17 : decode b_X_back 17 = .ok (.if_icmp .ge 22, 3) := by decide +kernel
theorem d_X_back_20 : decode b_X_back 20 = .ok (.aload_n 0, 1) := by decide +kernel
theorem d_X_back_21 : decode b_X_back 21 = .ok (.iload_n 1, 1) := by decide +kernel
theorem d_X_back_22 : decode b_X_back 22 = .ok (.invokevirtual 124, 3) := by decide +kernel
theorem d_X_back_25 : decode b_X_back 25 = .ok (.aload_n 0, 1) := by decide +kernel
theorem d_X_back_26 : decode b_X_back 26 = .ok (.iload_n 1, 1) := by decide +kernel
theorem d_X_back_27 : decode b_X_back 27 = .ok (.invokevirtual 292, 3) := by decide +kernel
theorem d_X_back_30 : decode b_X_back 30 = .ok (.invokevirtual 235, 3) := by decide +kernel
theorem d_X_back_33 : decode b_X_back 33 = .ok (.iinc 1 (1), 3) := by decide +kernel
theorem d_X_back_36 : decode b_X_back 36 = .ok (.goto (-24), 3) := by decide +kernel
theorem d_X_back_39 : decode b_X_back 39 = .ok (.aload_n 0, 1) := by decide +kernel
theorem d_X_back_40 : decode b_X_back 40 = .ok (.aload_n 0, 1) := by decide +kernel
theorem d_X_back_41 : decode b_X_back 41 = .ok (.getfield 69, 3) := by decide +kernel
theorem d_X_back_44 : decode b_X_back 44 = .ok (.putfield 59, 3) := by decide +kernel
theorem d_X_back_47 : decode b_X_back 47 = .ok (.aload_n 0, 1) := by decide +kernel
theorem d_X_back_48 : decode b_X_back 48 = .ok (.aload_n 0, 1) := by decide +kernel
theorem d_X_back_49 : decode b_X_back 49 = .ok (.getfield 72, 3) := by decide +kernel
theorem d_X_back_52 : decode b_X_back 52 = .ok (.putfield 66, 3) := by decide +kernel
theorem d_X_back_55 : decode b_X_back 55 = .ok (.aload_n 0, 1) := by decide +kernel
theorem d_X_back_56 : decode b_X_back 56 = .ok (.getfield 59, 3) := by decide +kernel
theorem d_X_back_59 : decode b_X_back 59 = .ok (.ireturn, 1) := by decide +kernel
abbrev b_X_sheet : ByteArray := prog_1_method_32_code
def y_X_sheet : MethodName := ⟨"RoundAndRound", "sheet", "(III)I"⟩
theorem d_X_sheet_0 : decode b_X_sheet 0 = .ok (.iload_n 1, 1) := by decide +kernel
theorem d_X_sheet_1 : decode b_X_sheet 1 = .ok (.invokestatic 267, 3) := by decide +kernel
theorem d_X_sheet_4 : decode b_X_sheet 4 = .ok (.ifCond .eq 12, 3) := by decide +kernel
theorem d_X_sheet_7 : decode b_X_sheet 7 = .ok (.iload_n 2, 1) := by decide +kernel
theorem d_X_sheet_8 : decode b_X_sheet 8 = .ok (.iconst (-1), 1) := by decide +kernel
theorem d_X_sheet_9 : decode b_X_sheet 9 = .ok (.iconst 2, 1) := by decide +kernel
theorem d_X_sheet_10 : decode b_X_sheet 10 = .ok (.invokestatic 105, 3) := by decide +kernel
theorem d_X_sheet_13 : decode b_X_sheet 13 = .ok (.ifCond .ne 6, 3) := by decide +kernel
theorem d_X_sheet_16 : decode b_X_sheet 16 = .ok (.bipush (-2), 2) := by decide +kernel
theorem d_X_sheet_18 : decode b_X_sheet 18 = .ok (.ireturn, 1) := by decide +kernel
theorem d_X_sheet_19 : decode b_X_sheet 19 = .ok (.iload_n 2, 1) := by decide +kernel
theorem d_X_sheet_20 : decode b_X_sheet 20 = .ok (.iconst (-1), 1) := by decide +kernel
theorem d_X_sheet_21 : decode b_X_sheet 21 = .ok (.if_icmp .ne 15, 3) := by decide +kernel
theorem d_X_sheet_24 : decode b_X_sheet 24 = .ok (.aload_n 0, 1) := by decide +kernel
theorem d_X_sheet_25 : decode b_X_sheet 25 = .ok (.iload_n 1, 1) := by decide +kernel
theorem d_X_sheet_26 : decode b_X_sheet 26 = .ok (.invokevirtual 256, 3) := by decide +kernel
theorem d_X_sheet_29 : decode b_X_sheet 29 = .ok (.iconst (-1), 1) := by decide +kernel
theorem d_X_sheet_30 : decode b_X_sheet 30 = .ok (.iconst 0, 1) := by decide +kernel
theorem d_X_sheet_31 : decode b_X_sheet 31 = .ok (.invokevirtual 270, 3) := by decide +kernel
theorem d_X_sheet_34 : decode b_X_sheet 34 = .ok (.iconst 1, 1) := by decide +kernel
theorem d_X_sheet_35 : decode b_X_sheet 35 = .ok (.ireturn, 1) := by decide +kernel
theorem d_X_sheet_36 : decode b_X_sheet 36 = .ok (.iload_n 3, 1) := by decide +kernel
theorem d_X_sheet_37 : decode b_X_sheet 37 = .ok (.bipush (40), 2) := by decide +kernel
theorem d_X_sheet_39 : decode b_X_sheet 39 = .ok (.if_icmp .le 6, 3) := by decide +kernel
theorem d_X_sheet_42 : decode b_X_sheet 42 = .ok (.bipush (-2), 2) := by decide +kernel
theorem d_X_sheet_44 : decode b_X_sheet 44 = .ok (.ireturn, 1) := by decide +kernel
theorem d_X_sheet_45 : decode b_X_sheet 45 = .ok (.iload_n 3, 1) := by decide +kernel
theorem d_X_sheet_46 : decode b_X_sheet 46 = .ok (.ifCond .ge 6, 3) := by decide +kernel
theorem d_X_sheet_49 : decode b_X_sheet 49 = .ok (.bipush (-14), 2) := by decide +kernel
theorem d_X_sheet_51 : decode b_X_sheet 51 = .ok (.ireturn, 1) := by decide +kernel
theorem d_X_sheet_52 : decode b_X_sheet 52 = .ok (.aload_n 0, 1) := by decide +kernel
theorem d_X_sheet_53 : decode b_X_sheet 53 = .ok (.iload_n 1, 1) := by decide +kernel
theorem d_X_sheet_54 : decode b_X_sheet 54 = .ok (.invokevirtual 256, 3) := by decide +kernel
theorem d_X_sheet_57 : decode b_X_sheet 57 = .ok (.iload_n 2, 1) := by decide +kernel
theorem d_X_sheet_58 : decode b_X_sheet 58 = .ok (.iload_n 3, 1) := by decide +kernel
theorem d_X_sheet_59 : decode b_X_sheet 59 = .ok (.invokevirtual 270, 3) := by decide +kernel
theorem d_X_sheet_62 : decode b_X_sheet 62 = .ok (.iconst 1, 1) := by decide +kernel
theorem d_X_sheet_63 : decode b_X_sheet 63 = .ok (.ireturn, 1) := by decide +kernel
abbrev b_X_cell : ByteArray := prog_1_method_33_code
def y_X_cell : MethodName := ⟨"RoundAndRound", "cell", "(III)I"⟩
theorem d_X_cell_0 : decode b_X_cell 0 = .ok (.aload_n 0, 1) := by decide +kernel
theorem d_X_cell_1 : decode b_X_cell 1 = .ok (.iload_n 1, 1) := by decide +kernel
theorem d_X_cell_2 : decode b_X_cell 2 = .ok (.invokevirtual 264, 3) := by decide +kernel
theorem d_X_cell_5 : decode b_X_cell 5 = .ok (.istore 4, 2) := by decide +kernel
theorem d_X_cell_7 : decode b_X_cell 7 = .ok (.iload 4, 2) := by decide +kernel
theorem d_X_cell_9 : decode b_X_cell 9 = .ok (.ifCond .eq 6, 3) := by decide +kernel
theorem d_X_cell_12 : decode b_X_cell 12 = .ok (.iload 4, 2) := by decide +kernel
theorem d_X_cell_14 : decode b_X_cell 14 = .ok (.ireturn, 1) := by decide +kernel
theorem d_X_cell_15 : decode b_X_cell 15 = .ok (.aload_n 0, 1) := by decide +kernel
theorem d_X_cell_16 : decode b_X_cell 16 = .ok (.iload_n 1, 1) := by decide +kernel
theorem d_X_cell_17 : decode b_X_cell 17 = .ok (.invokevirtual 256, 3) := by decide +kernel
theorem d_X_cell_20 : decode b_X_cell 20 = .ok (.iload_n 2, 1) := by decide +kernel
theorem d_X_cell_21 : decode b_X_cell 21 = .ok (.invokevirtual 295, 3) := by decide +kernel
theorem d_X_cell_24 : decode b_X_cell 24 = .ok (.ifCond .ne 6, 3) := by decide +kernel
theorem d_X_cell_27 : decode b_X_cell 27 = .ok (.bipush (-12), 2) := by decide +kernel
theorem d_X_cell_29 : decode b_X_cell 29 = .ok (.ireturn, 1) := by decide +kernel
theorem d_X_cell_30 : decode b_X_cell 30 = .ok (.aload_n 0, 1) := by decide +kernel
theorem d_X_cell_31 : decode b_X_cell 31 = .ok (.iload_n 1, 1) := by decide +kernel
theorem d_X_cell_32 : decode b_X_cell 32 = .ok (.invokevirtual 256, 3) := by decide +kernel
theorem d_X_cell_35 : decode b_X_cell 35 = .ok (.iload_n 2, 1) := by decide +kernel
theorem d_X_cell_36 : decode b_X_cell 36 = .ok (.iload_n 3, 1) := by decide +kernel
theorem d_X_cell_37 : decode b_X_cell 37 = .ok (.invokevirtual 274, 3) := by decide +kernel
theorem d_X_cell_40 : decode b_X_cell 40 = .ok (.iconst 1, 1) := by decide +kernel
theorem d_X_cell_41 : decode b_X_cell 41 = .ok (.ireturn, 1) := by decide +kernel
abbrev b_X_copy : ByteArray := prog_1_method_34_code
def y_X_copy : MethodName := ⟨"RoundAndRound", "copy", "(IIIII)I"⟩
theorem d_X_copy_0 : decode b_X_copy 0 = .ok (.iload_n 1, 1) := by decide +kernel
theorem d_X_copy_1 : decode b_X_copy 1 = .ok (.invokestatic 267, 3) := by decide +kernel
theorem d_X_copy_4 : decode b_X_copy 4 = .ok (.ifCond .eq 10, 3) := by decide +kernel
theorem d_X_copy_7 : decode b_X_copy 7 = .ok (.iload_n 3, 1) := by decide +kernel
theorem d_X_copy_8 : decode b_X_copy 8 = .ok (.invokestatic 267, 3) := by decide +kernel
theorem d_X_copy_11 : decode b_X_copy 11 = .ok (.ifCond .ne 6, 3) := by decide +kernel
theorem d_X_copy_14 : decode b_X_copy 14 = .ok (.bipush (-2), 2) := by decide +kernel
theorem d_X_copy_16 : decode b_X_copy 16 = .ok (.ireturn, 1) := by decide +kernel
theorem d_X_copy_17 : decode b_X_copy 17 = .ok (.aload_n 0, 1) := by decide +kernel
theorem d_X_copy_18 : decode b_X_copy 18 = .ok (.iload_n 1, 1) := by decide +kernel
theorem d_X_copy_19 : decode b_X_copy 19 = .ok (.invokevirtual 256, 3) := by decide +kernel
theorem d_X_copy_22 : decode b_X_copy 22 = .ok (.astore 6, 2) := by decide +kernel
theorem d_X_copy_24 : decode b_X_copy 24 = .ok (.aload_n 0, 1) := by decide +kernel
theorem d_X_copy_25 : decode b_X_copy 25 = .ok (.iload_n 3, 1) := by decide +kernel
theorem d_X_copy_26 : decode b_X_copy 26 = .ok (.invokevirtual 256, 3) := by decide +kernel
theorem d_X_copy_29 : decode b_X_copy 29 = .ok (.astore 7, 2) := by decide +kernel
theorem d_X_copy_31 : decode b_X_copy 31 = .ok (.aload 6, 2) := by decide +kernel
theorem d_X_copy_33 : decode b_X_copy 33 = .ok (.invokevirtual 298, 3) := by decide +kernel
theorem d_X_copy_36 : decode b_X_copy 36 = .ok (.ifCond .ne 11, 3) := by decide +kernel
theorem d_X_copy_39 : decode b_X_copy 39 = .ok (.aload 7, 2) := by decide +kernel
theorem d_X_copy_41 : decode b_X_copy 41 = .ok (.invokevirtual 298, 3) := by decide +kernel
theorem d_X_copy_44 : decode b_X_copy 44 = .ok (.ifCond .eq 6, 3) := by decide +kernel
theorem d_X_copy_47 : decode b_X_copy 47 = .ok (.bipush (-11), 2) := by decide +kernel
theorem d_X_copy_49 : decode b_X_copy 49 = .ok (.ireturn, 1) := by decide +kernel
theorem d_X_copy_50 : decode b_X_copy 50 = .ok (.aload 6, 2) := by decide +kernel
theorem d_X_copy_52 : decode b_X_copy 52 = .ok (.getfield 301, 3) := by decide +kernel
theorem d_X_copy_55 : decode b_X_copy 55 = .ok (.aload 7, 2) := by decide +kernel
theorem d_X_copy_57 : decode b_X_copy 57 = .ok (.getfield 301, 3) := by decide +kernel
theorem d_X_copy_60 : decode b_X_copy 60 = .ok (.if_icmp .eq 6, 3) := by decide +kernel
theorem d_X_copy_63 : decode b_X_copy 63 = .ok (.bipush (-13), 2) := by decide +kernel
theorem d_X_copy_65 : decode b_X_copy 65 = .ok (.ireturn, 1) := by decide +kernel
theorem d_X_copy_66 : decode b_X_copy 66 = .ok (.aload 6, 2) := by decide +kernel
theorem d_X_copy_68 : decode b_X_copy 68 = .ok (.iload_n 2, 1) := by decide +kernel
theorem d_X_copy_69 : decode b_X_copy 69 = .ok (.iload 5, 2) := by decide +kernel
theorem d_X_copy_71 : decode b_X_copy 71 = .ok (.invokevirtual 304, 3) := by decide +kernel
theorem d_X_copy_74 : decode b_X_copy 74 = .ok (.ifCond .eq 15, 3) := by decide +kernel
theorem d_X_copy_77 : decode b_X_copy 77 = .ok (.aload 7, 2) := by decide +kernel
theorem d_X_copy_79 : decode b_X_copy 79 = .ok (.iload 4, 2) := by decide +kernel
theorem d_X_copy_81 : decode b_X_copy 81 = .ok (.iload 5, 2) := by decide +kernel
theorem d_X_copy_83 : decode b_X_copy 83 = .ok (.invokevirtual 304, 3) := by decide +kernel
theorem d_X_copy_86 : decode b_X_copy 86 = .ok (.ifCond .ne 6, 3) := by decide +kernel
theorem d_X_copy_89 : decode b_X_copy 89 = .ok (.bipush (-12), 2) := by decide +kernel
theorem d_X_copy_91 : decode b_X_copy 91 = .ok (.ireturn, 1) := by decide +kernel
theorem d_X_copy_92 : decode b_X_copy 92 = .ok (.aload 6, 2) := by decide +kernel
theorem d_X_copy_94 : decode b_X_copy 94 = .ok (.getfield 307, 3) := by decide +kernel
theorem d_X_copy_97 : decode b_X_copy 97 = .ok (.iload_n 2, 1) := by decide +kernel
theorem d_X_copy_98 : decode b_X_copy 98 = .ok (.aload 7, 2) := by decide +kernel
theorem d_X_copy_100 : decode b_X_copy 100 = .ok (.getfield 307, 3) := by decide +kernel
theorem d_X_copy_103 : decode b_X_copy 103 = .ok (.iload 4, 2) := by decide +kernel
theorem d_X_copy_105 : decode b_X_copy 105 = .ok (.iload 5, 2) := by decide +kernel
theorem d_X_copy_107 : decode b_X_copy 107 = .ok (.invokestatic 310, 3) := by decide +kernel
theorem d_X_copy_110 : decode b_X_copy 110 = .ok (.iload 5, 2) := by decide +kernel
theorem d_X_copy_112 : decode b_X_copy 112 = .ok (.ireturn, 1) := by decide +kernel
abbrev b_X_headsBy : ByteArray := prog_1_method_35_code
def y_X_headsBy : MethodName := ⟨"RoundAndRound", "headsBy", "(IIII)I"⟩
theorem d_X_headsBy_0 : decode b_X_headsBy 0 = .ok (.iload_n 1, 1) := by decide +kernel
theorem d_X_headsBy_1 : decode b_X_headsBy 1 = .ok (.invokestatic 267, 3) := by decide +kernel
theorem d_X_headsBy_4 : decode b_X_headsBy 4 = .ok (.ifCond .eq 22, 3) := by decide +kernel
theorem d_X_headsBy_7 : decode b_X_headsBy 7 = .ok (.iload_n 2, 1) := by decide +kernel
theorem d_X_headsBy_8 : decode b_X_headsBy 8 = .ok (.iconst 0, 1) := by decide +kernel
theorem d_X_headsBy_9 : decode b_X_headsBy 9 = .ok (.iconst 2, 1) := by decide +kernel
theorem d_X_headsBy_10 : decode b_X_headsBy 10 = .ok (.invokestatic 105, 3) := by decide +kernel
theorem d_X_headsBy_13 : decode b_X_headsBy 13 = .ok (.ifCond .eq 13, 3) := by decide +kernel
theorem d_X_headsBy_16 : decode b_X_headsBy 16 = .ok (.iload 4, 2) := by decide +kernel
theorem d_X_headsBy_18 : decode b_X_headsBy 18 = .ok (.iconst 0, 1) := by decide +kernel
theorem d_X_headsBy_19 : decode b_X_headsBy 19 = .ok (.iconst 5, 1) := by decide +kernel
theorem d_X_headsBy_20 : decode b_X_headsBy 20 = .ok (.invokestatic 105, 3) := by decide +kernel
theorem d_X_headsBy_23 : decode b_X_headsBy 23 = .ok (.ifCond .ne 6, 3) := by decide +kernel
theorem d_X_headsBy_26 : decode b_X_headsBy 26 = .ok (.bipush (-2), 2) := by decide +kernel
theorem d_X_headsBy_28 : decode b_X_headsBy 28 = .ok (.ireturn, 1) := by decide +kernel
theorem d_X_headsBy_29 : decode b_X_headsBy 29 = .ok (.aload_n 0, 1) := by decide +kernel
theorem d_X_headsBy_30 : decode b_X_headsBy 30 = .ok (.iload_n 1, 1) := by decide +kernel
theorem d_X_headsBy_31 : decode b_X_headsBy 31 = .ok (.invokevirtual 256, 3) := by decide +kernel
theorem d_X_headsBy_34 : decode b_X_headsBy 34 = .ok (.astore 5, 2) := by decide +kernel
theorem d_X_headsBy_36 : decode b_X_headsBy 36 = .ok (.aload 5, 2) := by decide +kernel
theorem d_X_headsBy_38 : decode b_X_headsBy 38 = .ok (.invokevirtual 298, 3) := by decide +kernel
theorem d_X_headsBy_41 : decode b_X_headsBy 41 = .ok (.ifCond .eq 6, 3) := by decide +kernel
theorem d_X_headsBy_44 : decode b_X_headsBy 44 = .ok (.bipush (-11), 2) := by decide +kernel
theorem d_X_headsBy_46 : decode b_X_headsBy 46 = .ok (.ireturn, 1) := by decide +kernel
theorem d_X_headsBy_47 : decode b_X_headsBy 47 = .ok (.aload 5, 2) := by decide +kernel
theorem d_X_headsBy_49 : decode b_X_headsBy 49 = .ok (.getfield 301, 3) := by decide +kernel
theorem d_X_headsBy_52 : decode b_X_headsBy 52 = .ok (.iload_n 2, 1) := by decide +kernel
theorem d_X_headsBy_53 : decode b_X_headsBy 53 = .ok (.if_icmp .eq 6, 3) := by decide +kernel
theorem d_X_headsBy_56 : decode b_X_headsBy 56 = .ok (.bipush (-13), 2) := by decide +kernel
theorem d_X_headsBy_58 : decode b_X_headsBy 58 = .ok (.ireturn, 1) := by decide +kernel
theorem d_X_headsBy_59 : decode b_X_headsBy 59 = .ok (.iconst 0, 1) := by decide +kernel
theorem d_X_headsBy_60 : decode b_X_headsBy 60 = .ok (.istore 6, 2) := by decide +kernel
theorem d_X_headsBy_62 : decode b_X_headsBy 62 = .ok (.iconst 0, 1) := by decide +kernel
theorem d_X_headsBy_63 : decode b_X_headsBy 63 = .ok (.istore 7, 2) := by decide +kernel
theorem d_X_headsBy_65 : decode b_X_headsBy 65 = .ok (.iload 7, 2) := by decide +kernel
theorem d_X_headsBy_67 : decode b_X_headsBy 67 = .ok (.iload 4, 2) := by decide +kernel
theorem d_X_headsBy_69 : decode b_X_headsBy 69 = .ok (.if_icmp .ge 61, 3) := by decide +kernel
theorem d_X_headsBy_72 : decode b_X_headsBy 72 = .ok (.aload 5, 2) := by decide +kernel
theorem d_X_headsBy_74 : decode b_X_headsBy 74 = .ok (.iload_n 3, 1) := by decide +kernel
theorem d_X_headsBy_75 : decode b_X_headsBy 75 = .ok (.iconst 2, 1) := by decide +kernel
theorem d_X_headsBy_76 : decode b_X_headsBy 76 = .ok (.iload 7, 2) := by decide +kernel
theorem d_X_headsBy_78 : decode b_X_headsBy 78 = .ok (.imul, 1) := by decide +kernel
theorem d_X_headsBy_79 : decode b_X_headsBy 79 = .ok (.iconst 2, 1) := by decide +kernel
theorem d_X_headsBy_80 : decode b_X_headsBy 80 = .ok (.iadd, 1) := by decide +kernel
theorem d_X_headsBy_81 : decode b_X_headsBy 81 = .ok (.invokevirtual 304, 3) := by decide +kernel
theorem d_X_headsBy_84 : decode b_X_headsBy 84 = .ok (.ifCond .ne 6, 3) := by decide +kernel
theorem d_X_headsBy_87 : decode b_X_headsBy 87 = .ok (.bipush (-12), 2) := by decide +kernel
theorem d_X_headsBy_89 : decode b_X_headsBy 89 = .ok (.ireturn, 1) := by decide +kernel
theorem d_X_headsBy_90 : decode b_X_headsBy 90 = .ok (.aload_n 0, 1) := by decide +kernel
theorem d_X_headsBy_91 : decode b_X_headsBy 91 = .ok (.aload 5, 2) := by decide +kernel
theorem d_X_headsBy_93 : decode b_X_headsBy 93 = .ok (.iload_n 3, 1) := by decide +kernel
theorem d_X_headsBy_94 : decode b_X_headsBy 94 = .ok (.iconst 2, 1) := by decide +kernel
theorem d_X_headsBy_95 : decode b_X_headsBy 95 = .ok (.iload 7, 2) := by decide +kernel
theorem d_X_headsBy_97 : decode b_X_headsBy 97 = .ok (.imul, 1) := by decide +kernel
theorem d_X_headsBy_98 : decode b_X_headsBy 98 = .ok (.iadd, 1) := by decide +kernel
theorem d_X_headsBy_99 : decode b_X_headsBy 99 = .ok (.invokevirtual 316, 3) := by decide +kernel
theorem d_X_headsBy_102 : decode b_X_headsBy 102 = .ok (.aload 5, 2) := by decide +kernel
theorem d_X_headsBy_104 : decode b_X_headsBy 104 = .ok (.iload_n 3, 1) := by decide +kernel
theorem d_X_headsBy_105 : decode b_X_headsBy 105 = .ok (.iconst 2, 1) := by decide +kernel
theorem d_X_headsBy_106 : decode b_X_headsBy 106 = .ok (.iload 7, 2) := by decide +kernel
theorem d_X_headsBy_108 : decode b_X_headsBy 108 = .ok (.imul, 1) := by decide +kernel
theorem d_X_headsBy_109 : decode b_X_headsBy 109 = .ok (.iadd, 1) := by decide +kernel
theorem d_X_headsBy_110 : decode b_X_headsBy 110 = .ok (.iconst 1, 1) := by decide +kernel
theorem d_X_headsBy_111 : decode b_X_headsBy 111 = .ok (.iadd, 1) := by decide +kernel
theorem d_X_headsBy_112 : decode b_X_headsBy 112 = .ok (.invokevirtual 316, 3) := by decide +kernel
theorem d_X_headsBy_115 : decode b_X_headsBy 115 = .ok (.invokevirtual 319, 3) := by decide +kernel
theorem d_X_headsBy_118 : decode b_X_headsBy 118 = .ok (.ifCond .lt 6, 3) := by decide +kernel
theorem d_X_headsBy_121 : decode b_X_headsBy 121 = .ok (.iinc 6 (1), 3) := by decide +kernel
theorem d_X_headsBy_124 : decode b_X_headsBy 124 = .ok (.iinc 7 (1), 3) := by decide +kernel
theorem d_X_headsBy_127 : decode b_X_headsBy 127 = .ok (.goto (-62), 3) := by decide +kernel
theorem d_X_headsBy_130 : decode b_X_headsBy 130 = .ok (.iload 6, 2) := by decide +kernel
theorem d_X_headsBy_132 : decode b_X_headsBy 132 = .ok (.ireturn, 1) := by decide +kernel
abbrev b_X_taken : ByteArray := prog_1_method_36_code
def y_X_taken : MethodName := ⟨"RoundAndRound", "taken", "(II)I"⟩
theorem d_X_taken_0 : decode b_X_taken 0 = .ok (.iload_n 2, 1) := by decide +kernel
theorem d_X_taken_1 : decode b_X_taken 1 = .ok (.iconst 0, 1) := by decide +kernel
theorem d_X_taken_2 : decode b_X_taken 2 = .ok (.bipush (6), 2) := by decide +kernel
theorem d_X_taken_4 : decode b_X_taken 4 = .ok (.invokestatic 105, 3) := by decide +kernel
theorem d_X_taken_7 : decode b_X_taken 7 = .ok (.ifCond .ne 6, 3) := by decide +kernel
theorem d_X_taken_10 : decode b_X_taken 10 = .ok (.bipush (-2), 2) := by decide +kernel
theorem d_X_taken_12 : decode b_X_taken 12 = .ok (.ireturn, 1) := by decide +kernel
theorem d_X_taken_13 : decode b_X_taken 13 = .ok (.iload_n 1, 1) := by decide +kernel
theorem d_X_taken_14 : decode b_X_taken 14 = .ok (.iconst 0, 1) := by decide +kernel
theorem d_X_taken_15 : decode b_X_taken 15 = .ok (.bipush (9), 2) := by decide +kernel
theorem d_X_taken_17 : decode b_X_taken 17 = .ok (.invokestatic 105, 3) := by decide +kernel
theorem d_X_taken_20 : decode b_X_taken 20 = .ok (.ifCond .ne 6, 3) := by decide +kernel
theorem d_X_taken_23 : decode b_X_taken 23 = .ok (.bipush (-12), 2) := by decide +kernel
theorem d_X_taken_25 : decode b_X_taken 25 = .ok (.ireturn, 1) := by decide +kernel
theorem d_X_taken_26 : decode b_X_taken 26 = .ok (.iload_n 1, 1) := by decide +kernel
theorem d_X_taken_27 : decode b_X_taken 27 = .ok (.iconst 5, 1) := by decide +kernel
theorem d_X_taken_28 : decode b_X_taken 28 = .ok (.if_icmp .lt 7, 3) := by decide +kernel
theorem d_X_taken_31 : decode b_X_taken 31 = .ok (.iconst 1, 1) := by decide +kernel
theorem d_X_taken_32 : decode b_X_taken 32 = .ok (.goto 4, 3) := by decide +kernel
theorem d_X_taken_35 : decode b_X_taken 35 = .ok (.iconst 0, 1) := by decide +kernel
theorem d_X_taken_36 : decode b_X_taken 36 = .ok (.istore_n 3, 1) := by decide +kernel
theorem d_X_taken_37 : decode b_X_taken 37 = .ok (.iload_n 3, 1) := by decide +kernel
theorem d_X_taken_38 : decode b_X_taken 38 = .ok (.ifCond .eq 9, 3) := by decide +kernel
theorem d_X_taken_41 : decode b_X_taken 41 = .ok (.iload_n 1, 1) := by decide +kernel
theorem d_X_taken_42 : decode b_X_taken 42 = .ok (.iconst 5, 1) := by decide +kernel
theorem d_X_taken_43 : decode b_X_taken 43 = .ok (.isub, 1) := by decide +kernel
theorem d_X_taken_44 : decode b_X_taken 44 = .ok (.goto 4, 3) := by decide +kernel
theorem d_X_taken_47 : decode b_X_taken 47 = .ok (.iload_n 1, 1) := by decide +kernel
theorem d_X_taken_48 : decode b_X_taken 48 = .ok (.istore 4, 2) := by decide +kernel
theorem d_X_taken_50 : decode b_X_taken 50 = .ok (.aload_n 0, 1) := by decide +kernel
theorem d_X_taken_51 : decode b_X_taken 51 = .ok (.iload 4, 2) := by decide +kernel
theorem d_X_taken_53 : decode b_X_taken 53 = .ok (.invokevirtual 113, 3) := by decide +kernel
theorem d_X_taken_56 : decode b_X_taken 56 = .ok (.ifCond .ne 6, 3) := by decide +kernel
theorem d_X_taken_59 : decode b_X_taken 59 = .ok (.bipush (-11), 2) := by decide +kernel
theorem d_X_taken_61 : decode b_X_taken 61 = .ok (.ireturn, 1) := by decide +kernel
theorem d_X_taken_62 : decode b_X_taken 62 = .ok (.iload_n 3, 1) := by decide +kernel
theorem d_X_taken_63 : decode b_X_taken 63 = .ok (.iload_n 2, 1) := by decide +kernel
theorem d_X_taken_64 : decode b_X_taken 64 = .ok (.bipush (6), 2) := by decide +kernel
theorem d_X_taken_66 : decode b_X_taken 66 = .ok (.if_icmp .ne 7, 3) := by decide +kernel
theorem d_X_taken_69 : decode b_X_taken 69 = .ok (.iconst 1, 1) := by decide +kernel
theorem d_X_taken_70 : decode b_X_taken 70 = .ok (.goto 4, 3) := by decide +kernel
theorem d_X_taken_73 : decode b_X_taken 73 = .ok (.iconst 0, 1) := by decide +kernel
theorem d_X_taken_74 : decode b_X_taken 74 = .ok (.if_icmp .eq 6, 3) := by decide +kernel
theorem d_X_taken_77 : decode b_X_taken 77 = .ok (.bipush (-13), 2) := by decide +kernel
theorem d_X_taken_79 : decode b_X_taken 79 = .ok (.ireturn, 1) := by decide +kernel
theorem d_X_taken_80 : decode b_X_taken 80 = .ok (.iload_n 3, 1) := by decide +kernel
theorem d_X_taken_81 : decode b_X_taken 81 = .ok (.ifCond .eq 21, 3) := by decide +kernel
theorem d_X_taken_84 : decode b_X_taken 84 = .ok (.aload_n 0, 1) := by decide +kernel
theorem d_X_taken_85 : decode b_X_taken 85 = .ok (.iload 4, 2) := by decide +kernel
theorem d_X_taken_87 : decode b_X_taken 87 = .ok (.invokevirtual 124, 3) := by decide +kernel
theorem d_X_taken_90 : decode b_X_taken 90 = .ok (.getfield 162, 3) := by decide +kernel
theorem d_X_taken_93 : decode b_X_taken 93 = .ok (.ifCond .eq 7, 3) := by decide +kernel
theorem d_X_taken_96 : decode b_X_taken 96 = .ok (.iconst 1, 1) := by decide +kernel
theorem d_X_taken_97 : decode b_X_taken 97 = .ok (.goto 4, 3) := by decide +kernel
theorem d_X_taken_100 : decode b_X_taken 100 = .ok (.iconst 0, 1) := by decide +kernel
theorem d_X_taken_101 : decode b_X_taken 101 = .ok (.ireturn, 1) := by decide +kernel
theorem d_X_taken_102 : decode b_X_taken 102 = .ok (.aload_n 0, 1) := by decide +kernel
theorem d_X_taken_103 : decode b_X_taken 103 = .ok (.iload 4, 2) := by decide +kernel
theorem d_X_taken_105 : decode b_X_taken 105 = .ok (.invokevirtual 124, 3) := by decide +kernel
theorem d_X_taken_108 : decode b_X_taken 108 = .ok (.getfield 150, 3) := by decide +kernel
theorem d_X_taken_111 : decode b_X_taken 111 = .ok (.iload_n 2, 1) := by decide +kernel
theorem d_X_taken_112 : decode b_X_taken 112 = .ok (.invokestatic 322, 3) := by decide +kernel
theorem d_X_taken_115 : decode b_X_taken 115 = .ok (.ifCond .eq 8, 3) := by decide +kernel
theorem d_X_taken_118 : decode b_X_taken 118 = .ok (.iload 4, 2) := by decide +kernel
theorem d_X_taken_120 : decode b_X_taken 120 = .ok (.goto 5, 3) := by decide +kernel
theorem d_X_taken_123 : decode b_X_taken 123 = .ok (.bipush (-13), 2) := by decide +kernel
theorem d_X_taken_125 : decode b_X_taken 125 = .ok (.ireturn, 1) := by decide +kernel
abbrev b_X_think : ByteArray := prog_1_method_37_code
def y_X_think : MethodName := ⟨"RoundAndRound", "think", "(LRoundAndRound$Head;)V"⟩
theorem d_X_think_0 : decode b_X_think 0 = .ok (.aload_n 0, 1) := by decide +kernel
theorem d_X_think_1 : decode b_X_think 1 = .ok (.getfield 19, 3) := by decide +kernel
theorem d_X_think_4 : decode b_X_think 4 = .ok (.aload_n 1, 1) := by decide +kernel
theorem d_X_think_5 : decode b_X_think 5 = .ok (.invokevirtual 235, 3) := by decide +kernel
theorem d_X_think_8 : decode b_X_think 8 = .ok (.aload_n 0, 1) := by decide +kernel
theorem d_X_think_9 : decode b_X_think 9 = .ok (.getfield 19, 3) := by decide +kernel
theorem d_X_think_12 : decode b_X_think 12 = .ok (.invokevirtual 195, 3) := by decide +kernel
theorem d_X_think_15 : decode b_X_think 15 = .ok (.return_, 1) := by decide +kernel
abbrev b_X_thinkTurned : ByteArray := prog_1_method_38_code
def y_X_thinkTurned : MethodName := ⟨"RoundAndRound", "thinkTurned", "(LRoundAndRound$Head;LRoundAndRound$Text;II)V"⟩
theorem d_X_thinkTurned_0 : decode b_X_thinkTurned 0 = .ok (.aload_n 0, 1) := by decide +kernel
theorem d_X_thinkTurned_1 : decode b_X_thinkTurned 1 = .ok (.aload_n 1, 1) := by decide +kernel
theorem d_X_thinkTurned_2 : decode b_X_thinkTurned 2 = .ok (.invokevirtual 205, 3) := by decide +kernel
theorem d_X_thinkTurned_5 : decode b_X_thinkTurned 5 = .ok (.aload_n 0, 1) := by decide +kernel
theorem d_X_thinkTurned_6 : decode b_X_thinkTurned 6 = .ok (.getfield 19, 3) := by decide +kernel
theorem d_X_thinkTurned_9 : decode b_X_thinkTurned 9 = .ok (.aload_n 2, 1) := by decide +kernel
theorem d_X_thinkTurned_10 : decode b_X_thinkTurned 10 = .ok (.iload_n 3, 1) := by decide +kernel
theorem d_X_thinkTurned_11 : decode b_X_thinkTurned 11 = .ok (.iload 4, 2) := by decide +kernel
theorem d_X_thinkTurned_13 : decode b_X_thinkTurned 13 = .ok (.invokevirtual 175, 3) := by decide +kernel
theorem d_X_thinkTurned_16 : decode b_X_thinkTurned 16 = .ok (.return_, 1) := by decide +kernel
abbrev b_X_thinkDrawn : ByteArray := prog_1_method_39_code
def y_X_thinkDrawn : MethodName := ⟨"RoundAndRound", "thinkDrawn", "(LRoundAndRound$Head;III)V"⟩
theorem d_X_thinkDrawn_0 : decode b_X_thinkDrawn 0 = .ok (.aload_n 0, 1) := by decide +kernel
theorem d_X_thinkDrawn_1 : decode b_X_thinkDrawn 1 = .ok (.aload_n 1, 1) := by decide +kernel
theorem d_X_thinkDrawn_2 : decode b_X_thinkDrawn 2 = .ok (.invokevirtual 205, 3) := by decide +kernel
theorem d_X_thinkDrawn_5 : decode b_X_thinkDrawn 5 = .ok (.iload_n 2, 1) := by decide +kernel
theorem d_X_thinkDrawn_6 : decode b_X_thinkDrawn 6 = .ok (.iconst 1, 1) := by decide +kernel
theorem d_X_thinkDrawn_7 : decode b_X_thinkDrawn 7 = .ok (.iadd, 1) := by decide +kernel
theorem d_X_thinkDrawn_8 : decode b_X_thinkDrawn 8 = .ok (.i2l, 1) := by decide +kernel
theorem d_X_thinkDrawn_9 : decode b_X_thinkDrawn 9 = .ok (.lstore 5, 2) := by decide +kernel
theorem d_X_thinkDrawn_11 : decode b_X_thinkDrawn 11 = .ok (.iconst 0, 1) := by decide +kernel
theorem d_X_thinkDrawn_12 : decode b_X_thinkDrawn 12 = .ok (.istore 7, 2) := by decide +kernel
theorem d_X_thinkDrawn_14 : decode b_X_thinkDrawn 14 = .ok (.iload 7, 2) := by decide +kernel
theorem d_X_thinkDrawn_16 : decode b_X_thinkDrawn 16 = .ok (.iload_n 3, 1) := by decide +kernel
theorem d_X_thinkDrawn_17 : decode b_X_thinkDrawn 17 = .ok (.if_icmp .ge 58, 3) := by decide +kernel
theorem d_X_thinkDrawn_20 : decode b_X_thinkDrawn 20 = .ok (.lload 5, 2) := by decide +kernel
theorem d_X_thinkDrawn_22 : decode b_X_thinkDrawn 22 = .ok (.ldc2_w 327, 3) := by decide +kernel
theorem d_X_thinkDrawn_25 : decode b_X_thinkDrawn 25 = .ok (.lmul, 1) := by decide +kernel
theorem d_X_thinkDrawn_26 : decode b_X_thinkDrawn 26 = .ok (.ldc2_w 329, 3) := by decide +kernel
theorem d_X_thinkDrawn_29 : decode b_X_thinkDrawn 29 = .ok (.lrem, 1) := by decide +kernel
theorem d_X_thinkDrawn_30 : decode b_X_thinkDrawn 30 = .ok (.lstore 5, 2) := by decide +kernel
theorem d_X_thinkDrawn_32 : decode b_X_thinkDrawn 32 = .ok (.aload_n 0, 1) := by decide +kernel
theorem d_X_thinkDrawn_33 : decode b_X_thinkDrawn 33 = .ok (.getfield 19, 3) := by decide +kernel
theorem d_X_thinkDrawn_36 : decode b_X_thinkDrawn 36 = .ok (.aload_n 0, 1) := by decide +kernel
theorem d_X_thinkDrawn_37 : decode b_X_thinkDrawn 37 = .ok (.invokevirtual 120, 3) := by decide +kernel
theorem d_X_thinkDrawn_40 : decode b_X_thinkDrawn 40 = .ok (.iload 4, 2) := by decide +kernel
theorem d_X_thinkDrawn_42 : decode b_X_thinkDrawn 42 = .ok (.bipush (10), 2) := by decide +kernel
theorem d_X_thinkDrawn_44 : decode b_X_thinkDrawn 44 = .ok (.irem, 1) := by decide +kernel
theorem d_X_thinkDrawn_45 : decode b_X_thinkDrawn 45 = .ok (.lload 5, 2) := by decide +kernel
theorem d_X_thinkDrawn_47 : decode b_X_thinkDrawn 47 = .ok (.ldc2_w 331, 3) := by decide +kernel
theorem d_X_thinkDrawn_50 : decode b_X_thinkDrawn 50 = .ok (.lrem, 1) := by decide +kernel
theorem d_X_thinkDrawn_51 : decode b_X_thinkDrawn 51 = .ok (.iload 4, 2) := by decide +kernel
theorem d_X_thinkDrawn_53 : decode b_X_thinkDrawn 53 = .ok (.bipush (10), 2) := by decide +kernel
theorem d_X_thinkDrawn_55 : decode b_X_thinkDrawn 55 = .ok (.idiv, 1) := by decide +kernel
theorem d_X_thinkDrawn_56 : decode b_X_thinkDrawn 56 = .ok (.i2l, 1) := by decide +kernel
theorem d_X_thinkDrawn_57 : decode b_X_thinkDrawn 57 = .ok (.lcmp, 1) := by decide +kernel
theorem d_X_thinkDrawn_58 : decode b_X_thinkDrawn 58 = .ok (.ifCond .ge 7, 3) := by decide +kernel
theorem d_X_thinkDrawn_61 : decode b_X_thinkDrawn 61 = .ok (.iconst 0, 1) := by decide +kernel
theorem d_X_thinkDrawn_62 : decode b_X_thinkDrawn 62 = .ok (.goto 4, 3) := by decide +kernel
theorem d_X_thinkDrawn_65 : decode b_X_thinkDrawn 65 = .ok (.iconst 1, 1) := by decide +kernel
theorem d_X_thinkDrawn_66 : decode b_X_thinkDrawn 66 = .ok (.invokevirtual 271, 3) := by decide +kernel
theorem d_X_thinkDrawn_69 : decode b_X_thinkDrawn 69 = .ok (.iinc 7 (1), 3) := by decide +kernel
theorem d_X_thinkDrawn_72 : decode b_X_thinkDrawn 72 = .ok (.goto (-58), 3) := by decide +kernel
theorem d_X_thinkDrawn_75 : decode b_X_thinkDrawn 75 = .ok (.return_, 1) := by decide +kernel
abbrev b_X_fillTurnedSenses : ByteArray := prog_1_method_40_code
def y_X_fillTurnedSenses : MethodName := ⟨"RoundAndRound", "fillTurnedSenses", "(LRoundAndRound$Head;I)V"⟩
theorem d_X_fillTurnedSenses_0 : decode b_X_fillTurnedSenses 0 = .ok (.aload_n 0, 1) := by decide +kernel
theorem d_X_fillTurnedSenses_1 : decode b_X_fillTurnedSenses 1 = .ok (.aload_n 1, 1) := by decide +kernel
theorem d_X_fillTurnedSenses_2 : decode b_X_fillTurnedSenses 2 = .ok (.invokevirtual 205, 3) := by decide +kernel
theorem d_X_fillTurnedSenses_5 : decode b_X_fillTurnedSenses 5 = .ok (.aload_n 0, 1) := by decide +kernel
theorem d_X_fillTurnedSenses_6 : decode b_X_fillTurnedSenses 6 = .ok (.getfield 23, 3) := by decide +kernel
theorem d_X_fillTurnedSenses_9 : decode b_X_fillTurnedSenses 9 = .ok (.aload_n 0, 1) := by decide +kernel
theorem d_X_fillTurnedSenses_10 : decode b_X_fillTurnedSenses 10 = .ok (.getfield 19, 3) := by decide +kernel
theorem d_X_fillTurnedSenses_13 : decode b_X_fillTurnedSenses 13 = .ok (.invokevirtual 235, 3) := by decide +kernel
theorem d_X_fillTurnedSenses_16 : decode b_X_fillTurnedSenses 16 = .ok (.iconst 0, 1) := by decide +kernel
theorem d_X_fillTurnedSenses_17 : decode b_X_fillTurnedSenses 17 = .ok (.istore_n 3, 1) := by decide +kernel
theorem d_X_fillTurnedSenses_18 : decode b_X_fillTurnedSenses 18 = .ok (.iload_n 3, 1) := by decide +kernel
theorem d_X_fillTurnedSenses_19 : decode b_X_fillTurnedSenses 19 = .ok (.aload_n 0, 1) := by decide +kernel
theorem d_X_fillTurnedSenses_20 : decode b_X_fillTurnedSenses 20 = .ok (.getfield 26, 3) := by decide +kernel
theorem d_X_fillTurnedSenses_23 : decode b_X_fillTurnedSenses 23 = .ok (.arraylength, 1) := by decide +kernel
theorem d_X_fillTurnedSenses_24 : decode b_X_fillTurnedSenses 24 = .ok (.if_icmp .ge 79, 3) := by decide +kernel
theorem d_X_fillTurnedSenses_27 : decode b_X_fillTurnedSenses 27 = .ok (.iload_n 3, 1) := by decide +kernel
theorem d_X_fillTurnedSenses_28 : decode b_X_fillTurnedSenses 28 = .ok (.iconst 2, 1) := by decide +kernel
theorem d_X_fillTurnedSenses_29 : decode b_X_fillTurnedSenses 29 = .ok (.irem, 1) := by decide +kernel
theorem d_X_fillTurnedSenses_30 : decode b_X_fillTurnedSenses 30 = .ok (.iconst 1, 1) := by decide +kernel
theorem d_X_fillTurnedSenses_31 : decode b_X_fillTurnedSenses 31 = .ok (.if_icmp .ne 19, 3) := by decide +kernel
theorem d_X_fillTurnedSenses_34 : decode b_X_fillTurnedSenses 34 = .ok (.aload_n 0, 1) := by decide +kernel
theorem d_X_fillTurnedSenses_35 : decode b_X_fillTurnedSenses 35 = .ok (.getfield 19, 3) := by decide +kernel
theorem d_X_fillTurnedSenses_38 : decode b_X_fillTurnedSenses 38 = .ok (.aload_n 0, 1) := by decide +kernel
theorem d_X_fillTurnedSenses_39 : decode b_X_fillTurnedSenses 39 = .ok (.invokevirtual 120, 3) := by decide +kernel
theorem d_X_fillTurnedSenses_42 : decode b_X_fillTurnedSenses 42 = .ok (.iload_n 2, 1) := by decide +kernel
theorem d_X_fillTurnedSenses_43 : decode b_X_fillTurnedSenses 43 = .ok (.iconst 1, 1) := by decide +kernel
theorem d_X_fillTurnedSenses_44 : decode b_X_fillTurnedSenses 44 = .ok (.invokevirtual 209, 3) := by decide +kernel
theorem d_X_fillTurnedSenses_47 : decode b_X_fillTurnedSenses 47 = .ok (.goto 20, 3) := by decide +kernel
theorem d_X_fillTurnedSenses_50 : decode b_X_fillTurnedSenses 50 = .ok (.iload_n 3, 1) := by decide +kernel
theorem d_X_fillTurnedSenses_51 : decode b_X_fillTurnedSenses 51 = .ok (.ifCond .le 16, 3) := by decide +kernel
theorem d_X_fillTurnedSenses_54 : decode b_X_fillTurnedSenses 54 = .ok (.aload_n 0, 1) := by decide +kernel
theorem d_X_fillTurnedSenses_55 : decode b_X_fillTurnedSenses 55 = .ok (.getfield 23, 3) := by decide +kernel
theorem d_X_fillTurnedSenses_58 : decode b_X_fillTurnedSenses 58 = .ok (.aload_n 0, 1) := by decide +kernel
theorem d_X_fillTurnedSenses_59 : decode b_X_fillTurnedSenses 59 = .ok (.invokevirtual 120, 3) := by decide +kernel
theorem d_X_fillTurnedSenses_62 : decode b_X_fillTurnedSenses 62 = .ok (.iload_n 2, 1) := by decide +kernel
theorem d_X_fillTurnedSenses_63 : decode b_X_fillTurnedSenses 63 = .ok (.iconst (-1), 1) := by decide +kernel
theorem d_X_fillTurnedSenses_64 : decode b_X_fillTurnedSenses 64 = .ok (.invokevirtual 209, 3) := by decide +kernel
theorem d_X_fillTurnedSenses_67 : decode b_X_fillTurnedSenses 67 = .ok (.aload_n 0, 1) := by decide +kernel
theorem d_X_fillTurnedSenses_68 : decode b_X_fillTurnedSenses 68 = .ok (.getfield 26, 3) := by decide +kernel
theorem d_X_fillTurnedSenses_71 : decode b_X_fillTurnedSenses 71 = .ok (.iload_n 3, 1) := by decide +kernel
theorem d_X_fillTurnedSenses_72 : decode b_X_fillTurnedSenses 72 = .ok (.iload_n 3, 1) := by decide +kernel
theorem d_X_fillTurnedSenses_73 : decode b_X_fillTurnedSenses 73 = .ok (.iconst 2, 1) := by decide +kernel
theorem d_X_fillTurnedSenses_74 : decode b_X_fillTurnedSenses 74 = .ok (.irem, 1) := by decide +kernel
theorem d_X_fillTurnedSenses_75 : decode b_X_fillTurnedSenses 75 = .ok (.iconst 1, 1) := by decide +kernel
theorem d_X_fillTurnedSenses_76 : decode b_X_fillTurnedSenses 76 = .ok (.if_icmp .ne 13, 3) := by decide +kernel
theorem d_X_fillTurnedSenses_79 : decode b_X_fillTurnedSenses 79 = .ok (.aload_n 0, 1) := by decide +kernel
theorem d_X_fillTurnedSenses_80 : decode b_X_fillTurnedSenses 80 = .ok (.getfield 19, 3) := by decide +kernel
theorem d_X_fillTurnedSenses_83 : decode b_X_fillTurnedSenses 83 = .ok (.getfield 140, 3) := by decide +kernel
theorem d_X_fillTurnedSenses_86 : decode b_X_fillTurnedSenses 86 = .ok (.goto 10, 3) := by decide +kernel
theorem d_X_fillTurnedSenses_89 : decode b_X_fillTurnedSenses 89 = .ok (.aload_n 0, 1) := by decide +kernel
theorem d_X_fillTurnedSenses_90 : decode b_X_fillTurnedSenses 90 = .ok (.getfield 23, 3) := by decide +kernel
theorem d_X_fillTurnedSenses_93 : decode b_X_fillTurnedSenses 93 = .ok (.getfield 140, 3) := by decide +kernel
theorem d_X_fillTurnedSenses_96 : decode b_X_fillTurnedSenses 96 = .ok (.iastore, 1) := by decide +kernel
theorem d_X_fillTurnedSenses_97 : decode b_X_fillTurnedSenses 97 = .ok (.iinc 3 (1), 3) := by decide +kernel
theorem d_X_fillTurnedSenses_100 : decode b_X_fillTurnedSenses 100 = .ok (.goto (-82), 3) := by decide +kernel
theorem d_X_fillTurnedSenses_103 : decode b_X_fillTurnedSenses 103 = .ok (.return_, 1) := by decide +kernel
abbrev b_X_turnsAt : ByteArray := prog_1_method_41_code
def y_X_turnsAt : MethodName := ⟨"RoundAndRound", "turnsAt", "(I)I"⟩
theorem d_X_turnsAt_0 : decode b_X_turnsAt 0 = .ok (.iload_n 0, 1) := by decide +kernel
theorem d_X_turnsAt_1 : decode b_X_turnsAt 1 = .ok (.iconst 2, 1) := by decide +kernel
theorem d_X_turnsAt_2 : decode b_X_turnsAt 2 = .ok (.irem, 1) := by decide +kernel
theorem d_X_turnsAt_3 : decode b_X_turnsAt 3 = .ok (.iconst 1, 1) := by decide +kernel
theorem d_X_turnsAt_4 : decode b_X_turnsAt 4 = .ok (.if_icmp .ne 11, 3) := by decide +kernel
theorem d_X_turnsAt_7 : decode b_X_turnsAt 7 = .ok (.iload_n 0, 1) := by decide +kernel
theorem d_X_turnsAt_8 : decode b_X_turnsAt 8 = .ok (.iconst 1, 1) := by decide +kernel
theorem d_X_turnsAt_9 : decode b_X_turnsAt 9 = .ok (.iadd, 1) := by decide +kernel
theorem d_X_turnsAt_10 : decode b_X_turnsAt 10 = .ok (.iconst 2, 1) := by decide +kernel
theorem d_X_turnsAt_11 : decode b_X_turnsAt 11 = .ok (.idiv, 1) := by decide +kernel
theorem d_X_turnsAt_12 : decode b_X_turnsAt 12 = .ok (.goto 7, 3) := by decide +kernel
theorem d_X_turnsAt_15 : decode b_X_turnsAt 15 = .ok (.iload_n 0, 1) := by decide +kernel
theorem d_X_turnsAt_16 : decode b_X_turnsAt 16 = .ok (.iconst 2, 1) := by decide +kernel
theorem d_X_turnsAt_17 : decode b_X_turnsAt 17 = .ok (.idiv, 1) := by decide +kernel
theorem d_X_turnsAt_18 : decode b_X_turnsAt 18 = .ok (.ineg, 1) := by decide +kernel
theorem d_X_turnsAt_19 : decode b_X_turnsAt 19 = .ok (.ireturn, 1) := by decide +kernel
abbrev b_X_firstOtherwise : ByteArray := prog_1_method_42_code
def y_X_firstOtherwise : MethodName := ⟨"RoundAndRound", "firstOtherwise", "(LRoundAndRound$Sheet;LRoundAndRound$Text;I)I"⟩
theorem d_X_firstOtherwise_0 : decode b_X_firstOtherwise 0 = .ok (.iconst 0, 1) := by decide +kernel
theorem d_X_firstOtherwise_1 : decode b_X_firstOtherwise 1 = .ok (.istore 4, 2) := by decide +kernel
theorem d_X_firstOtherwise_3 : decode b_X_firstOtherwise 3 = .ok (.iload 4, 2) := by decide +kernel
theorem d_X_firstOtherwise_5 : decode b_X_firstOtherwise 5 = .ok (.aload_n 1, 1) := by decide +kernel
theorem d_X_firstOtherwise_6 : decode b_X_firstOtherwise 6 = .ok (.getfield 333, 3) := by decide +kernel
theorem d_X_firstOtherwise_9 : decode b_X_firstOtherwise 9 = .ok (.if_icmp .ge 38, 3) := by decide +kernel
theorem d_X_firstOtherwise_12 : decode b_X_firstOtherwise 12 = .ok (.aload_n 0, 1) := by decide +kernel
theorem d_X_firstOtherwise_13 : decode b_X_firstOtherwise 13 = .ok (.getfield 19, 3) := by decide +kernel
theorem d_X_firstOtherwise_16 : decode b_X_firstOtherwise 16 = .ok (.aload_n 2, 1) := by decide +kernel
theorem d_X_firstOtherwise_17 : decode b_X_firstOtherwise 17 = .ok (.iload_n 3, 1) := by decide +kernel
theorem d_X_firstOtherwise_18 : decode b_X_firstOtherwise 18 = .ok (.iconst 1, 1) := by decide +kernel
theorem d_X_firstOtherwise_19 : decode b_X_firstOtherwise 19 = .ok (.invokevirtual 271, 3) := by decide +kernel
theorem d_X_firstOtherwise_22 : decode b_X_firstOtherwise 22 = .ok (.aload_n 1, 1) := by decide +kernel
theorem d_X_firstOtherwise_23 : decode b_X_firstOtherwise 23 = .ok (.iload 4, 2) := by decide +kernel
theorem d_X_firstOtherwise_25 : decode b_X_firstOtherwise 25 = .ok (.invokevirtual 316, 3) := by decide +kernel
theorem d_X_firstOtherwise_28 : decode b_X_firstOtherwise 28 = .ok (.aload_n 0, 1) := by decide +kernel
theorem d_X_firstOtherwise_29 : decode b_X_firstOtherwise 29 = .ok (.getfield 19, 3) := by decide +kernel
theorem d_X_firstOtherwise_32 : decode b_X_firstOtherwise 32 = .ok (.getfield 159, 3) := by decide +kernel
theorem d_X_firstOtherwise_35 : decode b_X_firstOtherwise 35 = .ok (.if_icmp .eq 6, 3) := by decide +kernel
theorem d_X_firstOtherwise_38 : decode b_X_firstOtherwise 38 = .ok (.iload 4, 2) := by decide +kernel
theorem d_X_firstOtherwise_40 : decode b_X_firstOtherwise 40 = .ok (.ireturn, 1) := by decide +kernel
theorem d_X_firstOtherwise_41 : decode b_X_firstOtherwise 41 = .ok (.iinc 4 (1), 3) := by decide +kernel
theorem d_X_firstOtherwise_44 : decode b_X_firstOtherwise 44 = .ok (.goto (-41), 3) := by decide +kernel
theorem d_X_firstOtherwise_47 : decode b_X_firstOtherwise 47 = .ok (.iconst (-1), 1) := by decide +kernel
theorem d_X_firstOtherwise_48 : decode b_X_firstOtherwise 48 = .ok (.ireturn, 1) := by decide +kernel
abbrev b_X_raceSeconds : ByteArray := prog_1_method_43_code
def y_X_raceSeconds : MethodName := ⟨"RoundAndRound", "raceSeconds", "(II)I"⟩
theorem d_X_raceSeconds_0 : decode b_X_raceSeconds 0 = .ok (.iload_n 1, 1) := by decide +kernel
theorem d_X_raceSeconds_1 : decode b_X_raceSeconds 1 = .ok (.sipush (1000), 3) := by decide +kernel
theorem d_X_raceSeconds_4 : decode b_X_raceSeconds 4 = .ok (.idiv, 1) := by decide +kernel
theorem d_X_raceSeconds_5 : decode b_X_raceSeconds 5 = .ok (.iload_n 0, 1) := by decide +kernel
theorem d_X_raceSeconds_6 : decode b_X_raceSeconds 6 = .ok (.bipush (10), 2) := by decide +kernel
theorem d_X_raceSeconds_8 : decode b_X_raceSeconds 8 = .ok (.irem, 1) := by decide +kernel
theorem d_X_raceSeconds_9 : decode b_X_raceSeconds 9 = .ok (.invokestatic 238, 3) := by decide +kernel
theorem d_X_raceSeconds_12 : decode b_X_raceSeconds 12 = .ok (.ireturn, 1) := by decide +kernel
abbrev b_X_raceWait : ByteArray := prog_1_method_44_code
def y_X_raceWait : MethodName := ⟨"RoundAndRound", "raceWait", "(LRoundAndRound$Head;III)I"⟩
theorem d_X_raceWait_0 : decode b_X_raceWait 0 = .ok (.iload_n 3, 1) := by decide +kernel
theorem d_X_raceWait_1 : decode b_X_raceWait 1 = .ok (.iload 4, 2) := by decide +kernel
theorem d_X_raceWait_3 : decode b_X_raceWait 3 = .ok (.invokestatic 232, 3) := by decide +kernel
theorem d_X_raceWait_6 : decode b_X_raceWait 6 = .ok (.istore 5, 2) := by decide +kernel
theorem d_X_raceWait_8 : decode b_X_raceWait 8 = .ok (.iload 5, 2) := by decide +kernel
theorem d_X_raceWait_10 : decode b_X_raceWait 10 = .ok (.invokestatic 185, 3) := by decide +kernel
theorem d_X_raceWait_13 : decode b_X_raceWait 13 = .ok (.ifCond .ne 5, 3) := by decide +kernel
theorem d_X_raceWait_16 : decode b_X_raceWait 16 = .ok (.iconst (-1), 1) := by decide +kernel
theorem d_X_raceWait_17 : decode b_X_raceWait 17 = .ok (.ireturn, 1) := by decide +kernel
theorem d_X_raceWait_18 : decode b_X_raceWait 18 = .ok (.aload_n 0, 1) := by decide +kernel
theorem d_X_raceWait_19 : decode b_X_raceWait 19 = .ok (.getfield 23, 3) := by decide +kernel
theorem d_X_raceWait_22 : decode b_X_raceWait 22 = .ok (.aload_n 1, 1) := by decide +kernel
theorem d_X_raceWait_23 : decode b_X_raceWait 23 = .ok (.invokevirtual 235, 3) := by decide +kernel
theorem d_X_raceWait_26 : decode b_X_raceWait 26 = .ok (.aload_n 0, 1) := by decide +kernel
theorem d_X_raceWait_27 : decode b_X_raceWait 27 = .ok (.getfield 23, 3) := by decide +kernel
theorem d_X_raceWait_30 : decode b_X_raceWait 30 = .ok (.invokevirtual 195, 3) := by decide +kernel
theorem d_X_raceWait_33 : decode b_X_raceWait 33 = .ok (.aload_n 0, 1) := by decide +kernel
theorem d_X_raceWait_34 : decode b_X_raceWait 34 = .ok (.getfield 23, 3) := by decide +kernel
theorem d_X_raceWait_37 : decode b_X_raceWait 37 = .ok (.aload_n 0, 1) := by decide +kernel
theorem d_X_raceWait_38 : decode b_X_raceWait 38 = .ok (.invokevirtual 120, 3) := by decide +kernel
theorem d_X_raceWait_41 : decode b_X_raceWait 41 = .ok (.iload_n 2, 1) := by decide +kernel
theorem d_X_raceWait_42 : decode b_X_raceWait 42 = .ok (.iload_n 3, 1) := by decide +kernel
theorem d_X_raceWait_43 : decode b_X_raceWait 43 = .ok (.bipush (10), 2) := by decide +kernel
theorem d_X_raceWait_45 : decode b_X_raceWait 45 = .ok (.idiv, 1) := by decide +kernel
theorem d_X_raceWait_46 : decode b_X_raceWait 46 = .ok (.invokevirtual 175, 3) := by decide +kernel
theorem d_X_raceWait_49 : decode b_X_raceWait 49 = .ok (.iconst 0, 1) := by decide +kernel
theorem d_X_raceWait_50 : decode b_X_raceWait 50 = .ok (.istore 6, 2) := by decide +kernel
theorem d_X_raceWait_52 : decode b_X_raceWait 52 = .ok (.iload 6, 2) := by decide +kernel
theorem d_X_raceWait_54 : decode b_X_raceWait 54 = .ok (.bipush (60), 2) := by decide +kernel
theorem d_X_raceWait_56 : decode b_X_raceWait 56 = .ok (.if_icmp .gt 83, 3) := by decide +kernel
theorem d_X_raceWait_59 : decode b_X_raceWait 59 = .ok (.aload_n 0, 1) := by decide +kernel
theorem d_X_raceWait_60 : decode b_X_raceWait 60 = .ok (.getfield 19, 3) := by decide +kernel
theorem d_X_raceWait_63 : decode b_X_raceWait 63 = .ok (.aload_n 0, 1) := by decide +kernel
theorem d_X_raceWait_64 : decode b_X_raceWait 64 = .ok (.getfield 23, 3) := by decide +kernel
theorem d_X_raceWait_67 : decode b_X_raceWait 67 = .ok (.invokevirtual 235, 3) := by decide +kernel
theorem d_X_raceWait_70 : decode b_X_raceWait 70 = .ok (.aload_n 0, 1) := by decide +kernel
theorem d_X_raceWait_71 : decode b_X_raceWait 71 = .ok (.getfield 19, 3) := by decide +kernel
theorem d_X_raceWait_74 : decode b_X_raceWait 74 = .ok (.aload_n 0, 1) := by decide +kernel
theorem d_X_raceWait_75 : decode b_X_raceWait 75 = .ok (.invokevirtual 120, 3) := by decide +kernel
theorem d_X_raceWait_78 : decode b_X_raceWait 78 = .ok (.iload 5, 2) := by decide +kernel
theorem d_X_raceWait_80 : decode b_X_raceWait 80 = .ok (.iload_n 3, 1) := by decide +kernel
theorem d_X_raceWait_81 : decode b_X_raceWait 81 = .ok (.bipush (10), 2) := by decide +kernel
theorem d_X_raceWait_83 : decode b_X_raceWait 83 = .ok (.irem, 1) := by decide +kernel
theorem d_X_raceWait_84 : decode b_X_raceWait 84 = .ok (.iconst 1, 1) := by decide +kernel
theorem d_X_raceWait_85 : decode b_X_raceWait 85 = .ok (.invokevirtual 191, 3) := by decide +kernel
theorem d_X_raceWait_88 : decode b_X_raceWait 88 = .ok (.pop, 1) := by decide +kernel
theorem d_X_raceWait_89 : decode b_X_raceWait 89 = .ok (.aload_n 0, 1) := by decide +kernel
theorem d_X_raceWait_90 : decode b_X_raceWait 90 = .ok (.getfield 19, 3) := by decide +kernel
theorem d_X_raceWait_93 : decode b_X_raceWait 93 = .ok (.getfield 162, 3) := by decide +kernel
theorem d_X_raceWait_96 : decode b_X_raceWait 96 = .ok (.ifCond .ne 25, 3) := by decide +kernel
theorem d_X_raceWait_99 : decode b_X_raceWait 99 = .ok (.aload_n 0, 1) := by decide +kernel
theorem d_X_raceWait_100 : decode b_X_raceWait 100 = .ok (.getfield 19, 3) := by decide +kernel
theorem d_X_raceWait_103 : decode b_X_raceWait 103 = .ok (.getfield 159, 3) := by decide +kernel
theorem d_X_raceWait_106 : decode b_X_raceWait 106 = .ok (.invokestatic 216, 3) := by decide +kernel
theorem d_X_raceWait_109 : decode b_X_raceWait 109 = .ok (.iload 4, 2) := by decide +kernel
theorem d_X_raceWait_111 : decode b_X_raceWait 111 = .ok (.sipush (1000), 3) := by decide +kernel
theorem d_X_raceWait_114 : decode b_X_raceWait 114 = .ok (.irem, 1) := by decide +kernel
theorem d_X_raceWait_115 : decode b_X_raceWait 115 = .ok (.if_icmp .gt 6, 3) := by decide +kernel
theorem d_X_raceWait_118 : decode b_X_raceWait 118 = .ok (.iload 6, 2) := by decide +kernel
theorem d_X_raceWait_120 : decode b_X_raceWait 120 = .ok (.ireturn, 1) := by decide +kernel
theorem d_X_raceWait_121 : decode b_X_raceWait 121 = .ok (.aload_n 0, 1) := by decide +kernel
theorem d_X_raceWait_122 : decode b_X_raceWait 122 = .ok (.getfield 23, 3) := by decide +kernel
theorem d_X_raceWait_125 : decode b_X_raceWait 125 = .ok (.aload_n 0, 1) := by decide +kernel
theorem d_X_raceWait_126 : decode b_X_raceWait 126 = .ok (.invokevirtual 120, 3) := by decide +kernel
theorem d_X_raceWait_129 : decode b_X_raceWait 129 = .ok (.iconst 1, 1) := by decide +kernel
theorem d_X_raceWait_130 : decode b_X_raceWait 130 = .ok (.invokevirtual 220, 3) := by decide +kernel
theorem d_X_raceWait_133 : decode b_X_raceWait 133 = .ok (.iinc 6 (1), 3) := by decide +kernel
theorem d_X_raceWait_136 : decode b_X_raceWait 136 = .ok (.goto (-84), 3) := by decide +kernel
theorem d_X_raceWait_139 : decode b_X_raceWait 139 = .ok (.iconst (-1), 1) := by decide +kernel
theorem d_X_raceWait_140 : decode b_X_raceWait 140 = .ok (.ireturn, 1) := by decide +kernel
abbrev b_X_roundedUp : ByteArray := prog_1_method_45_code
def y_X_roundedUp : MethodName := ⟨"RoundAndRound", "roundedUp", "(II)I"⟩
theorem d_X_roundedUp_0 : decode b_X_roundedUp 0 = .ok (.iload_n 1, 1) := by decide +kernel
theorem d_X_roundedUp_1 : decode b_X_roundedUp 1 = .ok (.iconst 1, 1) := by decide +kernel
theorem d_X_roundedUp_2 : decode b_X_roundedUp 2 = .ok (.if_icmp .ge 7, 3) := by decide +kernel
theorem d_X_roundedUp_5 : decode b_X_roundedUp 5 = .ok (.iconst 0, 1) := by decide +kernel
theorem d_X_roundedUp_6 : decode b_X_roundedUp 6 = .ok (.goto 10, 3) := by decide +kernel
theorem d_X_roundedUp_9 : decode b_X_roundedUp 9 = .ok (.iload_n 0, 1) := by decide +kernel
theorem d_X_roundedUp_10 : decode b_X_roundedUp 10 = .ok (.iload_n 1, 1) := by decide +kernel
theorem d_X_roundedUp_11 : decode b_X_roundedUp 11 = .ok (.iadd, 1) := by decide +kernel
theorem d_X_roundedUp_12 : decode b_X_roundedUp 12 = .ok (.iconst 1, 1) := by decide +kernel
theorem d_X_roundedUp_13 : decode b_X_roundedUp 13 = .ok (.isub, 1) := by decide +kernel
theorem d_X_roundedUp_14 : decode b_X_roundedUp 14 = .ok (.iload_n 1, 1) := by decide +kernel
theorem d_X_roundedUp_15 : decode b_X_roundedUp 15 = .ok (.idiv, 1) := by decide +kernel
theorem d_X_roundedUp_16 : decode b_X_roundedUp 16 = .ok (.ireturn, 1) := by decide +kernel
abbrev b_X_greatestShared : ByteArray := prog_1_method_46_code
def y_X_greatestShared : MethodName := ⟨"RoundAndRound", "greatestShared", "(II)I"⟩
theorem d_X_greatestShared_0 : decode b_X_greatestShared 0 = .ok (.iload_n 0, 1) := by decide +kernel
theorem d_X_greatestShared_1 : decode b_X_greatestShared 1 = .ok (.istore_n 2, 1) := by decide +kernel
theorem d_X_greatestShared_2 : decode b_X_greatestShared 2 = .ok (.iload_n 1, 1) := by decide +kernel
theorem d_X_greatestShared_3 : decode b_X_greatestShared 3 = .ok (.istore_n 3, 1) := by decide +kernel
theorem d_X_greatestShared_4 : decode b_X_greatestShared 4 = .ok (.iconst 0, 1) := by decide +kernel
theorem d_X_greatestShared_5 : decode b_X_greatestShared 5 = .ok (.istore 4, 2) := by decide +kernel
theorem d_X_greatestShared_7 : decode b_X_greatestShared 7 = .ok (.iload 4, 2) := by decide +kernel
theorem d_X_greatestShared_9 : decode b_X_greatestShared 9 = .ok (.bipush (100), 2) := by decide +kernel
theorem d_X_greatestShared_11 : decode b_X_greatestShared 11 = .ok (.if_icmp .ge 23, 3) := by decide +kernel
theorem d_X_greatestShared_14 : decode b_X_greatestShared 14 = .ok (.iload_n 3, 1) := by decide +kernel
theorem d_X_greatestShared_15 : decode b_X_greatestShared 15 = .ok (.ifCond .eq 19, 3) := by decide +kernel
theorem d_X_greatestShared_18 : decode b_X_greatestShared 18 = .ok (.iload_n 2, 1) := by decide +kernel
theorem d_X_greatestShared_19 : decode b_X_greatestShared 19 = .ok (.iload_n 3, 1) := by decide +kernel
theorem d_X_greatestShared_20 : decode b_X_greatestShared 20 = .ok (.irem, 1) := by decide +kernel
theorem d_X_greatestShared_21 : decode b_X_greatestShared 21 = .ok (.istore 5, 2) := by decide +kernel
theorem d_X_greatestShared_23 : decode b_X_greatestShared 23 = .ok (.iload_n 3, 1) := by decide +kernel
theorem d_X_greatestShared_24 : decode b_X_greatestShared 24 = .ok (.istore_n 2, 1) := by decide +kernel
theorem d_X_greatestShared_25 : decode b_X_greatestShared 25 = .ok (.iload 5, 2) := by decide +kernel
theorem d_X_greatestShared_27 : decode b_X_greatestShared 27 = .ok (.istore_n 3, 1) := by decide +kernel
theorem d_X_greatestShared_28 : decode b_X_greatestShared 28 = .ok (.iinc 4 (1), 3) := by decide +kernel
theorem d_X_greatestShared_31 : decode b_X_greatestShared 31 = .ok (.goto (-24), 3) := by decide +kernel
theorem d_X_greatestShared_34 : decode b_X_greatestShared 34 = .ok (.iconst 1, 1) := by decide +kernel
theorem d_X_greatestShared_35 : decode b_X_greatestShared 35 = .ok (.iload_n 2, 1) := by decide +kernel
theorem d_X_greatestShared_36 : decode b_X_greatestShared 36 = .ok (.invokestatic 334, 3) := by decide +kernel
theorem d_X_greatestShared_39 : decode b_X_greatestShared 39 = .ok (.ireturn, 1) := by decide +kernel
abbrev b_X_headAt : ByteArray := prog_1_method_47_code
def y_X_headAt : MethodName := ⟨"RoundAndRound", "headAt", "(I)LRoundAndRound$Head;"⟩
theorem d_X_headAt_0 : decode b_X_headAt 0 = .ok (.iload_n 1, 1) := by decide +kernel
theorem d_X_headAt_1 : decode b_X_headAt 1 = .ok (.ifCond .lt 21, 3) := by decide +kernel
theorem d_X_headAt_4 : decode b_X_headAt 4 = .ok (.iload_n 1, 1) := by decide +kernel
theorem d_X_headAt_5 : decode b_X_headAt 5 = .ok (.aload_n 0, 1) := by decide +kernel
theorem d_X_headAt_6 : decode b_X_headAt 6 = .ok (.getfield 11, 3) := by decide +kernel
theorem d_X_headAt_9 : decode b_X_headAt 9 = .ok (.arraylength, 1) := by decide +kernel
theorem d_X_headAt_10 : decode b_X_headAt 10 = .ok (.if_icmp .ge 12, 3) := by decide +kernel
theorem d_X_headAt_13 : decode b_X_headAt 13 = .ok (.aload_n 0, 1) := by decide +kernel
theorem d_X_headAt_14 : decode b_X_headAt 14 = .ok (.getfield 11, 3) := by decide +kernel
theorem d_X_headAt_17 : decode b_X_headAt 17 = .ok (.iload_n 1, 1) := by decide +kernel
theorem d_X_headAt_18 : decode b_X_headAt 18 = .ok (.aaload, 1) := by decide +kernel
theorem d_X_headAt_19 : decode b_X_headAt 19 = .ok (.goto 4, 3) := by decide +kernel
theorem d_X_headAt_22 : decode b_X_headAt 22 = .ok (.aconst_null, 1) := by decide +kernel
theorem d_X_headAt_23 : decode b_X_headAt 23 = .ok (.astore_n 2, 1) := by decide +kernel
theorem d_X_headAt_24 : decode b_X_headAt 24 = .ok (.aload_n 2, 1) := by decide +kernel
theorem d_X_headAt_25 : decode b_X_headAt 25 = .ok (.ifnonnull 10, 3) := by decide +kernel
theorem d_X_headAt_28 : decode b_X_headAt 28 = .ok (.aload_n 0, 1) := by decide +kernel
theorem d_X_headAt_29 : decode b_X_headAt 29 = .ok (.getfield 19, 3) := by decide +kernel
theorem d_X_headAt_32 : decode b_X_headAt 32 = .ok (.goto 4, 3) := by decide +kernel
theorem d_X_headAt_35 : decode b_X_headAt 35 = .ok (.aload_n 2, 1) := by decide +kernel
theorem d_X_headAt_36 : decode b_X_headAt 36 = .ok (.areturn, 1) := by decide +kernel
abbrev b_X_imageHeadAt : ByteArray := prog_1_method_48_code
def y_X_imageHeadAt : MethodName := ⟨"RoundAndRound", "imageHeadAt", "(I)LRoundAndRound$Head;"⟩
theorem d_X_imageHeadAt_0 : decode b_X_imageHeadAt 0 = .ok (.iload_n 1, 1) := by decide +kernel
theorem d_X_imageHeadAt_1 : decode b_X_imageHeadAt 1 = .ok (.ifCond .lt 21, 3) := by decide +kernel
theorem d_X_imageHeadAt_4 : decode b_X_imageHeadAt 4 = .ok (.iload_n 1, 1) := by decide +kernel
theorem d_X_imageHeadAt_5 : decode b_X_imageHeadAt 5 = .ok (.aload_n 0, 1) := by decide +kernel
theorem d_X_imageHeadAt_6 : decode b_X_imageHeadAt 6 = .ok (.getfield 15, 3) := by decide +kernel
theorem d_X_imageHeadAt_9 : decode b_X_imageHeadAt 9 = .ok (.arraylength, 1) := by decide +kernel
theorem d_X_imageHeadAt_10 : decode b_X_imageHeadAt 10 = .ok (.if_icmp .ge 12, 3) := by decide +kernel
theorem d_X_imageHeadAt_13 : decode b_X_imageHeadAt 13 = .ok (.aload_n 0, 1) := by decide +kernel
theorem d_X_imageHeadAt_14 : decode b_X_imageHeadAt 14 = .ok (.getfield 15, 3) := by decide +kernel
theorem d_X_imageHeadAt_17 : decode b_X_imageHeadAt 17 = .ok (.iload_n 1, 1) := by decide +kernel
theorem d_X_imageHeadAt_18 : decode b_X_imageHeadAt 18 = .ok (.aaload, 1) := by decide +kernel
theorem d_X_imageHeadAt_19 : decode b_X_imageHeadAt 19 = .ok (.goto 4, 3) := by decide +kernel
theorem d_X_imageHeadAt_22 : decode b_X_imageHeadAt 22 = .ok (.aconst_null, 1) := by decide +kernel
theorem d_X_imageHeadAt_23 : decode b_X_imageHeadAt 23 = .ok (.astore_n 2, 1) := by decide +kernel
theorem d_X_imageHeadAt_24 : decode b_X_imageHeadAt 24 = .ok (.aload_n 2, 1) := by decide +kernel
theorem d_X_imageHeadAt_25 : decode b_X_imageHeadAt 25 = .ok (.ifnonnull 10, 3) := by decide +kernel
theorem d_X_imageHeadAt_28 : decode b_X_imageHeadAt 28 = .ok (.aload_n 0, 1) := by decide +kernel
theorem d_X_imageHeadAt_29 : decode b_X_imageHeadAt 29 = .ok (.getfield 19, 3) := by decide +kernel
theorem d_X_imageHeadAt_32 : decode b_X_imageHeadAt 32 = .ok (.goto 4, 3) := by decide +kernel
theorem d_X_imageHeadAt_35 : decode b_X_imageHeadAt 35 = .ok (.aload_n 2, 1) := by decide +kernel
theorem d_X_imageHeadAt_36 : decode b_X_imageHeadAt 36 = .ok (.areturn, 1) := by decide +kernel
abbrev b_X_textAt : ByteArray := prog_1_method_49_code
def y_X_textAt : MethodName := ⟨"RoundAndRound", "textAt", "(I)LRoundAndRound$Text;"⟩
theorem d_X_textAt_0 : decode b_X_textAt 0 = .ok (.iload_n 1, 1) := by decide +kernel
theorem d_X_textAt_1 : decode b_X_textAt 1 = .ok (.ifCond .lt 21, 3) := by decide +kernel
theorem d_X_textAt_4 : decode b_X_textAt 4 = .ok (.iload_n 1, 1) := by decide +kernel
theorem d_X_textAt_5 : decode b_X_textAt 5 = .ok (.aload_n 0, 1) := by decide +kernel
theorem d_X_textAt_6 : decode b_X_textAt 6 = .ok (.getfield 32, 3) := by decide +kernel
theorem d_X_textAt_9 : decode b_X_textAt 9 = .ok (.arraylength, 1) := by decide +kernel
theorem d_X_textAt_10 : decode b_X_textAt 10 = .ok (.if_icmp .ge 12, 3) := by decide +kernel
theorem d_X_textAt_13 : decode b_X_textAt 13 = .ok (.aload_n 0, 1) := by decide +kernel
theorem d_X_textAt_14 : decode b_X_textAt 14 = .ok (.getfield 32, 3) := by decide +kernel
theorem d_X_textAt_17 : decode b_X_textAt 17 = .ok (.iload_n 1, 1) := by decide +kernel
theorem d_X_textAt_18 : decode b_X_textAt 18 = .ok (.aaload, 1) := by decide +kernel
theorem d_X_textAt_19 : decode b_X_textAt 19 = .ok (.goto 4, 3) := by decide +kernel
theorem d_X_textAt_22 : decode b_X_textAt 22 = .ok (.aconst_null, 1) := by decide +kernel
theorem d_X_textAt_23 : decode b_X_textAt 23 = .ok (.astore_n 2, 1) := by decide +kernel
theorem d_X_textAt_24 : decode b_X_textAt 24 = .ok (.aload_n 2, 1) := by decide +kernel
theorem d_X_textAt_25 : decode b_X_textAt 25 = .ok (.ifnonnull 10, 3) := by decide +kernel
theorem d_X_textAt_28 : decode b_X_textAt 28 = .ok (.aload_n 0, 1) := by decide +kernel
theorem d_X_textAt_29 : decode b_X_textAt 29 = .ok (.getfield 37, 3) := by decide +kernel
theorem d_X_textAt_32 : decode b_X_textAt 32 = .ok (.goto 4, 3) := by decide +kernel
theorem d_X_textAt_35 : decode b_X_textAt 35 = .ok (.aload_n 2, 1) := by decide +kernel
theorem d_X_textAt_36 : decode b_X_textAt 36 = .ok (.areturn, 1) := by decide +kernel
abbrev b_X_law : ByteArray := prog_1_method_50_code
def y_X_law : MethodName := ⟨"RoundAndRound", "law", "()LRoundAndRound$Text;"⟩
theorem d_X_law_0 : decode b_X_law 0 = .ok (.aload_n 0, 1) := by decide +kernel
theorem d_X_law_1 : decode b_X_law 1 = .ok (.aload_n 0, 1) := by decide +kernel
theorem d_X_law_2 : decode b_X_law 2 = .ok (.getfield 66, 3) := by decide +kernel
theorem d_X_law_5 : decode b_X_law 5 = .ok (.invokevirtual 91, 3) := by decide +kernel
theorem d_X_law_8 : decode b_X_law 8 = .ok (.areturn, 1) := by decide +kernel
abbrev b_X_sheetAt : ByteArray := prog_1_method_51_code
def y_X_sheetAt : MethodName := ⟨"RoundAndRound", "sheetAt", "(I)LRoundAndRound$Sheet;"⟩
theorem d_X_sheetAt_0 : decode b_X_sheetAt 0 = .ok (.iload_n 1, 1) := by decide +kernel
theorem d_X_sheetAt_1 : decode b_X_sheetAt 1 = .ok (.ifCond .lt 21, 3) := by decide +kernel
theorem d_X_sheetAt_4 : decode b_X_sheetAt 4 = .ok (.iload_n 1, 1) := by decide +kernel
theorem d_X_sheetAt_5 : decode b_X_sheetAt 5 = .ok (.aload_n 0, 1) := by decide +kernel
theorem d_X_sheetAt_6 : decode b_X_sheetAt 6 = .ok (.getfield 50, 3) := by decide +kernel
theorem d_X_sheetAt_9 : decode b_X_sheetAt 9 = .ok (.arraylength, 1) := by decide +kernel
theorem d_X_sheetAt_10 : decode b_X_sheetAt 10 = .ok (.if_icmp .ge 12, 3) := by decide +kernel
theorem d_X_sheetAt_13 : decode b_X_sheetAt 13 = .ok (.aload_n 0, 1) := by decide +kernel
theorem d_X_sheetAt_14 : decode b_X_sheetAt 14 = .ok (.getfield 50, 3) := by decide +kernel
theorem d_X_sheetAt_17 : decode b_X_sheetAt 17 = .ok (.iload_n 1, 1) := by decide +kernel
theorem d_X_sheetAt_18 : decode b_X_sheetAt 18 = .ok (.aaload, 1) := by decide +kernel
theorem d_X_sheetAt_19 : decode b_X_sheetAt 19 = .ok (.goto 4, 3) := by decide +kernel
theorem d_X_sheetAt_22 : decode b_X_sheetAt 22 = .ok (.aconst_null, 1) := by decide +kernel
theorem d_X_sheetAt_23 : decode b_X_sheetAt 23 = .ok (.astore_n 2, 1) := by decide +kernel
theorem d_X_sheetAt_24 : decode b_X_sheetAt 24 = .ok (.aload_n 2, 1) := by decide +kernel
theorem d_X_sheetAt_25 : decode b_X_sheetAt 25 = .ok (.ifnonnull 10, 3) := by decide +kernel
theorem d_X_sheetAt_28 : decode b_X_sheetAt 28 = .ok (.aload_n 0, 1) := by decide +kernel
theorem d_X_sheetAt_29 : decode b_X_sheetAt 29 = .ok (.getfield 55, 3) := by decide +kernel
theorem d_X_sheetAt_32 : decode b_X_sheetAt 32 = .ok (.goto 4, 3) := by decide +kernel
theorem d_X_sheetAt_35 : decode b_X_sheetAt 35 = .ok (.aload_n 2, 1) := by decide +kernel
theorem d_X_sheetAt_36 : decode b_X_sheetAt 36 = .ok (.areturn, 1) := by decide +kernel
abbrev b_X_within : ByteArray := prog_1_method_52_code
def y_X_within : MethodName := ⟨"RoundAndRound", "within", "(III)Z"⟩
theorem d_X_within_0 : decode b_X_within 0 = .ok (.iload_n 0, 1) := by decide +kernel
theorem d_X_within_1 : decode b_X_within 1 = .ok (.iload_n 1, 1) := by decide +kernel
theorem d_X_within_2 : decode b_X_within 2 = .ok (.if_icmp .lt 12, 3) := by decide +kernel
theorem d_X_within_5 : decode b_X_within 5 = .ok (.iload_n 0, 1) := by decide +kernel
theorem d_X_within_6 : decode b_X_within 6 = .ok (.iload_n 2, 1) := by decide +kernel
theorem d_X_within_7 : decode b_X_within 7 = .ok (.if_icmp .gt 7, 3) := by decide +kernel
theorem d_X_within_10 : decode b_X_within 10 = .ok (.iconst 1, 1) := by decide +kernel
theorem d_X_within_11 : decode b_X_within 11 = .ok (.goto 4, 3) := by decide +kernel
theorem d_X_within_14 : decode b_X_within 14 = .ok (.iconst 0, 1) := by decide +kernel
theorem d_X_within_15 : decode b_X_within 15 = .ok (.ireturn, 1) := by decide +kernel
abbrev b_X_bounded : ByteArray := prog_1_method_53_code
def y_X_bounded : MethodName := ⟨"RoundAndRound", "bounded", "(III)I"⟩
theorem d_X_bounded_0 : decode b_X_bounded 0 = .ok (.iload_n 1, 1) := by decide +kernel
theorem d_X_bounded_1 : decode b_X_bounded 1 = .ok (.iload_n 2, 1) := by decide +kernel
theorem d_X_bounded_2 : decode b_X_bounded 2 = .ok (.iload_n 0, 1) := by decide +kernel
theorem d_X_bounded_3 : decode b_X_bounded 3 = .ok (.invokestatic 179, 3) := by decide +kernel
theorem d_X_bounded_6 : decode b_X_bounded 6 = .ok (.invokestatic 334, 3) := by decide +kernel
theorem d_X_bounded_9 : decode b_X_bounded 9 = .ok (.ireturn, 1) := by decide +kernel
abbrev b_X_isByte : ByteArray := prog_1_method_54_code
def y_X_isByte : MethodName := ⟨"RoundAndRound", "isByte", "(I)Z"⟩
theorem d_X_isByte_0 : decode b_X_isByte 0 = .ok (.iload_n 0, 1) := by decide +kernel
theorem d_X_isByte_1 : decode b_X_isByte 1 = .ok (.iconst 0, 1) := by decide +kernel
theorem d_X_isByte_2 : decode b_X_isByte 2 = .ok (.sipush (255), 3) := by decide +kernel
theorem d_X_isByte_5 : decode b_X_isByte 5 = .ok (.invokestatic 105, 3) := by decide +kernel
theorem d_X_isByte_8 : decode b_X_isByte 8 = .ok (.ireturn, 1) := by decide +kernel
abbrev b_X_isHead : ByteArray := prog_1_method_55_code
def y_X_isHead : MethodName := ⟨"RoundAndRound", "isHead", "(I)Z"⟩
theorem d_X_isHead_0 : decode b_X_isHead 0 = .ok (.iload_n 1, 1) := by decide +kernel
theorem d_X_isHead_1 : decode b_X_isHead 1 = .ok (.iconst 0, 1) := by decide +kernel
theorem d_X_isHead_2 : decode b_X_isHead 2 = .ok (.aload_n 0, 1) := by decide +kernel
theorem d_X_isHead_3 : decode b_X_isHead 3 = .ok (.getfield 59, 3) := by decide +kernel
theorem d_X_isHead_6 : decode b_X_isHead 6 = .ok (.iconst 1, 1) := by decide +kernel
theorem d_X_isHead_7 : decode b_X_isHead 7 = .ok (.isub, 1) := by decide +kernel
theorem d_X_isHead_8 : decode b_X_isHead 8 = .ok (.invokestatic 105, 3) := by decide +kernel
theorem d_X_isHead_11 : decode b_X_isHead 11 = .ok (.ireturn, 1) := by decide +kernel
abbrev b_X_isKind : ByteArray := prog_1_method_56_code
def y_X_isKind : MethodName := ⟨"RoundAndRound", "isKind", "(I)Z"⟩
theorem d_X_isKind_0 : decode b_X_isKind 0 = .ok (.iload_n 0, 1) := by decide +kernel
theorem d_X_isKind_1 : decode b_X_isKind 1 = .ok (.iconst 0, 1) := by decide +kernel
theorem d_X_isKind_2 : decode b_X_isKind 2 = .ok (.iconst 5, 1) := by decide +kernel
theorem d_X_isKind_3 : decode b_X_isKind 3 = .ok (.invokestatic 105, 3) := by decide +kernel
theorem d_X_isKind_6 : decode b_X_isKind 6 = .ok (.ireturn, 1) := by decide +kernel
abbrev b_X_isSheet : ByteArray := prog_1_method_57_code
def y_X_isSheet : MethodName := ⟨"RoundAndRound", "isSheet", "(I)Z"⟩
theorem d_X_isSheet_0 : decode b_X_isSheet 0 = .ok (.iload_n 0, 1) := by decide +kernel
theorem d_X_isSheet_1 : decode b_X_isSheet 1 = .ok (.iconst 0, 1) := by decide +kernel
theorem d_X_isSheet_2 : decode b_X_isSheet 2 = .ok (.iconst 3, 1) := by decide +kernel
theorem d_X_isSheet_3 : decode b_X_isSheet 3 = .ok (.invokestatic 105, 3) := by decide +kernel
theorem d_X_isSheet_6 : decode b_X_isSheet 6 = .ok (.ireturn, 1) := by decide +kernel
abbrev b_X_isTurns : ByteArray := prog_1_method_58_code
def y_X_isTurns : MethodName := ⟨"RoundAndRound", "isTurns", "(I)Z"⟩
theorem d_X_isTurns_0 : decode b_X_isTurns 0 = .ok (.iload_n 0, 1) := by decide +kernel
theorem d_X_isTurns_1 : decode b_X_isTurns 1 = .ok (.bipush (-40), 2) := by decide +kernel
theorem d_X_isTurns_3 : decode b_X_isTurns 3 = .ok (.bipush (40), 2) := by decide +kernel
theorem d_X_isTurns_5 : decode b_X_isTurns 5 = .ok (.invokestatic 105, 3) := by decide +kernel
theorem d_X_isTurns_8 : decode b_X_isTurns 8 = .ok (.ireturn, 1) := by decide +kernel
abbrev b_X_isSeconds : ByteArray := prog_1_method_59_code
def y_X_isSeconds : MethodName := ⟨"RoundAndRound", "isSeconds", "(I)Z"⟩
theorem d_X_isSeconds_0 : decode b_X_isSeconds 0 = .ok (.iload_n 0, 1) := by decide +kernel
theorem d_X_isSeconds_1 : decode b_X_isSeconds 1 = .ok (.iconst 0, 1) := by decide +kernel
theorem d_X_isSeconds_2 : decode b_X_isSeconds 2 = .ok (.bipush (60), 2) := by decide +kernel
theorem d_X_isSeconds_4 : decode b_X_isSeconds 4 = .ok (.invokestatic 105, 3) := by decide +kernel
theorem d_X_isSeconds_7 : decode b_X_isSeconds 7 = .ok (.ireturn, 1) := by decide +kernel
abbrev b_X_isPace : ByteArray := prog_1_method_60_code
def y_X_isPace : MethodName := ⟨"RoundAndRound", "isPace", "(I)Z"⟩
theorem d_X_isPace_0 : decode b_X_isPace 0 = .ok (.iload_n 0, 1) := by decide +kernel
theorem d_X_isPace_1 : decode b_X_isPace 1 = .ok (.iconst 1, 1) := by decide +kernel
theorem d_X_isPace_2 : decode b_X_isPace 2 = .ok (.bipush (9), 2) := by decide +kernel
theorem d_X_isPace_4 : decode b_X_isPace 4 = .ok (.invokestatic 105, 3) := by decide +kernel
theorem d_X_isPace_7 : decode b_X_isPace 7 = .ok (.ireturn, 1) := by decide +kernel
abbrev b_X_isSpeedPace : ByteArray := prog_1_method_61_code
def y_X_isSpeedPace : MethodName := ⟨"RoundAndRound", "isSpeedPace", "(I)Z"⟩
theorem d_X_isSpeedPace_0 : decode b_X_isSpeedPace 0 = .ok (.iload_n 0, 1) := by decide +kernel
theorem d_X_isSpeedPace_1 : decode b_X_isSpeedPace 1 = .ok (.ifCond .le 27, 3) := by decide +kernel
theorem d_X_isSpeedPace_4 : decode b_X_isSpeedPace 4 = .ok (.iload_n 0, 1) := by decide +kernel
theorem d_X_isSpeedPace_5 : decode b_X_isSpeedPace 5 = .ok (.bipush (10), 2) := by decide +kernel
theorem d_X_isSpeedPace_7 : decode b_X_isSpeedPace 7 = .ok (.idiv, 1) := by decide +kernel
theorem d_X_isSpeedPace_8 : decode b_X_isSpeedPace 8 = .ok (.invokestatic 172, 3) := by decide +kernel
theorem d_X_isSpeedPace_11 : decode b_X_isSpeedPace 11 = .ok (.ifCond .eq 17, 3) := by decide +kernel
theorem d_X_isSpeedPace_14 : decode b_X_isSpeedPace 14 = .ok (.iload_n 0, 1) := by decide +kernel
theorem d_X_isSpeedPace_15 : decode b_X_isSpeedPace 15 = .ok (.bipush (10), 2) := by decide +kernel
theorem d_X_isSpeedPace_17 : decode b_X_isSpeedPace 17 = .ok (.irem, 1) := by decide +kernel
theorem d_X_isSpeedPace_18 : decode b_X_isSpeedPace 18 = .ok (.invokestatic 172, 3) := by decide +kernel
theorem d_X_isSpeedPace_21 : decode b_X_isSpeedPace 21 = .ok (.ifCond .eq 7, 3) := by decide +kernel
theorem d_X_isSpeedPace_24 : decode b_X_isSpeedPace 24 = .ok (.iconst 1, 1) := by decide +kernel
theorem d_X_isSpeedPace_25 : decode b_X_isSpeedPace 25 = .ok (.goto 4, 3) := by decide +kernel
theorem d_X_isSpeedPace_28 : decode b_X_isSpeedPace 28 = .ok (.iconst 0, 1) := by decide +kernel
theorem d_X_isSpeedPace_29 : decode b_X_isSpeedPace 29 = .ok (.ireturn, 1) := by decide +kernel
abbrev b_X_isNumberAndEyes : ByteArray := prog_1_method_62_code
def y_X_isNumberAndEyes : MethodName := ⟨"RoundAndRound", "isNumberAndEyes", "(II)Z"⟩
theorem d_X_isNumberAndEyes_0 : decode b_X_isNumberAndEyes 0 = .ok (.iload_n 0, 1) := by decide +kernel
theorem d_X_isNumberAndEyes_1 : decode b_X_isNumberAndEyes 1 = .ok (.ifCond .lt 32, 3) := by decide +kernel
theorem d_X_isNumberAndEyes_4 : decode b_X_isNumberAndEyes 4 = .ok (.iload_n 0, 1) := by decide +kernel
theorem d_X_isNumberAndEyes_5 : decode b_X_isNumberAndEyes 5 = .ok (.bipush (10), 2) := by decide +kernel
theorem d_X_isNumberAndEyes_7 : decode b_X_isNumberAndEyes 7 = .ok (.idiv, 1) := by decide +kernel
theorem d_X_isNumberAndEyes_8 : decode b_X_isNumberAndEyes 8 = .ok (.iload_n 1, 1) := by decide +kernel
theorem d_X_isNumberAndEyes_9 : decode b_X_isNumberAndEyes 9 = .ok (.bipush (9), 2) := by decide +kernel
theorem d_X_isNumberAndEyes_11 : decode b_X_isNumberAndEyes 11 = .ok (.invokestatic 105, 3) := by decide +kernel
theorem d_X_isNumberAndEyes_14 : decode b_X_isNumberAndEyes 14 = .ok (.ifCond .eq 19, 3) := by decide +kernel
theorem d_X_isNumberAndEyes_17 : decode b_X_isNumberAndEyes 17 = .ok (.iload_n 0, 1) := by decide +kernel
theorem d_X_isNumberAndEyes_18 : decode b_X_isNumberAndEyes 18 = .ok (.bipush (10), 2) := by decide +kernel
theorem d_X_isNumberAndEyes_20 : decode b_X_isNumberAndEyes 20 = .ok (.irem, 1) := by decide +kernel
theorem d_X_isNumberAndEyes_21 : decode b_X_isNumberAndEyes 21 = .ok (.iconst 0, 1) := by decide +kernel
theorem d_X_isNumberAndEyes_22 : decode b_X_isNumberAndEyes 22 = .ok (.iconst 1, 1) := by decide +kernel
theorem d_X_isNumberAndEyes_23 : decode b_X_isNumberAndEyes 23 = .ok (.invokestatic 105, 3) := by decide +kernel
theorem d_X_isNumberAndEyes_26 : decode b_X_isNumberAndEyes 26 = .ok (.ifCond .eq 7, 3) := by decide +kernel
theorem d_X_isNumberAndEyes_29 : decode b_X_isNumberAndEyes 29 = .ok (.iconst 1, 1) := by decide +kernel
theorem d_X_isNumberAndEyes_30 : decode b_X_isNumberAndEyes 30 = .ok (.goto 4, 3) := by decide +kernel
theorem d_X_isNumberAndEyes_33 : decode b_X_isNumberAndEyes 33 = .ok (.iconst 0, 1) := by decide +kernel
theorem d_X_isNumberAndEyes_34 : decode b_X_isNumberAndEyes 34 = .ok (.ireturn, 1) := by decide +kernel
abbrev b_X_isWaitSpeedPace : ByteArray := prog_1_method_63_code
def y_X_isWaitSpeedPace : MethodName := ⟨"RoundAndRound", "isWaitSpeedPace", "(I)Z"⟩
theorem d_X_isWaitSpeedPace_0 : decode b_X_isWaitSpeedPace 0 = .ok (.iload_n 0, 1) := by decide +kernel
theorem d_X_isWaitSpeedPace_1 : decode b_X_isWaitSpeedPace 1 = .ok (.ifCond .le 27, 3) := by decide +kernel
theorem d_X_isWaitSpeedPace_4 : decode b_X_isWaitSpeedPace 4 = .ok (.iload_n 0, 1) := by decide +kernel
theorem d_X_isWaitSpeedPace_5 : decode b_X_isWaitSpeedPace 5 = .ok (.bipush (100), 2) := by decide +kernel
theorem d_X_isWaitSpeedPace_7 : decode b_X_isWaitSpeedPace 7 = .ok (.idiv, 1) := by decide +kernel
theorem d_X_isWaitSpeedPace_8 : decode b_X_isWaitSpeedPace 8 = .ok (.invokestatic 185, 3) := by decide +kernel
theorem d_X_isWaitSpeedPace_11 : decode b_X_isWaitSpeedPace 11 = .ok (.ifCond .eq 17, 3) := by decide +kernel
theorem d_X_isWaitSpeedPace_14 : decode b_X_isWaitSpeedPace 14 = .ok (.iload_n 0, 1) := by decide +kernel
theorem d_X_isWaitSpeedPace_15 : decode b_X_isWaitSpeedPace 15 = .ok (.bipush (100), 2) := by decide +kernel
theorem d_X_isWaitSpeedPace_17 : decode b_X_isWaitSpeedPace 17 = .ok (.irem, 1) := by decide +kernel
theorem d_X_isWaitSpeedPace_18 : decode b_X_isWaitSpeedPace 18 = .ok (.invokestatic 241, 3) := by decide +kernel
theorem d_X_isWaitSpeedPace_21 : decode b_X_isWaitSpeedPace 21 = .ok (.ifCond .eq 7, 3) := by decide +kernel
theorem d_X_isWaitSpeedPace_24 : decode b_X_isWaitSpeedPace 24 = .ok (.iconst 1, 1) := by decide +kernel
theorem d_X_isWaitSpeedPace_25 : decode b_X_isWaitSpeedPace 25 = .ok (.goto 4, 3) := by decide +kernel
theorem d_X_isWaitSpeedPace_28 : decode b_X_isWaitSpeedPace 28 = .ok (.iconst 0, 1) := by decide +kernel
theorem d_X_isWaitSpeedPace_29 : decode b_X_isWaitSpeedPace 29 = .ok (.ireturn, 1) := by decide +kernel
abbrev b_X_isOddsPace : ByteArray := prog_1_method_64_code
def y_X_isOddsPace : MethodName := ⟨"RoundAndRound", "isOddsPace", "(I)Z"⟩
theorem d_X_isOddsPace_0 : decode b_X_isOddsPace 0 = .ok (.iload_n 0, 1) := by decide +kernel
theorem d_X_isOddsPace_1 : decode b_X_isOddsPace 1 = .ok (.ifCond .le 30, 3) := by decide +kernel
theorem d_X_isOddsPace_4 : decode b_X_isOddsPace 4 = .ok (.iload_n 0, 1) := by decide +kernel
theorem d_X_isOddsPace_5 : decode b_X_isOddsPace 5 = .ok (.bipush (10), 2) := by decide +kernel
theorem d_X_isOddsPace_7 : decode b_X_isOddsPace 7 = .ok (.idiv, 1) := by decide +kernel
theorem d_X_isOddsPace_8 : decode b_X_isOddsPace 8 = .ok (.iconst 0, 1) := by decide +kernel
theorem d_X_isOddsPace_9 : decode b_X_isOddsPace 9 = .ok (.bipush (100), 2) := by decide +kernel
theorem d_X_isOddsPace_11 : decode b_X_isOddsPace 11 = .ok (.invokestatic 105, 3) := by decide +kernel
theorem d_X_isOddsPace_14 : decode b_X_isOddsPace 14 = .ok (.ifCond .eq 17, 3) := by decide +kernel
theorem d_X_isOddsPace_17 : decode b_X_isOddsPace 17 = .ok (.iload_n 0, 1) := by decide +kernel
theorem d_X_isOddsPace_18 : decode b_X_isOddsPace 18 = .ok (.bipush (10), 2) := by decide +kernel
theorem d_X_isOddsPace_20 : decode b_X_isOddsPace 20 = .ok (.irem, 1) := by decide +kernel
theorem d_X_isOddsPace_21 : decode b_X_isOddsPace 21 = .ok (.invokestatic 172, 3) := by decide +kernel
theorem d_X_isOddsPace_24 : decode b_X_isOddsPace 24 = .ok (.ifCond .eq 7, 3) := by decide +kernel
theorem d_X_isOddsPace_27 : decode b_X_isOddsPace 27 = .ok (.iconst 1, 1) := by decide +kernel
theorem d_X_isOddsPace_28 : decode b_X_isOddsPace 28 = .ok (.goto 4, 3) := by decide +kernel
theorem d_X_isOddsPace_31 : decode b_X_isOddsPace 31 = .ok (.iconst 0, 1) := by decide +kernel
theorem d_X_isOddsPace_32 : decode b_X_isOddsPace 32 = .ok (.ireturn, 1) := by decide +kernel
abbrev b_X_isSecondsSeeds : ByteArray := prog_1_method_65_code
def y_X_isSecondsSeeds : MethodName := ⟨"RoundAndRound", "isSecondsSeeds", "(I)Z"⟩
theorem d_X_isSecondsSeeds_0 : decode b_X_isSecondsSeeds 0 = .ok (.iload_n 0, 1) := by decide +kernel
theorem d_X_isSecondsSeeds_1 : decode b_X_isSecondsSeeds 1 = .ok (.ifCond .le 30, 3) := by decide +kernel
theorem d_X_isSecondsSeeds_4 : decode b_X_isSecondsSeeds 4 = .ok (.iload_n 0, 1) := by decide +kernel
theorem d_X_isSecondsSeeds_5 : decode b_X_isSecondsSeeds 5 = .ok (.bipush (100), 2) := by decide +kernel
theorem d_X_isSecondsSeeds_7 : decode b_X_isSecondsSeeds 7 = .ok (.idiv, 1) := by decide +kernel
theorem d_X_isSecondsSeeds_8 : decode b_X_isSecondsSeeds 8 = .ok (.invokestatic 185, 3) := by decide +kernel
theorem d_X_isSecondsSeeds_11 : decode b_X_isSecondsSeeds 11 = .ok (.ifCond .eq 20, 3) := by decide +kernel
theorem d_X_isSecondsSeeds_14 : decode b_X_isSecondsSeeds 14 = .ok (.iload_n 0, 1) := by decide +kernel
theorem d_X_isSecondsSeeds_15 : decode b_X_isSecondsSeeds 15 = .ok (.bipush (100), 2) := by decide +kernel
theorem d_X_isSecondsSeeds_17 : decode b_X_isSecondsSeeds 17 = .ok (.irem, 1) := by decide +kernel
theorem d_X_isSecondsSeeds_18 : decode b_X_isSecondsSeeds 18 = .ok (.iconst 1, 1) := by decide +kernel
theorem d_X_isSecondsSeeds_19 : decode b_X_isSecondsSeeds 19 = .ok (.bipush (40), 2) := by decide +kernel
theorem d_X_isSecondsSeeds_21 : decode b_X_isSecondsSeeds 21 = .ok (.invokestatic 105, 3) := by decide +kernel
theorem d_X_isSecondsSeeds_24 : decode b_X_isSecondsSeeds 24 = .ok (.ifCond .eq 7, 3) := by decide +kernel
theorem d_X_isSecondsSeeds_27 : decode b_X_isSecondsSeeds 27 = .ok (.iconst 1, 1) := by decide +kernel
theorem d_X_isSecondsSeeds_28 : decode b_X_isSecondsSeeds 28 = .ok (.goto 4, 3) := by decide +kernel
theorem d_X_isSecondsSeeds_31 : decode b_X_isSecondsSeeds 31 = .ok (.iconst 0, 1) := by decide +kernel
theorem d_X_isSecondsSeeds_32 : decode b_X_isSecondsSeeds 32 = .ok (.ireturn, 1) := by decide +kernel
abbrev b_X_isRace : ByteArray := prog_1_method_66_code
def y_X_isRace : MethodName := ⟨"RoundAndRound", "isRace", "(IIII)Z"⟩
theorem d_X_isRace_0 : decode b_X_isRace 0 = .ok (.iload_n 0, 1) := by decide +kernel
theorem d_X_isRace_1 : decode b_X_isRace 1 = .ok (.invokestatic 169, 3) := by decide +kernel
theorem d_X_isRace_4 : decode b_X_isRace 4 = .ok (.ifCond .eq 36, 3) := by decide +kernel
theorem d_X_isRace_7 : decode b_X_isRace 7 = .ok (.iload_n 1, 1) := by decide +kernel
theorem d_X_isRace_8 : decode b_X_isRace 8 = .ok (.invokestatic 241, 3) := by decide +kernel
theorem d_X_isRace_11 : decode b_X_isRace 11 = .ok (.ifCond .eq 29, 3) := by decide +kernel
theorem d_X_isRace_14 : decode b_X_isRace 14 = .ok (.iload_n 2, 1) := by decide +kernel
theorem d_X_isRace_15 : decode b_X_isRace 15 = .ok (.sipush (1000), 3) := by decide +kernel
theorem d_X_isRace_18 : decode b_X_isRace 18 = .ok (.ldc_w 337, 3) := by decide +kernel
theorem d_X_isRace_21 : decode b_X_isRace 21 = .ok (.invokestatic 105, 3) := by decide +kernel
theorem d_X_isRace_24 : decode b_X_isRace 24 = .ok (.ifCond .eq 16, 3) := by decide +kernel
theorem d_X_isRace_27 : decode b_X_isRace 27 = .ok (.iload_n 3, 1) := by decide +kernel
theorem d_X_isRace_28 : decode b_X_isRace 28 = .ok (.iconst 0, 1) := by decide +kernel
theorem d_X_isRace_29 : decode b_X_isRace 29 = .ok (.iconst 1, 1) := by decide +kernel
theorem d_X_isRace_30 : decode b_X_isRace 30 = .ok (.invokestatic 105, 3) := by decide +kernel
theorem d_X_isRace_33 : decode b_X_isRace 33 = .ok (.ifCond .eq 7, 3) := by decide +kernel
theorem d_X_isRace_36 : decode b_X_isRace 36 = .ok (.iconst 1, 1) := by decide +kernel
theorem d_X_isRace_37 : decode b_X_isRace 37 = .ok (.goto 4, 3) := by decide +kernel
theorem d_X_isRace_40 : decode b_X_isRace 40 = .ok (.iconst 0, 1) := by decide +kernel
theorem d_X_isRace_41 : decode b_X_isRace 41 = .ok (.ireturn, 1) := by decide +kernel
abbrev b_X_refusalOfSheet : ByteArray := prog_1_method_67_code
def y_X_refusalOfSheet : MethodName := ⟨"RoundAndRound", "refusalOfSheet", "(I)I"⟩
theorem d_X_refusalOfSheet_0 : decode b_X_refusalOfSheet 0 = .ok (.iload_n 1, 1) := by decide +kernel
theorem d_X_refusalOfSheet_1 : decode b_X_refusalOfSheet 1 = .ok (.invokestatic 267, 3) := by decide +kernel
theorem d_X_refusalOfSheet_4 : decode b_X_refusalOfSheet 4 = .ok (.ifCond .ne 6, 3) := by decide +kernel
theorem d_X_refusalOfSheet_7 : decode b_X_refusalOfSheet 7 = .ok (.bipush (-2), 2) := by decide +kernel
theorem d_X_refusalOfSheet_9 : decode b_X_refusalOfSheet 9 = .ok (.ireturn, 1) := by decide +kernel
theorem d_X_refusalOfSheet_10 : decode b_X_refusalOfSheet 10 = .ok (.aload_n 0, 1) := by decide +kernel
theorem d_X_refusalOfSheet_11 : decode b_X_refusalOfSheet 11 = .ok (.iload_n 1, 1) := by decide +kernel
theorem d_X_refusalOfSheet_12 : decode b_X_refusalOfSheet 12 = .ok (.invokevirtual 256, 3) := by decide +kernel
theorem d_X_refusalOfSheet_15 : decode b_X_refusalOfSheet 15 = .ok (.invokevirtual 298, 3) := by decide +kernel
theorem d_X_refusalOfSheet_18 : decode b_X_refusalOfSheet 18 = .ok (.ifCond .eq 8, 3) := by decide +kernel
theorem d_X_refusalOfSheet_21 : decode b_X_refusalOfSheet 21 = .ok (.bipush (-11), 2) := by decide +kernel
theorem d_X_refusalOfSheet_23 : decode b_X_refusalOfSheet 23 = .ok (.goto 4, 3) := by decide +kernel
theorem d_X_refusalOfSheet_26 : decode b_X_refusalOfSheet 26 = .ok (.iconst 0, 1) := by decide +kernel
theorem d_X_refusalOfSheet_27 : decode b_X_refusalOfSheet 27 = .ok (.ireturn, 1) := by decide +kernel
abbrev b_X_refusalOfTold : ByteArray := prog_1_method_68_code
def y_X_refusalOfTold : MethodName := ⟨"RoundAndRound", "refusalOfTold", "(II)I"⟩
theorem d_X_refusalOfTold_0 : decode b_X_refusalOfTold 0 = .ok (.aload_n 0, 1) := by decide +kernel
theorem d_X_refusalOfTold_1 : decode b_X_refusalOfTold 1 = .ok (.iload_n 1, 1) := by decide +kernel
theorem d_X_refusalOfTold_2 : decode b_X_refusalOfTold 2 = .ok (.invokevirtual 264, 3) := by decide +kernel
theorem d_X_refusalOfTold_5 : decode b_X_refusalOfTold 5 = .ok (.istore_n 3, 1) := by decide +kernel
theorem d_X_refusalOfTold_6 : decode b_X_refusalOfTold 6 = .ok (.iload_n 3, 1) := by decide +kernel
theorem d_X_refusalOfTold_7 : decode b_X_refusalOfTold 7 = .ok (.ifCond .ne 11, 3) := by decide +kernel
theorem d_X_refusalOfTold_10 : decode b_X_refusalOfTold 10 = .ok (.aload_n 0, 1) := by decide +kernel
theorem d_X_refusalOfTold_11 : decode b_X_refusalOfTold 11 = .ok (.iload_n 2, 1) := by decide +kernel
theorem d_X_refusalOfTold_12 : decode b_X_refusalOfTold 12 = .ok (.invokevirtual 113, 3) := by decide +kernel
theorem d_X_refusalOfTold_15 : decode b_X_refusalOfTold 15 = .ok (.ifCond .eq 7, 3) := by decide +kernel
theorem d_X_refusalOfTold_18 : decode b_X_refusalOfTold 18 = .ok (.iload_n 3, 1) := by decide +kernel
theorem d_X_refusalOfTold_19 : decode b_X_refusalOfTold 19 = .ok (.goto 5, 3) := by decide +kernel
theorem d_X_refusalOfTold_22 : decode b_X_refusalOfTold 22 = .ok (.bipush (-5), 2) := by decide +kernel
theorem d_X_refusalOfTold_24 : decode b_X_refusalOfTold 24 = .ok (.ireturn, 1) := by decide +kernel
