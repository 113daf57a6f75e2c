abbrev b_Model_init : ByteArray := prog_8_method_1_code
def y_Model_init : MethodName := ⟨"RoundAndRoundModel", "<init>", "()V"⟩
theorem d_Model_init_0 : decode b_Model_init 0 = .ok (.aload_n 0, 1) := by decide +kernel
theorem d_Model_init_1 : decode b_Model_init 1 = .ok (.invokespecial 1, 3) := by decide +kernel
theorem d_Model_init_4 : decode b_Model_init 4 = .ok (.aload_n 0, 1) := by decide +kernel
theorem d_Model_init_5 : decode b_Model_init 5 = .ok (.iconst 5, 1) := by decide +kernel
theorem d_Model_init_6 : decode b_Model_init 6 = .ok (.newarray .int, 2) := by decide +kernel
theorem d_Model_init_8 : decode b_Model_init 8 = .ok (.putfield 7, 3) := by decide +kernel
theorem d_Model_init_11 : decode b_Model_init 11 = .ok (.aload_n 0, 1) := by decide +kernel
theorem d_Model_init_12 : decode b_Model_init 12 = .ok (.iconst 5, 1) := by decide +kernel
theorem d_Model_init_13 : decode b_Model_init 13 = .ok (.newarray .int, 2) := by decide +kernel
theorem d_Model_init_15 : decode b_Model_init 15 = .ok (.putfield 13, 3) := by decide +kernel
theorem d_Model_init_18 : decode b_Model_init 18 = .ok (.aload_n 0, 1) := by decide +kernel
theorem d_Model_init_19 : decode b_Model_init 19 = .ok (.bipush (30), 2) := by decide +kernel
theorem d_Model_init_21 : decode b_Model_init 21 = .ok (.newarray .int, 2) := by decide +kernel
theorem d_Model_init_23 : decode b_Model_init 23 = .ok (.putfield 16, 3) := by decide +kernel
theorem d_Model_init_26 : decode b_Model_init 26 = .ok (.aload_n 0, 1) := by decide +kernel
theorem d_Model_init_27 : decode b_Model_init 27 = .ok (.sipush (160), 3) := by decide +kernel
theorem d_Model_init_30 : decode b_Model_init 30 = .ok (.newarray .int, 2) := by decide +kernel
theorem d_Model_init_32 : decode b_Model_init 32 = .ok (.putfield 19, 3) := by decide +kernel
theorem d_Model_init_35 : decode b_Model_init 35 = .ok (.aload_n 0, 1) := by decide +kernel
theorem d_Model_init_36 : decode b_Model_init 36 = .ok (.sipush (1200), 3) := by decide +kernel
theorem d_Model_init_39 : decode b_Model_init 39 = .ok (.newarray .int, 2) := by decide +kernel
theorem d_Model_init_41 : decode b_Model_init 41 = .ok (.putfield 22, 3) := by decide +kernel
theorem d_Model_init_44 : decode b_Model_init 44 = .ok (.aload_n 0, 1) := by decide +kernel
theorem d_Model_init_45 : decode b_Model_init 45 = .ok (.bipush (24), 2) := by decide +kernel
theorem d_Model_init_47 : decode b_Model_init 47 = .ok (.newarray .int, 2) := by decide +kernel
theorem d_Model_init_49 : decode b_Model_init 49 = .ok (.putfield 25, 3) := by decide +kernel
theorem d_Model_init_52 : decode b_Model_init 52 = .ok (.aload_n 0, 1) := by decide +kernel
theorem d_Model_init_53 : decode b_Model_init 53 = .ok (.bipush (30), 2) := by decide +kernel
theorem d_Model_init_55 : decode b_Model_init 55 = .ok (.newarray .int, 2) := by decide +kernel
theorem d_Model_init_57 : decode b_Model_init 57 = .ok (.putfield 28, 3) := by decide +kernel
theorem d_Model_init_60 : decode b_Model_init 60 = .ok (.aload_n 0, 1) := by decide +kernel
theorem d_Model_init_61 : decode b_Model_init 61 = .ok (.iconst 4, 1) := by decide +kernel
theorem d_Model_init_62 : decode b_Model_init 62 = .ok (.newarray .int, 2) := by decide +kernel
theorem d_Model_init_64 : decode b_Model_init 64 = .ok (.dup, 1) := by decide +kernel
theorem d_Model_init_65 : decode b_Model_init 65 = .ok (.iconst 0, 1) := by decide +kernel
theorem d_Model_init_66 : decode b_Model_init 66 = .ok (.iconst (-1), 1) := by decide +kernel
theorem d_Model_init_67 : decode b_Model_init 67 = .ok (.iastore, 1) := by decide +kernel
theorem d_Model_init_68 : decode b_Model_init 68 = .ok (.dup, 1) := by decide +kernel
theorem d_Model_init_69 : decode b_Model_init 69 = .ok (.iconst 1, 1) := by decide +kernel
theorem d_Model_init_70 : decode b_Model_init 70 = .ok (.iconst (-1), 1) := by decide +kernel
theorem d_Model_init_71 : decode b_Model_init 71 = .ok (.iastore, 1) := by decide +kernel
theorem d_Model_init_72 : decode b_Model_init 72 = .ok (.dup, 1) := by decide +kernel
theorem d_Model_init_73 : decode b_Model_init 73 = .ok (.iconst 2, 1) := by decide +kernel
theorem d_Model_init_74 : decode b_Model_init 74 = .ok (.iconst (-1), 1) := by decide +kernel
theorem d_Model_init_75 : decode b_Model_init 75 = .ok (.iastore, 1) := by decide +kernel
theorem d_Model_init_76 : decode b_Model_init 76 = .ok (.dup, 1) := by decide +kernel
theorem d_Model_init_77 : decode b_Model_init 77 = .ok (.iconst 3, 1) := by decide +kernel
theorem d_Model_init_78 : decode b_Model_init 78 = .ok (.iconst (-1), 1) := by decide +kernel
theorem d_Model_init_79 : decode b_Model_init 79 = .ok (.iastore, 1) := by decide +kernel
theorem d_Model_init_80 : decode b_Model_init 80 = .ok (.putfield 31, 3) := by decide +kernel
theorem d_Model_init_83 : decode b_Model_init 83 = .ok (.aload_n 0, 1) := by decide +kernel
theorem d_Model_init_84 : decode b_Model_init 84 = .ok (.iconst 4, 1) := by decide +kernel
theorem d_Model_init_85 : decode b_Model_init 85 = .ok (.newarray .int, 2) := by decide +kernel
theorem d_Model_init_87 : decode b_Model_init 87 = .ok (.putfield 34, 3) := by decide +kernel
theorem d_Model_init_90 : decode b_Model_init 90 = .ok (.aload_n 0, 1) := by decide +kernel
theorem d_Model_init_91 : decode b_Model_init 91 = .ok (.sipush (160), 3) := by decide +kernel
theorem d_Model_init_94 : decode b_Model_init 94 = .ok (.newarray .int, 2) := by decide +kernel
theorem d_Model_init_96 : decode b_Model_init 96 = .ok (.putfield 37, 3) := by decide +kernel
theorem d_Model_init_99 : decode b_Model_init 99 = .ok (.aload_n 0, 1) := by decide +kernel
theorem d_Model_init_100 : decode b_Model_init 100 = .ok (.bipush (47), 2) := by decide +kernel
theorem d_Model_init_102 : decode b_Model_init 102 = .ok (.newarray .int, 2) := by decide +kernel
theorem d_Model_init_104 : decode b_Model_init 104 = .ok (.dup, 1) := by decide +kernel
theorem d_Model_init_105 : decode b_Model_init 105 = .ok (.iconst 0, 1) := by decide +kernel
theorem d_Model_init_106 : decode b_Model_init 106 = .ok (.bipush (98), 2) := by decide +kernel
theorem d_Model_init_108 : decode b_Model_init 108 = .ok (.iastore, 1) := by decide +kernel
theorem d_Model_init_109 : decode b_Model_init 109 = .ok (.dup, 1) := by decide +kernel
theorem d_Model_init_110 : decode b_Model_init 110 = .ok (.iconst 1, 1) := by decide +kernel
theorem d_Model_init_111 : decode b_Model_init 111 = .ok (.bipush (117), 2) := by decide +kernel
theorem d_Model_init_113 : decode b_Model_init 113 = .ok (.iastore, 1) := by decide +kernel
theorem d_Model_init_114 : decode b_Model_init 114 = .ok (.dup, 1) := by decide +kernel
theorem d_Model_init_115 : decode b_Model_init 115 = .ok (.iconst 2, 1) := by decide +kernel
theorem d_Model_init_116 : decode b_Model_init 116 = .ok (.bipush (105), 2) := by decide +kernel
theorem d_Model_init_118 : decode b_Model_init 118 = .ok (.iastore, 1) := by decide +kernel
theorem d_Model_init_119 : decode b_Model_init 119 = .ok (.dup, 1) := by decide +kernel
theorem d_Model_init_120 : decode b_Model_init 120 = .ok (.iconst 3, 1) := by decide +kernel
theorem d_Model_init_121 : decode b_Model_init 121 = .ok (.bipush (108), 2) := by decide +kernel
theorem d_Model_init_123 : decode b_Model_init 123 = .ok (.iastore, 1) := by decide +kernel
theorem d_Model_init_124 : decode b_Model_init 124 = .ok (.dup, 1) := by decide +kernel
theorem d_Model_init_125 : decode b_Model_init 125 = .ok (.iconst 4, 1) := by decide +kernel
theorem d_Model_init_126 : decode b_Model_init 126 = .ok (.bipush (100), 2) := by decide +kernel
theorem d_Model_init_128 : decode b_Model_init 128 = .ok (.iastore, 1) := by decide +kernel
theorem d_Model_init_129 : decode b_Model_init 129 = .ok (.dup, 1) := by decide +kernel
theorem d_Model_init_130 : decode b_Model_init 130 = .ok (.iconst 5, 1) := by decide +kernel
theorem d_Model_init_131 : decode b_Model_init 131 = .ok (.bipush (115), 2) := by decide +kernel
theorem d_Model_init_133 : decode b_Model_init 133 = .ok (.iastore, 1) := by decide +kernel
theorem d_Model_init_134 : decode b_Model_init 134 = .ok (.dup, 1) := by decide +kernel
theorem d_Model_init_135 : decode b_Model_init 135 = .ok (.bipush (6), 2) := by decide +kernel
theorem d_Model_init_137 : decode b_Model_init 137 = .ok (.bipush (32), 2) := by decide +kernel
theorem d_Model_init_139 : decode b_Model_init 139 = .ok (.iastore, 1) := by decide +kernel
theorem d_Model_init_140 : decode b_Model_init 140 = .ok (.dup, 1) := by decide +kernel
theorem d_Model_init_141 : decode b_Model_init 141 = .ok (.bipush (7), 2) := by decide +kernel
theorem d_Model_init_143 : decode b_Model_init 143 = .ok (.bipush (50), 2) := by decide +kernel
theorem d_Model_init_145 : decode b_Model_init 145 = .ok (.iastore, 1) := by decide +kernel
theorem d_Model_init_146 : decode b_Model_init 146 = .ok (.dup, 1) := by decide +kernel
theorem d_Model_init_147 : decode b_Model_init 147 = .ok (.bipush (8), 2) := by decide +kernel
theorem d_Model_init_149 : decode b_Model_init 149 = .ok (.bipush (48), 2) := by decide +kernel
theorem d_Model_init_151 : decode b_Model_init 151 = .ok (.iastore, 1) := by decide +kernel
theorem d_Model_init_152 : decode b_Model_init 152 = .ok (.dup, 1) := by decide +kernel
theorem d_Model_init_153 : decode b_Model_init 153 = .ok (.bipush (9), 2) := by decide +kernel
theorem d_Model_init_155 : decode b_Model_init 155 = .ok (.bipush (32), 2) := by decide +kernel
theorem d_Model_init_157 : decode b_Model_init 157 = .ok (.iastore, 1) := by decide +kernel
theorem d_Model_init_158 : decode b_Model_init 158 = .ok (.dup, 1) := by decide +kernel
theorem d_Model_init_159 : decode b_Model_init 159 = .ok (.bipush (10), 2) := by decide +kernel
theorem d_Model_init_161 : decode b_Model_init 161 = .ok (.bipush (43), 2) := by decide +kernel
theorem d_Model_init_163 : decode b_Model_init 163 = .ok (.iastore, 1) := by decide +kernel
theorem d_Model_init_164 : decode b_Model_init 164 = .ok (.dup, 1) := by decide +kernel
theorem d_Model_init_165 : decode b_Model_init 165 = .ok (.bipush (11), 2) := by decide +kernel
theorem d_Model_init_167 : decode b_Model_init 167 = .ok (.bipush (32), 2) := by decide +kernel
theorem d_Model_init_169 : decode b_Model_init 169 = .ok (.iastore, 1) := by decide +kernel
theorem d_Model_init_170 : decode b_Model_init 170 = .ok (.dup, 1) := by decide +kernel
theorem d_Model_init_171 : decode b_Model_init 171 = .ok (.bipush (12), 2) := by decide +kernel
theorem d_Model_init_173 : decode b_Model_init 173 = .ok (.bipush (115), 2) := by decide +kernel
theorem d_Model_init_175 : decode b_Model_init 175 = .ok (.iastore, 1) := by decide +kernel
theorem d_Model_init_176 : decode b_Model_init 176 = .ok (.dup, 1) := by decide +kernel
theorem d_Model_init_177 : decode b_Model_init 177 = .ok (.bipush (13), 2) := by decide +kernel
theorem d_Model_init_179 : decode b_Model_init 179 = .ok (.bipush (112), 2) := by decide +kernel
theorem d_Model_init_181 : decode b_Model_init 181 = .ok (.iastore, 1) := by decide +kernel
theorem d_Model_init_182 : decode b_Model_init 182 = .ok (.dup, 1) := by decide +kernel
theorem d_Model_init_183 : decode b_Model_init 183 = .ok (.bipush (14), 2) := by decide +kernel
theorem d_Model_init_185 : decode b_Model_init 185 = .ok (.bipush (101), 2) := by decide +kernel
theorem d_Model_init_187 : decode b_Model_init 187 = .ok (.iastore, 1) := by decide +kernel
theorem d_Model_init_188 : decode b_Model_init 188 = .ok (.dup, 1) := by decide +kernel
theorem d_Model_init_189 : decode b_Model_init 189 = .ok (.bipush (15), 2) := by decide +kernel
theorem d_Model_init_191 : decode b_Model_init 191 = .ok (.bipush (101), 2) := by decide +kernel
theorem d_Model_init_193 : decode b_Model_init 193 = .ok (.iastore, 1) := by decide +kernel
theorem d_Model_init_194 : decode b_Model_init 194 = .ok (.dup, 1) := by decide +kernel
theorem d_Model_init_195 : decode b_Model_init 195 = .ok (.bipush (16), 2) := by decide +kernel
theorem d_Model_init_197 : decode b_Model_init 197 = .ok (.bipush (100), 2) := by decide +kernel
theorem d_Model_init_199 : decode b_Model_init 199 = .ok (.iastore, 1) := by decide +kernel
theorem d_Model_init_200 : decode b_Model_init 200 = .ok (.dup, 1) := by decide +kernel
theorem d_Model_init_201 : decode b_Model_init 201 = .ok (.bipush (17), 2) := by decide +kernel
theorem d_Model_init_203 : decode b_Model_init 203 = .ok (.bipush (32), 2) := by decide +kernel
theorem d_Model_init_205 : decode b_Model_init 205 = .ok (.iastore, 1) := by decide +kernel
theorem d_Model_init_206 : decode b_Model_init 206 = .ok (.dup, 1) := by decide +kernel
theorem d_Model_init_207 : decode b_Model_init 207 = .ok (.bipush (18), 2) := by decide +kernel
theorem d_Model_init_209 : decode b_Model_init 209 = .ok (.bipush (42), 2) := by decide +kernel
theorem d_Model_init_211 : decode b_Model_init 211 = .ok (.iastore, 1) := by decide +kernel
theorem d_Model_init_212 : decode b_Model_init 212 = .ok (.dup, 1) := by decide +kernel
theorem d_Model_init_213 : decode b_Model_init 213 = .ok (.bipush (19), 2) := by decide +kernel
theorem d_Model_init_215 : decode b_Model_init 215 = .ok (.bipush (32), 2) := by decide +kernel
theorem d_Model_init_217 : decode b_Model_init 217 = .ok (.iastore, 1) := by decide +kernel
theorem d_Model_init_218 : decode b_Model_init 218 = .ok (.dup, 1) := by decide +kernel
theorem d_Model_init_219 : decode b_Model_init 219 = .ok (.bipush (20), 2) := by decide +kernel
theorem d_Model_init_221 : decode b_Model_init 221 = .ok (.bipush (49), 2) := by decide +kernel
theorem d_Model_init_223 : decode b_Model_init 223 = .ok (.iastore, 1) := by decide +kernel
theorem d_Model_init_224 : decode b_Model_init 224 = .ok (.dup, 1) := by decide +kernel
theorem d_Model_init_225 : decode b_Model_init 225 = .ok (.bipush (21), 2) := by decide +kernel
theorem d_Model_init_227 : decode b_Model_init 227 = .ok (.bipush (48), 2) := by decide +kernel
theorem d_Model_init_229 : decode b_Model_init 229 = .ok (.iastore, 1) := by decide +kernel
theorem d_Model_init_230 : decode b_Model_init 230 = .ok (.dup, 1) := by decide +kernel
theorem d_Model_init_231 : decode b_Model_init 231 = .ok (.bipush (22), 2) := by decide +kernel
theorem d_Model_init_233 : decode b_Model_init 233 = .ok (.bipush (32), 2) := by decide +kernel
theorem d_Model_init_235 : decode b_Model_init 235 = .ok (.iastore, 1) := by decide +kernel
theorem d_Model_init_236 : decode b_Model_init 236 = .ok (.dup, 1) := by decide +kernel
theorem d_Model_init_237 : decode b_Model_init 237 = .ok (.bipush (23), 2) := by decide +kernel
theorem d_Model_init_239 : decode b_Model_init 239 = .ok (.bipush (59), 2) := by decide +kernel
theorem d_Model_init_241 : decode b_Model_init 241 = .ok (.iastore, 1) := by decide +kernel
theorem d_Model_init_242 : decode b_Model_init 242 = .ok (.dup, 1) := by decide +kernel
theorem d_Model_init_243 : decode b_Model_init 243 = .ok (.bipush (24), 2) := by decide +kernel
theorem d_Model_init_245 : decode b_Model_init 245 = .ok (.bipush (32), 2) := by decide +kernel
theorem d_Model_init_247 : decode b_Model_init 247 = .ok (.iastore, 1) := by decide +kernel
theorem d_Model_init_248 : decode b_Model_init 248 = .ok (.dup, 1) := by decide +kernel
theorem d_Model_init_249 : decode b_Model_init 249 = .ok (.bipush (25), 2) := by decide +kernel
theorem d_Model_init_251 : decode b_Model_init 251 = .ok (.bipush (102), 2) := by decide +kernel
theorem d_Model_init_253 : decode b_Model_init 253 = .ok (.iastore, 1) := by decide +kernel
theorem d_Model_init_254 : decode b_Model_init 254 = .ok (.dup, 1) := by decide +kernel
theorem d_Model_init_255 : decode b_Model_init 255 = .ok (.bipush (26), 2) := by decide +kernel
theorem d_Model_init_257 : decode b_Model_init 257 = .ok (.bipush (97), 2) := by decide +kernel
theorem d_Model_init_259 : decode b_Model_init 259 = .ok (.iastore, 1) := by decide +kernel
theorem d_Model_init_260 : decode b_Model_init 260 = .ok (.dup, 1) := by decide +kernel
theorem d_Model_init_261 : decode b_Model_init 261 = .ok (.bipush (27), 2) := by decide +kernel
theorem d_Model_init_263 : decode b_Model_init 263 = .ok (.bipush (100), 2) := by decide +kernel
theorem d_Model_init_265 : decode b_Model_init 265 = .ok (.iastore, 1) := by decide +kernel
theorem d_Model_init_266 : decode b_Model_init 266 = .ok (.dup, 1) := by decide +kernel
theorem d_Model_init_267 : decode b_Model_init 267 = .ok (.bipush (28), 2) := by decide +kernel
theorem d_Model_init_269 : decode b_Model_init 269 = .ok (.bipush (101), 2) := by decide +kernel
theorem d_Model_init_271 : decode b_Model_init 271 = .ok (.iastore, 1) := by decide +kernel
theorem d_Model_init_272 : decode b_Model_init 272 = .ok (.dup, 1) := by decide +kernel
theorem d_Model_init_273 : decode b_Model_init 273 = .ok (.bipush (29), 2) := by decide +kernel
theorem d_Model_init_275 : decode b_Model_init 275 = .ok (.bipush (115), 2) := by decide +kernel
theorem d_Model_init_277 : decode b_Model_init 277 = .ok (.iastore, 1) := by decide +kernel
theorem d_Model_init_278 : decode b_Model_init 278 = .ok (.dup, 1) := by decide +kernel
theorem d_Model_init_279 : decode b_Model_init 279 = .ok (.bipush (30), 2) := by decide +kernel
theorem d_Model_init_281 : decode b_Model_init 281 = .ok (.bipush (32), 2) := by decide +kernel
theorem d_Model_init_283 : decode b_Model_init 283 = .ok (.iastore, 1) := by decide +kernel
theorem d_Model_init_284 : decode b_Model_init 284 = .ok (.dup, 1) := by decide +kernel
theorem d_Model_init_285 : decode b_Model_init 285 = .ok (.bipush (31), 2) := by decide +kernel
theorem d_Model_init_287 : decode b_Model_init 287 = .ok (.bipush (49), 2) := by decide +kernel
theorem d_Model_init_289 : decode b_Model_init 289 = .ok (.iastore, 1) := by decide +kernel
theorem d_Model_init_290 : decode b_Model_init 290 = .ok (.dup, 1) := by decide +kernel
theorem d_Model_init_291 : decode b_Model_init 291 = .ok (.bipush (32), 2) := by decide +kernel
theorem d_Model_init_293 : decode b_Model_init 293 = .ok (.bipush (48), 2) := by decide +kernel
theorem d_Model_init_295 : decode b_Model_init 295 = .ok (.iastore, 1) := by decide +kernel
theorem d_Model_init_296 : decode b_Model_init 296 = .ok (.dup, 1) := by decide +kernel
theorem d_Model_init_297 : decode b_Model_init 297 = .ok (.bipush (33), 2) := by decide +kernel
theorem d_Model_init_299 : decode b_Model_init 299 = .ok (.bipush (32), 2) := by decide +kernel
theorem d_Model_init_301 : decode b_Model_init 301 = .ok (.iastore, 1) := by decide +kernel
theorem d_Model_init_302 : decode b_Model_init 302 = .ok (.dup, 1) := by decide +kernel
theorem d_Model_init_303 : decode b_Model_init 303 = .ok (.bipush (34), 2) := by decide +kernel
theorem d_Model_init_305 : decode b_Model_init 305 = .ok (.bipush (59), 2) := by decide +kernel
theorem d_Model_init_307 : decode b_Model_init 307 = .ok (.iastore, 1) := by decide +kernel
theorem d_Model_init_308 : decode b_Model_init 308 = .ok (.dup, 1) := by decide +kernel
theorem d_Model_init_309 : decode b_Model_init 309 = .ok (.bipush (35), 2) := by decide +kernel
theorem d_Model_init_311 : decode b_Model_init 311 = .ok (.bipush (32), 2) := by decide +kernel
theorem d_Model_init_313 : decode b_Model_init 313 = .ok (.iastore, 1) := by decide +kernel
theorem d_Model_init_314 : decode b_Model_init 314 = .ok (.dup, 1) := by decide +kernel
theorem d_Model_init_315 : decode b_Model_init 315 = .ok (.bipush (36), 2) := by decide +kernel
theorem d_Model_init_317 : decode b_Model_init 317 = .ok (.bipush (98), 2) := by decide +kernel
theorem d_Model_init_319 : decode b_Model_init 319 = .ok (.iastore, 1) := by decide +kernel
theorem d_Model_init_320 : decode b_Model_init 320 = .ok (.dup, 1) := by decide +kernel
theorem d_Model_init_321 : decode b_Model_init 321 = .ok (.bipush (37), 2) := by decide +kernel
theorem d_Model_init_323 : decode b_Model_init 323 = .ok (.bipush (101), 2) := by decide +kernel
theorem d_Model_init_325 : decode b_Model_init 325 = .ok (.iastore, 1) := by decide +kernel
theorem d_Model_init_326 : decode b_Model_init 326 = .ok (.dup, 1) := by decide +kernel
theorem d_Model_init_327 : decode b_Model_init 327 = .ok (.bipush (38), 2) := by decide +kernel
theorem d_Model_init_329 : decode b_Model_init 329 = .ok (.bipush (110), 2) := by decide +kernel
theorem d_Model_init_331 : decode b_Model_init 331 = .ok (.iastore, 1) := by decide +kernel
theorem d_Model_init_332 : decode b_Model_init 332 = .ok (.dup, 1) := by decide +kernel
theorem d_Model_init_333 : decode b_Model_init 333 = .ok (.bipush (39), 2) := by decide +kernel
theorem d_Model_init_335 : decode b_Model_init 335 = .ok (.bipush (100), 2) := by decide +kernel
theorem d_Model_init_337 : decode b_Model_init 337 = .ok (.iastore, 1) := by decide +kernel
theorem d_Model_init_338 : decode b_Model_init 338 = .ok (.dup, 1) := by decide +kernel
theorem d_Model_init_339 : decode b_Model_init 339 = .ok (.bipush (40), 2) := by decide +kernel
theorem d_Model_init_341 : decode b_Model_init 341 = .ok (.bipush (115), 2) := by decide +kernel
theorem d_Model_init_343 : decode b_Model_init 343 = .ok (.iastore, 1) := by decide +kernel
theorem d_Model_init_344 : decode b_Model_init 344 = .ok (.dup, 1) := by decide +kernel
theorem d_Model_init_345 : decode b_Model_init 345 = .ok (.bipush (41), 2) := by decide +kernel
theorem d_Model_init_347 : decode b_Model_init 347 = .ok (.bipush (32), 2) := by decide +kernel
theorem d_Model_init_349 : decode b_Model_init 349 = .ok (.iastore, 1) := by decide +kernel
theorem d_Model_init_350 : decode b_Model_init 350 = .ok (.dup, 1) := by decide +kernel
theorem d_Model_init_351 : decode b_Model_init 351 = .ok (.bipush (42), 2) := by decide +kernel
theorem d_Model_init_353 : decode b_Model_init 353 = .ok (.bipush (49), 2) := by decide +kernel
theorem d_Model_init_355 : decode b_Model_init 355 = .ok (.iastore, 1) := by decide +kernel
theorem d_Model_init_356 : decode b_Model_init 356 = .ok (.dup, 1) := by decide +kernel
theorem d_Model_init_357 : decode b_Model_init 357 = .ok (.bipush (43), 2) := by decide +kernel
theorem d_Model_init_359 : decode b_Model_init 359 = .ok (.bipush (48), 2) := by decide +kernel
theorem d_Model_init_361 : decode b_Model_init 361 = .ok (.iastore, 1) := by decide +kernel
theorem d_Model_init_362 : decode b_Model_init 362 = .ok (.dup, 1) := by decide +kernel
theorem d_Model_init_363 : decode b_Model_init 363 = .ok (.bipush (44), 2) := by decide +kernel
theorem d_Model_init_365 : decode b_Model_init 365 = .ok (.bipush (48), 2) := by decide +kernel
theorem d_Model_init_367 : decode b_Model_init 367 = .ok (.iastore, 1) := by decide +kernel
theorem d_Model_init_368 : decode b_Model_init 368 = .ok (.dup, 1) := by decide +kernel
theorem d_Model_init_369 : decode b_Model_init 369 = .ok (.bipush (45), 2) := by decide +kernel
theorem d_Model_init_371 : decode b_Model_init 371 = .ok (.bipush (32), 2) := by decide +kernel
theorem d_Model_init_373 : decode b_Model_init 373 = .ok (.iastore, 1) := by decide +kernel
theorem d_Model_init_374 : decode b_Model_init 374 = .ok (.dup, 1) := by decide +kernel
theorem d_Model_init_375 : decode b_Model_init 375 = .ok (.bipush (46), 2) := by decide +kernel
theorem d_Model_init_377 : decode b_Model_init 377 = .ok (.bipush (59), 2) := by decide +kernel
theorem d_Model_init_379 : decode b_Model_init 379 = .ok (.iastore, 1) := by decide +kernel
theorem d_Model_init_380 : decode b_Model_init 380 = .ok (.putfield 40, 3) := by decide +kernel
theorem d_Model_init_383 : decode b_Model_init 383 = .ok (.aload_n 0, 1) := by decide +kernel
theorem d_Model_init_384 : decode b_Model_init 384 = .ok (.bipush (96), 2) := by decide +kernel
theorem d_Model_init_386 : decode b_Model_init 386 = .ok (.newarray .int, 2) := by decide +kernel
theorem d_Model_init_388 : decode b_Model_init 388 = .ok (.dup, 1) := by decide +kernel
theorem d_Model_init_389 : decode b_Model_init 389 = .ok (.iconst 0, 1) := by decide +kernel
theorem d_Model_init_390 : decode b_Model_init 390 = .ok (.bipush (98), 2) := by decide +kernel
theorem d_Model_init_392 : decode b_Model_init 392 = .ok (.iastore, 1) := by decide +kernel
theorem d_Model_init_393 : decode b_Model_init 393 = .ok (.dup, 1) := by decide +kernel
theorem d_Model_init_394 : decode b_Model_init 394 = .ok (.iconst 1, 1) := by decide +kernel
theorem d_Model_init_395 : decode b_Model_init 395 = .ok (.bipush (117), 2) := by decide +kernel
theorem d_Model_init_397 : decode b_Model_init 397 = .ok (.iastore, 1) := by decide +kernel
theorem d_Model_init_398 : decode b_Model_init 398 = .ok (.dup, 1) := by decide +kernel
theorem d_Model_init_399 : decode b_Model_init 399 = .ok (.iconst 2, 1) := by decide +kernel
theorem d_Model_init_400 : decode b_Model_init 400 = .ok (.bipush (105), 2) := by decide +kernel
theorem d_Model_init_402 : decode b_Model_init 402 = .ok (.iastore, 1) := by decide +kernel
theorem d_Model_init_403 : decode b_Model_init 403 = .ok (.dup, 1) := by decide +kernel
theorem d_Model_init_404 : decode b_Model_init 404 = .ok (.iconst 3, 1) := by decide +kernel
theorem d_Model_init_405 : decode b_Model_init 405 = .ok (.bipush (108), 2) := by decide +kernel
theorem d_Model_init_407 : decode b_Model_init 407 = .ok (.iastore, 1) := by decide +kernel
theorem d_Model_init_408 : decode b_Model_init 408 = .ok (.dup, 1) := by decide +kernel
theorem d_Model_init_409 : decode b_Model_init 409 = .ok (.iconst 4, 1) := by decide +kernel
theorem d_Model_init_410 : decode b_Model_init 410 = .ok (.bipush (100), 2) := by decide +kernel
theorem d_Model_init_412 : decode b_Model_init 412 = .ok (.iastore, 1) := by decide +kernel
theorem d_Model_init_413 : decode b_Model_init 413 = .ok (.dup, 1) := by decide +kernel
theorem d_Model_init_414 : decode b_Model_init 414 = .ok (.iconst 5, 1) := by decide +kernel
theorem d_Model_init_415 : decode b_Model_init 415 = .ok (.bipush (115), 2) := by decide +kernel
theorem d_Model_init_417 : decode b_Model_init 417 = .ok (.iastore, 1) := by decide +kernel
theorem d_Model_init_418 : decode b_Model_init 418 = .ok (.dup, 1) := by decide +kernel
theorem d_Model_init_419 : decode b_Model_init 419 = .ok (.bipush (6), 2) := by decide +kernel
theorem d_Model_init_421 : decode b_Model_init 421 = .ok (.bipush (32), 2) := by decide +kernel
theorem d_Model_init_423 : decode b_Model_init 423 = .ok (.iastore, 1) := by decide +kernel
theorem d_Model_init_424 : decode b_Model_init 424 = .ok (.dup, 1) := by decide +kernel
theorem d_Model_init_425 : decode b_Model_init 425 = .ok (.bipush (7), 2) := by decide +kernel
theorem d_Model_init_427 : decode b_Model_init 427 = .ok (.bipush (32), 2) := by decide +kernel
theorem d_Model_init_429 : decode b_Model_init 429 = .ok (.iastore, 1) := by decide +kernel
theorem d_Model_init_430 : decode b_Model_init 430 = .ok (.dup, 1) := by decide +kernel
theorem d_Model_init_431 : decode b_Model_init 431 = .ok (.bipush (8), 2) := by decide +kernel
theorem d_Model_init_433 : decode b_Model_init 433 = .ok (.bipush (102), 2) := by decide +kernel
theorem d_Model_init_435 : decode b_Model_init 435 = .ok (.iastore, 1) := by decide +kernel
theorem d_Model_init_436 : decode b_Model_init 436 = .ok (.dup, 1) := by decide +kernel
theorem d_Model_init_437 : decode b_Model_init 437 = .ok (.bipush (9), 2) := by decide +kernel
theorem d_Model_init_439 : decode b_Model_init 439 = .ok (.bipush (97), 2) := by decide +kernel
theorem d_Model_init_441 : decode b_Model_init 441 = .ok (.iastore, 1) := by decide +kernel
theorem d_Model_init_442 : decode b_Model_init 442 = .ok (.dup, 1) := by decide +kernel
theorem d_Model_init_443 : decode b_Model_init 443 = .ok (.bipush (10), 2) := by decide +kernel
theorem d_Model_init_445 : decode b_Model_init 445 = .ok (.bipush (100), 2) := by decide +kernel
theorem d_Model_init_447 : decode b_Model_init 447 = .ok (.iastore, 1) := by decide +kernel
theorem d_Model_init_448 : decode b_Model_init 448 = .ok (.dup, 1) := by decide +kernel
theorem d_Model_init_449 : decode b_Model_init 449 = .ok (.bipush (11), 2) := by decide +kernel
theorem d_Model_init_451 : decode b_Model_init 451 = .ok (.bipush (101), 2) := by decide +kernel
theorem d_Model_init_453 : decode b_Model_init 453 = .ok (.iastore, 1) := by decide +kernel
theorem d_Model_init_454 : decode b_Model_init 454 = .ok (.dup, 1) := by decide +kernel
theorem d_Model_init_455 : decode b_Model_init 455 = .ok (.bipush (12), 2) := by decide +kernel
theorem d_Model_init_457 : decode b_Model_init 457 = .ok (.bipush (115), 2) := by decide +kernel
theorem d_Model_init_459 : decode b_Model_init 459 = .ok (.iastore, 1) := by decide +kernel
theorem d_Model_init_460 : decode b_Model_init 460 = .ok (.dup, 1) := by decide +kernel
theorem d_Model_init_461 : decode b_Model_init 461 = .ok (.bipush (13), 2) := by decide +kernel
theorem d_Model_init_463 : decode b_Model_init 463 = .ok (.bipush (32), 2) := by decide +kernel
theorem d_Model_init_465 : decode b_Model_init 465 = .ok (.iastore, 1) := by decide +kernel
theorem d_Model_init_466 : decode b_Model_init 466 = .ok (.dup, 1) := by decide +kernel
theorem d_Model_init_467 : decode b_Model_init 467 = .ok (.bipush (14), 2) := by decide +kernel
theorem d_Model_init_469 : decode b_Model_init 469 = .ok (.bipush (32), 2) := by decide +kernel
theorem d_Model_init_471 : decode b_Model_init 471 = .ok (.iastore, 1) := by decide +kernel
theorem d_Model_init_472 : decode b_Model_init 472 = .ok (.dup, 1) := by decide +kernel
theorem d_Model_init_473 : decode b_Model_init 473 = .ok (.bipush (15), 2) := by decide +kernel
theorem d_Model_init_475 : decode b_Model_init 475 = .ok (.bipush (32), 2) := by decide +kernel
theorem d_Model_init_477 : decode b_Model_init 477 = .ok (.iastore, 1) := by decide +kernel
theorem d_Model_init_478 : decode b_Model_init 478 = .ok (.dup, 1) := by decide +kernel
theorem d_Model_init_479 : decode b_Model_init 479 = .ok (.bipush (16), 2) := by decide +kernel
theorem d_Model_init_481 : decode b_Model_init 481 = .ok (.bipush (98), 2) := by decide +kernel
theorem d_Model_init_483 : decode b_Model_init 483 = .ok (.iastore, 1) := by decide +kernel
theorem d_Model_init_484 : decode b_Model_init 484 = .ok (.dup, 1) := by decide +kernel
theorem d_Model_init_485 : decode b_Model_init 485 = .ok (.bipush (17), 2) := by decide +kernel
theorem d_Model_init_487 : decode b_Model_init 487 = .ok (.bipush (101), 2) := by decide +kernel
theorem d_Model_init_489 : decode b_Model_init 489 = .ok (.iastore, 1) := by decide +kernel
theorem d_Model_init_490 : decode b_Model_init 490 = .ok (.dup, 1) := by decide +kernel
theorem d_Model_init_491 : decode b_Model_init 491 = .ok (.bipush (18), 2) := by decide +kernel
theorem d_Model_init_493 : decode b_Model_init 493 = .ok (.bipush (110), 2) := by decide +kernel
theorem d_Model_init_495 : decode b_Model_init 495 = .ok (.iastore, 1) := by decide +kernel
theorem d_Model_init_496 : decode b_Model_init 496 = .ok (.dup, 1) := by decide +kernel
theorem d_Model_init_497 : decode b_Model_init 497 = .ok (.bipush (19), 2) := by decide +kernel
theorem d_Model_init_499 : decode b_Model_init 499 = .ok (.bipush (100), 2) := by decide +kernel
theorem d_Model_init_501 : decode b_Model_init 501 = .ok (.iastore, 1) := by decide +kernel
theorem d_Model_init_502 : decode b_Model_init 502 = .ok (.dup, 1) := by decide +kernel
theorem d_Model_init_503 : decode b_Model_init 503 = .ok (.bipush (20), 2) := by decide +kernel
theorem d_Model_init_505 : decode b_Model_init 505 = .ok (.bipush (115), 2) := by decide +kernel
theorem d_Model_init_507 : decode b_Model_init 507 = .ok (.iastore, 1) := by decide +kernel
theorem d_Model_init_508 : decode b_Model_init 508 = .ok (.dup, 1) := by decide +kernel
theorem d_Model_init_509 : decode b_Model_init 509 = .ok (.bipush (21), 2) := by decide +kernel
theorem d_Model_init_511 : decode b_Model_init 511 = .ok (.bipush (32), 2) := by decide +kernel
theorem d_Model_init_513 : decode b_Model_init 513 = .ok (.iastore, 1) := by decide +kernel
theorem d_Model_init_514 : decode b_Model_init 514 = .ok (.dup, 1) := by decide +kernel
theorem d_Model_init_515 : decode b_Model_init 515 = .ok (.bipush (22), 2) := by decide +kernel
theorem d_Model_init_517 : decode b_Model_init 517 = .ok (.bipush (32), 2) := by decide +kernel
theorem d_Model_init_519 : decode b_Model_init 519 = .ok (.iastore, 1) := by decide +kernel
theorem d_Model_init_520 : decode b_Model_init 520 = .ok (.dup, 1) := by decide +kernel
theorem d_Model_init_521 : decode b_Model_init 521 = .ok (.bipush (23), 2) := by decide +kernel
theorem d_Model_init_523 : decode b_Model_init 523 = .ok (.bipush (32), 2) := by decide +kernel
theorem d_Model_init_525 : decode b_Model_init 525 = .ok (.iastore, 1) := by decide +kernel
theorem d_Model_init_526 : decode b_Model_init 526 = .ok (.dup, 1) := by decide +kernel
theorem d_Model_init_527 : decode b_Model_init 527 = .ok (.bipush (24), 2) := by decide +kernel
theorem d_Model_init_529 : decode b_Model_init 529 = .ok (.bipush (115), 2) := by decide +kernel
theorem d_Model_init_531 : decode b_Model_init 531 = .ok (.iastore, 1) := by decide +kernel
theorem d_Model_init_532 : decode b_Model_init 532 = .ok (.dup, 1) := by decide +kernel
theorem d_Model_init_533 : decode b_Model_init 533 = .ok (.bipush (25), 2) := by decide +kernel
theorem d_Model_init_535 : decode b_Model_init 535 = .ok (.bipush (112), 2) := by decide +kernel
theorem d_Model_init_537 : decode b_Model_init 537 = .ok (.iastore, 1) := by decide +kernel
theorem d_Model_init_538 : decode b_Model_init 538 = .ok (.dup, 1) := by decide +kernel
theorem d_Model_init_539 : decode b_Model_init 539 = .ok (.bipush (26), 2) := by decide +kernel
theorem d_Model_init_541 : decode b_Model_init 541 = .ok (.bipush (101), 2) := by decide +kernel
theorem d_Model_init_543 : decode b_Model_init 543 = .ok (.iastore, 1) := by decide +kernel
theorem d_Model_init_544 : decode b_Model_init 544 = .ok (.dup, 1) := by decide +kernel
theorem d_Model_init_545 : decode b_Model_init 545 = .ok (.bipush (27), 2) := by decide +kernel
theorem d_Model_init_547 : decode b_Model_init 547 = .ok (.bipush (101), 2) := by decide +kernel
theorem d_Model_init_549 : decode b_Model_init 549 = .ok (.iastore, 1) := by decide +kernel
theorem d_Model_init_550 : decode b_Model_init 550 = .ok (.dup, 1) := by decide +kernel
theorem d_Model_init_551 : decode b_Model_init 551 = .ok (.bipush (28), 2) := by decide +kernel
theorem d_Model_init_553 : decode b_Model_init 553 = .ok (.bipush (100), 2) := by decide +kernel
theorem d_Model_init_555 : decode b_Model_init 555 = .ok (.iastore, 1) := by decide +kernel
theorem d_Model_init_556 : decode b_Model_init 556 = .ok (.dup, 1) := by decide +kernel
theorem d_Model_init_557 : decode b_Model_init 557 = .ok (.bipush (29), 2) := by decide +kernel
theorem d_Model_init_559 : decode b_Model_init 559 = .ok (.bipush (32), 2) := by decide +kernel
theorem d_Model_init_561 : decode b_Model_init 561 = .ok (.iastore, 1) := by decide +kernel
theorem d_Model_init_562 : decode b_Model_init 562 = .ok (.dup, 1) := by decide +kernel
theorem d_Model_init_563 : decode b_Model_init 563 = .ok (.bipush (30), 2) := by decide +kernel
theorem d_Model_init_565 : decode b_Model_init 565 = .ok (.bipush (32), 2) := by decide +kernel
theorem d_Model_init_567 : decode b_Model_init 567 = .ok (.iastore, 1) := by decide +kernel
theorem d_Model_init_568 : decode b_Model_init 568 = .ok (.dup, 1) := by decide +kernel
theorem d_Model_init_569 : decode b_Model_init 569 = .ok (.bipush (31), 2) := by decide +kernel
theorem d_Model_init_571 : decode b_Model_init 571 = .ok (.bipush (32), 2) := by decide +kernel
theorem d_Model_init_573 : decode b_Model_init 573 = .ok (.iastore, 1) := by decide +kernel
theorem d_Model_init_574 : decode b_Model_init 574 = .ok (.dup, 1) := by decide +kernel
theorem d_Model_init_575 : decode b_Model_init 575 = .ok (.bipush (32), 2) := by decide +kernel
theorem d_Model_init_577 : decode b_Model_init 577 = .ok (.bipush (99), 2) := by decide +kernel
theorem d_Model_init_579 : decode b_Model_init 579 = .ok (.iastore, 1) := by decide +kernel
theorem d_Model_init_580 : decode b_Model_init 580 = .ok (.dup, 1) := by decide +kernel
theorem d_Model_init_581 : decode b_Model_init 581 = .ok (.bipush (33), 2) := by decide +kernel
theorem d_Model_init_583 : decode b_Model_init 583 = .ok (.bipush (97), 2) := by decide +kernel
theorem d_Model_init_585 : decode b_Model_init 585 = .ok (.iastore, 1) := by decide +kernel
theorem d_Model_init_586 : decode b_Model_init 586 = .ok (.dup, 1) := by decide +kernel
theorem d_Model_init_587 : decode b_Model_init 587 = .ok (.bipush (34), 2) := by decide +kernel
theorem d_Model_init_589 : decode b_Model_init 589 = .ok (.bipush (107), 2) := by decide +kernel
theorem d_Model_init_591 : decode b_Model_init 591 = .ok (.iastore, 1) := by decide +kernel
theorem d_Model_init_592 : decode b_Model_init 592 = .ok (.dup, 1) := by decide +kernel
theorem d_Model_init_593 : decode b_Model_init 593 = .ok (.bipush (35), 2) := by decide +kernel
theorem d_Model_init_595 : decode b_Model_init 595 = .ok (.bipush (101), 2) := by decide +kernel
theorem d_Model_init_597 : decode b_Model_init 597 = .ok (.iastore, 1) := by decide +kernel
theorem d_Model_init_598 : decode b_Model_init 598 = .ok (.dup, 1) := by decide +kernel
theorem d_Model_init_599 : decode b_Model_init 599 = .ok (.bipush (36), 2) := by decide +kernel
theorem d_Model_init_601 : decode b_Model_init 601 = .ok (.bipush (32), 2) := by decide +kernel
theorem d_Model_init_603 : decode b_Model_init 603 = .ok (.iastore, 1) := by decide +kernel
theorem d_Model_init_604 : decode b_Model_init 604 = .ok (.dup, 1) := by decide +kernel
theorem d_Model_init_605 : decode b_Model_init 605 = .ok (.bipush (37), 2) := by decide +kernel
theorem d_Model_init_607 : decode b_Model_init 607 = .ok (.bipush (32), 2) := by decide +kernel
theorem d_Model_init_609 : decode b_Model_init 609 = .ok (.iastore, 1) := by decide +kernel
theorem d_Model_init_610 : decode b_Model_init 610 = .ok (.dup, 1) := by decide +kernel
theorem d_Model_init_611 : decode b_Model_init 611 = .ok (.bipush (38), 2) := by decide +kernel
theorem d_Model_init_613 : decode b_Model_init 613 = .ok (.bipush (32), 2) := by decide +kernel
theorem d_Model_init_615 : decode b_Model_init 615 = .ok (.iastore, 1) := by decide +kernel
theorem d_Model_init_616 : decode b_Model_init 616 = .ok (.dup, 1) := by decide +kernel
theorem d_Model_init_617 : decode b_Model_init 617 = .ok (.bipush (39), 2) := by decide +kernel
theorem d_Model_init_619 : decode b_Model_init 619 = .ok (.bipush (32), 2) := by decide +kernel
theorem d_Model_init_621 : decode b_Model_init 621 = .ok (.iastore, 1) := by decide +kernel
theorem d_Model_init_622 : decode b_Model_init 622 = .ok (.dup, 1) := by decide +kernel
theorem d_Model_init_623 : decode b_Model_init 623 = .ok (.bipush (40), 2) := by decide +kernel
theorem d_Model_init_625 : decode b_Model_init 625 = .ok (.bipush (117), 2) := by decide +kernel
theorem d_Model_init_627 : decode b_Model_init 627 = .ok (.iastore, 1) := by decide +kernel
theorem d_Model_init_628 : decode b_Model_init 628 = .ok (.dup, 1) := by decide +kernel
theorem d_Model_init_629 : decode b_Model_init 629 = .ok (.bipush (41), 2) := by decide +kernel
theorem d_Model_init_631 : decode b_Model_init 631 = .ok (.bipush (115), 2) := by decide +kernel
theorem d_Model_init_633 : decode b_Model_init 633 = .ok (.iastore, 1) := by decide +kernel
theorem d_Model_init_634 : decode b_Model_init 634 = .ok (.dup, 1) := by decide +kernel
theorem d_Model_init_635 : decode b_Model_init 635 = .ok (.bipush (42), 2) := by decide +kernel
theorem d_Model_init_637 : decode b_Model_init 637 = .ok (.bipush (101), 2) := by decide +kernel
theorem d_Model_init_639 : decode b_Model_init 639 = .ok (.iastore, 1) := by decide +kernel
theorem d_Model_init_640 : decode b_Model_init 640 = .ok (.dup, 1) := by decide +kernel
theorem d_Model_init_641 : decode b_Model_init 641 = .ok (.bipush (43), 2) := by decide +kernel
theorem d_Model_init_643 : decode b_Model_init 643 = .ok (.bipush (100), 2) := by decide +kernel
theorem d_Model_init_645 : decode b_Model_init 645 = .ok (.iastore, 1) := by decide +kernel
theorem d_Model_init_646 : decode b_Model_init 646 = .ok (.dup, 1) := by decide +kernel
theorem d_Model_init_647 : decode b_Model_init 647 = .ok (.bipush (44), 2) := by decide +kernel
theorem d_Model_init_649 : decode b_Model_init 649 = .ok (.bipush (32), 2) := by decide +kernel
theorem d_Model_init_651 : decode b_Model_init 651 = .ok (.iastore, 1) := by decide +kernel
theorem d_Model_init_652 : decode b_Model_init 652 = .ok (.dup, 1) := by decide +kernel
theorem d_Model_init_653 : decode b_Model_init 653 = .ok (.bipush (45), 2) := by decide +kernel
theorem d_Model_init_655 : decode b_Model_init 655 = .ok (.bipush (32), 2) := by decide +kernel
theorem d_Model_init_657 : decode b_Model_init 657 = .ok (.iastore, 1) := by decide +kernel
theorem d_Model_init_658 : decode b_Model_init 658 = .ok (.dup, 1) := by decide +kernel
theorem d_Model_init_659 : decode b_Model_init 659 = .ok (.bipush (46), 2) := by decide +kernel
theorem d_Model_init_661 : decode b_Model_init 661 = .ok (.bipush (32), 2) := by decide +kernel
theorem d_Model_init_663 : decode b_Model_init 663 = .ok (.iastore, 1) := by decide +kernel
theorem d_Model_init_664 : decode b_Model_init 664 = .ok (.dup, 1) := by decide +kernel
theorem d_Model_init_665 : decode b_Model_init 665 = .ok (.bipush (47), 2) := by decide +kernel
theorem d_Model_init_667 : decode b_Model_init 667 = .ok (.bipush (32), 2) := by decide +kernel
theorem d_Model_init_669 : decode b_Model_init 669 = .ok (.iastore, 1) := by decide +kernel
theorem d_Model_init_670 : decode b_Model_init 670 = .ok (.dup, 1) := by decide +kernel
theorem d_Model_init_671 : decode b_Model_init 671 = .ok (.bipush (48), 2) := by decide +kernel
theorem d_Model_init_673 : decode b_Model_init 673 = .ok (.bipush (109), 2) := by decide +kernel
theorem d_Model_init_675 : decode b_Model_init 675 = .ok (.iastore, 1) := by decide +kernel
theorem d_Model_init_676 : decode b_Model_init 676 = .ok (.dup, 1) := by decide +kernel
theorem d_Model_init_677 : decode b_Model_init 677 = .ok (.bipush (49), 2) := by decide +kernel
theorem d_Model_init_679 : decode b_Model_init 679 = .ok (.bipush (111), 2) := by decide +kernel
theorem d_Model_init_681 : decode b_Model_init 681 = .ok (.iastore, 1) := by decide +kernel
theorem d_Model_init_682 : decode b_Model_init 682 = .ok (.dup, 1) := by decide +kernel
theorem d_Model_init_683 : decode b_Model_init 683 = .ok (.bipush (50), 2) := by decide +kernel
theorem d_Model_init_685 : decode b_Model_init 685 = .ok (.bipush (114), 2) := by decide +kernel
theorem d_Model_init_687 : decode b_Model_init 687 = .ok (.iastore, 1) := by decide +kernel
theorem d_Model_init_688 : decode b_Model_init 688 = .ok (.dup, 1) := by decide +kernel
theorem d_Model_init_689 : decode b_Model_init 689 = .ok (.bipush (51), 2) := by decide +kernel
theorem d_Model_init_691 : decode b_Model_init 691 = .ok (.bipush (101), 2) := by decide +kernel
theorem d_Model_init_693 : decode b_Model_init 693 = .ok (.iastore, 1) := by decide +kernel
theorem d_Model_init_694 : decode b_Model_init 694 = .ok (.dup, 1) := by decide +kernel
theorem d_Model_init_695 : decode b_Model_init 695 = .ok (.bipush (52), 2) := by decide +kernel
theorem d_Model_init_697 : decode b_Model_init 697 = .ok (.bipush (32), 2) := by decide +kernel
theorem d_Model_init_699 : decode b_Model_init 699 = .ok (.iastore, 1) := by decide +kernel
theorem d_Model_init_700 : decode b_Model_init 700 = .ok (.dup, 1) := by decide +kernel
theorem d_Model_init_701 : decode b_Model_init 701 = .ok (.bipush (53), 2) := by decide +kernel
theorem d_Model_init_703 : decode b_Model_init 703 = .ok (.bipush (32), 2) := by decide +kernel
theorem d_Model_init_705 : decode b_Model_init 705 = .ok (.iastore, 1) := by decide +kernel
theorem d_Model_init_706 : decode b_Model_init 706 = .ok (.dup, 1) := by decide +kernel
theorem d_Model_init_707 : decode b_Model_init 707 = .ok (.bipush (54), 2) := by decide +kernel
theorem d_Model_init_709 : decode b_Model_init 709 = .ok (.bipush (32), 2) := by decide +kernel
theorem d_Model_init_711 : decode b_Model_init 711 = .ok (.iastore, 1) := by decide +kernel
theorem d_Model_init_712 : decode b_Model_init 712 = .ok (.dup, 1) := by decide +kernel
theorem d_Model_init_713 : decode b_Model_init 713 = .ok (.bipush (55), 2) := by decide +kernel
theorem d_Model_init_715 : decode b_Model_init 715 = .ok (.bipush (32), 2) := by decide +kernel
theorem d_Model_init_717 : decode b_Model_init 717 = .ok (.iastore, 1) := by decide +kernel
theorem d_Model_init_718 : decode b_Model_init 718 = .ok (.dup, 1) := by decide +kernel
theorem d_Model_init_719 : decode b_Model_init 719 = .ok (.bipush (56), 2) := by decide +kernel
theorem d_Model_init_721 : decode b_Model_init 721 = .ok (.bipush (115), 2) := by decide +kernel
theorem d_Model_init_723 : decode b_Model_init 723 = .ok (.iastore, 1) := by decide +kernel
theorem d_Model_init_724 : decode b_Model_init 724 = .ok (.dup, 1) := by decide +kernel
theorem d_Model_init_725 : decode b_Model_init 725 = .ok (.bipush (57), 2) := by decide +kernel
theorem d_Model_init_727 : decode b_Model_init 727 = .ok (.bipush (101), 2) := by decide +kernel
theorem d_Model_init_729 : decode b_Model_init 729 = .ok (.iastore, 1) := by decide +kernel
theorem d_Model_init_730 : decode b_Model_init 730 = .ok (.dup, 1) := by decide +kernel
theorem d_Model_init_731 : decode b_Model_init 731 = .ok (.bipush (58), 2) := by decide +kernel
theorem d_Model_init_733 : decode b_Model_init 733 = .ok (.bipush (110), 2) := by decide +kernel
theorem d_Model_init_735 : decode b_Model_init 735 = .ok (.iastore, 1) := by decide +kernel
theorem d_Model_init_736 : decode b_Model_init 736 = .ok (.dup, 1) := by decide +kernel
theorem d_Model_init_737 : decode b_Model_init 737 = .ok (.bipush (59), 2) := by decide +kernel
theorem d_Model_init_739 : decode b_Model_init 739 = .ok (.bipush (115), 2) := by decide +kernel
theorem d_Model_init_741 : decode b_Model_init 741 = .ok (.iastore, 1) := by decide +kernel
theorem d_Model_init_742 : decode b_Model_init 742 = .ok (.dup, 1) := by decide +kernel
theorem d_Model_init_743 : decode b_Model_init 743 = .ok (.bipush (60), 2) := by decide +kernel
theorem d_Model_init_745 : decode b_Model_init 745 = .ok (.bipush (101), 2) := by decide +kernel
theorem d_Model_init_747 : decode b_Model_init 747 = .ok (.iastore, 1) := by decide +kernel
theorem d_Model_init_748 : decode b_Model_init 748 = .ok (.dup, 1) := by decide +kernel
theorem d_Model_init_749 : decode b_Model_init 749 = .ok (.bipush (61), 2) := by decide +kernel
theorem d_Model_init_751 : decode b_Model_init 751 = .ok (.bipush (32), 2) := by decide +kernel
theorem d_Model_init_753 : decode b_Model_init 753 = .ok (.iastore, 1) := by decide +kernel
theorem d_Model_init_754 : decode b_Model_init 754 = .ok (.dup, 1) := by decide +kernel
theorem d_Model_init_755 : decode b_Model_init 755 = .ok (.bipush (62), 2) := by decide +kernel
theorem d_Model_init_757 : decode b_Model_init 757 = .ok (.bipush (32), 2) := by decide +kernel
theorem d_Model_init_759 : decode b_Model_init 759 = .ok (.iastore, 1) := by decide +kernel
theorem d_Model_init_760 : decode b_Model_init 760 = .ok (.dup, 1) := by decide +kernel
theorem d_Model_init_761 : decode b_Model_init 761 = .ok (.bipush (63), 2) := by decide +kernel
theorem d_Model_init_763 : decode b_Model_init 763 = .ok (.bipush (32), 2) := by decide +kernel
theorem d_Model_init_765 : decode b_Model_init 765 = .ok (.iastore, 1) := by decide +kernel
theorem d_Model_init_766 : decode b_Model_init 766 = .ok (.dup, 1) := by decide +kernel
theorem d_Model_init_767 : decode b_Model_init 767 = .ok (.bipush (64), 2) := by decide +kernel
theorem d_Model_init_769 : decode b_Model_init 769 = .ok (.bipush (101), 2) := by decide +kernel
theorem d_Model_init_771 : decode b_Model_init 771 = .ok (.iastore, 1) := by decide +kernel
theorem d_Model_init_772 : decode b_Model_init 772 = .ok (.dup, 1) := by decide +kernel
theorem d_Model_init_773 : decode b_Model_init 773 = .ok (.bipush (65), 2) := by decide +kernel
theorem d_Model_init_775 : decode b_Model_init 775 = .ok (.bipush (121), 2) := by decide +kernel
theorem d_Model_init_777 : decode b_Model_init 777 = .ok (.iastore, 1) := by decide +kernel
theorem d_Model_init_778 : decode b_Model_init 778 = .ok (.dup, 1) := by decide +kernel
theorem d_Model_init_779 : decode b_Model_init 779 = .ok (.bipush (66), 2) := by decide +kernel
theorem d_Model_init_781 : decode b_Model_init 781 = .ok (.bipush (101), 2) := by decide +kernel
theorem d_Model_init_783 : decode b_Model_init 783 = .ok (.iastore, 1) := by decide +kernel
theorem d_Model_init_784 : decode b_Model_init 784 = .ok (.dup, 1) := by decide +kernel
theorem d_Model_init_785 : decode b_Model_init 785 = .ok (.bipush (67), 2) := by decide +kernel
theorem d_Model_init_787 : decode b_Model_init 787 = .ok (.bipush (115), 2) := by decide +kernel
theorem d_Model_init_789 : decode b_Model_init 789 = .ok (.iastore, 1) := by decide +kernel
theorem d_Model_init_790 : decode b_Model_init 790 = .ok (.dup, 1) := by decide +kernel
theorem d_Model_init_791 : decode b_Model_init 791 = .ok (.bipush (68), 2) := by decide +kernel
theorem d_Model_init_793 : decode b_Model_init 793 = .ok (.bipush (32), 2) := by decide +kernel
theorem d_Model_init_795 : decode b_Model_init 795 = .ok (.iastore, 1) := by decide +kernel
theorem d_Model_init_796 : decode b_Model_init 796 = .ok (.dup, 1) := by decide +kernel
theorem d_Model_init_797 : decode b_Model_init 797 = .ok (.bipush (69), 2) := by decide +kernel
theorem d_Model_init_799 : decode b_Model_init 799 = .ok (.bipush (32), 2) := by decide +kernel
theorem d_Model_init_801 : decode b_Model_init 801 = .ok (.iastore, 1) := by decide +kernel
theorem d_Model_init_802 : decode b_Model_init 802 = .ok (.dup, 1) := by decide +kernel
theorem d_Model_init_803 : decode b_Model_init 803 = .ok (.bipush (70), 2) := by decide +kernel
theorem d_Model_init_805 : decode b_Model_init 805 = .ok (.bipush (32), 2) := by decide +kernel
theorem d_Model_init_807 : decode b_Model_init 807 = .ok (.iastore, 1) := by decide +kernel
theorem d_Model_init_808 : decode b_Model_init 808 = .ok (.dup, 1) := by decide +kernel
theorem d_Model_init_809 : decode b_Model_init 809 = .ok (.bipush (71), 2) := by decide +kernel
theorem d_Model_init_811 : decode b_Model_init 811 = .ok (.bipush (32), 2) := by decide +kernel
theorem d_Model_init_813 : decode b_Model_init 813 = .ok (.iastore, 1) := by decide +kernel
theorem d_Model_init_814 : decode b_Model_init 814 = .ok (.dup, 1) := by decide +kernel
theorem d_Model_init_815 : decode b_Model_init 815 = .ok (.bipush (72), 2) := by decide +kernel
theorem d_Model_init_817 : decode b_Model_init 817 = .ok (.bipush (111), 2) := by decide +kernel
theorem d_Model_init_819 : decode b_Model_init 819 = .ok (.iastore, 1) := by decide +kernel
theorem d_Model_init_820 : decode b_Model_init 820 = .ok (.dup, 1) := by decide +kernel
theorem d_Model_init_821 : decode b_Model_init 821 = .ok (.bipush (73), 2) := by decide +kernel
theorem d_Model_init_823 : decode b_Model_init 823 = .ok (.bipush (114), 2) := by decide +kernel
theorem d_Model_init_825 : decode b_Model_init 825 = .ok (.iastore, 1) := by decide +kernel
theorem d_Model_init_826 : decode b_Model_init 826 = .ok (.dup, 1) := by decide +kernel
theorem d_Model_init_827 : decode b_Model_init 827 = .ok (.bipush (74), 2) := by decide +kernel
theorem d_Model_init_829 : decode b_Model_init 829 = .ok (.bipush (32), 2) := by decide +kernel
theorem d_Model_init_831 : decode b_Model_init 831 = .ok (.iastore, 1) := by decide +kernel
theorem d_Model_init_832 : decode b_Model_init 832 = .ok (.dup, 1) := by decide +kernel
theorem d_Model_init_833 : decode b_Model_init 833 = .ok (.bipush (75), 2) := by decide +kernel
theorem d_Model_init_835 : decode b_Model_init 835 = .ok (.bipush (32), 2) := by decide +kernel
theorem d_Model_init_837 : decode b_Model_init 837 = .ok (.iastore, 1) := by decide +kernel
theorem d_Model_init_838 : decode b_Model_init 838 = .ok (.dup, 1) := by decide +kernel
theorem d_Model_init_839 : decode b_Model_init 839 = .ok (.bipush (76), 2) := by decide +kernel
theorem d_Model_init_841 : decode b_Model_init 841 = .ok (.bipush (32), 2) := by decide +kernel
theorem d_Model_init_843 : decode b_Model_init 843 = .ok (.iastore, 1) := by decide +kernel
theorem d_Model_init_844 : decode b_Model_init 844 = .ok (.dup, 1) := by decide +kernel
theorem d_Model_init_845 : decode b_Model_init 845 = .ok (.bipush (77), 2) := by decide +kernel
theorem d_Model_init_847 : decode b_Model_init 847 = .ok (.bipush (32), 2) := by decide +kernel
theorem d_Model_init_849 : decode b_Model_init 849 = .ok (.iastore, 1) := by decide +kernel
theorem d_Model_init_850 : decode b_Model_init 850 = .ok (.dup, 1) := by decide +kernel
theorem d_Model_init_851 : decode b_Model_init 851 = .ok (.bipush (78), 2) := by decide +kernel
theorem d_Model_init_853 : decode b_Model_init 853 = .ok (.bipush (32), 2) := by decide +kernel
theorem d_Model_init_855 : decode b_Model_init 855 = .ok (.iastore, 1) := by decide +kernel
theorem d_Model_init_856 : decode b_Model_init 856 = .ok (.dup, 1) := by decide +kernel
theorem d_Model_init_857 : decode b_Model_init 857 = .ok (.bipush (79), 2) := by decide +kernel
theorem d_Model_init_859 : decode b_Model_init 859 = .ok (.bipush (32), 2) := by decide +kernel
theorem d_Model_init_861 : decode b_Model_init 861 = .ok (.iastore, 1) := by decide +kernel
theorem d_Model_init_862 : decode b_Model_init 862 = .ok (.dup, 1) := by decide +kernel
theorem d_Model_init_863 : decode b_Model_init 863 = .ok (.bipush (80), 2) := by decide +kernel
theorem d_Model_init_865 : decode b_Model_init 865 = .ok (.bipush (97), 2) := by decide +kernel
theorem d_Model_init_867 : decode b_Model_init 867 = .ok (.iastore, 1) := by decide +kernel
theorem d_Model_init_868 : decode b_Model_init 868 = .ok (.dup, 1) := by decide +kernel
theorem d_Model_init_869 : decode b_Model_init 869 = .ok (.bipush (81), 2) := by decide +kernel
theorem d_Model_init_871 : decode b_Model_init 871 = .ok (.bipush (110), 2) := by decide +kernel
theorem d_Model_init_873 : decode b_Model_init 873 = .ok (.iastore, 1) := by decide +kernel
theorem d_Model_init_874 : decode b_Model_init 874 = .ok (.dup, 1) := by decide +kernel
theorem d_Model_init_875 : decode b_Model_init 875 = .ok (.bipush (82), 2) := by decide +kernel
theorem d_Model_init_877 : decode b_Model_init 877 = .ok (.bipush (100), 2) := by decide +kernel
theorem d_Model_init_879 : decode b_Model_init 879 = .ok (.iastore, 1) := by decide +kernel
theorem d_Model_init_880 : decode b_Model_init 880 = .ok (.dup, 1) := by decide +kernel
theorem d_Model_init_881 : decode b_Model_init 881 = .ok (.bipush (83), 2) := by decide +kernel
theorem d_Model_init_883 : decode b_Model_init 883 = .ok (.bipush (32), 2) := by decide +kernel
theorem d_Model_init_885 : decode b_Model_init 885 = .ok (.iastore, 1) := by decide +kernel
theorem d_Model_init_886 : decode b_Model_init 886 = .ok (.dup, 1) := by decide +kernel
theorem d_Model_init_887 : decode b_Model_init 887 = .ok (.bipush (84), 2) := by decide +kernel
theorem d_Model_init_889 : decode b_Model_init 889 = .ok (.bipush (32), 2) := by decide +kernel
theorem d_Model_init_891 : decode b_Model_init 891 = .ok (.iastore, 1) := by decide +kernel
theorem d_Model_init_892 : decode b_Model_init 892 = .ok (.dup, 1) := by decide +kernel
theorem d_Model_init_893 : decode b_Model_init 893 = .ok (.bipush (85), 2) := by decide +kernel
theorem d_Model_init_895 : decode b_Model_init 895 = .ok (.bipush (32), 2) := by decide +kernel
theorem d_Model_init_897 : decode b_Model_init 897 = .ok (.iastore, 1) := by decide +kernel
theorem d_Model_init_898 : decode b_Model_init 898 = .ok (.dup, 1) := by decide +kernel
theorem d_Model_init_899 : decode b_Model_init 899 = .ok (.bipush (86), 2) := by decide +kernel
theorem d_Model_init_901 : decode b_Model_init 901 = .ok (.bipush (32), 2) := by decide +kernel
theorem d_Model_init_903 : decode b_Model_init 903 = .ok (.iastore, 1) := by decide +kernel
theorem d_Model_init_904 : decode b_Model_init 904 = .ok (.dup, 1) := by decide +kernel
theorem d_Model_init_905 : decode b_Model_init 905 = .ok (.bipush (87), 2) := by decide +kernel
theorem d_Model_init_907 : decode b_Model_init 907 = .ok (.bipush (32), 2) := by decide +kernel
theorem d_Model_init_909 : decode b_Model_init 909 = .ok (.iastore, 1) := by decide +kernel
theorem d_Model_init_910 : decode b_Model_init 910 = .ok (.dup, 1) := by decide +kernel
theorem d_Model_init_911 : decode b_Model_init 911 = .ok (.bipush (88), 2) := by decide +kernel
theorem d_Model_init_913 : decode b_Model_init 913 = .ok (.bipush (110), 2) := by decide +kernel
theorem d_Model_init_915 : decode b_Model_init 915 = .ok (.iastore, 1) := by decide +kernel
theorem d_Model_init_916 : decode b_Model_init 916 = .ok (.dup, 1) := by decide +kernel
theorem d_Model_init_917 : decode b_Model_init 917 = .ok (.bipush (89), 2) := by decide +kernel
theorem d_Model_init_919 : decode b_Model_init 919 = .ok (.bipush (111), 2) := by decide +kernel
theorem d_Model_init_921 : decode b_Model_init 921 = .ok (.iastore, 1) := by decide +kernel
theorem d_Model_init_922 : decode b_Model_init 922 = .ok (.dup, 1) := by decide +kernel
theorem d_Model_init_923 : decode b_Model_init 923 = .ok (.bipush (90), 2) := by decide +kernel
theorem d_Model_init_925 : decode b_Model_init 925 = .ok (.bipush (116), 2) := by decide +kernel
theorem d_Model_init_927 : decode b_Model_init 927 = .ok (.iastore, 1) := by decide +kernel
theorem d_Model_init_928 : decode b_Model_init 928 = .ok (.dup, 1) := by decide +kernel
theorem d_Model_init_929 : decode b_Model_init 929 = .ok (.bipush (91), 2) := by decide +kernel
theorem d_Model_init_931 : decode b_Model_init 931 = .ok (.bipush (32), 2) := by decide +kernel
theorem d_Model_init_933 : decode b_Model_init 933 = .ok (.iastore, 1) := by decide +kernel
theorem d_Model_init_934 : decode b_Model_init 934 = .ok (.dup, 1) := by decide +kernel
theorem d_Model_init_935 : decode b_Model_init 935 = .ok (.bipush (92), 2) := by decide +kernel
theorem d_Model_init_937 : decode b_Model_init 937 = .ok (.bipush (32), 2) := by decide +kernel
theorem d_Model_init_939 : decode b_Model_init 939 = .ok (.iastore, 1) := by decide +kernel
theorem d_Model_init_940 : decode b_Model_init 940 = .ok (.dup, 1) := by decide +kernel
theorem d_Model_init_941 : decode b_Model_init 941 = .ok (.bipush (93), 2) := by decide +kernel
theorem d_Model_init_943 : decode b_Model_init 943 = .ok (.bipush (32), 2) := by decide +kernel
theorem d_Model_init_945 : decode b_Model_init 945 = .ok (.iastore, 1) := by decide +kernel
theorem d_Model_init_946 : decode b_Model_init 946 = .ok (.dup, 1) := by decide +kernel
theorem d_Model_init_947 : decode b_Model_init 947 = .ok (.bipush (94), 2) := by decide +kernel
theorem d_Model_init_949 : decode b_Model_init 949 = .ok (.bipush (32), 2) := by decide +kernel
theorem d_Model_init_951 : decode b_Model_init 951 = .ok (.iastore, 1) := by decide +kernel
theorem d_Model_init_952 : decode b_Model_init 952 = .ok (.dup, 1) := by decide +kernel
theorem d_Model_init_953 : decode b_Model_init 953 = .ok (.bipush (95), 2) := by decide +kernel
theorem d_Model_init_955 : decode b_Model_init 955 = .ok (.bipush (32), 2) := by decide +kernel
theorem d_Model_init_957 : decode b_Model_init 957 = .ok (.iastore, 1) := by decide +kernel
theorem d_Model_init_958 : decode b_Model_init 958 = .ok (.putfield 43, 3) := by decide +kernel
theorem d_Model_init_961 : decode b_Model_init 961 = .ok (.aload_n 0, 1) := by decide +kernel
theorem d_Model_init_962 : decode b_Model_init 962 = .ok (.sipush (200), 3) := by decide +kernel
theorem d_Model_init_965 : decode b_Model_init 965 = .ok (.newarray .int, 2) := by decide +kernel
theorem d_Model_init_967 : decode b_Model_init 967 = .ok (.putfield 46, 3) := by decide +kernel
theorem d_Model_init_970 : decode b_Model_init 970 = .ok (.aload_n 0, 1) := by decide +kernel
theorem d_Model_init_971 : decode b_Model_init 971 = .ok (.sipush (200), 3) := by decide +kernel
theorem d_Model_init_974 : decode b_Model_init 974 = .ok (.newarray .int, 2) := by decide +kernel
theorem d_Model_init_976 : decode b_Model_init 976 = .ok (.putfield 49, 3) := by decide +kernel
theorem d_Model_init_979 : decode b_Model_init 979 = .ok (.aload_n 0, 1) := by decide +kernel
theorem d_Model_init_980 : decode b_Model_init 980 = .ok (.bipush (6), 2) := by decide +kernel
theorem d_Model_init_982 : decode b_Model_init 982 = .ok (.newarray .int, 2) := by decide +kernel
theorem d_Model_init_984 : decode b_Model_init 984 = .ok (.putfield 52, 3) := by decide +kernel
theorem d_Model_init_987 : decode b_Model_init 987 = .ok (.iconst 0, 1) := by decide +kernel
theorem d_Model_init_988 : decode b_Model_init 988 = .ok (.istore_n 1, 1) := by decide +kernel
theorem d_Model_init_989 : decode b_Model_init 989 = .ok (.iload_n 1, 1) := by decide +kernel
theorem d_Model_init_990 : decode b_Model_init 990 = .ok (.bipush (47), 2) := by decide +kernel
theorem d_Model_init_992 : decode b_Model_init 992 = .ok (.if_icmp .ge 21, 3) := by decide +kernel
theorem d_Model_init_995 : decode b_Model_init 995 = .ok (.aload_n 0, 1) := by decide +kernel
theorem d_Model_init_996 : decode b_Model_init 996 = .ok (.getfield 19, 3) := by decide +kernel
theorem d_Model_init_999 : decode b_Model_init 999 = .ok (.iload_n 1, 1) := by decide +kernel
theorem d_Model_init_1000 : decode b_Model_init 1000 = .ok (.aload_n 0, 1) := by decide +kernel
theorem d_Model_init_1001 : decode b_Model_init 1001 = .ok (.getfield 40, 3) := by decide +kernel
theorem d_Model_init_1004 : decode b_Model_init 1004 = .ok (.iload_n 1, 1) := by decide +kernel
theorem d_Model_init_1005 : decode b_Model_init 1005 = .ok (.iaload, 1) := by decide +kernel
theorem d_Model_init_1006 : decode b_Model_init 1006 = .ok (.iastore, 1) := by decide +kernel
theorem d_Model_init_1007 : decode b_Model_init 1007 = .ok (.iinc 1 (1), 3) := by decide +kernel
theorem d_Model_init_1010 : decode b_Model_init 1010 = .ok (.goto (-21), 3) := by decide +kernel
theorem d_Model_init_1013 : decode b_Model_init 1013 = .ok (.aload_n 0, 1) := by decide +kernel
theorem d_Model_init_1014 : decode b_Model_init 1014 = .ok (.bipush (47), 2) := by decide +kernel
theorem d_Model_init_1016 : decode b_Model_init 1016 = .ok (.putfield 55, 3) := by decide +kernel
theorem d_Model_init_1019 : decode b_Model_init 1019 = .ok (.aload_n 0, 1) := by decide +kernel
theorem d_Model_init_1020 : decode b_Model_init 1020 = .ok (.invokevirtual 59, 3) := by decide +kernel
theorem d_Model_init_1023 : decode b_Model_init 1023 = .ok (.pop, 1) := by decide +kernel
theorem d_Model_init_1024 : decode b_Model_init 1024 = .ok (.return_, 1) := by decide +kernel
abbrev b_Model_in : ByteArray := prog_8_method_3_code
def y_Model_in : MethodName := ⟨"RoundAndRoundModel", "in", "(III)Z"⟩
theorem d_Model_in_0 : decode b_Model_in 0 = .ok (.iload_n 0, 1) := by decide +kernel
theorem d_Model_in_1 : decode b_Model_in 1 = .ok (.iload_n 1, 1) := by decide +kernel
theorem d_Model_in_2 : decode b_Model_in 2 = .ok (.if_icmp .lt 12, 3) := by decide +kernel
theorem d_Model_in_5 : decode b_Model_in 5 = .ok (.iload_n 0, 1) := by decide +kernel
theorem d_Model_in_6 : decode b_Model_in 6 = .ok (.iload_n 2, 1) := by decide +kernel
theorem d_Model_in_7 : decode b_Model_in 7 = .ok (.if_icmp .gt 7, 3) := by decide +kernel
theorem d_Model_in_10 : decode b_Model_in 10 = .ok (.iconst 1, 1) := by decide +kernel
theorem d_Model_in_11 : decode b_Model_in 11 = .ok (.goto 4, 3) := by decide +kernel
theorem d_Model_in_14 : decode b_Model_in 14 = .ok (.iconst 0, 1) := by decide +kernel
theorem d_Model_in_15 : decode b_Model_in 15 = .ok (.ireturn, 1) := by decide +kernel
abbrev b_Model_within : ByteArray := prog_8_method_4_code
def y_Model_within : MethodName := ⟨"RoundAndRoundModel", "within", "(III)I"⟩
theorem d_Model_within_0 : decode b_Model_within 0 = .ok (.iload_n 0, 1) := by decide +kernel
theorem d_Model_within_1 : decode b_Model_within 1 = .ok (.iload_n 1, 1) := by decide +kernel
theorem d_Model_within_2 : decode b_Model_within 2 = .ok (.if_icmp .ge 7, 3) := by decide +kernel
theorem d_Model_within_5 : decode b_Model_within 5 = .ok (.iload_n 1, 1) := by decide +kernel
theorem d_Model_within_6 : decode b_Model_within 6 = .ok (.goto 13, 3) := by decide +kernel
theorem d_Model_within_9 : decode b_Model_within 9 = .ok (.iload_n 0, 1) := by decide +kernel
theorem d_Model_within_10 : decode b_Model_within 10 = .ok (.iload_n 2, 1) := by decide +kernel
theorem d_Model_within_11 : decode b_Model_within 11 = .ok (.if_icmp .le 7, 3) := by decide +kernel
theorem d_Model_within_14 : decode b_Model_within 14 = .ok (.iload_n 2, 1) := by decide +kernel
theorem d_Model_within_15 : decode b_Model_within 15 = .ok (.goto 4, 3) := by decide +kernel
theorem d_Model_within_18 : decode b_Model_within 18 = .ok (.iload_n 0, 1) := by decide +kernel
theorem d_Model_within_19 : decode b_Model_within 19 = .ok (.ireturn, 1) := by decide +kernel
abbrev b_Model_size0 : ByteArray := prog_8_method_5_code
def y_Model_size0 : MethodName := ⟨"RoundAndRoundModel", "size0", "(I)I"⟩
theorem d_Model_size0_0 : decode b_Model_size0 0 = .ok (.iload_n 0, 1) := by decide +kernel
theorem d_Model_size0_1 : decode b_Model_size0 1 = .ok (.ifCond .ge 8, 3) := by decide +kernel
theorem d_Model_size0_4 : decode b_Model_size0 4 = .ok (.iload_n 0, 1) := by decide +kernel
theorem d_Model_size0_5 : decode b_Model_size0 5 = .ok (.ineg, 1) := by decide +kernel
theorem d_Model_size0_6 : decode b_Model_size0 6 = .ok (.goto 4, 3) := by decide +kernel
theorem d_Model_size0_9 : decode b_Model_size0 9 = .ok (.iload_n 0, 1) := by decide +kernel
theorem d_Model_size0_10 : decode b_Model_size0 10 = .ok (.ireturn, 1) := by decide +kernel
abbrev b_Model_isHead : ByteArray := prog_8_method_6_code
def y_Model_isHead : MethodName := ⟨"RoundAndRoundModel", "isHead", "(I)Z"⟩
theorem d_Model_isHead_0 : decode b_Model_isHead 0 = .ok (.iload_n 1, 1) := by decide +kernel
theorem d_Model_isHead_1 : decode b_Model_isHead 1 = .ok (.iconst 0, 1) := by decide +kernel
theorem d_Model_isHead_2 : decode b_Model_isHead 2 = .ok (.aload_n 0, 1) := by decide +kernel
theorem d_Model_isHead_3 : decode b_Model_isHead 3 = .ok (.getfield 63, 3) := by decide +kernel
theorem d_Model_isHead_6 : decode b_Model_isHead 6 = .ok (.iconst 1, 1) := by decide +kernel
theorem d_Model_isHead_7 : decode b_Model_isHead 7 = .ok (.isub, 1) := by decide +kernel
theorem d_Model_isHead_8 : decode b_Model_isHead 8 = .ok (.invokestatic 66, 3) := by decide +kernel
theorem d_Model_isHead_11 : decode b_Model_isHead 11 = .ok (.ireturn, 1) := by decide +kernel
abbrev b_Model_count : ByteArray := prog_8_method_7_code
def y_Model_count : MethodName := ⟨"RoundAndRoundModel", "count", "(I)I"⟩
theorem d_Model_count_0 : decode b_Model_count 0 = .ok (.iload_n 1, 1) := by decide +kernel
theorem d_Model_count_1 : decode b_Model_count 1 = .ok (.tableswitch 51 (0) (3) #[31, 36, 41, 46], 31) := by decide +kernel
theorem d_Model_count_32 : decode b_Model_count 32 = .ok (.aload_n 0, 1) := by decide +kernel
theorem d_Model_count_33 : decode b_Model_count 33 = .ok (.getfield 63, 3) := by decide +kernel
theorem d_Model_count_36 : decode b_Model_count 36 = .ok (.ireturn, 1) := by decide +kernel
theorem d_Model_count_37 : decode b_Model_count 37 = .ok (.aload_n 0, 1) := by decide +kernel
theorem d_Model_count_38 : decode b_Model_count 38 = .ok (.getfield 70, 3) := by decide +kernel
theorem d_Model_count_41 : decode b_Model_count 41 = .ok (.ireturn, 1) := by decide +kernel
theorem d_Model_count_42 : decode b_Model_count 42 = .ok (.aload_n 0, 1) := by decide +kernel
theorem d_Model_count_43 : decode b_Model_count 43 = .ok (.getfield 73, 3) := by decide +kernel
theorem d_Model_count_46 : decode b_Model_count 46 = .ok (.ireturn, 1) := by decide +kernel
theorem d_Model_count_47 : decode b_Model_count 47 = .ok (.aload_n 0, 1) := by decide +kernel
theorem d_Model_count_48 : decode b_Model_count 48 = .ok (.getfield 55, 3) := by decide +kernel
theorem d_Model_count_51 : decode b_Model_count 51 = .ok (.ireturn, 1) := by decide +kernel
theorem d_Model_count_52 : decode b_Model_count 52 = .ok (.bipush (-2), 2) := by decide +kernel
theorem d_Model_count_54 : decode b_Model_count 54 = .ok (.ireturn, 1) := by decide +kernel
abbrev b_Model_isByte : ByteArray := prog_8_method_8_code
def y_Model_isByte : MethodName := ⟨"RoundAndRoundModel", "isByte", "(I)Z"⟩
theorem d_Model_isByte_0 : decode b_Model_isByte 0 = .ok (.iload_n 0, 1) := by decide +kernel
theorem d_Model_isByte_1 : decode b_Model_isByte 1 = .ok (.iconst 0, 1) := by decide +kernel
theorem d_Model_isByte_2 : decode b_Model_isByte 2 = .ok (.sipush (255), 3) := by decide +kernel
theorem d_Model_isByte_5 : decode b_Model_isByte 5 = .ok (.invokestatic 66, 3) := by decide +kernel
theorem d_Model_isByte_8 : decode b_Model_isByte 8 = .ok (.ireturn, 1) := by decide +kernel
abbrev b_Model_feed : ByteArray := prog_8_method_9_code
def y_Model_feed : MethodName := ⟨"RoundAndRoundModel", "feed", "(IIIIII)I"⟩
theorem d_Model_feed_0 : decode b_Model_feed 0 = .ok (.iload_n 1, 1) := by decide +kernel
theorem d_Model_feed_1 : decode b_Model_feed 1 = .ok (.iconst 1, 1) := by decide +kernel
theorem d_Model_feed_2 : decode b_Model_feed 2 = .ok (.iconst 5, 1) := by decide +kernel
theorem d_Model_feed_3 : decode b_Model_feed 3 = .ok (.invokestatic 66, 3) := by decide +kernel
theorem d_Model_feed_6 : decode b_Model_feed 6 = .ok (.ifCond .eq 41, 3) := by decide +kernel
theorem d_Model_feed_9 : decode b_Model_feed 9 = .ok (.iload_n 2, 1) := by decide +kernel
theorem d_Model_feed_10 : decode b_Model_feed 10 = .ok (.invokestatic 76, 3) := by decide +kernel
theorem d_Model_feed_13 : decode b_Model_feed 13 = .ok (.ifCond .eq 34, 3) := by decide +kernel
theorem d_Model_feed_16 : decode b_Model_feed 16 = .ok (.iload_n 3, 1) := by decide +kernel
theorem d_Model_feed_17 : decode b_Model_feed 17 = .ok (.invokestatic 76, 3) := by decide +kernel
theorem d_Model_feed_20 : decode b_Model_feed 20 = .ok (.ifCond .eq 27, 3) := by decide +kernel
theorem d_Model_feed_23 : decode b_Model_feed 23 = .ok (.iload 4, 2) := by decide +kernel
theorem d_Model_feed_25 : decode b_Model_feed 25 = .ok (.invokestatic 76, 3) := by decide +kernel
theorem d_Model_feed_28 : decode b_Model_feed 28 = .ok (.ifCond .eq 19, 3) := by decide +kernel
theorem d_Model_feed_31 : decode b_Model_feed 31 = .ok (.iload 5, 2) := by decide +kernel
theorem d_Model_feed_33 : decode b_Model_feed 33 = .ok (.invokestatic 76, 3) := by decide +kernel
theorem d_Model_feed_36 : decode b_Model_feed 36 = .ok (.ifCond .eq 11, 3) := by decide +kernel
theorem d_Model_feed_39 : decode b_Model_feed 39 = .ok (.iload 6, 2) := by decide +kernel
theorem d_Model_feed_41 : decode b_Model_feed 41 = .ok (.invokestatic 76, 3) := by decide +kernel
theorem d_Model_feed_44 : decode b_Model_feed 44 = .ok (.ifCond .ne 6, 3) := by decide +kernel
theorem d_Model_feed_47 : decode b_Model_feed 47 = .ok (.bipush (-2), 2) := by decide +kernel
theorem d_Model_feed_49 : decode b_Model_feed 49 = .ok (.ireturn, 1) := by decide +kernel
theorem d_Model_feed_50 : decode b_Model_feed 50 = .ok (.aload_n 0, 1) := by decide +kernel
theorem d_Model_feed_51 : decode b_Model_feed 51 = .ok (.getfield 55, 3) := by decide +kernel
theorem d_Model_feed_54 : decode b_Model_feed 54 = .ok (.iload_n 1, 1) := by decide +kernel
theorem d_Model_feed_55 : decode b_Model_feed 55 = .ok (.iadd, 1) := by decide +kernel
theorem d_Model_feed_56 : decode b_Model_feed 56 = .ok (.sipush (160), 3) := by decide +kernel
theorem d_Model_feed_59 : decode b_Model_feed 59 = .ok (.if_icmp .le 6, 3) := by decide +kernel
theorem d_Model_feed_62 : decode b_Model_feed 62 = .ok (.bipush (-4), 2) := by decide +kernel
theorem d_Model_feed_64 : decode b_Model_feed 64 = .ok (.ireturn, 1) := by decide +kernel
theorem d_Model_feed_65 : decode b_Model_feed 65 = .ok (.iconst 0, 1) := by decide +kernel
theorem d_Model_feed_66 : decode b_Model_feed 66 = .ok (.istore 7, 2) := by decide +kernel
theorem d_Model_feed_68 : decode b_Model_feed 68 = .ok (.iload 7, 2) := by decide +kernel
theorem d_Model_feed_70 : decode b_Model_feed 70 = .ok (.iload_n 1, 1) := by decide +kernel
theorem d_Model_feed_71 : decode b_Model_feed 71 = .ok (.if_icmp .ge 71, 3) := by decide +kernel
theorem d_Model_feed_74 : decode b_Model_feed 74 = .ok (.aload_n 0, 1) := by decide +kernel
theorem d_Model_feed_75 : decode b_Model_feed 75 = .ok (.getfield 19, 3) := by decide +kernel
theorem d_Model_feed_78 : decode b_Model_feed 78 = .ok (.aload_n 0, 1) := by decide +kernel
theorem d_Model_feed_79 : decode b_Model_feed 79 = .ok (.getfield 55, 3) := by decide +kernel
theorem d_Model_feed_82 : decode b_Model_feed 82 = .ok (.iload 7, 2) := by decide +kernel
theorem d_Model_feed_84 : decode b_Model_feed 84 = .ok (.ifCond .ne 7, 3) := by decide +kernel
theorem d_Model_feed_87 : decode b_Model_feed 87 = .ok (.iload_n 2, 1) := by decide +kernel
theorem d_Model_feed_88 : decode b_Model_feed 88 = .ok (.goto 37, 3) := by decide +kernel
theorem d_Model_feed_91 : decode b_Model_feed 91 = .ok (.iload 7, 2) := by decide +kernel
theorem d_Model_feed_93 : decode b_Model_feed 93 = .ok (.iconst 1, 1) := by decide +kernel
theorem d_Model_feed_94 : decode b_Model_feed 94 = .ok (.if_icmp .ne 7, 3) := by decide +kernel
theorem d_Model_feed_97 : decode b_Model_feed 97 = .ok (.iload_n 3, 1) := by decide +kernel
theorem d_Model_feed_98 : decode b_Model_feed 98 = .ok (.goto 27, 3) := by decide +kernel
theorem d_Model_feed_101 : decode b_Model_feed 101 = .ok (.iload 7, 2) := by decide +kernel
theorem d_Model_feed_103 : decode b_Model_feed 103 = .ok (.iconst 2, 1) := by decide +kernel
theorem d_Model_feed_104 : decode b_Model_feed 104 = .ok (.if_icmp .ne 8, 3) := by decide +kernel
theorem d_Model_feed_107 : decode b_Model_feed 107 = .ok (.iload 4, 2) := by decide +kernel
theorem d_Model_feed_109 : decode b_Model_feed 109 = .ok (.goto 16, 3) := by decide +kernel
theorem d_Model_feed_112 : decode b_Model_feed 112 = .ok (.iload 7, 2) := by decide +kernel
theorem d_Model_feed_114 : decode b_Model_feed 114 = .ok (.iconst 3, 1) := by decide +kernel
theorem d_Model_feed_115 : decode b_Model_feed 115 = .ok (.if_icmp .ne 8, 3) := by decide +kernel
theorem d_Model_feed_118 : decode b_Model_feed 118 = .ok (.iload 5, 2) := by decide +kernel
theorem d_Model_feed_120 : decode b_Model_feed 120 = .ok (.goto 5, 3) := by decide +kernel
theorem d_Model_feed_123 : decode b_Model_feed 123 = .ok (.iload 6, 2) := by decide +kernel
theorem d_Model_feed_125 : decode b_Model_feed 125 = .ok (.iastore, 1) := by decide +kernel
theorem d_Model_feed_126 : decode b_Model_feed 126 = .ok (.aload_n 0, 1) := by decide +kernel
theorem d_Model_feed_127 : decode b_Model_feed 127 = .ok (.dup, 1) := by decide +kernel
theorem d_Model_feed_128 : decode b_Model_feed 128 = .ok (.getfield 55, 3) := by decide +kernel
theorem d_Model_feed_131 : decode b_Model_feed 131 = .ok (.iconst 1, 1) := by decide +kernel
theorem d_Model_feed_132 : decode b_Model_feed 132 = .ok (.iadd, 1) := by decide +kernel
theorem d_Model_feed_133 : decode b_Model_feed 133 = .ok (.putfield 55, 3) := by decide +kernel
theorem d_Model_feed_136 : decode b_Model_feed 136 = .ok (.iinc 7 (1), 3) := by decide +kernel
theorem d_Model_feed_139 : decode b_Model_feed 139 = .ok (.goto (-71), 3) := by decide +kernel
theorem d_Model_feed_142 : decode b_Model_feed 142 = .ok (.aload_n 0, 1) := by decide +kernel
theorem d_Model_feed_143 : decode b_Model_feed 143 = .ok (.getfield 55, 3) := by decide +kernel
theorem d_Model_feed_146 : decode b_Model_feed 146 = .ok (.ireturn, 1) := by decide +kernel
abbrev b_Model_wordFrom : ByteArray := prog_8_method_10_code
def y_Model_wordFrom : MethodName := ⟨"RoundAndRoundModel", "wordFrom", "(II)I"⟩
theorem d_Model_wordFrom_0 : decode b_Model_wordFrom 0 = .ok (.iconst 0, 1) := by decide +kernel
theorem d_Model_wordFrom_1 : decode b_Model_wordFrom 1 = .ok (.istore_n 3, 1) := by decide +kernel
theorem d_Model_wordFrom_2 : decode b_Model_wordFrom 2 = .ok (.iload_n 3, 1) := by decide +kernel
theorem d_Model_wordFrom_3 : decode b_Model_wordFrom 3 = .ok (.bipush (12), 2) := by decide +kernel
theorem d_Model_wordFrom_5 : decode b_Model_wordFrom 5 = .ok (.if_icmp .ge 96, 3) := by decide +kernel
theorem d_Model_wordFrom_8 : decode b_Model_wordFrom 8 = .ok (.iload_n 2, 1) := by decide +kernel
theorem d_Model_wordFrom_9 : decode b_Model_wordFrom 9 = .ok (.iload_n 1, 1) := by decide +kernel
theorem d_Model_wordFrom_10 : decode b_Model_wordFrom 10 = .ok (.isub, 1) := by decide +kernel
theorem d_Model_wordFrom_11 : decode b_Model_wordFrom 11 = .ok (.bipush (8), 2) := by decide +kernel
theorem d_Model_wordFrom_13 : decode b_Model_wordFrom 13 = .ok (.if_icmp .gt 7, 3) := by decide +kernel
theorem d_Model_wordFrom_16 : decode b_Model_wordFrom 16 = .ok (.iconst 1, 1) := by decide +kernel
theorem d_Model_wordFrom_17 : decode b_Model_wordFrom 17 = .ok (.goto 4, 3) := by decide +kernel
theorem d_Model_wordFrom_20 : decode b_Model_wordFrom 20 = .ok (.iconst 0, 1) := by decide +kernel
theorem d_Model_wordFrom_21 : decode b_Model_wordFrom 21 = .ok (.istore 4, 2) := by decide +kernel
theorem d_Model_wordFrom_23 : decode b_Model_wordFrom 23 = .ok (.iconst 0, 1) := by decide +kernel
theorem d_Model_wordFrom_24 : decode b_Model_wordFrom 24 = .ok (.istore 5, 2) := by decide +kernel
theorem d_Model_wordFrom_26 : decode b_Model_wordFrom 26 = .ok (.iload 5, 2) := by decide +kernel
theorem d_Model_wordFrom_28 : decode b_Model_wordFrom 28 = .ok (.bipush (8), 2) := by decide +kernel
theorem d_Model_wordFrom_30 : decode b_Model_wordFrom 30 = .ok (.if_icmp .ge 58, 3) := by decide +kernel
theorem d_Model_wordFrom_33 : decode b_Model_wordFrom 33 = .ok (.iload 4, 2) := by decide +kernel
theorem d_Model_wordFrom_35 : decode b_Model_wordFrom 35 = .ok (.ifCond .eq 53, 3) := by decide +kernel
theorem d_Model_wordFrom_38 : decode b_Model_wordFrom 38 = .ok (.aload_n 0, 1) := by decide +kernel
theorem d_Model_wordFrom_39 : decode b_Model_wordFrom 39 = .ok (.getfield 43, 3) := by decide +kernel
theorem d_Model_wordFrom_42 : decode b_Model_wordFrom 42 = .ok (.bipush (8), 2) := by decide +kernel
theorem d_Model_wordFrom_44 : decode b_Model_wordFrom 44 = .ok (.iload_n 3, 1) := by decide +kernel
theorem d_Model_wordFrom_45 : decode b_Model_wordFrom 45 = .ok (.imul, 1) := by decide +kernel
theorem d_Model_wordFrom_46 : decode b_Model_wordFrom 46 = .ok (.iload 5, 2) := by decide +kernel
theorem d_Model_wordFrom_48 : decode b_Model_wordFrom 48 = .ok (.iadd, 1) := by decide +kernel
theorem d_Model_wordFrom_49 : decode b_Model_wordFrom 49 = .ok (.iaload, 1) := by decide +kernel
theorem d_Model_wordFrom_50 : decode b_Model_wordFrom 50 = .ok (.iload_n 1, 1) := by decide +kernel
theorem d_Model_wordFrom_51 : decode b_Model_wordFrom 51 = .ok (.iload 5, 2) := by decide +kernel
theorem d_Model_wordFrom_53 : decode b_Model_wordFrom 53 = .ok (.iadd, 1) := by decide +kernel
theorem d_Model_wordFrom_54 : decode b_Model_wordFrom 54 = .ok (.iload_n 2, 1) := by decide +kernel
theorem d_Model_wordFrom_55 : decode b_Model_wordFrom 55 = .ok (.if_icmp .ge 15, 3) := by decide +kernel
theorem d_Model_wordFrom_58 : decode b_Model_wordFrom 58 = .ok (.aload_n 0, 1) := by decide +kernel
theorem d_Model_wordFrom_59 : decode b_Model_wordFrom 59 = .ok (.getfield 19, 3) := by decide +kernel
theorem d_Model_wordFrom_62 : decode b_Model_wordFrom 62 = .ok (.iload_n 1, 1) := by decide +kernel
theorem d_Model_wordFrom_63 : decode b_Model_wordFrom 63 = .ok (.iload 5, 2) := by decide +kernel
theorem d_Model_wordFrom_65 : decode b_Model_wordFrom 65 = .ok (.iadd, 1) := by decide +kernel
theorem d_Model_wordFrom_66 : decode b_Model_wordFrom 66 = .ok (.iaload, 1) := by decide +kernel
theorem d_Model_wordFrom_67 : decode b_Model_wordFrom 67 = .ok (.goto 5, 3) := by decide +kernel
theorem d_Model_wordFrom_70 : decode b_Model_wordFrom 70 = .ok (.bipush (32), 2) := by decide +kernel
theorem d_Model_wordFrom_72 : decode b_Model_wordFrom 72 = .ok (.if_icmp .ne 7, 3) := by decide +kernel
theorem d_Model_wordFrom_75 : decode b_Model_wordFrom 75 = .ok (.iconst 1, 1) := by decide +kernel
theorem d_Model_wordFrom_76 : decode b_Model_wordFrom 76 = .ok (.goto 4, 3) := by decide +kernel
theorem d_Model_wordFrom_79 : decode b_Model_wordFrom 79 = .ok (.iconst 0, 1) := by decide +kernel
theorem d_Model_wordFrom_80 : decode b_Model_wordFrom 80 = .ok (.istore 4, 2) := by decide +kernel
theorem d_Model_wordFrom_82 : decode b_Model_wordFrom 82 = .ok (.iinc 5 (1), 3) := by decide +kernel
theorem d_Model_wordFrom_85 : decode b_Model_wordFrom 85 = .ok (.goto (-59), 3) := by decide +kernel
theorem d_Model_wordFrom_88 : decode b_Model_wordFrom 88 = .ok (.iload 4, 2) := by decide +kernel
theorem d_Model_wordFrom_90 : decode b_Model_wordFrom 90 = .ok (.ifCond .eq 5, 3) := by decide +kernel
theorem d_Model_wordFrom_93 : decode b_Model_wordFrom 93 = .ok (.iload_n 3, 1) := by decide +kernel
theorem d_Model_wordFrom_94 : decode b_Model_wordFrom 94 = .ok (.ireturn, 1) := by decide +kernel
theorem d_Model_wordFrom_95 : decode b_Model_wordFrom 95 = .ok (.iinc 3 (1), 3) := by decide +kernel
theorem d_Model_wordFrom_98 : decode b_Model_wordFrom 98 = .ok (.goto (-96), 3) := by decide +kernel
theorem d_Model_wordFrom_101 : decode b_Model_wordFrom 101 = .ok (.bipush (12), 2) := by decide +kernel
theorem d_Model_wordFrom_103 : decode b_Model_wordFrom 103 = .ok (.ireturn, 1) := by decide +kernel
abbrev b_Model_next : ByteArray := prog_8_method_11_code
def y_Model_next : MethodName := ⟨"RoundAndRoundModel", "next", "()V"⟩
theorem d_Model_next_0 : decode b_Model_next 0 = .ok (.aload_n 0, 1) := by decide +kernel
theorem d_Model_next_1 : decode b_Model_next 1 = .ok (.getfield 80, 3) := by decide +kernel
theorem d_Model_next_4 : decode b_Model_next 4 = .ok (.aload_n 0, 1) := by decide +kernel
theorem d_Model_next_5 : decode b_Model_next 5 = .ok (.getfield 55, 3) := by decide +kernel
theorem d_Model_next_8 : decode b_Model_next 8 = .ok (.if_icmp .ge 44, 3) := by decide +kernel
theorem d_Model_next_11 : decode b_Model_next 11 = .ok (.aload_n 0, 1) := by decide +kernel
theorem d_Model_next_12 : decode b_Model_next 12 = .ok (.getfield 19, 3) := by decide +kernel
theorem d_Model_next_15 : decode b_Model_next 15 = .ok (.aload_n 0, 1) := by decide +kernel
theorem d_Model_next_16 : decode b_Model_next 16 = .ok (.getfield 80, 3) := by decide +kernel
theorem d_Model_next_19 : decode b_Model_next 19 = .ok (.iaload, 1) := by decide +kernel
theorem d_Model_next_20 : decode b_Model_next 20 = .ok (.bipush (32), 2) := by decide +kernel
theorem d_Model_next_22 : decode b_Model_next 22 = .ok (.if_icmp .eq 17, 3) := by decide +kernel
theorem d_Model_next_25 : decode b_Model_next 25 = .ok (.aload_n 0, 1) := by decide +kernel
theorem d_Model_next_26 : decode b_Model_next 26 = .ok (.getfield 19, 3) := by decide +kernel
theorem d_Model_next_29 : decode b_Model_next 29 = .ok (.aload_n 0, 1) := by decide +kernel
theorem d_Model_next_30 : decode b_Model_next 30 = .ok (.getfield 80, 3) := by decide +kernel
theorem d_Model_next_33 : decode b_Model_next 33 = .ok (.iaload, 1) := by decide +kernel
theorem d_Model_next_34 : decode b_Model_next 34 = .ok (.bipush (10), 2) := by decide +kernel
theorem d_Model_next_36 : decode b_Model_next 36 = .ok (.if_icmp .ne 16, 3) := by decide +kernel
theorem d_Model_next_39 : decode b_Model_next 39 = .ok (.aload_n 0, 1) := by decide +kernel
theorem d_Model_next_40 : decode b_Model_next 40 = .ok (.dup, 1) := by decide +kernel
theorem d_Model_next_41 : decode b_Model_next 41 = .ok (.getfield 80, 3) := by decide +kernel
theorem d_Model_next_44 : decode b_Model_next 44 = .ok (.iconst 1, 1) := by decide +kernel
theorem d_Model_next_45 : decode b_Model_next 45 = .ok (.iadd, 1) := by decide +kernel
theorem d_Model_next_46 : decode b_Model_next 46 = .ok (.putfield 80, 3) := by decide +kernel
theorem d_Model_next_49 : decode b_Model_next 49 = .ok (.goto (-49), 3) := by decide +kernel
theorem d_Model_next_52 : decode b_Model_next 52 = .ok (.aload_n 0, 1) := by decide +kernel
theorem d_Model_next_53 : decode b_Model_next 53 = .ok (.aload_n 0, 1) := by decide +kernel
theorem d_Model_next_54 : decode b_Model_next 54 = .ok (.getfield 80, 3) := by decide +kernel
theorem d_Model_next_57 : decode b_Model_next 57 = .ok (.putfield 83, 3) := by decide +kernel
theorem d_Model_next_60 : decode b_Model_next 60 = .ok (.aload_n 0, 1) := by decide +kernel
theorem d_Model_next_61 : decode b_Model_next 61 = .ok (.iconst 0, 1) := by decide +kernel
theorem d_Model_next_62 : decode b_Model_next 62 = .ok (.putfield 86, 3) := by decide +kernel
theorem d_Model_next_65 : decode b_Model_next 65 = .ok (.aload_n 0, 1) := by decide +kernel
theorem d_Model_next_66 : decode b_Model_next 66 = .ok (.iconst 0, 1) := by decide +kernel
theorem d_Model_next_67 : decode b_Model_next 67 = .ok (.putfield 89, 3) := by decide +kernel
theorem d_Model_next_70 : decode b_Model_next 70 = .ok (.aload_n 0, 1) := by decide +kernel
theorem d_Model_next_71 : decode b_Model_next 71 = .ok (.getfield 80, 3) := by decide +kernel
theorem d_Model_next_74 : decode b_Model_next 74 = .ok (.aload_n 0, 1) := by decide +kernel
theorem d_Model_next_75 : decode b_Model_next 75 = .ok (.getfield 55, 3) := by decide +kernel
theorem d_Model_next_78 : decode b_Model_next 78 = .ok (.if_icmp .ne 4, 3) := by decide +kernel
theorem d_Model_next_81 : decode b_Model_next 81 = .ok (.return_, 1) := by decide +kernel
theorem d_Model_next_82 : decode b_Model_next 82 = .ok (.aload_n 0, 1) := by decide +kernel
theorem d_Model_next_83 : decode b_Model_next 83 = .ok (.getfield 19, 3) := by decide +kernel
theorem d_Model_next_86 : decode b_Model_next 86 = .ok (.aload_n 0, 1) := by decide +kernel
theorem d_Model_next_87 : decode b_Model_next 87 = .ok (.getfield 80, 3) := by decide +kernel
theorem d_Model_next_90 : decode b_Model_next 90 = .ok (.iaload, 1) := by decide +kernel
theorem d_Model_next_91 : decode b_Model_next 91 = .ok (.istore_n 1, 1) := by decide +kernel
theorem d_Model_next_92 : decode b_Model_next 92 = .ok (.iload_n 1, 1) := by decide +kernel
theorem d_Model_next_93 : decode b_Model_next 93 = .ok (.bipush (97), 2) := by decide +kernel
theorem d_Model_next_95 : decode b_Model_next 95 = .ok (.bipush (122), 2) := by decide +kernel
theorem d_Model_next_97 : decode b_Model_next 97 = .ok (.invokestatic 66, 3) := by decide +kernel
theorem d_Model_next_100 : decode b_Model_next 100 = .ok (.ifCond .eq 117, 3) := by decide +kernel
theorem d_Model_next_103 : decode b_Model_next 103 = .ok (.aload_n 0, 1) := by decide +kernel
theorem d_Model_next_104 : decode b_Model_next 104 = .ok (.getfield 80, 3) := by decide +kernel
theorem d_Model_next_107 : decode b_Model_next 107 = .ok (.aload_n 0, 1) := by decide +kernel
theorem d_Model_next_108 : decode b_Model_next 108 = .ok (.getfield 55, 3) := by decide +kernel
theorem d_Model_next_111 : decode b_Model_next 111 = .ok (.if_icmp .ge 35, 3) := by decide +kernel
theorem d_Model_next_114 : decode b_Model_next 114 = .ok (.aload_n 0, 1) := by decide +kernel
theorem d_Model_next_115 : decode b_Model_next 115 = .ok (.getfield 19, 3) := by decide +kernel
theorem d_Model_next_118 : decode b_Model_next 118 = .ok (.aload_n 0, 1) := by decide +kernel
theorem d_Model_next_119 : decode b_Model_next 119 = .ok (.getfield 80, 3) := by decide +kernel
theorem d_Model_next_122 : decode b_Model_next 122 = .ok (.iaload, 1) := by decide +kernel
theorem d_Model_next_123 : decode b_Model_next 123 = .ok (.bipush (97), 2) := by decide +kernel
theorem d_Model_next_125 : decode b_Model_next 125 = .ok (.bipush (122), 2) := by decide +kernel
theorem d_Model_next_127 : decode b_Model_next 127 = .ok (.invokestatic 66, 3) := by decide +kernel
theorem d_Model_next_130 : decode b_Model_next 130 = .ok (.ifCond .eq 16, 3) := by decide +kernel
theorem d_Model_next_133 : decode b_Model_next 133 = .ok (.aload_n 0, 1) := by decide +kernel
theorem d_Model_next_134 : decode b_Model_next 134 = .ok (.dup, 1) := by decide +kernel
theorem d_Model_next_135 : decode b_Model_next 135 = .ok (.getfield 80, 3) := by decide +kernel
theorem d_Model_next_138 : decode b_Model_next 138 = .ok (.iconst 1, 1) := by decide +kernel
theorem d_Model_next_139 : decode b_Model_next 139 = .ok (.iadd, 1) := by decide +kernel
theorem d_Model_next_140 : decode b_Model_next 140 = .ok (.putfield 80, 3) := by decide +kernel
theorem d_Model_next_143 : decode b_Model_next 143 = .ok (.goto (-40), 3) := by decide +kernel
theorem d_Model_next_146 : decode b_Model_next 146 = .ok (.aload_n 0, 1) := by decide +kernel
theorem d_Model_next_147 : decode b_Model_next 147 = .ok (.aload_n 0, 1) := by decide +kernel
theorem d_Model_next_148 : decode b_Model_next 148 = .ok (.getfield 83, 3) := by decide +kernel
theorem d_Model_next_151 : decode b_Model_next 151 = .ok (.aload_n 0, 1) := by decide +kernel
theorem d_Model_next_152 : decode b_Model_next 152 = .ok (.getfield 80, 3) := by decide +kernel
theorem d_Model_next_155 : decode b_Model_next 155 = .ok (.invokevirtual 92, 3) := by decide +kernel
theorem d_Model_next_158 : decode b_Model_next 158 = .ok (.istore_n 2, 1) := by decide +kernel
theorem d_Model_next_159 : decode b_Model_next 159 = .ok (.aload_n 0, 1) := by decide +kernel
theorem d_Model_next_160 : decode b_Model_next 160 = .ok (.iload_n 2, 1) := by decide +kernel
theorem d_Model_next_161 : decode b_Model_next 161 = .ok (.iconst 3, 1) := by decide +kernel
theorem d_Model_next_162 : decode b_Model_next 162 = .ok (.if_icmp .ge 7, 3) := by decide +kernel
theorem d_Model_next_165 : decode b_Model_next 165 = .ok (.iconst 3, 1) := by decide +kernel
theorem d_Model_next_166 : decode b_Model_next 166 = .ok (.goto 29, 3) := by decide +kernel
theorem d_Model_next_169 : decode b_Model_next 169 = .ok (.iload_n 2, 1) := by decide +kernel
theorem d_Model_next_170 : decode b_Model_next 170 = .ok (.bipush (9), 2) := by decide +kernel
theorem d_Model_next_172 : decode b_Model_next 172 = .ok (.if_icmp .ge 7, 3) := by decide +kernel
theorem d_Model_next_175 : decode b_Model_next 175 = .ok (.iconst 2, 1) := by decide +kernel
theorem d_Model_next_176 : decode b_Model_next 176 = .ok (.goto 19, 3) := by decide +kernel
theorem d_Model_next_179 : decode b_Model_next 179 = .ok (.iload_n 2, 1) := by decide +kernel
theorem d_Model_next_180 : decode b_Model_next 180 = .ok (.bipush (12), 2) := by decide +kernel
theorem d_Model_next_182 : decode b_Model_next 182 = .ok (.if_icmp .ne 7, 3) := by decide +kernel
theorem d_Model_next_185 : decode b_Model_next 185 = .ok (.iconst (-1), 1) := by decide +kernel
theorem d_Model_next_186 : decode b_Model_next 186 = .ok (.goto 9, 3) := by decide +kernel
theorem d_Model_next_189 : decode b_Model_next 189 = .ok (.iconst 4, 1) := by decide +kernel
theorem d_Model_next_190 : decode b_Model_next 190 = .ok (.iload_n 2, 1) := by decide +kernel
theorem d_Model_next_191 : decode b_Model_next 191 = .ok (.iadd, 1) := by decide +kernel
theorem d_Model_next_192 : decode b_Model_next 192 = .ok (.bipush (9), 2) := by decide +kernel
theorem d_Model_next_194 : decode b_Model_next 194 = .ok (.isub, 1) := by decide +kernel
theorem d_Model_next_195 : decode b_Model_next 195 = .ok (.putfield 86, 3) := by decide +kernel
theorem d_Model_next_198 : decode b_Model_next 198 = .ok (.aload_n 0, 1) := by decide +kernel
theorem d_Model_next_199 : decode b_Model_next 199 = .ok (.iload_n 2, 1) := by decide +kernel
theorem d_Model_next_200 : decode b_Model_next 200 = .ok (.iconst 3, 1) := by decide +kernel
theorem d_Model_next_201 : decode b_Model_next 201 = .ok (.if_icmp .ge 7, 3) := by decide +kernel
theorem d_Model_next_204 : decode b_Model_next 204 = .ok (.iload_n 2, 1) := by decide +kernel
theorem d_Model_next_205 : decode b_Model_next 205 = .ok (.goto 6, 3) := by decide +kernel
theorem d_Model_next_208 : decode b_Model_next 208 = .ok (.iload_n 2, 1) := by decide +kernel
theorem d_Model_next_209 : decode b_Model_next 209 = .ok (.iconst 3, 1) := by decide +kernel
theorem d_Model_next_210 : decode b_Model_next 210 = .ok (.isub, 1) := by decide +kernel
theorem d_Model_next_211 : decode b_Model_next 211 = .ok (.putfield 89, 3) := by decide +kernel
theorem d_Model_next_214 : decode b_Model_next 214 = .ok (.goto 189, 3) := by decide +kernel
theorem d_Model_next_217 : decode b_Model_next 217 = .ok (.iload_n 1, 1) := by decide +kernel
theorem d_Model_next_218 : decode b_Model_next 218 = .ok (.bipush (48), 2) := by decide +kernel
theorem d_Model_next_220 : decode b_Model_next 220 = .ok (.bipush (57), 2) := by decide +kernel
theorem d_Model_next_222 : decode b_Model_next 222 = .ok (.invokestatic 66, 3) := by decide +kernel
theorem d_Model_next_225 : decode b_Model_next 225 = .ok (.ifCond .eq 101, 3) := by decide +kernel
theorem d_Model_next_228 : decode b_Model_next 228 = .ok (.iconst 0, 1) := by decide +kernel
theorem d_Model_next_229 : decode b_Model_next 229 = .ok (.istore_n 2, 1) := by decide +kernel
theorem d_Model_next_230 : decode b_Model_next 230 = .ok (.aload_n 0, 1) := by decide +kernel
theorem d_Model_next_231 : decode b_Model_next 231 = .ok (.getfield 80, 3) := by decide +kernel
theorem d_Model_next_234 : decode b_Model_next 234 = .ok (.aload_n 0, 1) := by decide +kernel
theorem d_Model_next_235 : decode b_Model_next 235 = .ok (.getfield 55, 3) := by decide +kernel
theorem d_Model_next_238 : decode b_Model_next 238 = .ok (.if_icmp .ge 71, 3) := by decide +kernel
theorem d_Model_next_241 : decode b_Model_next 241 = .ok (.aload_n 0, 1) := by decide +kernel
theorem d_Model_next_242 : decode b_Model_next 242 = .ok (.getfield 19, 3) := by decide +kernel
theorem d_Model_next_245 : decode b_Model_next 245 = .ok (.aload_n 0, 1) := by decide +kernel
theorem d_Model_next_246 : decode b_Model_next 246 = .ok (.getfield 80, 3) := by decide +kernel
theorem d_Model_next_249 : decode b_Model_next 249 = .ok (.iaload, 1) := by decide +kernel
theorem d_Model_next_250 : decode b_Model_next 250 = .ok (.bipush (48), 2) := by decide +kernel
theorem d_Model_next_252 : decode b_Model_next 252 = .ok (.bipush (57), 2) := by decide +kernel
theorem d_Model_next_254 : decode b_Model_next 254 = .ok (.invokestatic 66, 3) := by decide +kernel
theorem d_Model_next_257 : decode b_Model_next 257 = .ok (.ifCond .eq 52, 3) := by decide +kernel
theorem d_Model_next_260 : decode b_Model_next 260 = .ok (.aload_n 0, 1) := by decide +kernel
theorem d_Model_next_261 : decode b_Model_next 261 = .ok (.iload_n 2, 1) := by decide +kernel
theorem d_Model_next_262 : decode b_Model_next 262 = .ok (.iconst 4, 1) := by decide +kernel
theorem d_Model_next_263 : decode b_Model_next 263 = .ok (.if_icmp .ge 26, 3) := by decide +kernel
theorem d_Model_next_266 : decode b_Model_next 266 = .ok (.bipush (10), 2) := by decide +kernel
theorem d_Model_next_268 : decode b_Model_next 268 = .ok (.aload_n 0, 1) := by decide +kernel
theorem d_Model_next_269 : decode b_Model_next 269 = .ok (.getfield 89, 3) := by decide +kernel
theorem d_Model_next_272 : decode b_Model_next 272 = .ok (.imul, 1) := by decide +kernel
theorem d_Model_next_273 : decode b_Model_next 273 = .ok (.aload_n 0, 1) := by decide +kernel
theorem d_Model_next_274 : decode b_Model_next 274 = .ok (.getfield 19, 3) := by decide +kernel
theorem d_Model_next_277 : decode b_Model_next 277 = .ok (.aload_n 0, 1) := by decide +kernel
theorem d_Model_next_278 : decode b_Model_next 278 = .ok (.getfield 80, 3) := by decide +kernel
theorem d_Model_next_281 : decode b_Model_next 281 = .ok (.iaload, 1) := by decide +kernel
theorem d_Model_next_282 : decode b_Model_next 282 = .ok (.iadd, 1) := by decide +kernel
theorem d_Model_next_283 : decode b_Model_next 283 = .ok (.bipush (48), 2) := by decide +kernel
theorem d_Model_next_285 : decode b_Model_next 285 = .ok (.isub, 1) := by decide +kernel
theorem d_Model_next_286 : decode b_Model_next 286 = .ok (.goto 4, 3) := by decide +kernel
theorem d_Model_next_289 : decode b_Model_next 289 = .ok (.iconst 0, 1) := by decide +kernel
theorem d_Model_next_290 : decode b_Model_next 290 = .ok (.putfield 89, 3) := by decide +kernel
theorem d_Model_next_293 : decode b_Model_next 293 = .ok (.iinc 2 (1), 3) := by decide +kernel
theorem d_Model_next_296 : decode b_Model_next 296 = .ok (.aload_n 0, 1) := by decide +kernel
theorem d_Model_next_297 : decode b_Model_next 297 = .ok (.dup, 1) := by decide +kernel
theorem d_Model_next_298 : decode b_Model_next 298 = .ok (.getfield 80, 3) := by decide +kernel
theorem d_Model_next_301 : decode b_Model_next 301 = .ok (.iconst 1, 1) := by decide +kernel
theorem d_Model_next_302 : decode b_Model_next 302 = .ok (.iadd, 1) := by decide +kernel
theorem d_Model_next_303 : decode b_Model_next 303 = .ok (.putfield 80, 3) := by decide +kernel
theorem d_Model_next_306 : decode b_Model_next 306 = .ok (.goto (-76), 3) := by decide +kernel
theorem d_Model_next_309 : decode b_Model_next 309 = .ok (.aload_n 0, 1) := by decide +kernel
theorem d_Model_next_310 : decode b_Model_next 310 = .ok (.iload_n 2, 1) := by decide +kernel
theorem d_Model_next_311 : decode b_Model_next 311 = .ok (.iconst 4, 1) := by decide +kernel
theorem d_Model_next_312 : decode b_Model_next 312 = .ok (.if_icmp .le 7, 3) := by decide +kernel
theorem d_Model_next_315 : decode b_Model_next 315 = .ok (.iconst (-1), 1) := by decide +kernel
theorem d_Model_next_316 : decode b_Model_next 316 = .ok (.goto 4, 3) := by decide +kernel
theorem d_Model_next_319 : decode b_Model_next 319 = .ok (.iconst 1, 1) := by decide +kernel
theorem d_Model_next_320 : decode b_Model_next 320 = .ok (.putfield 86, 3) := by decide +kernel
theorem d_Model_next_323 : decode b_Model_next 323 = .ok (.goto 80, 3) := by decide +kernel
theorem d_Model_next_326 : decode b_Model_next 326 = .ok (.iload_n 1, 1) := by decide +kernel
theorem d_Model_next_327 : decode b_Model_next 327 = .ok (.bipush (40), 2) := by decide +kernel
theorem d_Model_next_329 : decode b_Model_next 329 = .ok (.if_icmp .eq 45, 3) := by decide +kernel
theorem d_Model_next_332 : decode b_Model_next 332 = .ok (.iload_n 1, 1) := by decide +kernel
theorem d_Model_next_333 : decode b_Model_next 333 = .ok (.bipush (41), 2) := by decide +kernel
theorem d_Model_next_335 : decode b_Model_next 335 = .ok (.if_icmp .eq 39, 3) := by decide +kernel
theorem d_Model_next_338 : decode b_Model_next 338 = .ok (.iload_n 1, 1) := by decide +kernel
theorem d_Model_next_339 : decode b_Model_next 339 = .ok (.bipush (59), 2) := by decide +kernel
theorem d_Model_next_341 : decode b_Model_next 341 = .ok (.if_icmp .eq 33, 3) := by decide +kernel
theorem d_Model_next_344 : decode b_Model_next 344 = .ok (.iload_n 1, 1) := by decide +kernel
theorem d_Model_next_345 : decode b_Model_next 345 = .ok (.bipush (43), 2) := by decide +kernel
theorem d_Model_next_347 : decode b_Model_next 347 = .ok (.if_icmp .eq 27, 3) := by decide +kernel
theorem d_Model_next_350 : decode b_Model_next 350 = .ok (.iload_n 1, 1) := by decide +kernel
theorem d_Model_next_351 : decode b_Model_next 351 = .ok (.bipush (45), 2) := by decide +kernel
theorem d_Model_next_353 : decode b_Model_next 353 = .ok (.if_icmp .eq 21, 3) := by decide +kernel
theorem d_Model_next_356 : decode b_Model_next 356 = .ok (.iload_n 1, 1) := by decide +kernel
theorem d_Model_next_357 : decode b_Model_next 357 = .ok (.bipush (42), 2) := by decide +kernel
theorem d_Model_next_359 : decode b_Model_next 359 = .ok (.if_icmp .eq 15, 3) := by decide +kernel
theorem d_Model_next_362 : decode b_Model_next 362 = .ok (.iload_n 1, 1) := by decide +kernel
theorem d_Model_next_363 : decode b_Model_next 363 = .ok (.bipush (60), 2) := by decide +kernel
theorem d_Model_next_365 : decode b_Model_next 365 = .ok (.if_icmp .eq 9, 3) := by decide +kernel
theorem d_Model_next_368 : decode b_Model_next 368 = .ok (.iload_n 1, 1) := by decide +kernel
theorem d_Model_next_369 : decode b_Model_next 369 = .ok (.bipush (61), 2) := by decide +kernel
theorem d_Model_next_371 : decode b_Model_next 371 = .ok (.if_icmp .ne 7, 3) := by decide +kernel
theorem d_Model_next_374 : decode b_Model_next 374 = .ok (.iconst 1, 1) := by decide +kernel
theorem d_Model_next_375 : decode b_Model_next 375 = .ok (.goto 4, 3) := by decide +kernel
theorem d_Model_next_378 : decode b_Model_next 378 = .ok (.iconst 0, 1) := by decide +kernel
theorem d_Model_next_379 : decode b_Model_next 379 = .ok (.istore_n 2, 1) := by decide +kernel
theorem d_Model_next_380 : decode b_Model_next 380 = .ok (.aload_n 0, 1) := by decide +kernel
theorem d_Model_next_381 : decode b_Model_next 381 = .ok (.iload_n 2, 1) := by decide +kernel
theorem d_Model_next_382 : decode b_Model_next 382 = .ok (.ifCond .eq 7, 3) := by decide +kernel
theorem d_Model_next_385 : decode b_Model_next 385 = .ok (.iload_n 1, 1) := by decide +kernel
theorem d_Model_next_386 : decode b_Model_next 386 = .ok (.goto 4, 3) := by decide +kernel
theorem d_Model_next_389 : decode b_Model_next 389 = .ok (.iconst (-1), 1) := by decide +kernel
theorem d_Model_next_390 : decode b_Model_next 390 = .ok (.putfield 86, 3) := by decide +kernel
theorem d_Model_next_393 : decode b_Model_next 393 = .ok (.aload_n 0, 1) := by decide +kernel
theorem d_Model_next_394 : decode b_Model_next 394 = .ok (.dup, 1) := by decide +kernel
theorem d_Model_next_395 : decode b_Model_next 395 = .ok (.getfield 80, 3) := by decide +kernel
theorem d_Model_next_398 : decode b_Model_next 398 = .ok (.iconst 1, 1) := by decide +kernel
theorem d_Model_next_399 : decode b_Model_next 399 = .ok (.iadd, 1) := by decide +kernel
theorem d_Model_next_400 : decode b_Model_next 400 = .ok (.putfield 80, 3) := by decide +kernel
theorem d_Model_next_403 : decode b_Model_next 403 = .ok (.return_, 1) := by decide +kernel
abbrev b_Model_rank : ByteArray := prog_8_method_12_code
def y_Model_rank : MethodName := ⟨"RoundAndRoundModel", "rank", "(I)I"⟩
theorem d_Model_rank_0 : decode b_Model_rank 0 = .ok (.iload_n 0, 1) := by decide +kernel
theorem d_Model_rank_1 : decode b_Model_rank 1 = .ok (.ifCond .ne 7, 3) := by decide +kernel
theorem d_Model_rank_4 : decode b_Model_rank 4 = .ok (.iconst 0, 1) := by decide +kernel
theorem d_Model_rank_5 : decode b_Model_rank 5 = .ok (.goto 66, 3) := by decide +kernel
theorem d_Model_rank_8 : decode b_Model_rank 8 = .ok (.iload_n 0, 1) := by decide +kernel
theorem d_Model_rank_9 : decode b_Model_rank 9 = .ok (.bipush (11), 2) := by decide +kernel
theorem d_Model_rank_11 : decode b_Model_rank 11 = .ok (.if_icmp .ne 7, 3) := by decide +kernel
theorem d_Model_rank_14 : decode b_Model_rank 14 = .ok (.iconst 1, 1) := by decide +kernel
theorem d_Model_rank_15 : decode b_Model_rank 15 = .ok (.goto 56, 3) := by decide +kernel
theorem d_Model_rank_18 : decode b_Model_rank 18 = .ok (.iload_n 0, 1) := by decide +kernel
theorem d_Model_rank_19 : decode b_Model_rank 19 = .ok (.bipush (12), 2) := by decide +kernel
theorem d_Model_rank_21 : decode b_Model_rank 21 = .ok (.if_icmp .ne 7, 3) := by decide +kernel
theorem d_Model_rank_24 : decode b_Model_rank 24 = .ok (.iconst 2, 1) := by decide +kernel
theorem d_Model_rank_25 : decode b_Model_rank 25 = .ok (.goto 46, 3) := by decide +kernel
theorem d_Model_rank_28 : decode b_Model_rank 28 = .ok (.iload_n 0, 1) := by decide +kernel
theorem d_Model_rank_29 : decode b_Model_rank 29 = .ok (.bipush (13), 2) := by decide +kernel
theorem d_Model_rank_31 : decode b_Model_rank 31 = .ok (.if_icmp .ne 7, 3) := by decide +kernel
theorem d_Model_rank_34 : decode b_Model_rank 34 = .ok (.iconst 3, 1) := by decide +kernel
theorem d_Model_rank_35 : decode b_Model_rank 35 = .ok (.goto 36, 3) := by decide +kernel
theorem d_Model_rank_38 : decode b_Model_rank 38 = .ok (.iload_n 0, 1) := by decide +kernel
theorem d_Model_rank_39 : decode b_Model_rank 39 = .ok (.bipush (15), 2) := by decide +kernel
theorem d_Model_rank_41 : decode b_Model_rank 41 = .ok (.if_icmp .gt 7, 3) := by decide +kernel
theorem d_Model_rank_44 : decode b_Model_rank 44 = .ok (.iconst 4, 1) := by decide +kernel
theorem d_Model_rank_45 : decode b_Model_rank 45 = .ok (.goto 26, 3) := by decide +kernel
theorem d_Model_rank_48 : decode b_Model_rank 48 = .ok (.iload_n 0, 1) := by decide +kernel
theorem d_Model_rank_49 : decode b_Model_rank 49 = .ok (.bipush (17), 2) := by decide +kernel
theorem d_Model_rank_51 : decode b_Model_rank 51 = .ok (.if_icmp .gt 7, 3) := by decide +kernel
theorem d_Model_rank_54 : decode b_Model_rank 54 = .ok (.iconst 5, 1) := by decide +kernel
theorem d_Model_rank_55 : decode b_Model_rank 55 = .ok (.goto 16, 3) := by decide +kernel
theorem d_Model_rank_58 : decode b_Model_rank 58 = .ok (.iload_n 0, 1) := by decide +kernel
theorem d_Model_rank_59 : decode b_Model_rank 59 = .ok (.bipush (18), 2) := by decide +kernel
theorem d_Model_rank_61 : decode b_Model_rank 61 = .ok (.if_icmp .ne 8, 3) := by decide +kernel
theorem d_Model_rank_64 : decode b_Model_rank 64 = .ok (.bipush (6), 2) := by decide +kernel
theorem d_Model_rank_66 : decode b_Model_rank 66 = .ok (.goto 5, 3) := by decide +kernel
theorem d_Model_rank_69 : decode b_Model_rank 69 = .ok (.bipush (7), 2) := by decide +kernel
theorem d_Model_rank_71 : decode b_Model_rank 71 = .ok (.ireturn, 1) := by decide +kernel
abbrev b_Model_puts : ByteArray := prog_8_method_13_code
def y_Model_puts : MethodName := ⟨"RoundAndRoundModel", "puts", "(I)V"⟩
theorem d_Model_puts_0 : decode b_Model_puts 0 = .ok (.aload_n 0, 1) := by decide +kernel
theorem d_Model_puts_1 : decode b_Model_puts 1 = .ok (.getfield 22, 3) := by decide +kernel
theorem d_Model_puts_4 : decode b_Model_puts 4 = .ok (.sipush (200), 3) := by decide +kernel
theorem d_Model_puts_7 : decode b_Model_puts 7 = .ok (.aload_n 0, 1) := by decide +kernel
theorem d_Model_puts_8 : decode b_Model_puts 8 = .ok (.getfield 70, 3) := by decide +kernel
theorem d_Model_puts_11 : decode b_Model_puts 11 = .ok (.imul, 1) := by decide +kernel
theorem d_Model_puts_12 : decode b_Model_puts 12 = .ok (.aload_n 0, 1) := by decide +kernel
theorem d_Model_puts_13 : decode b_Model_puts 13 = .ok (.getfield 96, 3) := by decide +kernel
theorem d_Model_puts_16 : decode b_Model_puts 16 = .ok (.iadd, 1) := by decide +kernel
theorem d_Model_puts_17 : decode b_Model_puts 17 = .ok (.iload_n 1, 1) := by decide +kernel
theorem d_Model_puts_18 : decode b_Model_puts 18 = .ok (.iastore, 1) := by decide +kernel
theorem d_Model_puts_19 : decode b_Model_puts 19 = .ok (.aload_n 0, 1) := by decide +kernel
theorem d_Model_puts_20 : decode b_Model_puts 20 = .ok (.dup, 1) := by decide +kernel
theorem d_Model_puts_21 : decode b_Model_puts 21 = .ok (.getfield 96, 3) := by decide +kernel
theorem d_Model_puts_24 : decode b_Model_puts 24 = .ok (.iconst 1, 1) := by decide +kernel
theorem d_Model_puts_25 : decode b_Model_puts 25 = .ok (.iadd, 1) := by decide +kernel
theorem d_Model_puts_26 : decode b_Model_puts 26 = .ok (.putfield 96, 3) := by decide +kernel
theorem d_Model_puts_29 : decode b_Model_puts 29 = .ok (.return_, 1) := by decide +kernel
abbrev b_Model_unwinds : ByteArray := prog_8_method_14_code
def y_Model_unwinds : MethodName := ⟨"RoundAndRoundModel", "unwinds", "(I)V"⟩
theorem d_Model_unwinds_0 : decode b_Model_unwinds 0 = .ok (.aload_n 0, 1) := by decide +kernel
theorem d_Model_unwinds_1 : decode b_Model_unwinds 1 = .ok (.getfield 99, 3) := by decide +kernel
theorem d_Model_unwinds_4 : decode b_Model_unwinds 4 = .ok (.ifCond .le 75, 3) := by decide +kernel
theorem d_Model_unwinds_7 : decode b_Model_unwinds 7 = .ok (.aload_n 0, 1) := by decide +kernel
theorem d_Model_unwinds_8 : decode b_Model_unwinds 8 = .ok (.getfield 46, 3) := by decide +kernel
theorem d_Model_unwinds_11 : decode b_Model_unwinds 11 = .ok (.aload_n 0, 1) := by decide +kernel
theorem d_Model_unwinds_12 : decode b_Model_unwinds 12 = .ok (.getfield 99, 3) := by decide +kernel
theorem d_Model_unwinds_15 : decode b_Model_unwinds 15 = .ok (.iconst 1, 1) := by decide +kernel
theorem d_Model_unwinds_16 : decode b_Model_unwinds 16 = .ok (.isub, 1) := by decide +kernel
theorem d_Model_unwinds_17 : decode b_Model_unwinds 17 = .ok (.iaload, 1) := by decide +kernel
theorem d_Model_unwinds_18 : decode b_Model_unwinds 18 = .ok (.invokestatic 102, 3) := by decide +kernel
theorem d_Model_unwinds_21 : decode b_Model_unwinds 21 = .ok (.iload_n 1, 1) := by decide +kernel
theorem d_Model_unwinds_22 : decode b_Model_unwinds 22 = .ok (.if_icmp .lt 57, 3) := by decide +kernel
theorem d_Model_unwinds_25 : decode b_Model_unwinds 25 = .ok (.aload_n 0, 1) := by decide +kernel
theorem d_Model_unwinds_26 : decode b_Model_unwinds 26 = .ok (.dup, 1) := by decide +kernel
theorem d_Model_unwinds_27 : decode b_Model_unwinds 27 = .ok (.getfield 99, 3) := by decide +kernel
theorem d_Model_unwinds_30 : decode b_Model_unwinds 30 = .ok (.iconst 1, 1) := by decide +kernel
theorem d_Model_unwinds_31 : decode b_Model_unwinds 31 = .ok (.isub, 1) := by decide +kernel
theorem d_Model_unwinds_32 : decode b_Model_unwinds 32 = .ok (.putfield 99, 3) := by decide +kernel
theorem d_Model_unwinds_35 : decode b_Model_unwinds 35 = .ok (.aload_n 0, 1) := by decide +kernel
theorem d_Model_unwinds_36 : decode b_Model_unwinds 36 = .ok (.getfield 46, 3) := by decide +kernel
theorem d_Model_unwinds_39 : decode b_Model_unwinds 39 = .ok (.aload_n 0, 1) := by decide +kernel
theorem d_Model_unwinds_40 : decode b_Model_unwinds 40 = .ok (.getfield 99, 3) := by decide +kernel
theorem d_Model_unwinds_43 : decode b_Model_unwinds 43 = .ok (.iaload, 1) := by decide +kernel
theorem d_Model_unwinds_44 : decode b_Model_unwinds 44 = .ok (.istore_n 2, 1) := by decide +kernel
theorem d_Model_unwinds_45 : decode b_Model_unwinds 45 = .ok (.aload_n 0, 1) := by decide +kernel
theorem d_Model_unwinds_46 : decode b_Model_unwinds 46 = .ok (.dup, 1) := by decide +kernel
theorem d_Model_unwinds_47 : decode b_Model_unwinds 47 = .ok (.getfield 106, 3) := by decide +kernel
theorem d_Model_unwinds_50 : decode b_Model_unwinds 50 = .ok (.iload_n 2, 1) := by decide +kernel
theorem d_Model_unwinds_51 : decode b_Model_unwinds 51 = .ok (.bipush (13), 2) := by decide +kernel
theorem d_Model_unwinds_53 : decode b_Model_unwinds 53 = .ok (.if_icmp .eq 9, 3) := by decide +kernel
theorem d_Model_unwinds_56 : decode b_Model_unwinds 56 = .ok (.iload_n 2, 1) := by decide +kernel
theorem d_Model_unwinds_57 : decode b_Model_unwinds 57 = .ok (.bipush (19), 2) := by decide +kernel
theorem d_Model_unwinds_59 : decode b_Model_unwinds 59 = .ok (.if_icmp .ne 7, 3) := by decide +kernel
theorem d_Model_unwinds_62 : decode b_Model_unwinds 62 = .ok (.iconst 1, 1) := by decide +kernel
theorem d_Model_unwinds_63 : decode b_Model_unwinds 63 = .ok (.goto 4, 3) := by decide +kernel
theorem d_Model_unwinds_66 : decode b_Model_unwinds 66 = .ok (.iconst 0, 1) := by decide +kernel
theorem d_Model_unwinds_67 : decode b_Model_unwinds 67 = .ok (.isub, 1) := by decide +kernel
theorem d_Model_unwinds_68 : decode b_Model_unwinds 68 = .ok (.putfield 106, 3) := by decide +kernel
theorem d_Model_unwinds_71 : decode b_Model_unwinds 71 = .ok (.aload_n 0, 1) := by decide +kernel
theorem d_Model_unwinds_72 : decode b_Model_unwinds 72 = .ok (.iload_n 2, 1) := by decide +kernel
theorem d_Model_unwinds_73 : decode b_Model_unwinds 73 = .ok (.invokevirtual 109, 3) := by decide +kernel
theorem d_Model_unwinds_76 : decode b_Model_unwinds 76 = .ok (.goto (-76), 3) := by decide +kernel
theorem d_Model_unwinds_79 : decode b_Model_unwinds 79 = .ok (.return_, 1) := by decide +kernel
abbrev b_Model_holds : ByteArray := prog_8_method_15_code
def y_Model_holds : MethodName := ⟨"RoundAndRoundModel", "holds", "(I)V"⟩
theorem d_Model_holds_0 : decode b_Model_holds 0 = .ok (.aload_n 0, 1) := by decide +kernel
theorem d_Model_holds_1 : decode b_Model_holds 1 = .ok (.getfield 46, 3) := by decide +kernel
theorem d_Model_holds_4 : decode b_Model_holds 4 = .ok (.aload_n 0, 1) := by decide +kernel
theorem d_Model_holds_5 : decode b_Model_holds 5 = .ok (.getfield 99, 3) := by decide +kernel
theorem d_Model_holds_8 : decode b_Model_holds 8 = .ok (.iload_n 1, 1) := by decide +kernel
theorem d_Model_holds_9 : decode b_Model_holds 9 = .ok (.iastore, 1) := by decide +kernel
theorem d_Model_holds_10 : decode b_Model_holds 10 = .ok (.aload_n 0, 1) := by decide +kernel
theorem d_Model_holds_11 : decode b_Model_holds 11 = .ok (.dup, 1) := by decide +kernel
theorem d_Model_holds_12 : decode b_Model_holds 12 = .ok (.getfield 99, 3) := by decide +kernel
theorem d_Model_holds_15 : decode b_Model_holds 15 = .ok (.iconst 1, 1) := by decide +kernel
theorem d_Model_holds_16 : decode b_Model_holds 16 = .ok (.iadd, 1) := by decide +kernel
theorem d_Model_holds_17 : decode b_Model_holds 17 = .ok (.putfield 99, 3) := by decide +kernel
theorem d_Model_holds_20 : decode b_Model_holds 20 = .ok (.return_, 1) := by decide +kernel
abbrev b_Model_opensOne : ByteArray := prog_8_method_16_code
def y_Model_opensOne : MethodName := ⟨"RoundAndRoundModel", "opensOne", "(I)Z"⟩
theorem d_Model_opensOne_0 : decode b_Model_opensOne 0 = .ok (.aload_n 0, 1) := by decide +kernel
theorem d_Model_opensOne_1 : decode b_Model_opensOne 1 = .ok (.getfield 106, 3) := by decide +kernel
theorem d_Model_opensOne_4 : decode b_Model_opensOne 4 = .ok (.iconst 5, 1) := by decide +kernel
theorem d_Model_opensOne_5 : decode b_Model_opensOne 5 = .ok (.if_icmp .ne 5, 3) := by decide +kernel
theorem d_Model_opensOne_8 : decode b_Model_opensOne 8 = .ok (.iconst 0, 1) := by decide +kernel
theorem d_Model_opensOne_9 : decode b_Model_opensOne 9 = .ok (.ireturn, 1) := by decide +kernel
theorem d_Model_opensOne_10 : decode b_Model_opensOne 10 = .ok (.aload_n 0, 1) := by decide +kernel
theorem d_Model_opensOne_11 : decode b_Model_opensOne 11 = .ok (.dup, 1) := by decide +kernel
theorem d_Model_opensOne_12 : decode b_Model_opensOne 12 = .ok (.getfield 106, 3) := by decide +kernel
theorem d_Model_opensOne_15 : decode b_Model_opensOne 15 = .ok (.iconst 1, 1) := by decide +kernel
theorem d_Model_opensOne_16 : decode b_Model_opensOne 16 = .ok (.iadd, 1) := by decide +kernel
theorem d_Model_opensOne_17 : decode b_Model_opensOne 17 = .ok (.putfield 106, 3) := by decide +kernel
theorem d_Model_opensOne_20 : decode b_Model_opensOne 20 = .ok (.aload_n 0, 1) := by decide +kernel
theorem d_Model_opensOne_21 : decode b_Model_opensOne 21 = .ok (.iload_n 1, 1) := by decide +kernel
theorem d_Model_opensOne_22 : decode b_Model_opensOne 22 = .ok (.invokevirtual 113, 3) := by decide +kernel
theorem d_Model_opensOne_25 : decode b_Model_opensOne 25 = .ok (.iconst 1, 1) := by decide +kernel
theorem d_Model_opensOne_26 : decode b_Model_opensOne 26 = .ok (.ireturn, 1) := by decide +kernel
abbrev b_Model_between : ByteArray := prog_8_method_17_code
def y_Model_between : MethodName := ⟨"RoundAndRoundModel", "between", "(I)Z"⟩
theorem d_Model_between_0 : decode b_Model_between 0 = .ok (.aload_n 0, 1) := by decide +kernel
theorem d_Model_between_1 : decode b_Model_between 1 = .ok (.iload_n 1, 1) := by decide +kernel
theorem d_Model_between_2 : decode b_Model_between 2 = .ok (.invokestatic 102, 3) := by decide +kernel
theorem d_Model_between_5 : decode b_Model_between 5 = .ok (.iconst 4, 1) := by decide +kernel
theorem d_Model_between_6 : decode b_Model_between 6 = .ok (.if_icmp .ne 7, 3) := by decide +kernel
theorem d_Model_between_9 : decode b_Model_between 9 = .ok (.iconst 5, 1) := by decide +kernel
theorem d_Model_between_10 : decode b_Model_between 10 = .ok (.goto 7, 3) := by decide +kernel
theorem d_Model_between_13 : decode b_Model_between 13 = .ok (.iload_n 1, 1) := by decide +kernel
theorem d_Model_between_14 : decode b_Model_between 14 = .ok (.invokestatic 102, 3) := by decide +kernel
theorem d_Model_between_17 : decode b_Model_between 17 = .ok (.invokevirtual 116, 3) := by decide +kernel
theorem d_Model_between_20 : decode b_Model_between 20 = .ok (.iload_n 1, 1) := by decide +kernel
theorem d_Model_between_21 : decode b_Model_between 21 = .ok (.invokestatic 102, 3) := by decide +kernel
theorem d_Model_between_24 : decode b_Model_between 24 = .ok (.iconst 4, 1) := by decide +kernel
theorem d_Model_between_25 : decode b_Model_between 25 = .ok (.if_icmp .ne 30, 3) := by decide +kernel
theorem d_Model_between_28 : decode b_Model_between 28 = .ok (.aload_n 0, 1) := by decide +kernel
theorem d_Model_between_29 : decode b_Model_between 29 = .ok (.getfield 99, 3) := by decide +kernel
theorem d_Model_between_32 : decode b_Model_between 32 = .ok (.ifCond .le 23, 3) := by decide +kernel
theorem d_Model_between_35 : decode b_Model_between 35 = .ok (.aload_n 0, 1) := by decide +kernel
theorem d_Model_between_36 : decode b_Model_between 36 = .ok (.getfield 46, 3) := by decide +kernel
theorem d_Model_between_39 : decode b_Model_between 39 = .ok (.aload_n 0, 1) := by decide +kernel
theorem d_Model_between_40 : decode b_Model_between 40 = .ok (.getfield 99, 3) := by decide +kernel
theorem d_Model_between_43 : decode b_Model_between 43 = .ok (.iconst 1, 1) := by decide +kernel
theorem d_Model_between_44 : decode b_Model_between 44 = .ok (.isub, 1) := by decide +kernel
theorem d_Model_between_45 : decode b_Model_between 45 = .ok (.iaload, 1) := by decide +kernel
theorem d_Model_between_46 : decode b_Model_between 46 = .ok (.invokestatic 102, 3) := by decide +kernel
theorem d_Model_between_49 : decode b_Model_between 49 = .ok (.iconst 4, 1) := by decide +kernel
theorem d_Model_between_50 : decode b_Model_between 50 = .ok (.if_icmp .ne 5, 3) := by decide +kernel
theorem d_Model_between_53 : decode b_Model_between 53 = .ok (.iconst 0, 1) := by decide +kernel
theorem d_Model_between_54 : decode b_Model_between 54 = .ok (.ireturn, 1) := by decide +kernel
theorem d_Model_between_55 : decode b_Model_between 55 = .ok (.aload_n 0, 1) := by decide +kernel
theorem d_Model_between_56 : decode b_Model_between 56 = .ok (.iload_n 1, 1) := by decide +kernel
theorem d_Model_between_57 : decode b_Model_between 57 = .ok (.invokevirtual 113, 3) := by decide +kernel
theorem d_Model_between_60 : decode b_Model_between 60 = .ok (.iconst 1, 1) := by decide +kernel
theorem d_Model_between_61 : decode b_Model_between 61 = .ok (.ireturn, 1) := by decide +kernel
abbrev b_Model_signOf : ByteArray := prog_8_method_18_code
def y_Model_signOf : MethodName := ⟨"RoundAndRoundModel", "signOf", "()I"⟩
theorem d_Model_signOf_0 : decode b_Model_signOf 0 = .ok (.aload_n 0, 1) := by decide +kernel
theorem d_Model_signOf_1 : decode b_Model_signOf 1 = .ok (.getfield 86, 3) := by decide +kernel
theorem d_Model_signOf_4 : decode b_Model_signOf 4 = .ok (.iconst 4, 1) := by decide +kernel
theorem d_Model_signOf_5 : decode b_Model_signOf 5 = .ok (.if_icmp .ne 8, 3) := by decide +kernel
theorem d_Model_signOf_8 : decode b_Model_signOf 8 = .ok (.bipush (11), 2) := by decide +kernel
theorem d_Model_signOf_10 : decode b_Model_signOf 10 = .ok (.goto 87, 3) := by decide +kernel
theorem d_Model_signOf_13 : decode b_Model_signOf 13 = .ok (.aload_n 0, 1) := by decide +kernel
theorem d_Model_signOf_14 : decode b_Model_signOf 14 = .ok (.getfield 86, 3) := by decide +kernel
theorem d_Model_signOf_17 : decode b_Model_signOf 17 = .ok (.iconst 5, 1) := by decide +kernel
theorem d_Model_signOf_18 : decode b_Model_signOf 18 = .ok (.if_icmp .ne 8, 3) := by decide +kernel
theorem d_Model_signOf_21 : decode b_Model_signOf 21 = .ok (.bipush (12), 2) := by decide +kernel
theorem d_Model_signOf_23 : decode b_Model_signOf 23 = .ok (.goto 74, 3) := by decide +kernel
theorem d_Model_signOf_26 : decode b_Model_signOf 26 = .ok (.aload_n 0, 1) := by decide +kernel
theorem d_Model_signOf_27 : decode b_Model_signOf 27 = .ok (.getfield 86, 3) := by decide +kernel
theorem d_Model_signOf_30 : decode b_Model_signOf 30 = .ok (.bipush (60), 2) := by decide +kernel
theorem d_Model_signOf_32 : decode b_Model_signOf 32 = .ok (.if_icmp .ne 8, 3) := by decide +kernel
theorem d_Model_signOf_35 : decode b_Model_signOf 35 = .ok (.bipush (14), 2) := by decide +kernel
theorem d_Model_signOf_37 : decode b_Model_signOf 37 = .ok (.goto 60, 3) := by decide +kernel
theorem d_Model_signOf_40 : decode b_Model_signOf 40 = .ok (.aload_n 0, 1) := by decide +kernel
theorem d_Model_signOf_41 : decode b_Model_signOf 41 = .ok (.getfield 86, 3) := by decide +kernel
theorem d_Model_signOf_44 : decode b_Model_signOf 44 = .ok (.bipush (61), 2) := by decide +kernel
theorem d_Model_signOf_46 : decode b_Model_signOf 46 = .ok (.if_icmp .ne 8, 3) := by decide +kernel
theorem d_Model_signOf_49 : decode b_Model_signOf 49 = .ok (.bipush (15), 2) := by decide +kernel
theorem d_Model_signOf_51 : decode b_Model_signOf 51 = .ok (.goto 46, 3) := by decide +kernel
theorem d_Model_signOf_54 : decode b_Model_signOf 54 = .ok (.aload_n 0, 1) := by decide +kernel
theorem d_Model_signOf_55 : decode b_Model_signOf 55 = .ok (.getfield 86, 3) := by decide +kernel
theorem d_Model_signOf_58 : decode b_Model_signOf 58 = .ok (.bipush (43), 2) := by decide +kernel
theorem d_Model_signOf_60 : decode b_Model_signOf 60 = .ok (.if_icmp .ne 8, 3) := by decide +kernel
theorem d_Model_signOf_63 : decode b_Model_signOf 63 = .ok (.bipush (16), 2) := by decide +kernel
theorem d_Model_signOf_65 : decode b_Model_signOf 65 = .ok (.goto 32, 3) := by decide +kernel
theorem d_Model_signOf_68 : decode b_Model_signOf 68 = .ok (.aload_n 0, 1) := by decide +kernel
theorem d_Model_signOf_69 : decode b_Model_signOf 69 = .ok (.getfield 86, 3) := by decide +kernel
theorem d_Model_signOf_72 : decode b_Model_signOf 72 = .ok (.bipush (45), 2) := by decide +kernel
theorem d_Model_signOf_74 : decode b_Model_signOf 74 = .ok (.if_icmp .ne 8, 3) := by decide +kernel
theorem d_Model_signOf_77 : decode b_Model_signOf 77 = .ok (.bipush (17), 2) := by decide +kernel
theorem d_Model_signOf_79 : decode b_Model_signOf 79 = .ok (.goto 18, 3) := by decide +kernel
theorem d_Model_signOf_82 : decode b_Model_signOf 82 = .ok (.aload_n 0, 1) := by decide +kernel
theorem d_Model_signOf_83 : decode b_Model_signOf 83 = .ok (.getfield 86, 3) := by decide +kernel
theorem d_Model_signOf_86 : decode b_Model_signOf 86 = .ok (.bipush (42), 2) := by decide +kernel
theorem d_Model_signOf_88 : decode b_Model_signOf 88 = .ok (.if_icmp .ne 8, 3) := by decide +kernel
theorem d_Model_signOf_91 : decode b_Model_signOf 91 = .ok (.bipush (18), 2) := by decide +kernel
theorem d_Model_signOf_93 : decode b_Model_signOf 93 = .ok (.goto 4, 3) := by decide +kernel
theorem d_Model_signOf_96 : decode b_Model_signOf 96 = .ok (.iconst (-1), 1) := by decide +kernel
theorem d_Model_signOf_97 : decode b_Model_signOf 97 = .ok (.ireturn, 1) := by decide +kernel
abbrev b_Model_eRead : ByteArray := prog_8_method_19_code
def y_Model_eRead : MethodName := ⟨"RoundAndRoundModel", "eRead", "()Z"⟩
theorem d_Model_eRead_0 : decode b_Model_eRead 0 = .ok (.aload_n 0, 1) := by decide +kernel
theorem d_Model_eRead_1 : decode b_Model_eRead 1 = .ok (.iconst 0, 1) := by decide +kernel
theorem d_Model_eRead_2 : decode b_Model_eRead 2 = .ok (.putfield 99, 3) := by decide +kernel
theorem d_Model_eRead_5 : decode b_Model_eRead 5 = .ok (.aload_n 0, 1) := by decide +kernel
theorem d_Model_eRead_6 : decode b_Model_eRead 6 = .ok (.iconst 0, 1) := by decide +kernel
theorem d_Model_eRead_7 : decode b_Model_eRead 7 = .ok (.putfield 106, 3) := by decide +kernel
theorem d_Model_eRead_10 : decode b_Model_eRead 10 = .ok (.iconst 1, 1) := by decide +kernel
theorem d_Model_eRead_11 : decode b_Model_eRead 11 = .ok (.istore_n 1, 1) := by decide +kernel
theorem d_Model_eRead_12 : decode b_Model_eRead 12 = .ok (.iconst 1, 1) := by decide +kernel
theorem d_Model_eRead_13 : decode b_Model_eRead 13 = .ok (.istore_n 2, 1) := by decide +kernel
theorem d_Model_eRead_14 : decode b_Model_eRead 14 = .ok (.aload_n 0, 1) := by decide +kernel
theorem d_Model_eRead_15 : decode b_Model_eRead 15 = .ok (.invokevirtual 119, 3) := by decide +kernel
theorem d_Model_eRead_18 : decode b_Model_eRead 18 = .ok (.iload_n 1, 1) := by decide +kernel
theorem d_Model_eRead_19 : decode b_Model_eRead 19 = .ok (.ifCond .eq 131, 3) := by decide +kernel
theorem d_Model_eRead_22 : decode b_Model_eRead 22 = .ok (.aload_n 0, 1) := by decide +kernel
theorem d_Model_eRead_23 : decode b_Model_eRead 23 = .ok (.getfield 86, 3) := by decide +kernel
theorem d_Model_eRead_26 : decode b_Model_eRead 26 = .ok (.iconst 1, 1) := by decide +kernel
theorem d_Model_eRead_27 : decode b_Model_eRead 27 = .ok (.if_icmp .eq 11, 3) := by decide +kernel
theorem d_Model_eRead_30 : decode b_Model_eRead 30 = .ok (.aload_n 0, 1) := by decide +kernel
theorem d_Model_eRead_31 : decode b_Model_eRead 31 = .ok (.getfield 86, 3) := by decide +kernel
theorem d_Model_eRead_34 : decode b_Model_eRead 34 = .ok (.iconst 2, 1) := by decide +kernel
theorem d_Model_eRead_35 : decode b_Model_eRead 35 = .ok (.if_icmp .ne 40, 3) := by decide +kernel
theorem d_Model_eRead_38 : decode b_Model_eRead 38 = .ok (.aload_n 0, 1) := by decide +kernel
theorem d_Model_eRead_39 : decode b_Model_eRead 39 = .ok (.aload_n 0, 1) := by decide +kernel
theorem d_Model_eRead_40 : decode b_Model_eRead 40 = .ok (.getfield 86, 3) := by decide +kernel
theorem d_Model_eRead_43 : decode b_Model_eRead 43 = .ok (.iconst 1, 1) := by decide +kernel
theorem d_Model_eRead_44 : decode b_Model_eRead 44 = .ok (.if_icmp .ne 13, 3) := by decide +kernel
theorem d_Model_eRead_47 : decode b_Model_eRead 47 = .ok (.ldc 122, 2) := by decide +kernel
theorem d_Model_eRead_49 : decode b_Model_eRead 49 = .ok (.aload_n 0, 1) := by decide +kernel
theorem d_Model_eRead_50 : decode b_Model_eRead 50 = .ok (.getfield 89, 3) := by decide +kernel
theorem d_Model_eRead_53 : decode b_Model_eRead 53 = .ok (.iadd, 1) := by decide +kernel
theorem d_Model_eRead_54 : decode b_Model_eRead 54 = .ok (.goto 7, 3) := by decide +kernel
theorem d_Model_eRead_57 : decode b_Model_eRead 57 = .ok (.aload_n 0, 1) := by decide +kernel
theorem d_Model_eRead_58 : decode b_Model_eRead 58 = .ok (.getfield 89, 3) := by decide +kernel
theorem d_Model_eRead_61 : decode b_Model_eRead 61 = .ok (.invokevirtual 109, 3) := by decide +kernel
theorem d_Model_eRead_64 : decode b_Model_eRead 64 = .ok (.aload_n 0, 1) := by decide +kernel
theorem d_Model_eRead_65 : decode b_Model_eRead 65 = .ok (.bipush (7), 2) := by decide +kernel
theorem d_Model_eRead_67 : decode b_Model_eRead 67 = .ok (.invokevirtual 116, 3) := by decide +kernel
theorem d_Model_eRead_70 : decode b_Model_eRead 70 = .ok (.iconst 0, 1) := by decide +kernel
theorem d_Model_eRead_71 : decode b_Model_eRead 71 = .ok (.istore_n 1, 1) := by decide +kernel
theorem d_Model_eRead_72 : decode b_Model_eRead 72 = .ok (.goto (-58), 3) := by decide +kernel
theorem d_Model_eRead_75 : decode b_Model_eRead 75 = .ok (.aload_n 0, 1) := by decide +kernel
theorem d_Model_eRead_76 : decode b_Model_eRead 76 = .ok (.getfield 86, 3) := by decide +kernel
theorem d_Model_eRead_79 : decode b_Model_eRead 79 = .ok (.bipush (6), 2) := by decide +kernel
theorem d_Model_eRead_81 : decode b_Model_eRead 81 = .ok (.if_icmp .ne 18, 3) := by decide +kernel
theorem d_Model_eRead_84 : decode b_Model_eRead 84 = .ok (.iload_n 2, 1) := by decide +kernel
theorem d_Model_eRead_85 : decode b_Model_eRead 85 = .ok (.ifCond .eq 14, 3) := by decide +kernel
theorem d_Model_eRead_88 : decode b_Model_eRead 88 = .ok (.aload_n 0, 1) := by decide +kernel
theorem d_Model_eRead_89 : decode b_Model_eRead 89 = .ok (.bipush (13), 2) := by decide +kernel
theorem d_Model_eRead_91 : decode b_Model_eRead 91 = .ok (.invokevirtual 123, 3) := by decide +kernel
theorem d_Model_eRead_94 : decode b_Model_eRead 94 = .ok (.ifCond .ne (-80), 3) := by decide +kernel
theorem d_Model_eRead_97 : decode b_Model_eRead 97 = .ok (.iconst 0, 1) := by decide +kernel
theorem d_Model_eRead_98 : decode b_Model_eRead 98 = .ok (.ireturn, 1) := by decide +kernel
theorem d_Model_eRead_99 : decode b_Model_eRead 99 = .ok (.aload_n 0, 1) := by decide +kernel
theorem d_Model_eRead_100 : decode b_Model_eRead 100 = .ok (.getfield 86, 3) := by decide +kernel
theorem d_Model_eRead_103 : decode b_Model_eRead 103 = .ok (.bipush (45), 2) := by decide +kernel
theorem d_Model_eRead_105 : decode b_Model_eRead 105 = .ok (.if_icmp .ne 19, 3) := by decide +kernel
theorem d_Model_eRead_108 : decode b_Model_eRead 108 = .ok (.aload_n 0, 1) := by decide +kernel
theorem d_Model_eRead_109 : decode b_Model_eRead 109 = .ok (.bipush (19), 2) := by decide +kernel
theorem d_Model_eRead_111 : decode b_Model_eRead 111 = .ok (.invokevirtual 123, 3) := by decide +kernel
theorem d_Model_eRead_114 : decode b_Model_eRead 114 = .ok (.ifCond .ne 5, 3) := by decide +kernel
theorem d_Model_eRead_117 : decode b_Model_eRead 117 = .ok (.iconst 0, 1) := by decide +kernel
theorem d_Model_eRead_118 : decode b_Model_eRead 118 = .ok (.ireturn, 1) := by decide +kernel
theorem d_Model_eRead_119 : decode b_Model_eRead 119 = .ok (.iconst 0, 1) := by decide +kernel
theorem d_Model_eRead_120 : decode b_Model_eRead 120 = .ok (.istore_n 2, 1) := by decide +kernel
theorem d_Model_eRead_121 : decode b_Model_eRead 121 = .ok (.goto (-107), 3) := by decide +kernel
theorem d_Model_eRead_124 : decode b_Model_eRead 124 = .ok (.aload_n 0, 1) := by decide +kernel
theorem d_Model_eRead_125 : decode b_Model_eRead 125 = .ok (.getfield 86, 3) := by decide +kernel
theorem d_Model_eRead_128 : decode b_Model_eRead 128 = .ok (.bipush (40), 2) := by decide +kernel
theorem d_Model_eRead_130 : decode b_Model_eRead 130 = .ok (.if_icmp .ne 18, 3) := by decide +kernel
theorem d_Model_eRead_133 : decode b_Model_eRead 133 = .ok (.aload_n 0, 1) := by decide +kernel
theorem d_Model_eRead_134 : decode b_Model_eRead 134 = .ok (.iconst 0, 1) := by decide +kernel
theorem d_Model_eRead_135 : decode b_Model_eRead 135 = .ok (.invokevirtual 123, 3) := by decide +kernel
theorem d_Model_eRead_138 : decode b_Model_eRead 138 = .ok (.ifCond .ne 5, 3) := by decide +kernel
theorem d_Model_eRead_141 : decode b_Model_eRead 141 = .ok (.iconst 0, 1) := by decide +kernel
theorem d_Model_eRead_142 : decode b_Model_eRead 142 = .ok (.ireturn, 1) := by decide +kernel
theorem d_Model_eRead_143 : decode b_Model_eRead 143 = .ok (.iconst 1, 1) := by decide +kernel
theorem d_Model_eRead_144 : decode b_Model_eRead 144 = .ok (.istore_n 2, 1) := by decide +kernel
theorem d_Model_eRead_145 : decode b_Model_eRead 145 = .ok (.goto (-131), 3) := by decide +kernel
theorem d_Model_eRead_148 : decode b_Model_eRead 148 = .ok (.iconst 0, 1) := by decide +kernel
theorem d_Model_eRead_149 : decode b_Model_eRead 149 = .ok (.ireturn, 1) := by decide +kernel
theorem d_Model_eRead_150 : decode b_Model_eRead 150 = .ok (.aload_n 0, 1) := by decide +kernel
theorem d_Model_eRead_151 : decode b_Model_eRead 151 = .ok (.getfield 86, 3) := by decide +kernel
theorem d_Model_eRead_154 : decode b_Model_eRead 154 = .ok (.bipush (59), 2) := by decide +kernel
theorem d_Model_eRead_156 : decode b_Model_eRead 156 = .ok (.if_icmp .ne 21, 3) := by decide +kernel
theorem d_Model_eRead_159 : decode b_Model_eRead 159 = .ok (.aload_n 0, 1) := by decide +kernel
theorem d_Model_eRead_160 : decode b_Model_eRead 160 = .ok (.iconst 1, 1) := by decide +kernel
theorem d_Model_eRead_161 : decode b_Model_eRead 161 = .ok (.invokevirtual 116, 3) := by decide +kernel
theorem d_Model_eRead_164 : decode b_Model_eRead 164 = .ok (.aload_n 0, 1) := by decide +kernel
theorem d_Model_eRead_165 : decode b_Model_eRead 165 = .ok (.getfield 99, 3) := by decide +kernel
theorem d_Model_eRead_168 : decode b_Model_eRead 168 = .ok (.ifCond .ne 7, 3) := by decide +kernel
theorem d_Model_eRead_171 : decode b_Model_eRead 171 = .ok (.iconst 1, 1) := by decide +kernel
theorem d_Model_eRead_172 : decode b_Model_eRead 172 = .ok (.goto 4, 3) := by decide +kernel
theorem d_Model_eRead_175 : decode b_Model_eRead 175 = .ok (.iconst 0, 1) := by decide +kernel
theorem d_Model_eRead_176 : decode b_Model_eRead 176 = .ok (.ireturn, 1) := by decide +kernel
theorem d_Model_eRead_177 : decode b_Model_eRead 177 = .ok (.aload_n 0, 1) := by decide +kernel
theorem d_Model_eRead_178 : decode b_Model_eRead 178 = .ok (.getfield 86, 3) := by decide +kernel
theorem d_Model_eRead_181 : decode b_Model_eRead 181 = .ok (.bipush (41), 2) := by decide +kernel
theorem d_Model_eRead_183 : decode b_Model_eRead 183 = .ok (.if_icmp .ne 46, 3) := by decide +kernel
theorem d_Model_eRead_186 : decode b_Model_eRead 186 = .ok (.aload_n 0, 1) := by decide +kernel
theorem d_Model_eRead_187 : decode b_Model_eRead 187 = .ok (.iconst 1, 1) := by decide +kernel
theorem d_Model_eRead_188 : decode b_Model_eRead 188 = .ok (.invokevirtual 116, 3) := by decide +kernel
theorem d_Model_eRead_191 : decode b_Model_eRead 191 = .ok (.aload_n 0, 1) := by decide +kernel
theorem d_Model_eRead_192 : decode b_Model_eRead 192 = .ok (.getfield 99, 3) := by decide +kernel
theorem d_Model_eRead_195 : decode b_Model_eRead 195 = .ok (.ifCond .ne 5, 3) := by decide +kernel
theorem d_Model_eRead_198 : decode b_Model_eRead 198 = .ok (.iconst 0, 1) := by decide +kernel
theorem d_Model_eRead_199 : decode b_Model_eRead 199 = .ok (.ireturn, 1) := by decide +kernel
theorem d_Model_eRead_200 : decode b_Model_eRead 200 = .ok (.aload_n 0, 1) := by decide +kernel
theorem d_Model_eRead_201 : decode b_Model_eRead 201 = .ok (.dup, 1) := by decide +kernel
theorem d_Model_eRead_202 : decode b_Model_eRead 202 = .ok (.getfield 99, 3) := by decide +kernel
theorem d_Model_eRead_205 : decode b_Model_eRead 205 = .ok (.iconst 1, 1) := by decide +kernel
theorem d_Model_eRead_206 : decode b_Model_eRead 206 = .ok (.isub, 1) := by decide +kernel
theorem d_Model_eRead_207 : decode b_Model_eRead 207 = .ok (.putfield 99, 3) := by decide +kernel
theorem d_Model_eRead_210 : decode b_Model_eRead 210 = .ok (.aload_n 0, 1) := by decide +kernel
theorem d_Model_eRead_211 : decode b_Model_eRead 211 = .ok (.dup, 1) := by decide +kernel
theorem d_Model_eRead_212 : decode b_Model_eRead 212 = .ok (.getfield 106, 3) := by decide +kernel
theorem d_Model_eRead_215 : decode b_Model_eRead 215 = .ok (.iconst 1, 1) := by decide +kernel
theorem d_Model_eRead_216 : decode b_Model_eRead 216 = .ok (.isub, 1) := by decide +kernel
theorem d_Model_eRead_217 : decode b_Model_eRead 217 = .ok (.putfield 106, 3) := by decide +kernel
theorem d_Model_eRead_220 : decode b_Model_eRead 220 = .ok (.aload_n 0, 1) := by decide +kernel
theorem d_Model_eRead_221 : decode b_Model_eRead 221 = .ok (.bipush (7), 2) := by decide +kernel
theorem d_Model_eRead_223 : decode b_Model_eRead 223 = .ok (.invokevirtual 116, 3) := by decide +kernel
theorem d_Model_eRead_226 : decode b_Model_eRead 226 = .ok (.goto (-212), 3) := by decide +kernel
theorem d_Model_eRead_229 : decode b_Model_eRead 229 = .ok (.aload_n 0, 1) := by decide +kernel
theorem d_Model_eRead_230 : decode b_Model_eRead 230 = .ok (.invokevirtual 126, 3) := by decide +kernel
theorem d_Model_eRead_233 : decode b_Model_eRead 233 = .ok (.istore_n 3, 1) := by decide +kernel
theorem d_Model_eRead_234 : decode b_Model_eRead 234 = .ok (.iload_n 3, 1) := by decide +kernel
theorem d_Model_eRead_235 : decode b_Model_eRead 235 = .ok (.iconst (-1), 1) := by decide +kernel
theorem d_Model_eRead_236 : decode b_Model_eRead 236 = .ok (.if_icmp .eq 11, 3) := by decide +kernel
theorem d_Model_eRead_239 : decode b_Model_eRead 239 = .ok (.aload_n 0, 1) := by decide +kernel
theorem d_Model_eRead_240 : decode b_Model_eRead 240 = .ok (.iload_n 3, 1) := by decide +kernel
theorem d_Model_eRead_241 : decode b_Model_eRead 241 = .ok (.invokevirtual 129, 3) := by decide +kernel
theorem d_Model_eRead_244 : decode b_Model_eRead 244 = .ok (.ifCond .ne 5, 3) := by decide +kernel
theorem d_Model_eRead_247 : decode b_Model_eRead 247 = .ok (.iconst 0, 1) := by decide +kernel
theorem d_Model_eRead_248 : decode b_Model_eRead 248 = .ok (.ireturn, 1) := by decide +kernel
theorem d_Model_eRead_249 : decode b_Model_eRead 249 = .ok (.iconst 1, 1) := by decide +kernel
theorem d_Model_eRead_250 : decode b_Model_eRead 250 = .ok (.istore_n 1, 1) := by decide +kernel
theorem d_Model_eRead_251 : decode b_Model_eRead 251 = .ok (.iload_n 3, 1) := by decide +kernel
theorem d_Model_eRead_252 : decode b_Model_eRead 252 = .ok (.bipush (12), 2) := by decide +kernel
theorem d_Model_eRead_254 : decode b_Model_eRead 254 = .ok (.if_icmp .gt 7, 3) := by decide +kernel
theorem d_Model_eRead_257 : decode b_Model_eRead 257 = .ok (.iconst 1, 1) := by decide +kernel
theorem d_Model_eRead_258 : decode b_Model_eRead 258 = .ok (.goto 4, 3) := by decide +kernel
theorem d_Model_eRead_261 : decode b_Model_eRead 261 = .ok (.iconst 0, 1) := by decide +kernel
theorem d_Model_eRead_262 : decode b_Model_eRead 262 = .ok (.istore_n 2, 1) := by decide +kernel
theorem d_Model_eRead_263 : decode b_Model_eRead 263 = .ok (.goto (-249), 3) := by decide +kernel
abbrev b_Model_text : ByteArray := prog_8_method_20_code
def y_Model_text : MethodName := ⟨"RoundAndRoundModel", "text", "()I"⟩
theorem d_Model_text_0 : decode b_Model_text 0 = .ok (.aload_n 0, 1) := by decide +kernel
theorem d_Model_text_1 : decode b_Model_text 1 = .ok (.getfield 70, 3) := by decide +kernel
theorem d_Model_text_4 : decode b_Model_text 4 = .ok (.bipush (6), 2) := by decide +kernel
theorem d_Model_text_6 : decode b_Model_text 6 = .ok (.if_icmp .ne 6, 3) := by decide +kernel
theorem d_Model_text_9 : decode b_Model_text 9 = .ok (.bipush (-4), 2) := by decide +kernel
theorem d_Model_text_11 : decode b_Model_text 11 = .ok (.ireturn, 1) := by decide +kernel
theorem d_Model_text_12 : decode b_Model_text 12 = .ok (.aload_n 0, 1) := by decide +kernel
theorem d_Model_text_13 : decode b_Model_text 13 = .ok (.iconst 0, 1) := by decide +kernel
theorem d_Model_text_14 : decode b_Model_text 14 = .ok (.putfield 80, 3) := by decide +kernel
theorem d_Model_text_17 : decode b_Model_text 17 = .ok (.aload_n 0, 1) := by decide +kernel
theorem d_Model_text_18 : decode b_Model_text 18 = .ok (.iconst 0, 1) := by decide +kernel
theorem d_Model_text_19 : decode b_Model_text 19 = .ok (.putfield 96, 3) := by decide +kernel
theorem d_Model_text_22 : decode b_Model_text 22 = .ok (.iconst 1, 1) := by decide +kernel
theorem d_Model_text_23 : decode b_Model_text 23 = .ok (.istore_n 1, 1) := by decide +kernel
theorem d_Model_text_24 : decode b_Model_text 24 = .ok (.iconst 0, 1) := by decide +kernel
theorem d_Model_text_25 : decode b_Model_text 25 = .ok (.istore_n 2, 1) := by decide +kernel
theorem d_Model_text_26 : decode b_Model_text 26 = .ok (.iload_n 2, 1) := by decide +kernel
theorem d_Model_text_27 : decode b_Model_text 27 = .ok (.iconst 3, 1) := by decide +kernel
theorem d_Model_text_28 : decode b_Model_text 28 = .ok (.if_icmp .ge 73, 3) := by decide +kernel
theorem d_Model_text_31 : decode b_Model_text 31 = .ok (.iload_n 1, 1) := by decide +kernel
theorem d_Model_text_32 : decode b_Model_text 32 = .ok (.ifCond .eq 69, 3) := by decide +kernel
theorem d_Model_text_35 : decode b_Model_text 35 = .ok (.aload_n 0, 1) := by decide +kernel
theorem d_Model_text_36 : decode b_Model_text 36 = .ok (.invokevirtual 119, 3) := by decide +kernel
theorem d_Model_text_39 : decode b_Model_text 39 = .ok (.aload_n 0, 1) := by decide +kernel
theorem d_Model_text_40 : decode b_Model_text 40 = .ok (.getfield 86, 3) := by decide +kernel
theorem d_Model_text_43 : decode b_Model_text 43 = .ok (.iconst 3, 1) := by decide +kernel
theorem d_Model_text_44 : decode b_Model_text 44 = .ok (.if_icmp .ne 15, 3) := by decide +kernel
theorem d_Model_text_47 : decode b_Model_text 47 = .ok (.aload_n 0, 1) := by decide +kernel
theorem d_Model_text_48 : decode b_Model_text 48 = .ok (.getfield 89, 3) := by decide +kernel
theorem d_Model_text_51 : decode b_Model_text 51 = .ok (.iload_n 2, 1) := by decide +kernel
theorem d_Model_text_52 : decode b_Model_text 52 = .ok (.if_icmp .ne 7, 3) := by decide +kernel
theorem d_Model_text_55 : decode b_Model_text 55 = .ok (.iconst 1, 1) := by decide +kernel
theorem d_Model_text_56 : decode b_Model_text 56 = .ok (.goto 4, 3) := by decide +kernel
theorem d_Model_text_59 : decode b_Model_text 59 = .ok (.iconst 0, 1) := by decide +kernel
theorem d_Model_text_60 : decode b_Model_text 60 = .ok (.istore_n 1, 1) := by decide +kernel
theorem d_Model_text_61 : decode b_Model_text 61 = .ok (.aload_n 0, 1) := by decide +kernel
theorem d_Model_text_62 : decode b_Model_text 62 = .ok (.getfield 25, 3) := by decide +kernel
theorem d_Model_text_65 : decode b_Model_text 65 = .ok (.iconst 4, 1) := by decide +kernel
theorem d_Model_text_66 : decode b_Model_text 66 = .ok (.aload_n 0, 1) := by decide +kernel
theorem d_Model_text_67 : decode b_Model_text 67 = .ok (.getfield 70, 3) := by decide +kernel
theorem d_Model_text_70 : decode b_Model_text 70 = .ok (.imul, 1) := by decide +kernel
theorem d_Model_text_71 : decode b_Model_text 71 = .ok (.iload_n 2, 1) := by decide +kernel
theorem d_Model_text_72 : decode b_Model_text 72 = .ok (.iadd, 1) := by decide +kernel
theorem d_Model_text_73 : decode b_Model_text 73 = .ok (.aload_n 0, 1) := by decide +kernel
theorem d_Model_text_74 : decode b_Model_text 74 = .ok (.getfield 96, 3) := by decide +kernel
theorem d_Model_text_77 : decode b_Model_text 77 = .ok (.iastore, 1) := by decide +kernel
theorem d_Model_text_78 : decode b_Model_text 78 = .ok (.iload_n 1, 1) := by decide +kernel
theorem d_Model_text_79 : decode b_Model_text 79 = .ok (.ifCond .eq 14, 3) := by decide +kernel
theorem d_Model_text_82 : decode b_Model_text 82 = .ok (.aload_n 0, 1) := by decide +kernel
theorem d_Model_text_83 : decode b_Model_text 83 = .ok (.invokevirtual 132, 3) := by decide +kernel
theorem d_Model_text_86 : decode b_Model_text 86 = .ok (.ifCond .eq 7, 3) := by decide +kernel
theorem d_Model_text_89 : decode b_Model_text 89 = .ok (.iconst 1, 1) := by decide +kernel
theorem d_Model_text_90 : decode b_Model_text 90 = .ok (.goto 4, 3) := by decide +kernel
theorem d_Model_text_93 : decode b_Model_text 93 = .ok (.iconst 0, 1) := by decide +kernel
theorem d_Model_text_94 : decode b_Model_text 94 = .ok (.istore_n 1, 1) := by decide +kernel
theorem d_Model_text_95 : decode b_Model_text 95 = .ok (.iinc 2 (1), 3) := by decide +kernel
theorem d_Model_text_98 : decode b_Model_text 98 = .ok (.goto (-72), 3) := by decide +kernel
theorem d_Model_text_101 : decode b_Model_text 101 = .ok (.iload_n 1, 1) := by decide +kernel
theorem d_Model_text_102 : decode b_Model_text 102 = .ok (.ifCond .eq 20, 3) := by decide +kernel
theorem d_Model_text_105 : decode b_Model_text 105 = .ok (.aload_n 0, 1) := by decide +kernel
theorem d_Model_text_106 : decode b_Model_text 106 = .ok (.invokevirtual 119, 3) := by decide +kernel
theorem d_Model_text_109 : decode b_Model_text 109 = .ok (.aload_n 0, 1) := by decide +kernel
theorem d_Model_text_110 : decode b_Model_text 110 = .ok (.getfield 86, 3) := by decide +kernel
theorem d_Model_text_113 : decode b_Model_text 113 = .ok (.ifCond .ne 7, 3) := by decide +kernel
theorem d_Model_text_116 : decode b_Model_text 116 = .ok (.iconst 1, 1) := by decide +kernel
theorem d_Model_text_117 : decode b_Model_text 117 = .ok (.goto 4, 3) := by decide +kernel
theorem d_Model_text_120 : decode b_Model_text 120 = .ok (.iconst 0, 1) := by decide +kernel
theorem d_Model_text_121 : decode b_Model_text 121 = .ok (.istore_n 1, 1) := by decide +kernel
theorem d_Model_text_122 : decode b_Model_text 122 = .ok (.aload_n 0, 1) := by decide +kernel
theorem d_Model_text_123 : decode b_Model_text 123 = .ok (.getfield 25, 3) := by decide +kernel
theorem d_Model_text_126 : decode b_Model_text 126 = .ok (.iconst 4, 1) := by decide +kernel
theorem d_Model_text_127 : decode b_Model_text 127 = .ok (.aload_n 0, 1) := by decide +kernel
theorem d_Model_text_128 : decode b_Model_text 128 = .ok (.getfield 70, 3) := by decide +kernel
theorem d_Model_text_131 : decode b_Model_text 131 = .ok (.imul, 1) := by decide +kernel
theorem d_Model_text_132 : decode b_Model_text 132 = .ok (.iconst 3, 1) := by decide +kernel
theorem d_Model_text_133 : decode b_Model_text 133 = .ok (.iadd, 1) := by decide +kernel
theorem d_Model_text_134 : decode b_Model_text 134 = .ok (.aload_n 0, 1) := by decide +kernel
theorem d_Model_text_135 : decode b_Model_text 135 = .ok (.getfield 96, 3) := by decide +kernel
theorem d_Model_text_138 : decode b_Model_text 138 = .ok (.iastore, 1) := by decide +kernel
theorem d_Model_text_139 : decode b_Model_text 139 = .ok (.aload_n 0, 1) := by decide +kernel
theorem d_Model_text_140 : decode b_Model_text 140 = .ok (.iconst 0, 1) := by decide +kernel
theorem d_Model_text_141 : decode b_Model_text 141 = .ok (.putfield 55, 3) := by decide +kernel
theorem d_Model_text_144 : decode b_Model_text 144 = .ok (.iload_n 1, 1) := by decide +kernel
theorem d_Model_text_145 : decode b_Model_text 145 = .ok (.ifCond .ne 11, 3) := by decide +kernel
theorem d_Model_text_148 : decode b_Model_text 148 = .ok (.bipush (-100), 2) := by decide +kernel
theorem d_Model_text_150 : decode b_Model_text 150 = .ok (.aload_n 0, 1) := by decide +kernel
theorem d_Model_text_151 : decode b_Model_text 151 = .ok (.getfield 83, 3) := by decide +kernel
theorem d_Model_text_154 : decode b_Model_text 154 = .ok (.isub, 1) := by decide +kernel
theorem d_Model_text_155 : decode b_Model_text 155 = .ok (.ireturn, 1) := by decide +kernel
theorem d_Model_text_156 : decode b_Model_text 156 = .ok (.aload_n 0, 1) := by decide +kernel
theorem d_Model_text_157 : decode b_Model_text 157 = .ok (.dup, 1) := by decide +kernel
theorem d_Model_text_158 : decode b_Model_text 158 = .ok (.getfield 70, 3) := by decide +kernel
theorem d_Model_text_161 : decode b_Model_text 161 = .ok (.iconst 1, 1) := by decide +kernel
theorem d_Model_text_162 : decode b_Model_text 162 = .ok (.iadd, 1) := by decide +kernel
theorem d_Model_text_163 : decode b_Model_text 163 = .ok (.putfield 70, 3) := by decide +kernel
theorem d_Model_text_166 : decode b_Model_text 166 = .ok (.aload_n 0, 1) := by decide +kernel
theorem d_Model_text_167 : decode b_Model_text 167 = .ok (.getfield 70, 3) := by decide +kernel
theorem d_Model_text_170 : decode b_Model_text 170 = .ok (.iconst 1, 1) := by decide +kernel
theorem d_Model_text_171 : decode b_Model_text 171 = .ok (.isub, 1) := by decide +kernel
theorem d_Model_text_172 : decode b_Model_text 172 = .ok (.ireturn, 1) := by decide +kernel
abbrev b_Model_two : ByteArray := prog_8_method_21_code
def y_Model_two : MethodName := ⟨"RoundAndRoundModel", "two", "(III)I"⟩
theorem d_Model_two_0 : decode b_Model_two 0 = .ok (.iload_n 0, 1) := by decide +kernel
theorem d_Model_two_1 : decode b_Model_two 1 = .ok (.tableswitch 101 (11) (17) #[43, 57, 101, 71, 82, 93, 97], 43) := by decide +kernel
theorem d_Model_two_44 : decode b_Model_two 44 = .ok (.iload_n 1, 1) := by decide +kernel
theorem d_Model_two_45 : decode b_Model_two 45 = .ok (.ifCond .ne 7, 3) := by decide +kernel
theorem d_Model_two_48 : decode b_Model_two 48 = .ok (.iload_n 2, 1) := by decide +kernel
theorem d_Model_two_49 : decode b_Model_two 49 = .ok (.ifCond .eq 7, 3) := by decide +kernel
theorem d_Model_two_52 : decode b_Model_two 52 = .ok (.iconst 1, 1) := by decide +kernel
theorem d_Model_two_53 : decode b_Model_two 53 = .ok (.goto 4, 3) := by decide +kernel
theorem d_Model_two_56 : decode b_Model_two 56 = .ok (.iconst 0, 1) := by decide +kernel
theorem d_Model_two_57 : decode b_Model_two 57 = .ok (.ireturn, 1) := by decide +kernel
theorem d_Model_two_58 : decode b_Model_two 58 = .ok (.iload_n 1, 1) := by decide +kernel
theorem d_Model_two_59 : decode b_Model_two 59 = .ok (.ifCond .eq 11, 3) := by decide +kernel
theorem d_Model_two_62 : decode b_Model_two 62 = .ok (.iload_n 2, 1) := by decide +kernel
theorem d_Model_two_63 : decode b_Model_two 63 = .ok (.ifCond .eq 7, 3) := by decide +kernel
theorem d_Model_two_66 : decode b_Model_two 66 = .ok (.iconst 1, 1) := by decide +kernel
theorem d_Model_two_67 : decode b_Model_two 67 = .ok (.goto 4, 3) := by decide +kernel
theorem d_Model_two_70 : decode b_Model_two 70 = .ok (.iconst 0, 1) := by decide +kernel
theorem d_Model_two_71 : decode b_Model_two 71 = .ok (.ireturn, 1) := by decide +kernel
theorem d_Model_two_72 : decode b_Model_two 72 = .ok (.iload_n 1, 1) := by decide +kernel
theorem d_Model_two_73 : decode b_Model_two 73 = .ok (.iload_n 2, 1) := by decide +kernel
theorem d_Model_two_74 : decode b_Model_two 74 = .ok (.if_icmp .ge 7, 3) := by decide +kernel
theorem d_Model_two_77 : decode b_Model_two 77 = .ok (.iconst 1, 1) := by decide +kernel
theorem d_Model_two_78 : decode b_Model_two 78 = .ok (.goto 4, 3) := by decide +kernel
theorem d_Model_two_81 : decode b_Model_two 81 = .ok (.iconst 0, 1) := by decide +kernel
theorem d_Model_two_82 : decode b_Model_two 82 = .ok (.ireturn, 1) := by decide +kernel
theorem d_Model_two_83 : decode b_Model_two 83 = .ok (.iload_n 1, 1) := by decide +kernel
theorem d_Model_two_84 : decode b_Model_two 84 = .ok (.iload_n 2, 1) := by decide +kernel
theorem d_Model_two_85 : decode b_Model_two 85 = .ok (.if_icmp .ne 7, 3) := by decide +kernel
theorem d_Model_two_88 : decode b_Model_two 88 = .ok (.iconst 1, 1) := by decide +kernel
theorem d_Model_two_89 : decode b_Model_two 89 = .ok (.goto 4, 3) := by decide +kernel
theorem d_Model_two_92 : decode b_Model_two 92 = .ok (.iconst 0, 1) := by decide +kernel
theorem d_Model_two_93 : decode b_Model_two 93 = .ok (.ireturn, 1) := by decide +kernel
theorem d_Model_two_94 : decode b_Model_two 94 = .ok (.iload_n 1, 1) := by decide +kernel
theorem d_Model_two_95 : decode b_Model_two 95 = .ok (.iload_n 2, 1) := by decide +kernel
theorem d_Model_two_96 : decode b_Model_two 96 = .ok (.iadd, 1) := by decide +kernel
theorem d_Model_two_97 : decode b_Model_two 97 = .ok (.ireturn, 1) := by decide +kernel
theorem d_Model_two_98 : decode b_Model_two 98 = .ok (.iload_n 1, 1) := by decide +kernel
theorem d_Model_two_99 : decode b_Model_two 99 = .ok (.iload_n 2, 1) := by decide +kernel
theorem d_Model_two_100 : decode b_Model_two 100 = .ok (.isub, 1) := by decide +kernel
theorem d_Model_two_101 : decode b_Model_two 101 = .ok (.ireturn, 1) := by decide +kernel
theorem d_Model_two_102 : decode b_Model_two 102 = .ok (.iload_n 1, 1) := by decide +kernel
theorem d_Model_two_103 : decode b_Model_two 103 = .ok (.iload_n 2, 1) := by decide +kernel
theorem d_Model_two_104 : decode b_Model_two 104 = .ok (.imul, 1) := by decide +kernel
theorem d_Model_two_105 : decode b_Model_two 105 = .ok (.ireturn, 1) := by decide +kernel
abbrev b_Model_says : ByteArray := prog_8_method_22_code
def y_Model_says : MethodName := ⟨"RoundAndRoundModel", "says", "(I)I"⟩
theorem d_Model_says_0 : decode b_Model_says 0 = .ok (.iconst 0, 1) := by decide +kernel
theorem d_Model_says_1 : decode b_Model_says 1 = .ok (.istore_n 2, 1) := by decide +kernel
theorem d_Model_says_2 : decode b_Model_says 2 = .ok (.aload_n 0, 1) := by decide +kernel
theorem d_Model_says_3 : decode b_Model_says 3 = .ok (.getfield 25, 3) := by decide +kernel
theorem d_Model_says_6 : decode b_Model_says 6 = .ok (.iconst 4, 1) := by decide +kernel
theorem d_Model_says_7 : decode b_Model_says 7 = .ok (.aload_n 0, 1) := by decide +kernel
theorem d_Model_says_8 : decode b_Model_says 8 = .ok (.getfield 73, 3) := by decide +kernel
theorem d_Model_says_11 : decode b_Model_says 11 = .ok (.imul, 1) := by decide +kernel
theorem d_Model_says_12 : decode b_Model_says 12 = .ok (.iload_n 1, 1) := by decide +kernel
theorem d_Model_says_13 : decode b_Model_says 13 = .ok (.iadd, 1) := by decide +kernel
theorem d_Model_says_14 : decode b_Model_says 14 = .ok (.iaload, 1) := by decide +kernel
theorem d_Model_says_15 : decode b_Model_says 15 = .ok (.istore_n 3, 1) := by decide +kernel
theorem d_Model_says_16 : decode b_Model_says 16 = .ok (.iload_n 3, 1) := by decide +kernel
theorem d_Model_says_17 : decode b_Model_says 17 = .ok (.aload_n 0, 1) := by decide +kernel
theorem d_Model_says_18 : decode b_Model_says 18 = .ok (.getfield 25, 3) := by decide +kernel
theorem d_Model_says_21 : decode b_Model_says 21 = .ok (.iconst 4, 1) := by decide +kernel
theorem d_Model_says_22 : decode b_Model_says 22 = .ok (.aload_n 0, 1) := by decide +kernel
theorem d_Model_says_23 : decode b_Model_says 23 = .ok (.getfield 73, 3) := by decide +kernel
theorem d_Model_says_26 : decode b_Model_says 26 = .ok (.imul, 1) := by decide +kernel
theorem d_Model_says_27 : decode b_Model_says 27 = .ok (.iload_n 1, 1) := by decide +kernel
theorem d_Model_says_28 : decode b_Model_says 28 = .ok (.iadd, 1) := by decide +kernel
theorem d_Model_says_29 : decode b_Model_says 29 = .ok (.iconst 1, 1) := by decide +kernel
theorem d_Model_says_30 : decode b_Model_says 30 = .ok (.iadd, 1) := by decide +kernel
theorem d_Model_says_31 : decode b_Model_says 31 = .ok (.iaload, 1) := by decide +kernel
theorem d_Model_says_32 : decode b_Model_says 32 = .ok (.if_icmp .ge 165, 3) := by decide +kernel
theorem d_Model_says_35 : decode b_Model_says 35 = .ok (.aload_n 0, 1) := by decide +kernel
theorem d_Model_says_36 : decode b_Model_says 36 = .ok (.getfield 22, 3) := by decide +kernel
theorem d_Model_says_39 : decode b_Model_says 39 = .ok (.sipush (200), 3) := by decide +kernel
theorem d_Model_says_42 : decode b_Model_says 42 = .ok (.aload_n 0, 1) := by decide +kernel
theorem d_Model_says_43 : decode b_Model_says 43 = .ok (.getfield 73, 3) := by decide +kernel
theorem d_Model_says_46 : decode b_Model_says 46 = .ok (.imul, 1) := by decide +kernel
theorem d_Model_says_47 : decode b_Model_says 47 = .ok (.iload_n 3, 1) := by decide +kernel
theorem d_Model_says_48 : decode b_Model_says 48 = .ok (.iadd, 1) := by decide +kernel
theorem d_Model_says_49 : decode b_Model_says 49 = .ok (.iaload, 1) := by decide +kernel
theorem d_Model_says_50 : decode b_Model_says 50 = .ok (.istore 4, 2) := by decide +kernel
theorem d_Model_says_52 : decode b_Model_says 52 = .ok (.iload 4, 2) := by decide +kernel
theorem d_Model_says_54 : decode b_Model_says 54 = .ok (.ldc 122, 2) := by decide +kernel
theorem d_Model_says_56 : decode b_Model_says 56 = .ok (.if_icmp .ge 10, 3) := by decide +kernel
theorem d_Model_says_59 : decode b_Model_says 59 = .ok (.iload 4, 2) := by decide +kernel
theorem d_Model_says_61 : decode b_Model_says 61 = .ok (.bipush (11), 2) := by decide +kernel
theorem d_Model_says_63 : decode b_Model_says 63 = .ok (.if_icmp .ge 37, 3) := by decide +kernel
theorem d_Model_says_66 : decode b_Model_says 66 = .ok (.aload_n 0, 1) := by decide +kernel
theorem d_Model_says_67 : decode b_Model_says 67 = .ok (.getfield 49, 3) := by decide +kernel
theorem d_Model_says_70 : decode b_Model_says 70 = .ok (.iload_n 2, 1) := by decide +kernel
theorem d_Model_says_71 : decode b_Model_says 71 = .ok (.iload 4, 2) := by decide +kernel
theorem d_Model_says_73 : decode b_Model_says 73 = .ok (.bipush (11), 2) := by decide +kernel
theorem d_Model_says_75 : decode b_Model_says 75 = .ok (.if_icmp .ge 13, 3) := by decide +kernel
theorem d_Model_says_78 : decode b_Model_says 78 = .ok (.aload_n 0, 1) := by decide +kernel
theorem d_Model_says_79 : decode b_Model_says 79 = .ok (.getfield 52, 3) := by decide +kernel
theorem d_Model_says_82 : decode b_Model_says 82 = .ok (.iload 4, 2) := by decide +kernel
theorem d_Model_says_84 : decode b_Model_says 84 = .ok (.iaload, 1) := by decide +kernel
theorem d_Model_says_85 : decode b_Model_says 85 = .ok (.goto 8, 3) := by decide +kernel
theorem d_Model_says_88 : decode b_Model_says 88 = .ok (.iload 4, 2) := by decide +kernel
theorem d_Model_says_90 : decode b_Model_says 90 = .ok (.ldc 122, 2) := by decide +kernel
theorem d_Model_says_92 : decode b_Model_says 92 = .ok (.isub, 1) := by decide +kernel
theorem d_Model_says_93 : decode b_Model_says 93 = .ok (.iastore, 1) := by decide +kernel
theorem d_Model_says_94 : decode b_Model_says 94 = .ok (.iinc 2 (1), 3) := by decide +kernel
theorem d_Model_says_97 : decode b_Model_says 97 = .ok (.goto 94, 3) := by decide +kernel
theorem d_Model_says_100 : decode b_Model_says 100 = .ok (.iload 4, 2) := by decide +kernel
theorem d_Model_says_102 : decode b_Model_says 102 = .ok (.bipush (13), 2) := by decide +kernel
theorem d_Model_says_104 : decode b_Model_says 104 = .ok (.if_icmp .ne 30, 3) := by decide +kernel
theorem d_Model_says_107 : decode b_Model_says 107 = .ok (.aload_n 0, 1) := by decide +kernel
theorem d_Model_says_108 : decode b_Model_says 108 = .ok (.getfield 49, 3) := by decide +kernel
theorem d_Model_says_111 : decode b_Model_says 111 = .ok (.iload_n 2, 1) := by decide +kernel
theorem d_Model_says_112 : decode b_Model_says 112 = .ok (.iconst 1, 1) := by decide +kernel
theorem d_Model_says_113 : decode b_Model_says 113 = .ok (.isub, 1) := by decide +kernel
theorem d_Model_says_114 : decode b_Model_says 114 = .ok (.aload_n 0, 1) := by decide +kernel
theorem d_Model_says_115 : decode b_Model_says 115 = .ok (.getfield 49, 3) := by decide +kernel
theorem d_Model_says_118 : decode b_Model_says 118 = .ok (.iload_n 2, 1) := by decide +kernel
theorem d_Model_says_119 : decode b_Model_says 119 = .ok (.iconst 1, 1) := by decide +kernel
theorem d_Model_says_120 : decode b_Model_says 120 = .ok (.isub, 1) := by decide +kernel
theorem d_Model_says_121 : decode b_Model_says 121 = .ok (.iaload, 1) := by decide +kernel
theorem d_Model_says_122 : decode b_Model_says 122 = .ok (.ifCond .ne 7, 3) := by decide +kernel
theorem d_Model_says_125 : decode b_Model_says 125 = .ok (.iconst 1, 1) := by decide +kernel
theorem d_Model_says_126 : decode b_Model_says 126 = .ok (.goto 4, 3) := by decide +kernel
theorem d_Model_says_129 : decode b_Model_says 129 = .ok (.iconst 0, 1) := by decide +kernel
theorem d_Model_says_130 : decode b_Model_says 130 = .ok (.iastore, 1) := by decide +kernel
theorem d_Model_says_131 : decode b_Model_says 131 = .ok (.goto 60, 3) := by decide +kernel
theorem d_Model_says_134 : decode b_Model_says 134 = .ok (.iload 4, 2) := by decide +kernel
theorem d_Model_says_136 : decode b_Model_says 136 = .ok (.bipush (19), 2) := by decide +kernel
theorem d_Model_says_138 : decode b_Model_says 138 = .ok (.if_icmp .ne 23, 3) := by decide +kernel
theorem d_Model_says_141 : decode b_Model_says 141 = .ok (.aload_n 0, 1) := by decide +kernel
theorem d_Model_says_142 : decode b_Model_says 142 = .ok (.getfield 49, 3) := by decide +kernel
theorem d_Model_says_145 : decode b_Model_says 145 = .ok (.iload_n 2, 1) := by decide +kernel
theorem d_Model_says_146 : decode b_Model_says 146 = .ok (.iconst 1, 1) := by decide +kernel
theorem d_Model_says_147 : decode b_Model_says 147 = .ok (.isub, 1) := by decide +kernel
theorem d_Model_says_148 : decode b_Model_says 148 = .ok (.aload_n 0, 1) := by decide +kernel
theorem d_Model_says_149 : decode b_Model_says 149 = .ok (.getfield 49, 3) := by decide +kernel
theorem d_Model_says_152 : decode b_Model_says 152 = .ok (.iload_n 2, 1) := by decide +kernel
theorem d_Model_says_153 : decode b_Model_says 153 = .ok (.iconst 1, 1) := by decide +kernel
theorem d_Model_says_154 : decode b_Model_says 154 = .ok (.isub, 1) := by decide +kernel
theorem d_Model_says_155 : decode b_Model_says 155 = .ok (.iaload, 1) := by decide +kernel
theorem d_Model_says_156 : decode b_Model_says 156 = .ok (.ineg, 1) := by decide +kernel
theorem d_Model_says_157 : decode b_Model_says 157 = .ok (.iastore, 1) := by decide +kernel
theorem d_Model_says_158 : decode b_Model_says 158 = .ok (.goto 33, 3) := by decide +kernel
theorem d_Model_says_161 : decode b_Model_says 161 = .ok (.iinc 2 (-1), 3) := by decide +kernel
theorem d_Model_says_164 : decode b_Model_says 164 = .ok (.aload_n 0, 1) := by decide +kernel
theorem d_Model_says_165 : decode b_Model_says 165 = .ok (.getfield 49, 3) := by decide +kernel
theorem d_Model_says_168 : decode b_Model_says 168 = .ok (.iload_n 2, 1) := by decide +kernel
theorem d_Model_says_169 : decode b_Model_says 169 = .ok (.iconst 1, 1) := by decide +kernel
theorem d_Model_says_170 : decode b_Model_says 170 = .ok (.isub, 1) := by decide +kernel
theorem d_Model_says_171 : decode b_Model_says 171 = .ok (.iload 4, 2) := by decide +kernel
theorem d_Model_says_173 : decode b_Model_says 173 = .ok (.aload_n 0, 1) := by decide +kernel
theorem d_Model_says_174 : decode b_Model_says 174 = .ok (.getfield 49, 3) := by decide +kernel
theorem d_Model_says_177 : decode b_Model_says 177 = .ok (.iload_n 2, 1) := by decide +kernel
theorem d_Model_says_178 : decode b_Model_says 178 = .ok (.iconst 1, 1) := by decide +kernel
theorem d_Model_says_179 : decode b_Model_says 179 = .ok (.isub, 1) := by decide +kernel
theorem d_Model_says_180 : decode b_Model_says 180 = .ok (.iaload, 1) := by decide +kernel
theorem d_Model_says_181 : decode b_Model_says 181 = .ok (.aload_n 0, 1) := by decide +kernel
theorem d_Model_says_182 : decode b_Model_says 182 = .ok (.getfield 49, 3) := by decide +kernel
theorem d_Model_says_185 : decode b_Model_says 185 = .ok (.iload_n 2, 1) := by decide +kernel
theorem d_Model_says_186 : decode b_Model_says 186 = .ok (.iaload, 1) := by decide +kernel
theorem d_Model_says_187 : decode b_Model_says 187 = .ok (.invokestatic 136, 3) := by decide +kernel
theorem d_Model_says_190 : decode b_Model_says 190 = .ok (.iastore, 1) := by decide +kernel
theorem d_Model_says_191 : decode b_Model_says 191 = .ok (.iinc 3 (1), 3) := by decide +kernel
theorem d_Model_says_194 : decode b_Model_says 194 = .ok (.goto (-178), 3) := by decide +kernel
theorem d_Model_says_197 : decode b_Model_says 197 = .ok (.aload_n 0, 1) := by decide +kernel
theorem d_Model_says_198 : decode b_Model_says 198 = .ok (.getfield 49, 3) := by decide +kernel
theorem d_Model_says_201 : decode b_Model_says 201 = .ok (.iconst 0, 1) := by decide +kernel
theorem d_Model_says_202 : decode b_Model_says 202 = .ok (.iaload, 1) := by decide +kernel
theorem d_Model_says_203 : decode b_Model_says 203 = .ok (.ireturn, 1) := by decide +kernel
abbrev b_Model_force : ByteArray := prog_8_method_23_code
def y_Model_force : MethodName := ⟨"RoundAndRoundModel", "force", "(I)I"⟩
theorem d_Model_force_0 : decode b_Model_force 0 = .ok (.iload_n 1, 1) := by decide +kernel
theorem d_Model_force_1 : decode b_Model_force 1 = .ok (.iconst 0, 1) := by decide +kernel
theorem d_Model_force_2 : decode b_Model_force 2 = .ok (.aload_n 0, 1) := by decide +kernel
theorem d_Model_force_3 : decode b_Model_force 3 = .ok (.getfield 70, 3) := by decide +kernel
theorem d_Model_force_6 : decode b_Model_force 6 = .ok (.iconst 1, 1) := by decide +kernel
theorem d_Model_force_7 : decode b_Model_force 7 = .ok (.isub, 1) := by decide +kernel
theorem d_Model_force_8 : decode b_Model_force 8 = .ok (.invokestatic 66, 3) := by decide +kernel
theorem d_Model_force_11 : decode b_Model_force 11 = .ok (.ifCond .ne 6, 3) := by decide +kernel
theorem d_Model_force_14 : decode b_Model_force 14 = .ok (.bipush (-2), 2) := by decide +kernel
theorem d_Model_force_16 : decode b_Model_force 16 = .ok (.ireturn, 1) := by decide +kernel
theorem d_Model_force_17 : decode b_Model_force 17 = .ok (.aload_n 0, 1) := by decide +kernel
theorem d_Model_force_18 : decode b_Model_force 18 = .ok (.getfield 73, 3) := by decide +kernel
theorem d_Model_force_21 : decode b_Model_force 21 = .ok (.istore_n 2, 1) := by decide +kernel
theorem d_Model_force_22 : decode b_Model_force 22 = .ok (.aload_n 0, 1) := by decide +kernel
theorem d_Model_force_23 : decode b_Model_force 23 = .ok (.iload_n 1, 1) := by decide +kernel
theorem d_Model_force_24 : decode b_Model_force 24 = .ok (.putfield 73, 3) := by decide +kernel
theorem d_Model_force_27 : decode b_Model_force 27 = .ok (.iload_n 2, 1) := by decide +kernel
theorem d_Model_force_28 : decode b_Model_force 28 = .ok (.ireturn, 1) := by decide +kernel
abbrev b_Model_asksOf : ByteArray := prog_8_method_24_code
def y_Model_asksOf : MethodName := ⟨"RoundAndRoundModel", "asksOf", "(IIII)I"⟩
theorem d_Model_asksOf_0 : decode b_Model_asksOf 0 = .ok (.aload_n 0, 1) := by decide +kernel
theorem d_Model_asksOf_1 : decode b_Model_asksOf 1 = .ok (.getfield 52, 3) := by decide +kernel
theorem d_Model_asksOf_4 : decode b_Model_asksOf 4 = .ok (.iconst 0, 1) := by decide +kernel
theorem d_Model_asksOf_5 : decode b_Model_asksOf 5 = .ok (.iload_n 3, 1) := by decide +kernel
theorem d_Model_asksOf_6 : decode b_Model_asksOf 6 = .ok (.iastore, 1) := by decide +kernel
theorem d_Model_asksOf_7 : decode b_Model_asksOf 7 = .ok (.aload_n 0, 1) := by decide +kernel
theorem d_Model_asksOf_8 : decode b_Model_asksOf 8 = .ok (.getfield 52, 3) := by decide +kernel
theorem d_Model_asksOf_11 : decode b_Model_asksOf 11 = .ok (.iconst 1, 1) := by decide +kernel
theorem d_Model_asksOf_12 : decode b_Model_asksOf 12 = .ok (.aload_n 0, 1) := by decide +kernel
theorem d_Model_asksOf_13 : decode b_Model_asksOf 13 = .ok (.getfield 16, 3) := by decide +kernel
theorem d_Model_asksOf_16 : decode b_Model_asksOf 16 = .ok (.bipush (6), 2) := by decide +kernel
theorem d_Model_asksOf_18 : decode b_Model_asksOf 18 = .ok (.iload_n 2, 1) := by decide +kernel
theorem d_Model_asksOf_19 : decode b_Model_asksOf 19 = .ok (.imul, 1) := by decide +kernel
theorem d_Model_asksOf_20 : decode b_Model_asksOf 20 = .ok (.iconst 1, 1) := by decide +kernel
theorem d_Model_asksOf_21 : decode b_Model_asksOf 21 = .ok (.iadd, 1) := by decide +kernel
theorem d_Model_asksOf_22 : decode b_Model_asksOf 22 = .ok (.iaload, 1) := by decide +kernel
theorem d_Model_asksOf_23 : decode b_Model_asksOf 23 = .ok (.iastore, 1) := by decide +kernel
theorem d_Model_asksOf_24 : decode b_Model_asksOf 24 = .ok (.aload_n 0, 1) := by decide +kernel
theorem d_Model_asksOf_25 : decode b_Model_asksOf 25 = .ok (.getfield 52, 3) := by decide +kernel
theorem d_Model_asksOf_28 : decode b_Model_asksOf 28 = .ok (.iconst 2, 1) := by decide +kernel
theorem d_Model_asksOf_29 : decode b_Model_asksOf 29 = .ok (.aload_n 0, 1) := by decide +kernel
theorem d_Model_asksOf_30 : decode b_Model_asksOf 30 = .ok (.getfield 16, 3) := by decide +kernel
theorem d_Model_asksOf_33 : decode b_Model_asksOf 33 = .ok (.bipush (6), 2) := by decide +kernel
theorem d_Model_asksOf_35 : decode b_Model_asksOf 35 = .ok (.iload_n 2, 1) := by decide +kernel
theorem d_Model_asksOf_36 : decode b_Model_asksOf 36 = .ok (.imul, 1) := by decide +kernel
theorem d_Model_asksOf_37 : decode b_Model_asksOf 37 = .ok (.iconst 2, 1) := by decide +kernel
theorem d_Model_asksOf_38 : decode b_Model_asksOf 38 = .ok (.iadd, 1) := by decide +kernel
theorem d_Model_asksOf_39 : decode b_Model_asksOf 39 = .ok (.iaload, 1) := by decide +kernel
theorem d_Model_asksOf_40 : decode b_Model_asksOf 40 = .ok (.iastore, 1) := by decide +kernel
theorem d_Model_asksOf_41 : decode b_Model_asksOf 41 = .ok (.aload_n 0, 1) := by decide +kernel
theorem d_Model_asksOf_42 : decode b_Model_asksOf 42 = .ok (.getfield 52, 3) := by decide +kernel
theorem d_Model_asksOf_45 : decode b_Model_asksOf 45 = .ok (.iconst 3, 1) := by decide +kernel
theorem d_Model_asksOf_46 : decode b_Model_asksOf 46 = .ok (.aload_n 0, 1) := by decide +kernel
theorem d_Model_asksOf_47 : decode b_Model_asksOf 47 = .ok (.getfield 13, 3) := by decide +kernel
theorem d_Model_asksOf_50 : decode b_Model_asksOf 50 = .ok (.iload_n 2, 1) := by decide +kernel
theorem d_Model_asksOf_51 : decode b_Model_asksOf 51 = .ok (.iaload, 1) := by decide +kernel
theorem d_Model_asksOf_52 : decode b_Model_asksOf 52 = .ok (.iastore, 1) := by decide +kernel
theorem d_Model_asksOf_53 : decode b_Model_asksOf 53 = .ok (.aload_n 0, 1) := by decide +kernel
theorem d_Model_asksOf_54 : decode b_Model_asksOf 54 = .ok (.getfield 52, 3) := by decide +kernel
theorem d_Model_asksOf_57 : decode b_Model_asksOf 57 = .ok (.iconst 4, 1) := by decide +kernel
theorem d_Model_asksOf_58 : decode b_Model_asksOf 58 = .ok (.aload_n 0, 1) := by decide +kernel
theorem d_Model_asksOf_59 : decode b_Model_asksOf 59 = .ok (.getfield 140, 3) := by decide +kernel
theorem d_Model_asksOf_62 : decode b_Model_asksOf 62 = .ok (.iastore, 1) := by decide +kernel
theorem d_Model_asksOf_63 : decode b_Model_asksOf 63 = .ok (.aload_n 0, 1) := by decide +kernel
theorem d_Model_asksOf_64 : decode b_Model_asksOf 64 = .ok (.getfield 52, 3) := by decide +kernel
theorem d_Model_asksOf_67 : decode b_Model_asksOf 67 = .ok (.iconst 5, 1) := by decide +kernel
theorem d_Model_asksOf_68 : decode b_Model_asksOf 68 = .ok (.iload 4, 2) := by decide +kernel
theorem d_Model_asksOf_70 : decode b_Model_asksOf 70 = .ok (.iastore, 1) := by decide +kernel
theorem d_Model_asksOf_71 : decode b_Model_asksOf 71 = .ok (.aload_n 0, 1) := by decide +kernel
theorem d_Model_asksOf_72 : decode b_Model_asksOf 72 = .ok (.iload_n 1, 1) := by decide +kernel
theorem d_Model_asksOf_73 : decode b_Model_asksOf 73 = .ok (.invokevirtual 143, 3) := by decide +kernel
theorem d_Model_asksOf_76 : decode b_Model_asksOf 76 = .ok (.iconst 0, 1) := by decide +kernel
theorem d_Model_asksOf_77 : decode b_Model_asksOf 77 = .ok (.iload_n 1, 1) := by decide +kernel
theorem d_Model_asksOf_78 : decode b_Model_asksOf 78 = .ok (.iconst 1, 1) := by decide +kernel
theorem d_Model_asksOf_79 : decode b_Model_asksOf 79 = .ok (.if_icmp .ne 8, 3) := by decide +kernel
theorem d_Model_asksOf_82 : decode b_Model_asksOf 82 = .ok (.bipush (100), 2) := by decide +kernel
theorem d_Model_asksOf_84 : decode b_Model_asksOf 84 = .ok (.goto 6, 3) := by decide +kernel
theorem d_Model_asksOf_87 : decode b_Model_asksOf 87 = .ok (.sipush (999), 3) := by decide +kernel
theorem d_Model_asksOf_90 : decode b_Model_asksOf 90 = .ok (.invokestatic 146, 3) := by decide +kernel
theorem d_Model_asksOf_93 : decode b_Model_asksOf 93 = .ok (.ireturn, 1) := by decide +kernel
abbrev b_Model_asks : ByteArray := prog_8_method_25_code
def y_Model_asks : MethodName := ⟨"RoundAndRoundModel", "asks", "(III)I"⟩
theorem d_Model_asks_0 : decode b_Model_asks 0 = .ok (.iload_n 1, 1) := by decide +kernel
theorem d_Model_asks_1 : decode b_Model_asks 1 = .ok (.iconst 0, 1) := by decide +kernel
theorem d_Model_asks_2 : decode b_Model_asks 2 = .ok (.iconst 2, 1) := by decide +kernel
theorem d_Model_asks_3 : decode b_Model_asks 3 = .ok (.invokestatic 66, 3) := by decide +kernel
theorem d_Model_asks_6 : decode b_Model_asks 6 = .ok (.ifCond .eq 29, 3) := by decide +kernel
theorem d_Model_asks_9 : decode b_Model_asks 9 = .ok (.aload_n 0, 1) := by decide +kernel
theorem d_Model_asks_10 : decode b_Model_asks 10 = .ok (.iload_n 2, 1) := by decide +kernel
theorem d_Model_asks_11 : decode b_Model_asks 11 = .ok (.invokevirtual 149, 3) := by decide +kernel
theorem d_Model_asks_14 : decode b_Model_asks 14 = .ok (.ifCond .eq 21, 3) := by decide +kernel
theorem d_Model_asks_17 : decode b_Model_asks 17 = .ok (.iload_n 3, 1) := by decide +kernel
theorem d_Model_asks_18 : decode b_Model_asks 18 = .ok (.iconst 0, 1) := by decide +kernel
theorem d_Model_asks_19 : decode b_Model_asks 19 = .ok (.bipush (91), 2) := by decide +kernel
theorem d_Model_asks_21 : decode b_Model_asks 21 = .ok (.invokestatic 66, 3) := by decide +kernel
theorem d_Model_asks_24 : decode b_Model_asks 24 = .ok (.ifCond .eq 11, 3) := by decide +kernel
theorem d_Model_asks_27 : decode b_Model_asks 27 = .ok (.iload_n 3, 1) := by decide +kernel
theorem d_Model_asks_28 : decode b_Model_asks 28 = .ok (.bipush (10), 2) := by decide +kernel
theorem d_Model_asks_30 : decode b_Model_asks 30 = .ok (.irem, 1) := by decide +kernel
theorem d_Model_asks_31 : decode b_Model_asks 31 = .ok (.iconst 1, 1) := by decide +kernel
theorem d_Model_asks_32 : decode b_Model_asks 32 = .ok (.if_icmp .le 6, 3) := by decide +kernel
theorem d_Model_asks_35 : decode b_Model_asks 35 = .ok (.bipush (-2), 2) := by decide +kernel
theorem d_Model_asks_37 : decode b_Model_asks 37 = .ok (.ireturn, 1) := by decide +kernel
theorem d_Model_asks_38 : decode b_Model_asks 38 = .ok (.aload_n 0, 1) := by decide +kernel
theorem d_Model_asks_39 : decode b_Model_asks 39 = .ok (.aload_n 0, 1) := by decide +kernel
theorem d_Model_asks_40 : decode b_Model_asks 40 = .ok (.getfield 16, 3) := by decide +kernel
theorem d_Model_asks_43 : decode b_Model_asks 43 = .ok (.bipush (6), 2) := by decide +kernel
theorem d_Model_asks_45 : decode b_Model_asks 45 = .ok (.iload_n 2, 1) := by decide +kernel
theorem d_Model_asks_46 : decode b_Model_asks 46 = .ok (.imul, 1) := by decide +kernel
theorem d_Model_asks_47 : decode b_Model_asks 47 = .ok (.iaload, 1) := by decide +kernel
theorem d_Model_asks_48 : decode b_Model_asks 48 = .ok (.putfield 140, 3) := by decide +kernel
theorem d_Model_asks_51 : decode b_Model_asks 51 = .ok (.aload_n 0, 1) := by decide +kernel
theorem d_Model_asks_52 : decode b_Model_asks 52 = .ok (.iload_n 1, 1) := by decide +kernel
theorem d_Model_asks_53 : decode b_Model_asks 53 = .ok (.iload_n 2, 1) := by decide +kernel
theorem d_Model_asks_54 : decode b_Model_asks 54 = .ok (.iload_n 3, 1) := by decide +kernel
theorem d_Model_asks_55 : decode b_Model_asks 55 = .ok (.bipush (10), 2) := by decide +kernel
theorem d_Model_asks_57 : decode b_Model_asks 57 = .ok (.idiv, 1) := by decide +kernel
theorem d_Model_asks_58 : decode b_Model_asks 58 = .ok (.iload_n 3, 1) := by decide +kernel
theorem d_Model_asks_59 : decode b_Model_asks 59 = .ok (.bipush (10), 2) := by decide +kernel
theorem d_Model_asks_61 : decode b_Model_asks 61 = .ok (.irem, 1) := by decide +kernel
theorem d_Model_asks_62 : decode b_Model_asks 62 = .ok (.invokevirtual 152, 3) := by decide +kernel
theorem d_Model_asks_65 : decode b_Model_asks 65 = .ok (.ireturn, 1) := by decide +kernel
abbrev b_Model_head : ByteArray := prog_8_method_26_code
def y_Model_head : MethodName := ⟨"RoundAndRoundModel", "head", "(II)I"⟩
theorem d_Model_head_0 : decode b_Model_head 0 = .ok (.iload_n 1, 1) := by decide +kernel
theorem d_Model_head_1 : decode b_Model_head 1 = .ok (.iconst 0, 1) := by decide +kernel
theorem d_Model_head_2 : decode b_Model_head 2 = .ok (.iconst 5, 1) := by decide +kernel
theorem d_Model_head_3 : decode b_Model_head 3 = .ok (.invokestatic 66, 3) := by decide +kernel
theorem d_Model_head_6 : decode b_Model_head 6 = .ok (.ifCond .eq 13, 3) := by decide +kernel
theorem d_Model_head_9 : decode b_Model_head 9 = .ok (.iload_n 2, 1) := by decide +kernel
theorem d_Model_head_10 : decode b_Model_head 10 = .ok (.iconst 0, 1) := by decide +kernel
theorem d_Model_head_11 : decode b_Model_head 11 = .ok (.bipush (9), 2) := by decide +kernel
theorem d_Model_head_13 : decode b_Model_head 13 = .ok (.invokestatic 66, 3) := by decide +kernel
theorem d_Model_head_16 : decode b_Model_head 16 = .ok (.ifCond .ne 6, 3) := by decide +kernel
theorem d_Model_head_19 : decode b_Model_head 19 = .ok (.bipush (-2), 2) := by decide +kernel
theorem d_Model_head_21 : decode b_Model_head 21 = .ok (.ireturn, 1) := by decide +kernel
theorem d_Model_head_22 : decode b_Model_head 22 = .ok (.aload_n 0, 1) := by decide +kernel
theorem d_Model_head_23 : decode b_Model_head 23 = .ok (.getfield 63, 3) := by decide +kernel
theorem d_Model_head_26 : decode b_Model_head 26 = .ok (.iconst 5, 1) := by decide +kernel
theorem d_Model_head_27 : decode b_Model_head 27 = .ok (.if_icmp .ne 6, 3) := by decide +kernel
theorem d_Model_head_30 : decode b_Model_head 30 = .ok (.bipush (-4), 2) := by decide +kernel
theorem d_Model_head_32 : decode b_Model_head 32 = .ok (.ireturn, 1) := by decide +kernel
theorem d_Model_head_33 : decode b_Model_head 33 = .ok (.aload_n 0, 1) := by decide +kernel
theorem d_Model_head_34 : decode b_Model_head 34 = .ok (.getfield 7, 3) := by decide +kernel
theorem d_Model_head_37 : decode b_Model_head 37 = .ok (.aload_n 0, 1) := by decide +kernel
theorem d_Model_head_38 : decode b_Model_head 38 = .ok (.getfield 63, 3) := by decide +kernel
theorem d_Model_head_41 : decode b_Model_head 41 = .ok (.iload_n 1, 1) := by decide +kernel
theorem d_Model_head_42 : decode b_Model_head 42 = .ok (.iastore, 1) := by decide +kernel
theorem d_Model_head_43 : decode b_Model_head 43 = .ok (.aload_n 0, 1) := by decide +kernel
theorem d_Model_head_44 : decode b_Model_head 44 = .ok (.getfield 13, 3) := by decide +kernel
theorem d_Model_head_47 : decode b_Model_head 47 = .ok (.aload_n 0, 1) := by decide +kernel
theorem d_Model_head_48 : decode b_Model_head 48 = .ok (.getfield 63, 3) := by decide +kernel
theorem d_Model_head_51 : decode b_Model_head 51 = .ok (.iload_n 2, 1) := by decide +kernel
theorem d_Model_head_52 : decode b_Model_head 52 = .ok (.iastore, 1) := by decide +kernel
theorem d_Model_head_53 : decode b_Model_head 53 = .ok (.iconst 0, 1) := by decide +kernel
theorem d_Model_head_54 : decode b_Model_head 54 = .ok (.istore_n 3, 1) := by decide +kernel
theorem d_Model_head_55 : decode b_Model_head 55 = .ok (.iload_n 3, 1) := by decide +kernel
theorem d_Model_head_56 : decode b_Model_head 56 = .ok (.bipush (6), 2) := by decide +kernel
theorem d_Model_head_58 : decode b_Model_head 58 = .ok (.if_icmp .ge 24, 3) := by decide +kernel
theorem d_Model_head_61 : decode b_Model_head 61 = .ok (.aload_n 0, 1) := by decide +kernel
theorem d_Model_head_62 : decode b_Model_head 62 = .ok (.getfield 16, 3) := by decide +kernel
theorem d_Model_head_65 : decode b_Model_head 65 = .ok (.bipush (6), 2) := by decide +kernel
theorem d_Model_head_67 : decode b_Model_head 67 = .ok (.aload_n 0, 1) := by decide +kernel
theorem d_Model_head_68 : decode b_Model_head 68 = .ok (.getfield 63, 3) := by decide +kernel
theorem d_Model_head_71 : decode b_Model_head 71 = .ok (.imul, 1) := by decide +kernel
theorem d_Model_head_72 : decode b_Model_head 72 = .ok (.iload_n 3, 1) := by decide +kernel
theorem d_Model_head_73 : decode b_Model_head 73 = .ok (.iadd, 1) := by decide +kernel
theorem d_Model_head_74 : decode b_Model_head 74 = .ok (.iconst 0, 1) := by decide +kernel
theorem d_Model_head_75 : decode b_Model_head 75 = .ok (.iastore, 1) := by decide +kernel
theorem d_Model_head_76 : decode b_Model_head 76 = .ok (.iinc 3 (1), 3) := by decide +kernel
theorem d_Model_head_79 : decode b_Model_head 79 = .ok (.goto (-24), 3) := by decide +kernel
theorem d_Model_head_82 : decode b_Model_head 82 = .ok (.aload_n 0, 1) := by decide +kernel
theorem d_Model_head_83 : decode b_Model_head 83 = .ok (.dup, 1) := by decide +kernel
theorem d_Model_head_84 : decode b_Model_head 84 = .ok (.getfield 63, 3) := by decide +kernel
theorem d_Model_head_87 : decode b_Model_head 87 = .ok (.iconst 1, 1) := by decide +kernel
theorem d_Model_head_88 : decode b_Model_head 88 = .ok (.iadd, 1) := by decide +kernel
theorem d_Model_head_89 : decode b_Model_head 89 = .ok (.putfield 63, 3) := by decide +kernel
theorem d_Model_head_92 : decode b_Model_head 92 = .ok (.aload_n 0, 1) := by decide +kernel
theorem d_Model_head_93 : decode b_Model_head 93 = .ok (.getfield 63, 3) := by decide +kernel
theorem d_Model_head_96 : decode b_Model_head 96 = .ok (.iconst 1, 1) := by decide +kernel
theorem d_Model_head_97 : decode b_Model_head 97 = .ok (.isub, 1) := by decide +kernel
theorem d_Model_head_98 : decode b_Model_head 98 = .ok (.ireturn, 1) := by decide +kernel
abbrev b_Model_set : ByteArray := prog_8_method_27_code
def y_Model_set : MethodName := ⟨"RoundAndRoundModel", "set", "(III)I"⟩
theorem d_Model_set_0 : decode b_Model_set 0 = .ok (.aload_n 0, 1) := by decide +kernel
theorem d_Model_set_1 : decode b_Model_set 1 = .ok (.iload_n 1, 1) := by decide +kernel
theorem d_Model_set_2 : decode b_Model_set 2 = .ok (.invokevirtual 149, 3) := by decide +kernel
theorem d_Model_set_5 : decode b_Model_set 5 = .ok (.ifCond .ne 6, 3) := by decide +kernel
theorem d_Model_set_8 : decode b_Model_set 8 = .ok (.ldc 156, 2) := by decide +kernel
theorem d_Model_set_10 : decode b_Model_set 10 = .ok (.ireturn, 1) := by decide +kernel
theorem d_Model_set_11 : decode b_Model_set 11 = .ok (.iload_n 2, 1) := by decide +kernel
theorem d_Model_set_12 : decode b_Model_set 12 = .ok (.iconst 0, 1) := by decide +kernel
theorem d_Model_set_13 : decode b_Model_set 13 = .ok (.iconst 2, 1) := by decide +kernel
theorem d_Model_set_14 : decode b_Model_set 14 = .ok (.invokestatic 66, 3) := by decide +kernel
theorem d_Model_set_17 : decode b_Model_set 17 = .ok (.ifCond .eq 43, 3) := by decide +kernel
theorem d_Model_set_20 : decode b_Model_set 20 = .ok (.iload_n 3, 1) := by decide +kernel
theorem d_Model_set_21 : decode b_Model_set 21 = .ok (.iload_n 2, 1) := by decide +kernel
theorem d_Model_set_22 : decode b_Model_set 22 = .ok (.ifCond .ne 9, 3) := by decide +kernel
theorem d_Model_set_25 : decode b_Model_set 25 = .ok (.sipush (-9999), 3) := by decide +kernel
theorem d_Model_set_28 : decode b_Model_set 28 = .ok (.goto 4, 3) := by decide +kernel
theorem d_Model_set_31 : decode b_Model_set 31 = .ok (.iconst 0, 1) := by decide +kernel
theorem d_Model_set_32 : decode b_Model_set 32 = .ok (.iload_n 2, 1) := by decide +kernel
theorem d_Model_set_33 : decode b_Model_set 33 = .ok (.ifCond .ne 9, 3) := by decide +kernel
theorem d_Model_set_36 : decode b_Model_set 36 = .ok (.sipush (9999), 3) := by decide +kernel
theorem d_Model_set_39 : decode b_Model_set 39 = .ok (.goto 15, 3) := by decide +kernel
theorem d_Model_set_42 : decode b_Model_set 42 = .ok (.iload_n 2, 1) := by decide +kernel
theorem d_Model_set_43 : decode b_Model_set 43 = .ok (.iconst 1, 1) := by decide +kernel
theorem d_Model_set_44 : decode b_Model_set 44 = .ok (.if_icmp .ne 8, 3) := by decide +kernel
theorem d_Model_set_47 : decode b_Model_set 47 = .ok (.bipush (9), 2) := by decide +kernel
theorem d_Model_set_49 : decode b_Model_set 49 = .ok (.goto 5, 3) := by decide +kernel
theorem d_Model_set_52 : decode b_Model_set 52 = .ok (.bipush (99), 2) := by decide +kernel
theorem d_Model_set_54 : decode b_Model_set 54 = .ok (.invokestatic 66, 3) := by decide +kernel
theorem d_Model_set_57 : decode b_Model_set 57 = .ok (.ifCond .ne 6, 3) := by decide +kernel
theorem d_Model_set_60 : decode b_Model_set 60 = .ok (.ldc 157, 2) := by decide +kernel
theorem d_Model_set_62 : decode b_Model_set 62 = .ok (.ireturn, 1) := by decide +kernel
theorem d_Model_set_63 : decode b_Model_set 63 = .ok (.aload_n 0, 1) := by decide +kernel
theorem d_Model_set_64 : decode b_Model_set 64 = .ok (.getfield 16, 3) := by decide +kernel
theorem d_Model_set_67 : decode b_Model_set 67 = .ok (.bipush (6), 2) := by decide +kernel
theorem d_Model_set_69 : decode b_Model_set 69 = .ok (.iload_n 1, 1) := by decide +kernel
theorem d_Model_set_70 : decode b_Model_set 70 = .ok (.imul, 1) := by decide +kernel
theorem d_Model_set_71 : decode b_Model_set 71 = .ok (.iload_n 2, 1) := by decide +kernel
theorem d_Model_set_72 : decode b_Model_set 72 = .ok (.iadd, 1) := by decide +kernel
theorem d_Model_set_73 : decode b_Model_set 73 = .ok (.iaload, 1) := by decide +kernel
theorem d_Model_set_74 : decode b_Model_set 74 = .ok (.istore 4, 2) := by decide +kernel
theorem d_Model_set_76 : decode b_Model_set 76 = .ok (.aload_n 0, 1) := by decide +kernel
theorem d_Model_set_77 : decode b_Model_set 77 = .ok (.getfield 16, 3) := by decide +kernel
theorem d_Model_set_80 : decode b_Model_set 80 = .ok (.bipush (6), 2) := by decide +kernel
theorem d_Model_set_82 : decode b_Model_set 82 = .ok (.iload_n 1, 1) := by decide +kernel
theorem d_Model_set_83 : decode b_Model_set 83 = .ok (.imul, 1) := by decide +kernel
theorem d_Model_set_84 : decode b_Model_set 84 = .ok (.iload_n 2, 1) := by decide +kernel
theorem d_Model_set_85 : decode b_Model_set 85 = .ok (.iadd, 1) := by decide +kernel
theorem d_Model_set_86 : decode b_Model_set 86 = .ok (.iload_n 3, 1) := by decide +kernel
theorem d_Model_set_87 : decode b_Model_set 87 = .ok (.iastore, 1) := by decide +kernel
theorem d_Model_set_88 : decode b_Model_set 88 = .ok (.iload 4, 2) := by decide +kernel
theorem d_Model_set_90 : decode b_Model_set 90 = .ok (.ireturn, 1) := by decide +kernel
abbrev b_Model_fallsFrom : ByteArray := prog_8_method_28_code
def y_Model_fallsFrom : MethodName := ⟨"RoundAndRoundModel", "fallsFrom", "(I)I"⟩
theorem d_Model_fallsFrom_0 : decode b_Model_fallsFrom 0 = .ok (.aload_n 0, 1) := by decide +kernel
theorem d_Model_fallsFrom_1 : decode b_Model_fallsFrom 1 = .ok (.getfield 7, 3) := by decide +kernel
theorem d_Model_fallsFrom_4 : decode b_Model_fallsFrom 4 = .ok (.iload_n 1, 1) := by decide +kernel
theorem d_Model_fallsFrom_5 : decode b_Model_fallsFrom 5 = .ok (.iaload, 1) := by decide +kernel
theorem d_Model_fallsFrom_6 : decode b_Model_fallsFrom 6 = .ok (.iconst 1, 1) := by decide +kernel
theorem d_Model_fallsFrom_7 : decode b_Model_fallsFrom 7 = .ok (.if_icmp .eq 13, 3) := by decide +kernel
theorem d_Model_fallsFrom_10 : decode b_Model_fallsFrom 10 = .ok (.aload_n 0, 1) := by decide +kernel
theorem d_Model_fallsFrom_11 : decode b_Model_fallsFrom 11 = .ok (.getfield 7, 3) := by decide +kernel
theorem d_Model_fallsFrom_14 : decode b_Model_fallsFrom 14 = .ok (.iload_n 1, 1) := by decide +kernel
theorem d_Model_fallsFrom_15 : decode b_Model_fallsFrom 15 = .ok (.iaload, 1) := by decide +kernel
theorem d_Model_fallsFrom_16 : decode b_Model_fallsFrom 16 = .ok (.iconst 3, 1) := by decide +kernel
theorem d_Model_fallsFrom_17 : decode b_Model_fallsFrom 17 = .ok (.if_icmp .ne 19, 3) := by decide +kernel
theorem d_Model_fallsFrom_20 : decode b_Model_fallsFrom 20 = .ok (.sipush (800), 3) := by decide +kernel
theorem d_Model_fallsFrom_23 : decode b_Model_fallsFrom 23 = .ok (.bipush (20), 2) := by decide +kernel
theorem d_Model_fallsFrom_25 : decode b_Model_fallsFrom 25 = .ok (.aload_n 0, 1) := by decide +kernel
theorem d_Model_fallsFrom_26 : decode b_Model_fallsFrom 26 = .ok (.getfield 13, 3) := by decide +kernel
theorem d_Model_fallsFrom_29 : decode b_Model_fallsFrom 29 = .ok (.iload_n 1, 1) := by decide +kernel
theorem d_Model_fallsFrom_30 : decode b_Model_fallsFrom 30 = .ok (.iaload, 1) := by decide +kernel
theorem d_Model_fallsFrom_31 : decode b_Model_fallsFrom 31 = .ok (.imul, 1) := by decide +kernel
theorem d_Model_fallsFrom_32 : decode b_Model_fallsFrom 32 = .ok (.iadd, 1) := by decide +kernel
theorem d_Model_fallsFrom_33 : decode b_Model_fallsFrom 33 = .ok (.goto 22, 3) := by decide +kernel
theorem d_Model_fallsFrom_36 : decode b_Model_fallsFrom 36 = .ok (.aload_n 0, 1) := by decide +kernel
theorem d_Model_fallsFrom_37 : decode b_Model_fallsFrom 37 = .ok (.getfield 7, 3) := by decide +kernel
theorem d_Model_fallsFrom_40 : decode b_Model_fallsFrom 40 = .ok (.iload_n 1, 1) := by decide +kernel
theorem d_Model_fallsFrom_41 : decode b_Model_fallsFrom 41 = .ok (.iaload, 1) := by decide +kernel
theorem d_Model_fallsFrom_42 : decode b_Model_fallsFrom 42 = .ok (.iconst 4, 1) := by decide +kernel
theorem d_Model_fallsFrom_43 : decode b_Model_fallsFrom 43 = .ok (.if_icmp .ne 9, 3) := by decide +kernel
theorem d_Model_fallsFrom_46 : decode b_Model_fallsFrom 46 = .ok (.sipush (400), 3) := by decide +kernel
theorem d_Model_fallsFrom_49 : decode b_Model_fallsFrom 49 = .ok (.goto 6, 3) := by decide +kernel
theorem d_Model_fallsFrom_52 : decode b_Model_fallsFrom 52 = .ok (.sipush (800), 3) := by decide +kernel
theorem d_Model_fallsFrom_55 : decode b_Model_fallsFrom 55 = .ok (.ireturn, 1) := by decide +kernel
abbrev b_Model_told : ByteArray := prog_8_method_29_code
def y_Model_told : MethodName := ⟨"RoundAndRoundModel", "told", "(II)I"⟩
theorem d_Model_told_0 : decode b_Model_told 0 = .ok (.aload_n 0, 1) := by decide +kernel
theorem d_Model_told_1 : decode b_Model_told 1 = .ok (.iload_n 1, 1) := by decide +kernel
theorem d_Model_told_2 : decode b_Model_told 2 = .ok (.invokevirtual 149, 3) := by decide +kernel
theorem d_Model_told_5 : decode b_Model_told 5 = .ok (.ifCond .ne 6, 3) := by decide +kernel
theorem d_Model_told_8 : decode b_Model_told 8 = .ok (.ldc 156, 2) := by decide +kernel
theorem d_Model_told_10 : decode b_Model_told 10 = .ok (.ireturn, 1) := by decide +kernel
theorem d_Model_told_11 : decode b_Model_told 11 = .ok (.iload_n 2, 1) := by decide +kernel
theorem d_Model_told_12 : decode b_Model_told 12 = .ok (.tableswitch 86 (0) (8) #[52, 59, 66, 66, 66, 66, 66, 66, 80], 52) := by decide +kernel
theorem d_Model_told_64 : decode b_Model_told 64 = .ok (.aload_n 0, 1) := by decide +kernel
theorem d_Model_told_65 : decode b_Model_told 65 = .ok (.getfield 7, 3) := by decide +kernel
theorem d_Model_told_68 : decode b_Model_told 68 = .ok (.iload_n 1, 1) := by decide +kernel
theorem d_Model_told_69 : decode b_Model_told 69 = .ok (.iaload, 1) := by decide +kernel
theorem d_Model_told_70 : decode b_Model_told 70 = .ok (.ireturn, 1) := by decide +kernel
theorem d_Model_told_71 : decode b_Model_told 71 = .ok (.aload_n 0, 1) := by decide +kernel
theorem d_Model_told_72 : decode b_Model_told 72 = .ok (.getfield 13, 3) := by decide +kernel
theorem d_Model_told_75 : decode b_Model_told 75 = .ok (.iload_n 1, 1) := by decide +kernel
theorem d_Model_told_76 : decode b_Model_told 76 = .ok (.iaload, 1) := by decide +kernel
theorem d_Model_told_77 : decode b_Model_told 77 = .ok (.ireturn, 1) := by decide +kernel
theorem d_Model_told_78 : decode b_Model_told 78 = .ok (.aload_n 0, 1) := by decide +kernel
theorem d_Model_told_79 : decode b_Model_told 79 = .ok (.getfield 16, 3) := by decide +kernel
theorem d_Model_told_82 : decode b_Model_told 82 = .ok (.bipush (6), 2) := by decide +kernel
theorem d_Model_told_84 : decode b_Model_told 84 = .ok (.iload_n 1, 1) := by decide +kernel
theorem d_Model_told_85 : decode b_Model_told 85 = .ok (.imul, 1) := by decide +kernel
theorem d_Model_told_86 : decode b_Model_told 86 = .ok (.iload_n 2, 1) := by decide +kernel
theorem d_Model_told_87 : decode b_Model_told 87 = .ok (.iadd, 1) := by decide +kernel
theorem d_Model_told_88 : decode b_Model_told 88 = .ok (.iconst 2, 1) := by decide +kernel
theorem d_Model_told_89 : decode b_Model_told 89 = .ok (.isub, 1) := by decide +kernel
theorem d_Model_told_90 : decode b_Model_told 90 = .ok (.iaload, 1) := by decide +kernel
theorem d_Model_told_91 : decode b_Model_told 91 = .ok (.ireturn, 1) := by decide +kernel
theorem d_Model_told_92 : decode b_Model_told 92 = .ok (.aload_n 0, 1) := by decide +kernel
theorem d_Model_told_93 : decode b_Model_told 93 = .ok (.iload_n 1, 1) := by decide +kernel
theorem d_Model_told_94 : decode b_Model_told 94 = .ok (.invokevirtual 158, 3) := by decide +kernel
theorem d_Model_told_97 : decode b_Model_told 97 = .ok (.ireturn, 1) := by decide +kernel
theorem d_Model_told_98 : decode b_Model_told 98 = .ok (.ldc 157, 2) := by decide +kernel
theorem d_Model_told_100 : decode b_Model_told 100 = .ok (.ireturn, 1) := by decide +kernel
abbrev b_Model_buildsOf : ByteArray := prog_8_method_30_code
def y_Model_buildsOf : MethodName := ⟨"RoundAndRoundModel", "buildsOf", "(II)I"⟩
theorem d_Model_buildsOf_0 : decode b_Model_buildsOf 0 = .ok (.aload_n 0, 1) := by decide +kernel
theorem d_Model_buildsOf_1 : decode b_Model_buildsOf 1 = .ok (.iconst 0, 1) := by decide +kernel
theorem d_Model_buildsOf_2 : decode b_Model_buildsOf 2 = .ok (.iload_n 1, 1) := by decide +kernel
theorem d_Model_buildsOf_3 : decode b_Model_buildsOf 3 = .ok (.iload_n 2, 1) := by decide +kernel
theorem d_Model_buildsOf_4 : decode b_Model_buildsOf 4 = .ok (.iconst 1, 1) := by decide +kernel
theorem d_Model_buildsOf_5 : decode b_Model_buildsOf 5 = .ok (.invokevirtual 152, 3) := by decide +kernel
theorem d_Model_buildsOf_8 : decode b_Model_buildsOf 8 = .ok (.istore_n 3, 1) := by decide +kernel
theorem d_Model_buildsOf_9 : decode b_Model_buildsOf 9 = .ok (.aload_n 0, 1) := by decide +kernel
theorem d_Model_buildsOf_10 : decode b_Model_buildsOf 10 = .ok (.getfield 7, 3) := by decide +kernel
theorem d_Model_buildsOf_13 : decode b_Model_buildsOf 13 = .ok (.iload_n 1, 1) := by decide +kernel
theorem d_Model_buildsOf_14 : decode b_Model_buildsOf 14 = .ok (.iaload, 1) := by decide +kernel
theorem d_Model_buildsOf_15 : decode b_Model_buildsOf 15 = .ok (.tableswitch 88 (1) (5) #[33, 40, 54, 40, 74], 33) := by decide +kernel
theorem d_Model_buildsOf_48 : decode b_Model_buildsOf 48 = .ok (.iload_n 3, 1) := by decide +kernel
theorem d_Model_buildsOf_49 : decode b_Model_buildsOf 49 = .ok (.iconst 2, 1) := by decide +kernel
theorem d_Model_buildsOf_50 : decode b_Model_buildsOf 50 = .ok (.idiv, 1) := by decide +kernel
theorem d_Model_buildsOf_51 : decode b_Model_buildsOf 51 = .ok (.istore_n 3, 1) := by decide +kernel
theorem d_Model_buildsOf_52 : decode b_Model_buildsOf 52 = .ok (.goto 51, 3) := by decide +kernel
theorem d_Model_buildsOf_55 : decode b_Model_buildsOf 55 = .ok (.iload_n 3, 1) := by decide +kernel
theorem d_Model_buildsOf_56 : decode b_Model_buildsOf 56 = .ok (.iconst 5, 1) := by decide +kernel
theorem d_Model_buildsOf_57 : decode b_Model_buildsOf 57 = .ok (.aload_n 0, 1) := by decide +kernel
theorem d_Model_buildsOf_58 : decode b_Model_buildsOf 58 = .ok (.getfield 13, 3) := by decide +kernel
theorem d_Model_buildsOf_61 : decode b_Model_buildsOf 61 = .ok (.iload_n 1, 1) := by decide +kernel
theorem d_Model_buildsOf_62 : decode b_Model_buildsOf 62 = .ok (.iaload, 1) := by decide +kernel
theorem d_Model_buildsOf_63 : decode b_Model_buildsOf 63 = .ok (.imul, 1) := by decide +kernel
theorem d_Model_buildsOf_64 : decode b_Model_buildsOf 64 = .ok (.isub, 1) := by decide +kernel
theorem d_Model_buildsOf_65 : decode b_Model_buildsOf 65 = .ok (.istore_n 3, 1) := by decide +kernel
theorem d_Model_buildsOf_66 : decode b_Model_buildsOf 66 = .ok (.goto 37, 3) := by decide +kernel
theorem d_Model_buildsOf_69 : decode b_Model_buildsOf 69 = .ok (.iload_n 2, 1) := by decide +kernel
theorem d_Model_buildsOf_70 : decode b_Model_buildsOf 70 = .ok (.iconst 4, 1) := by decide +kernel
theorem d_Model_buildsOf_71 : decode b_Model_buildsOf 71 = .ok (.if_icmp .le 11, 3) := by decide +kernel
theorem d_Model_buildsOf_74 : decode b_Model_buildsOf 74 = .ok (.iload_n 3, 1) := by decide +kernel
theorem d_Model_buildsOf_75 : decode b_Model_buildsOf 75 = .ok (.iconst 2, 1) := by decide +kernel
theorem d_Model_buildsOf_76 : decode b_Model_buildsOf 76 = .ok (.idiv, 1) := by decide +kernel
theorem d_Model_buildsOf_77 : decode b_Model_buildsOf 77 = .ok (.iconst 2, 1) := by decide +kernel
theorem d_Model_buildsOf_78 : decode b_Model_buildsOf 78 = .ok (.idiv, 1) := by decide +kernel
theorem d_Model_buildsOf_79 : decode b_Model_buildsOf 79 = .ok (.goto 6, 3) := by decide +kernel
theorem d_Model_buildsOf_82 : decode b_Model_buildsOf 82 = .ok (.iload_n 3, 1) := by decide +kernel
theorem d_Model_buildsOf_83 : decode b_Model_buildsOf 83 = .ok (.iconst 2, 1) := by decide +kernel
theorem d_Model_buildsOf_84 : decode b_Model_buildsOf 84 = .ok (.idiv, 1) := by decide +kernel
theorem d_Model_buildsOf_85 : decode b_Model_buildsOf 85 = .ok (.istore_n 3, 1) := by decide +kernel
theorem d_Model_buildsOf_86 : decode b_Model_buildsOf 86 = .ok (.goto 17, 3) := by decide +kernel
theorem d_Model_buildsOf_89 : decode b_Model_buildsOf 89 = .ok (.iload_n 3, 1) := by decide +kernel
theorem d_Model_buildsOf_90 : decode b_Model_buildsOf 90 = .ok (.iload_n 2, 1) := by decide +kernel
theorem d_Model_buildsOf_91 : decode b_Model_buildsOf 91 = .ok (.aload_n 0, 1) := by decide +kernel
theorem d_Model_buildsOf_92 : decode b_Model_buildsOf 92 = .ok (.getfield 13, 3) := by decide +kernel
theorem d_Model_buildsOf_95 : decode b_Model_buildsOf 95 = .ok (.iload_n 1, 1) := by decide +kernel
theorem d_Model_buildsOf_96 : decode b_Model_buildsOf 96 = .ok (.iaload, 1) := by decide +kernel
theorem d_Model_buildsOf_97 : decode b_Model_buildsOf 97 = .ok (.imul, 1) := by decide +kernel
theorem d_Model_buildsOf_98 : decode b_Model_buildsOf 98 = .ok (.iadd, 1) := by decide +kernel
theorem d_Model_buildsOf_99 : decode b_Model_buildsOf 99 = .ok (.istore_n 3, 1) := by decide +kernel
theorem d_Model_buildsOf_100 : decode b_Model_buildsOf 100 = .ok (.goto 3, 3) := by decide +kernel
theorem d_Model_buildsOf_103 : decode b_Model_buildsOf 103 = .ok (.iload_n 3, 1) := by decide +kernel
theorem d_Model_buildsOf_104 : decode b_Model_buildsOf 104 = .ok (.ifCond .ge 7, 3) := by decide +kernel
theorem d_Model_buildsOf_107 : decode b_Model_buildsOf 107 = .ok (.iconst 0, 1) := by decide +kernel
theorem d_Model_buildsOf_108 : decode b_Model_buildsOf 108 = .ok (.goto 4, 3) := by decide +kernel
theorem d_Model_buildsOf_111 : decode b_Model_buildsOf 111 = .ok (.iload_n 3, 1) := by decide +kernel
theorem d_Model_buildsOf_112 : decode b_Model_buildsOf 112 = .ok (.ireturn, 1) := by decide +kernel
abbrev b_Model_fadesOf : ByteArray := prog_8_method_31_code
def y_Model_fadesOf : MethodName := ⟨"RoundAndRoundModel", "fadesOf", "(II)I"⟩
theorem d_Model_fadesOf_0 : decode b_Model_fadesOf 0 = .ok (.aload_n 0, 1) := by decide +kernel
theorem d_Model_fadesOf_1 : decode b_Model_fadesOf 1 = .ok (.iconst 1, 1) := by decide +kernel
theorem d_Model_fadesOf_2 : decode b_Model_fadesOf 2 = .ok (.iload_n 1, 1) := by decide +kernel
theorem d_Model_fadesOf_3 : decode b_Model_fadesOf 3 = .ok (.iconst 0, 1) := by decide +kernel
theorem d_Model_fadesOf_4 : decode b_Model_fadesOf 4 = .ok (.iload_n 2, 1) := by decide +kernel
theorem d_Model_fadesOf_5 : decode b_Model_fadesOf 5 = .ok (.invokevirtual 152, 3) := by decide +kernel
theorem d_Model_fadesOf_8 : decode b_Model_fadesOf 8 = .ok (.istore_n 3, 1) := by decide +kernel
theorem d_Model_fadesOf_9 : decode b_Model_fadesOf 9 = .ok (.aload_n 0, 1) := by decide +kernel
theorem d_Model_fadesOf_10 : decode b_Model_fadesOf 10 = .ok (.getfield 7, 3) := by decide +kernel
theorem d_Model_fadesOf_13 : decode b_Model_fadesOf 13 = .ok (.iload_n 1, 1) := by decide +kernel
theorem d_Model_fadesOf_14 : decode b_Model_fadesOf 14 = .ok (.iaload, 1) := by decide +kernel
theorem d_Model_fadesOf_15 : decode b_Model_fadesOf 15 = .ok (.iconst 2, 1) := by decide +kernel
theorem d_Model_fadesOf_16 : decode b_Model_fadesOf 16 = .ok (.if_icmp .ne 9, 3) := by decide +kernel
theorem d_Model_fadesOf_19 : decode b_Model_fadesOf 19 = .ok (.iload_n 3, 1) := by decide +kernel
theorem d_Model_fadesOf_20 : decode b_Model_fadesOf 20 = .ok (.iconst 5, 1) := by decide +kernel
theorem d_Model_fadesOf_21 : decode b_Model_fadesOf 21 = .ok (.iadd, 1) := by decide +kernel
theorem d_Model_fadesOf_22 : decode b_Model_fadesOf 22 = .ok (.goto 22, 3) := by decide +kernel
theorem d_Model_fadesOf_25 : decode b_Model_fadesOf 25 = .ok (.aload_n 0, 1) := by decide +kernel
theorem d_Model_fadesOf_26 : decode b_Model_fadesOf 26 = .ok (.getfield 7, 3) := by decide +kernel
theorem d_Model_fadesOf_29 : decode b_Model_fadesOf 29 = .ok (.iload_n 1, 1) := by decide +kernel
theorem d_Model_fadesOf_30 : decode b_Model_fadesOf 30 = .ok (.iaload, 1) := by decide +kernel
theorem d_Model_fadesOf_31 : decode b_Model_fadesOf 31 = .ok (.iconst 4, 1) := by decide +kernel
theorem d_Model_fadesOf_32 : decode b_Model_fadesOf 32 = .ok (.if_icmp .ne 11, 3) := by decide +kernel
theorem d_Model_fadesOf_35 : decode b_Model_fadesOf 35 = .ok (.iload_n 3, 1) := by decide +kernel
theorem d_Model_fadesOf_36 : decode b_Model_fadesOf 36 = .ok (.iconst 5, 1) := by decide +kernel
theorem d_Model_fadesOf_37 : decode b_Model_fadesOf 37 = .ok (.iadd, 1) := by decide +kernel
theorem d_Model_fadesOf_38 : decode b_Model_fadesOf 38 = .ok (.iconst 3, 1) := by decide +kernel
theorem d_Model_fadesOf_39 : decode b_Model_fadesOf 39 = .ok (.idiv, 1) := by decide +kernel
theorem d_Model_fadesOf_40 : decode b_Model_fadesOf 40 = .ok (.goto 4, 3) := by decide +kernel
theorem d_Model_fadesOf_43 : decode b_Model_fadesOf 43 = .ok (.iload_n 3, 1) := by decide +kernel
theorem d_Model_fadesOf_44 : decode b_Model_fadesOf 44 = .ok (.iconst 0, 1) := by decide +kernel
theorem d_Model_fadesOf_45 : decode b_Model_fadesOf 45 = .ok (.bipush (100), 2) := by decide +kernel
theorem d_Model_fadesOf_47 : decode b_Model_fadesOf 47 = .ok (.invokestatic 146, 3) := by decide +kernel
theorem d_Model_fadesOf_50 : decode b_Model_fadesOf 50 = .ok (.ireturn, 1) := by decide +kernel
abbrev b_Model_fade : ByteArray := prog_8_method_32_code
def y_Model_fade : MethodName := ⟨"RoundAndRoundModel", "fade", "(II)V"⟩
theorem d_Model_fade_0 : decode b_Model_fade 0 = .ok (.aload_n 0, 1) := by decide +kernel
theorem d_Model_fade_1 : decode b_Model_fade 1 = .ok (.dup, 1) := by decide +kernel
theorem d_Model_fade_2 : decode b_Model_fade 2 = .ok (.getfield 140, 3) := by decide +kernel
theorem d_Model_fade_5 : decode b_Model_fade 5 = .ok (.aload_n 0, 1) := by decide +kernel
theorem d_Model_fade_6 : decode b_Model_fade 6 = .ok (.getfield 140, 3) := by decide +kernel
theorem d_Model_fade_9 : decode b_Model_fade 9 = .ok (.aload_n 0, 1) := by decide +kernel
theorem d_Model_fade_10 : decode b_Model_fade 10 = .ok (.iload_n 1, 1) := by decide +kernel
theorem d_Model_fade_11 : decode b_Model_fade 11 = .ok (.iload_n 2, 1) := by decide +kernel
theorem d_Model_fade_12 : decode b_Model_fade 12 = .ok (.invokevirtual 161, 3) := by decide +kernel
theorem d_Model_fade_15 : decode b_Model_fade 15 = .ok (.imul, 1) := by decide +kernel
theorem d_Model_fade_16 : decode b_Model_fade 16 = .ok (.bipush (100), 2) := by decide +kernel
theorem d_Model_fade_18 : decode b_Model_fade 18 = .ok (.idiv, 1) := by decide +kernel
theorem d_Model_fade_19 : decode b_Model_fade 19 = .ok (.isub, 1) := by decide +kernel
theorem d_Model_fade_20 : decode b_Model_fade 20 = .ok (.putfield 140, 3) := by decide +kernel
theorem d_Model_fade_23 : decode b_Model_fade 23 = .ok (.return_, 1) := by decide +kernel
abbrev b_Model_turns : ByteArray := prog_8_method_33_code
def y_Model_turns : MethodName := ⟨"RoundAndRoundModel", "turns", "(III)V"⟩
theorem d_Model_turns_0 : decode b_Model_turns 0 = .ok (.iconst 0, 1) := by decide +kernel
theorem d_Model_turns_1 : decode b_Model_turns 1 = .ok (.istore 4, 2) := by decide +kernel
theorem d_Model_turns_3 : decode b_Model_turns 3 = .ok (.iload 4, 2) := by decide +kernel
theorem d_Model_turns_5 : decode b_Model_turns 5 = .ok (.iload_n 2, 1) := by decide +kernel
theorem d_Model_turns_6 : decode b_Model_turns 6 = .ok (.invokestatic 164, 3) := by decide +kernel
theorem d_Model_turns_9 : decode b_Model_turns 9 = .ok (.if_icmp .ge 57, 3) := by decide +kernel
theorem d_Model_turns_12 : decode b_Model_turns 12 = .ok (.aload_n 0, 1) := by decide +kernel
theorem d_Model_turns_13 : decode b_Model_turns 13 = .ok (.iload_n 1, 1) := by decide +kernel
theorem d_Model_turns_14 : decode b_Model_turns 14 = .ok (.iload_n 3, 1) := by decide +kernel
theorem d_Model_turns_15 : decode b_Model_turns 15 = .ok (.invokevirtual 167, 3) := by decide +kernel
theorem d_Model_turns_18 : decode b_Model_turns 18 = .ok (.istore 5, 2) := by decide +kernel
theorem d_Model_turns_20 : decode b_Model_turns 20 = .ok (.aload_n 0, 1) := by decide +kernel
theorem d_Model_turns_21 : decode b_Model_turns 21 = .ok (.iload_n 2, 1) := by decide +kernel
theorem d_Model_turns_22 : decode b_Model_turns 22 = .ok (.ifCond .ge 13, 3) := by decide +kernel
theorem d_Model_turns_25 : decode b_Model_turns 25 = .ok (.aload_n 0, 1) := by decide +kernel
theorem d_Model_turns_26 : decode b_Model_turns 26 = .ok (.getfield 140, 3) := by decide +kernel
theorem d_Model_turns_29 : decode b_Model_turns 29 = .ok (.iload 5, 2) := by decide +kernel
theorem d_Model_turns_31 : decode b_Model_turns 31 = .ok (.isub, 1) := by decide +kernel
theorem d_Model_turns_32 : decode b_Model_turns 32 = .ok (.goto 10, 3) := by decide +kernel
theorem d_Model_turns_35 : decode b_Model_turns 35 = .ok (.aload_n 0, 1) := by decide +kernel
theorem d_Model_turns_36 : decode b_Model_turns 36 = .ok (.getfield 140, 3) := by decide +kernel
theorem d_Model_turns_39 : decode b_Model_turns 39 = .ok (.iload 5, 2) := by decide +kernel
theorem d_Model_turns_41 : decode b_Model_turns 41 = .ok (.iadd, 1) := by decide +kernel
theorem d_Model_turns_42 : decode b_Model_turns 42 = .ok (.sipush (-9999), 3) := by decide +kernel
theorem d_Model_turns_45 : decode b_Model_turns 45 = .ok (.sipush (9999), 3) := by decide +kernel
theorem d_Model_turns_48 : decode b_Model_turns 48 = .ok (.invokestatic 146, 3) := by decide +kernel
theorem d_Model_turns_51 : decode b_Model_turns 51 = .ok (.putfield 140, 3) := by decide +kernel
theorem d_Model_turns_54 : decode b_Model_turns 54 = .ok (.aload_n 0, 1) := by decide +kernel
theorem d_Model_turns_55 : decode b_Model_turns 55 = .ok (.iload_n 1, 1) := by decide +kernel
theorem d_Model_turns_56 : decode b_Model_turns 56 = .ok (.iconst 1, 1) := by decide +kernel
theorem d_Model_turns_57 : decode b_Model_turns 57 = .ok (.invokevirtual 170, 3) := by decide +kernel
theorem d_Model_turns_60 : decode b_Model_turns 60 = .ok (.iinc 4 (1), 3) := by decide +kernel
theorem d_Model_turns_63 : decode b_Model_turns 63 = .ok (.goto (-60), 3) := by decide +kernel
theorem d_Model_turns_66 : decode b_Model_turns 66 = .ok (.return_, 1) := by decide +kernel
abbrev b_Model_waits : ByteArray := prog_8_method_34_code
def y_Model_waits : MethodName := ⟨"RoundAndRoundModel", "waits", "(III)V"⟩
theorem d_Model_waits_0 : decode b_Model_waits 0 = .ok (.iconst 0, 1) := by decide +kernel
theorem d_Model_waits_1 : decode b_Model_waits 1 = .ok (.istore 4, 2) := by decide +kernel
theorem d_Model_waits_3 : decode b_Model_waits 3 = .ok (.iload 4, 2) := by decide +kernel
theorem d_Model_waits_5 : decode b_Model_waits 5 = .ok (.iload_n 2, 1) := by decide +kernel
theorem d_Model_waits_6 : decode b_Model_waits 6 = .ok (.if_icmp .ge 15, 3) := by decide +kernel
theorem d_Model_waits_9 : decode b_Model_waits 9 = .ok (.aload_n 0, 1) := by decide +kernel
theorem d_Model_waits_10 : decode b_Model_waits 10 = .ok (.iload_n 1, 1) := by decide +kernel
theorem d_Model_waits_11 : decode b_Model_waits 11 = .ok (.iload_n 3, 1) := by decide +kernel
theorem d_Model_waits_12 : decode b_Model_waits 12 = .ok (.invokevirtual 170, 3) := by decide +kernel
theorem d_Model_waits_15 : decode b_Model_waits 15 = .ok (.iinc 4 (1), 3) := by decide +kernel
theorem d_Model_waits_18 : decode b_Model_waits 18 = .ok (.goto (-15), 3) := by decide +kernel
theorem d_Model_waits_21 : decode b_Model_waits 21 = .ok (.return_, 1) := by decide +kernel
abbrev b_Model_step : ByteArray := prog_8_method_35_code
def y_Model_step : MethodName := ⟨"RoundAndRoundModel", "step", "(IIII)V"⟩
theorem d_Model_step_0 : decode b_Model_step 0 = .ok (.aload_n 0, 1) := by decide +kernel
theorem d_Model_step_1 : decode b_Model_step 1 = .ok (.getfield 174, 3) := by decide +kernel
theorem d_Model_step_4 : decode b_Model_step 4 = .ok (.ifCond .eq 4, 3) := by decide +kernel
theorem d_Model_step_7 : decode b_Model_step 7 = .ok (.return_, 1) := by decide +kernel
theorem d_Model_step_8 : decode b_Model_step 8 = .ok (.aload_n 0, 1) := by decide +kernel
theorem d_Model_step_9 : decode b_Model_step 9 = .ok (.getfield 140, 3) := by decide +kernel
theorem d_Model_step_12 : decode b_Model_step 12 = .ok (.invokestatic 164, 3) := by decide +kernel
theorem d_Model_step_15 : decode b_Model_step 15 = .ok (.aload_n 0, 1) := by decide +kernel
theorem d_Model_step_16 : decode b_Model_step 16 = .ok (.iload_n 1, 1) := by decide +kernel
theorem d_Model_step_17 : decode b_Model_step 17 = .ok (.invokevirtual 158, 3) := by decide +kernel
theorem d_Model_step_20 : decode b_Model_step 20 = .ok (.if_icmp .lt 15, 3) := by decide +kernel
theorem d_Model_step_23 : decode b_Model_step 23 = .ok (.aload_n 0, 1) := by decide +kernel
theorem d_Model_step_24 : decode b_Model_step 24 = .ok (.iconst 1, 1) := by decide +kernel
theorem d_Model_step_25 : decode b_Model_step 25 = .ok (.putfield 174, 3) := by decide +kernel
theorem d_Model_step_28 : decode b_Model_step 28 = .ok (.aload_n 0, 1) := by decide +kernel
theorem d_Model_step_29 : decode b_Model_step 29 = .ok (.iload 4, 2) := by decide +kernel
theorem d_Model_step_31 : decode b_Model_step 31 = .ok (.putfield 178, 3) := by decide +kernel
theorem d_Model_step_34 : decode b_Model_step 34 = .ok (.return_, 1) := by decide +kernel
theorem d_Model_step_35 : decode b_Model_step 35 = .ok (.aload_n 0, 1) := by decide +kernel
theorem d_Model_step_36 : decode b_Model_step 36 = .ok (.iconst 2, 1) := by decide +kernel
theorem d_Model_step_37 : decode b_Model_step 37 = .ok (.iload_n 1, 1) := by decide +kernel
theorem d_Model_step_38 : decode b_Model_step 38 = .ok (.iload_n 2, 1) := by decide +kernel
theorem d_Model_step_39 : decode b_Model_step 39 = .ok (.iload_n 3, 1) := by decide +kernel
theorem d_Model_step_40 : decode b_Model_step 40 = .ok (.invokevirtual 152, 3) := by decide +kernel
theorem d_Model_step_43 : decode b_Model_step 43 = .ok (.istore 5, 2) := by decide +kernel
theorem d_Model_step_45 : decode b_Model_step 45 = .ok (.aload_n 0, 1) := by decide +kernel
theorem d_Model_step_46 : decode b_Model_step 46 = .ok (.aload_n 0, 1) := by decide +kernel
theorem d_Model_step_47 : decode b_Model_step 47 = .ok (.getfield 181, 3) := by decide +kernel
theorem d_Model_step_50 : decode b_Model_step 50 = .ok (.iload_n 2, 1) := by decide +kernel
theorem d_Model_step_51 : decode b_Model_step 51 = .ok (.iadd, 1) := by decide +kernel
theorem d_Model_step_52 : decode b_Model_step 52 = .ok (.ldc 184, 2) := by decide +kernel
theorem d_Model_step_54 : decode b_Model_step 54 = .ok (.ldc 185, 2) := by decide +kernel
theorem d_Model_step_56 : decode b_Model_step 56 = .ok (.invokestatic 146, 3) := by decide +kernel
theorem d_Model_step_59 : decode b_Model_step 59 = .ok (.putfield 181, 3) := by decide +kernel
theorem d_Model_step_62 : decode b_Model_step 62 = .ok (.aload_n 0, 1) := by decide +kernel
theorem d_Model_step_63 : decode b_Model_step 63 = .ok (.aload_n 0, 1) := by decide +kernel
theorem d_Model_step_64 : decode b_Model_step 64 = .ok (.getfield 186, 3) := by decide +kernel
theorem d_Model_step_67 : decode b_Model_step 67 = .ok (.aload_n 0, 1) := by decide +kernel
theorem d_Model_step_68 : decode b_Model_step 68 = .ok (.getfield 140, 3) := by decide +kernel
theorem d_Model_step_71 : decode b_Model_step 71 = .ok (.iload 5, 2) := by decide +kernel
theorem d_Model_step_73 : decode b_Model_step 73 = .ok (.imul, 1) := by decide +kernel
theorem d_Model_step_74 : decode b_Model_step 74 = .ok (.sipush (1000), 3) := by decide +kernel
theorem d_Model_step_77 : decode b_Model_step 77 = .ok (.idiv, 1) := by decide +kernel
theorem d_Model_step_78 : decode b_Model_step 78 = .ok (.iadd, 1) := by decide +kernel
theorem d_Model_step_79 : decode b_Model_step 79 = .ok (.ldc 184, 2) := by decide +kernel
theorem d_Model_step_81 : decode b_Model_step 81 = .ok (.ldc 185, 2) := by decide +kernel
theorem d_Model_step_83 : decode b_Model_step 83 = .ok (.invokestatic 146, 3) := by decide +kernel
theorem d_Model_step_86 : decode b_Model_step 86 = .ok (.putfield 186, 3) := by decide +kernel
theorem d_Model_step_89 : decode b_Model_step 89 = .ok (.aload_n 0, 1) := by decide +kernel
theorem d_Model_step_90 : decode b_Model_step 90 = .ok (.iload_n 1, 1) := by decide +kernel
theorem d_Model_step_91 : decode b_Model_step 91 = .ok (.iload_n 3, 1) := by decide +kernel
theorem d_Model_step_92 : decode b_Model_step 92 = .ok (.invokevirtual 170, 3) := by decide +kernel
theorem d_Model_step_95 : decode b_Model_step 95 = .ok (.return_, 1) := by decide +kernel
abbrev b_Model_walks : ByteArray := prog_8_method_36_code
def y_Model_walks : MethodName := ⟨"RoundAndRoundModel", "walks", "(IIII)V"⟩
theorem d_Model_walks_0 : decode b_Model_walks 0 = .ok (.iconst 0, 1) := by decide +kernel
theorem d_Model_walks_1 : decode b_Model_walks 1 = .ok (.istore 5, 2) := by decide +kernel
theorem d_Model_walks_3 : decode b_Model_walks 3 = .ok (.iload 5, 2) := by decide +kernel
theorem d_Model_walks_5 : decode b_Model_walks 5 = .ok (.iload_n 2, 1) := by decide +kernel
theorem d_Model_walks_6 : decode b_Model_walks 6 = .ok (.if_icmp .ge 19, 3) := by decide +kernel
theorem d_Model_walks_9 : decode b_Model_walks 9 = .ok (.aload_n 0, 1) := by decide +kernel
theorem d_Model_walks_10 : decode b_Model_walks 10 = .ok (.iload_n 1, 1) := by decide +kernel
theorem d_Model_walks_11 : decode b_Model_walks 11 = .ok (.iload_n 3, 1) := by decide +kernel
theorem d_Model_walks_12 : decode b_Model_walks 12 = .ok (.iload 4, 2) := by decide +kernel
theorem d_Model_walks_14 : decode b_Model_walks 14 = .ok (.iload 5, 2) := by decide +kernel
theorem d_Model_walks_16 : decode b_Model_walks 16 = .ok (.invokevirtual 189, 3) := by decide +kernel
theorem d_Model_walks_19 : decode b_Model_walks 19 = .ok (.iinc 5 (1), 3) := by decide +kernel
theorem d_Model_walks_22 : decode b_Model_walks 22 = .ok (.goto (-19), 3) := by decide +kernel
theorem d_Model_walks_25 : decode b_Model_walks 25 = .ok (.return_, 1) := by decide +kernel
abbrev b_Model_takes : ByteArray := prog_8_method_37_code
def y_Model_takes : MethodName := ⟨"RoundAndRoundModel", "takes", "(I)V"⟩
theorem d_Model_takes_0 : decode b_Model_takes 0 = .ok (.aload_n 0, 1) := by decide +kernel
theorem d_Model_takes_1 : decode b_Model_takes 1 = .ok (.aload_n 0, 1) := by decide +kernel
theorem d_Model_takes_2 : decode b_Model_takes 2 = .ok (.getfield 16, 3) := by decide +kernel
theorem d_Model_takes_5 : decode b_Model_takes 5 = .ok (.bipush (6), 2) := by decide +kernel
theorem d_Model_takes_7 : decode b_Model_takes 7 = .ok (.iload_n 1, 1) := by decide +kernel
theorem d_Model_takes_8 : decode b_Model_takes 8 = .ok (.imul, 1) := by decide +kernel
theorem d_Model_takes_9 : decode b_Model_takes 9 = .ok (.iaload, 1) := by decide +kernel
theorem d_Model_takes_10 : decode b_Model_takes 10 = .ok (.putfield 140, 3) := by decide +kernel
theorem d_Model_takes_13 : decode b_Model_takes 13 = .ok (.aload_n 0, 1) := by decide +kernel
theorem d_Model_takes_14 : decode b_Model_takes 14 = .ok (.aload_n 0, 1) := by decide +kernel
theorem d_Model_takes_15 : decode b_Model_takes 15 = .ok (.getfield 16, 3) := by decide +kernel
theorem d_Model_takes_18 : decode b_Model_takes 18 = .ok (.bipush (6), 2) := by decide +kernel
theorem d_Model_takes_20 : decode b_Model_takes 20 = .ok (.iload_n 1, 1) := by decide +kernel
theorem d_Model_takes_21 : decode b_Model_takes 21 = .ok (.imul, 1) := by decide +kernel
theorem d_Model_takes_22 : decode b_Model_takes 22 = .ok (.iconst 3, 1) := by decide +kernel
theorem d_Model_takes_23 : decode b_Model_takes 23 = .ok (.iadd, 1) := by decide +kernel
theorem d_Model_takes_24 : decode b_Model_takes 24 = .ok (.iaload, 1) := by decide +kernel
theorem d_Model_takes_25 : decode b_Model_takes 25 = .ok (.putfield 181, 3) := by decide +kernel
theorem d_Model_takes_28 : decode b_Model_takes 28 = .ok (.aload_n 0, 1) := by decide +kernel
theorem d_Model_takes_29 : decode b_Model_takes 29 = .ok (.aload_n 0, 1) := by decide +kernel
theorem d_Model_takes_30 : decode b_Model_takes 30 = .ok (.getfield 16, 3) := by decide +kernel
theorem d_Model_takes_33 : decode b_Model_takes 33 = .ok (.bipush (6), 2) := by decide +kernel
theorem d_Model_takes_35 : decode b_Model_takes 35 = .ok (.iload_n 1, 1) := by decide +kernel
theorem d_Model_takes_36 : decode b_Model_takes 36 = .ok (.imul, 1) := by decide +kernel
theorem d_Model_takes_37 : decode b_Model_takes 37 = .ok (.iconst 4, 1) := by decide +kernel
theorem d_Model_takes_38 : decode b_Model_takes 38 = .ok (.iadd, 1) := by decide +kernel
theorem d_Model_takes_39 : decode b_Model_takes 39 = .ok (.iaload, 1) := by decide +kernel
theorem d_Model_takes_40 : decode b_Model_takes 40 = .ok (.putfield 186, 3) := by decide +kernel
theorem d_Model_takes_43 : decode b_Model_takes 43 = .ok (.aload_n 0, 1) := by decide +kernel
theorem d_Model_takes_44 : decode b_Model_takes 44 = .ok (.aload_n 0, 1) := by decide +kernel
theorem d_Model_takes_45 : decode b_Model_takes 45 = .ok (.getfield 16, 3) := by decide +kernel
theorem d_Model_takes_48 : decode b_Model_takes 48 = .ok (.bipush (6), 2) := by decide +kernel
theorem d_Model_takes_50 : decode b_Model_takes 50 = .ok (.iload_n 1, 1) := by decide +kernel
theorem d_Model_takes_51 : decode b_Model_takes 51 = .ok (.imul, 1) := by decide +kernel
theorem d_Model_takes_52 : decode b_Model_takes 52 = .ok (.iconst 5, 1) := by decide +kernel
theorem d_Model_takes_53 : decode b_Model_takes 53 = .ok (.iadd, 1) := by decide +kernel
theorem d_Model_takes_54 : decode b_Model_takes 54 = .ok (.iaload, 1) := by decide +kernel
theorem d_Model_takes_55 : decode b_Model_takes 55 = .ok (.iconst 1, 1) := by decide +kernel
theorem d_Model_takes_56 : decode b_Model_takes 56 = .ok (.if_icmp .ne 7, 3) := by decide +kernel
theorem d_Model_takes_59 : decode b_Model_takes 59 = .ok (.iconst 1, 1) := by decide +kernel
theorem d_Model_takes_60 : decode b_Model_takes 60 = .ok (.goto 4, 3) := by decide +kernel
theorem d_Model_takes_63 : decode b_Model_takes 63 = .ok (.iconst 0, 1) := by decide +kernel
theorem d_Model_takes_64 : decode b_Model_takes 64 = .ok (.putfield 174, 3) := by decide +kernel
theorem d_Model_takes_67 : decode b_Model_takes 67 = .ok (.return_, 1) := by decide +kernel
abbrev b_Model_lays : ByteArray := prog_8_method_38_code
def y_Model_lays : MethodName := ⟨"RoundAndRoundModel", "lays", "(I)V"⟩
theorem d_Model_lays_0 : decode b_Model_lays 0 = .ok (.aload_n 0, 1) := by decide +kernel
theorem d_Model_lays_1 : decode b_Model_lays 1 = .ok (.getfield 16, 3) := by decide +kernel
theorem d_Model_lays_4 : decode b_Model_lays 4 = .ok (.bipush (6), 2) := by decide +kernel
theorem d_Model_lays_6 : decode b_Model_lays 6 = .ok (.iload_n 1, 1) := by decide +kernel
theorem d_Model_lays_7 : decode b_Model_lays 7 = .ok (.imul, 1) := by decide +kernel
theorem d_Model_lays_8 : decode b_Model_lays 8 = .ok (.aload_n 0, 1) := by decide +kernel
theorem d_Model_lays_9 : decode b_Model_lays 9 = .ok (.getfield 140, 3) := by decide +kernel
theorem d_Model_lays_12 : decode b_Model_lays 12 = .ok (.iastore, 1) := by decide +kernel
theorem d_Model_lays_13 : decode b_Model_lays 13 = .ok (.aload_n 0, 1) := by decide +kernel
theorem d_Model_lays_14 : decode b_Model_lays 14 = .ok (.getfield 16, 3) := by decide +kernel
theorem d_Model_lays_17 : decode b_Model_lays 17 = .ok (.bipush (6), 2) := by decide +kernel
theorem d_Model_lays_19 : decode b_Model_lays 19 = .ok (.iload_n 1, 1) := by decide +kernel
theorem d_Model_lays_20 : decode b_Model_lays 20 = .ok (.imul, 1) := by decide +kernel
theorem d_Model_lays_21 : decode b_Model_lays 21 = .ok (.iconst 3, 1) := by decide +kernel
theorem d_Model_lays_22 : decode b_Model_lays 22 = .ok (.iadd, 1) := by decide +kernel
theorem d_Model_lays_23 : decode b_Model_lays 23 = .ok (.aload_n 0, 1) := by decide +kernel
theorem d_Model_lays_24 : decode b_Model_lays 24 = .ok (.getfield 181, 3) := by decide +kernel
theorem d_Model_lays_27 : decode b_Model_lays 27 = .ok (.iastore, 1) := by decide +kernel
theorem d_Model_lays_28 : decode b_Model_lays 28 = .ok (.aload_n 0, 1) := by decide +kernel
theorem d_Model_lays_29 : decode b_Model_lays 29 = .ok (.getfield 16, 3) := by decide +kernel
theorem d_Model_lays_32 : decode b_Model_lays 32 = .ok (.bipush (6), 2) := by decide +kernel
theorem d_Model_lays_34 : decode b_Model_lays 34 = .ok (.iload_n 1, 1) := by decide +kernel
theorem d_Model_lays_35 : decode b_Model_lays 35 = .ok (.imul, 1) := by decide +kernel
theorem d_Model_lays_36 : decode b_Model_lays 36 = .ok (.iconst 4, 1) := by decide +kernel
theorem d_Model_lays_37 : decode b_Model_lays 37 = .ok (.iadd, 1) := by decide +kernel
theorem d_Model_lays_38 : decode b_Model_lays 38 = .ok (.aload_n 0, 1) := by decide +kernel
theorem d_Model_lays_39 : decode b_Model_lays 39 = .ok (.getfield 186, 3) := by decide +kernel
theorem d_Model_lays_42 : decode b_Model_lays 42 = .ok (.iastore, 1) := by decide +kernel
theorem d_Model_lays_43 : decode b_Model_lays 43 = .ok (.aload_n 0, 1) := by decide +kernel
theorem d_Model_lays_44 : decode b_Model_lays 44 = .ok (.getfield 16, 3) := by decide +kernel
theorem d_Model_lays_47 : decode b_Model_lays 47 = .ok (.bipush (6), 2) := by decide +kernel
theorem d_Model_lays_49 : decode b_Model_lays 49 = .ok (.iload_n 1, 1) := by decide +kernel
theorem d_Model_lays_50 : decode b_Model_lays 50 = .ok (.imul, 1) := by decide +kernel
theorem d_Model_lays_51 : decode b_Model_lays 51 = .ok (.iconst 5, 1) := by decide +kernel
theorem d_Model_lays_52 : decode b_Model_lays 52 = .ok (.iadd, 1) := by decide +kernel
theorem d_Model_lays_53 : decode b_Model_lays 53 = .ok (.aload_n 0, 1) := by decide +kernel
theorem d_Model_lays_54 : decode b_Model_lays 54 = .ok (.getfield 174, 3) := by decide +kernel
theorem d_Model_lays_57 : decode b_Model_lays 57 = .ok (.ifCond .eq 7, 3) := by decide +kernel
theorem d_Model_lays_60 : decode b_Model_lays 60 = .ok (.iconst 1, 1) := by decide +kernel
theorem d_Model_lays_61 : decode b_Model_lays 61 = .ok (.goto 4, 3) := by decide +kernel
theorem d_Model_lays_64 : decode b_Model_lays 64 = .ok (.iconst 0, 1) := by decide +kernel
theorem d_Model_lays_65 : decode b_Model_lays 65 = .ok (.iastore, 1) := by decide +kernel
theorem d_Model_lays_66 : decode b_Model_lays 66 = .ok (.return_, 1) := by decide +kernel
abbrev b_Model_isTurned : ByteArray := prog_8_method_39_code
def y_Model_isTurned : MethodName := ⟨"RoundAndRoundModel", "isTurned", "(I)Z"⟩
theorem d_Model_isTurned_0 : decode b_Model_isTurned 0 = .ok (.iload_n 0, 1) := by decide +kernel
theorem d_Model_isTurned_1 : decode b_Model_isTurned 1 = .ok (.bipush (-40), 2) := by decide +kernel
theorem d_Model_isTurned_3 : decode b_Model_isTurned 3 = .ok (.bipush (40), 2) := by decide +kernel
theorem d_Model_isTurned_5 : decode b_Model_isTurned 5 = .ok (.invokestatic 66, 3) := by decide +kernel
theorem d_Model_isTurned_8 : decode b_Model_isTurned 8 = .ok (.ireturn, 1) := by decide +kernel
abbrev b_Model_turn : ByteArray := prog_8_method_40_code
def y_Model_turn : MethodName := ⟨"RoundAndRoundModel", "turn", "(III)I"⟩
theorem d_Model_turn_0 : decode b_Model_turn 0 = .ok (.aload_n 0, 1) := by decide +kernel
theorem d_Model_turn_1 : decode b_Model_turn 1 = .ok (.iload_n 1, 1) := by decide +kernel
theorem d_Model_turn_2 : decode b_Model_turn 2 = .ok (.invokevirtual 149, 3) := by decide +kernel
theorem d_Model_turn_5 : decode b_Model_turn 5 = .ok (.ifCond .ne 6, 3) := by decide +kernel
theorem d_Model_turn_8 : decode b_Model_turn 8 = .ok (.ldc 156, 2) := by decide +kernel
theorem d_Model_turn_10 : decode b_Model_turn 10 = .ok (.ireturn, 1) := by decide +kernel
theorem d_Model_turn_11 : decode b_Model_turn 11 = .ok (.iload_n 2, 1) := by decide +kernel
theorem d_Model_turn_12 : decode b_Model_turn 12 = .ok (.invokestatic 193, 3) := by decide +kernel
theorem d_Model_turn_15 : decode b_Model_turn 15 = .ok (.ifCond .eq 13, 3) := by decide +kernel
theorem d_Model_turn_18 : decode b_Model_turn 18 = .ok (.iload_n 3, 1) := by decide +kernel
theorem d_Model_turn_19 : decode b_Model_turn 19 = .ok (.iconst 1, 1) := by decide +kernel
theorem d_Model_turn_20 : decode b_Model_turn 20 = .ok (.bipush (9), 2) := by decide +kernel
theorem d_Model_turn_22 : decode b_Model_turn 22 = .ok (.invokestatic 66, 3) := by decide +kernel
theorem d_Model_turn_25 : decode b_Model_turn 25 = .ok (.ifCond .ne 6, 3) := by decide +kernel
theorem d_Model_turn_28 : decode b_Model_turn 28 = .ok (.ldc 157, 2) := by decide +kernel
theorem d_Model_turn_30 : decode b_Model_turn 30 = .ok (.ireturn, 1) := by decide +kernel
theorem d_Model_turn_31 : decode b_Model_turn 31 = .ok (.aload_n 0, 1) := by decide +kernel
theorem d_Model_turn_32 : decode b_Model_turn 32 = .ok (.iload_n 1, 1) := by decide +kernel
theorem d_Model_turn_33 : decode b_Model_turn 33 = .ok (.invokevirtual 196, 3) := by decide +kernel
theorem d_Model_turn_36 : decode b_Model_turn 36 = .ok (.aload_n 0, 1) := by decide +kernel
theorem d_Model_turn_37 : decode b_Model_turn 37 = .ok (.iload_n 1, 1) := by decide +kernel
theorem d_Model_turn_38 : decode b_Model_turn 38 = .ok (.iload_n 2, 1) := by decide +kernel
theorem d_Model_turn_39 : decode b_Model_turn 39 = .ok (.iload_n 3, 1) := by decide +kernel
theorem d_Model_turn_40 : decode b_Model_turn 40 = .ok (.invokevirtual 199, 3) := by decide +kernel
theorem d_Model_turn_43 : decode b_Model_turn 43 = .ok (.aload_n 0, 1) := by decide +kernel
theorem d_Model_turn_44 : decode b_Model_turn 44 = .ok (.iload_n 1, 1) := by decide +kernel
theorem d_Model_turn_45 : decode b_Model_turn 45 = .ok (.invokevirtual 203, 3) := by decide +kernel
theorem d_Model_turn_48 : decode b_Model_turn 48 = .ok (.aload_n 0, 1) := by decide +kernel
theorem d_Model_turn_49 : decode b_Model_turn 49 = .ok (.getfield 16, 3) := by decide +kernel
theorem d_Model_turn_52 : decode b_Model_turn 52 = .ok (.bipush (6), 2) := by decide +kernel
theorem d_Model_turn_54 : decode b_Model_turn 54 = .ok (.iload_n 1, 1) := by decide +kernel
theorem d_Model_turn_55 : decode b_Model_turn 55 = .ok (.imul, 1) := by decide +kernel
theorem d_Model_turn_56 : decode b_Model_turn 56 = .ok (.iconst 2, 1) := by decide +kernel
theorem d_Model_turn_57 : decode b_Model_turn 57 = .ok (.iadd, 1) := by decide +kernel
theorem d_Model_turn_58 : decode b_Model_turn 58 = .ok (.aload_n 0, 1) := by decide +kernel
theorem d_Model_turn_59 : decode b_Model_turn 59 = .ok (.getfield 16, 3) := by decide +kernel
theorem d_Model_turn_62 : decode b_Model_turn 62 = .ok (.bipush (6), 2) := by decide +kernel
theorem d_Model_turn_64 : decode b_Model_turn 64 = .ok (.iload_n 1, 1) := by decide +kernel
theorem d_Model_turn_65 : decode b_Model_turn 65 = .ok (.imul, 1) := by decide +kernel
theorem d_Model_turn_66 : decode b_Model_turn 66 = .ok (.iconst 2, 1) := by decide +kernel
theorem d_Model_turn_67 : decode b_Model_turn 67 = .ok (.iadd, 1) := by decide +kernel
theorem d_Model_turn_68 : decode b_Model_turn 68 = .ok (.iaload, 1) := by decide +kernel
theorem d_Model_turn_69 : decode b_Model_turn 69 = .ok (.iconst 1, 1) := by decide +kernel
theorem d_Model_turn_70 : decode b_Model_turn 70 = .ok (.iadd, 1) := by decide +kernel
theorem d_Model_turn_71 : decode b_Model_turn 71 = .ok (.iconst 0, 1) := by decide +kernel
theorem d_Model_turn_72 : decode b_Model_turn 72 = .ok (.bipush (99), 2) := by decide +kernel
theorem d_Model_turn_74 : decode b_Model_turn 74 = .ok (.invokestatic 146, 3) := by decide +kernel
theorem d_Model_turn_77 : decode b_Model_turn 77 = .ok (.iastore, 1) := by decide +kernel
theorem d_Model_turn_78 : decode b_Model_turn 78 = .ok (.aload_n 0, 1) := by decide +kernel
theorem d_Model_turn_79 : decode b_Model_turn 79 = .ok (.getfield 140, 3) := by decide +kernel
theorem d_Model_turn_82 : decode b_Model_turn 82 = .ok (.ireturn, 1) := by decide +kernel
abbrev b_Model_rest : ByteArray := prog_8_method_41_code
def y_Model_rest : MethodName := ⟨"RoundAndRoundModel", "rest", "(III)I"⟩
theorem d_Model_rest_0 : decode b_Model_rest 0 = .ok (.aload_n 0, 1) := by decide +kernel
theorem d_Model_rest_1 : decode b_Model_rest 1 = .ok (.iload_n 1, 1) := by decide +kernel
theorem d_Model_rest_2 : decode b_Model_rest 2 = .ok (.invokevirtual 149, 3) := by decide +kernel
theorem d_Model_rest_5 : decode b_Model_rest 5 = .ok (.ifCond .ne 6, 3) := by decide +kernel
theorem d_Model_rest_8 : decode b_Model_rest 8 = .ok (.ldc 156, 2) := by decide +kernel
theorem d_Model_rest_10 : decode b_Model_rest 10 = .ok (.ireturn, 1) := by decide +kernel
theorem d_Model_rest_11 : decode b_Model_rest 11 = .ok (.iload_n 2, 1) := by decide +kernel
theorem d_Model_rest_12 : decode b_Model_rest 12 = .ok (.iconst 0, 1) := by decide +kernel
theorem d_Model_rest_13 : decode b_Model_rest 13 = .ok (.bipush (60), 2) := by decide +kernel
theorem d_Model_rest_15 : decode b_Model_rest 15 = .ok (.invokestatic 66, 3) := by decide +kernel
theorem d_Model_rest_18 : decode b_Model_rest 18 = .ok (.ifCond .eq 12, 3) := by decide +kernel
theorem d_Model_rest_21 : decode b_Model_rest 21 = .ok (.iload_n 3, 1) := by decide +kernel
theorem d_Model_rest_22 : decode b_Model_rest 22 = .ok (.iconst 0, 1) := by decide +kernel
theorem d_Model_rest_23 : decode b_Model_rest 23 = .ok (.iconst 1, 1) := by decide +kernel
theorem d_Model_rest_24 : decode b_Model_rest 24 = .ok (.invokestatic 66, 3) := by decide +kernel
theorem d_Model_rest_27 : decode b_Model_rest 27 = .ok (.ifCond .ne 6, 3) := by decide +kernel
theorem d_Model_rest_30 : decode b_Model_rest 30 = .ok (.ldc 157, 2) := by decide +kernel
theorem d_Model_rest_32 : decode b_Model_rest 32 = .ok (.ireturn, 1) := by decide +kernel
theorem d_Model_rest_33 : decode b_Model_rest 33 = .ok (.aload_n 0, 1) := by decide +kernel
theorem d_Model_rest_34 : decode b_Model_rest 34 = .ok (.iload_n 1, 1) := by decide +kernel
theorem d_Model_rest_35 : decode b_Model_rest 35 = .ok (.invokevirtual 196, 3) := by decide +kernel
theorem d_Model_rest_38 : decode b_Model_rest 38 = .ok (.aload_n 0, 1) := by decide +kernel
theorem d_Model_rest_39 : decode b_Model_rest 39 = .ok (.iload_n 1, 1) := by decide +kernel
theorem d_Model_rest_40 : decode b_Model_rest 40 = .ok (.iload_n 2, 1) := by decide +kernel
theorem d_Model_rest_41 : decode b_Model_rest 41 = .ok (.iload_n 3, 1) := by decide +kernel
theorem d_Model_rest_42 : decode b_Model_rest 42 = .ok (.invokevirtual 206, 3) := by decide +kernel
theorem d_Model_rest_45 : decode b_Model_rest 45 = .ok (.aload_n 0, 1) := by decide +kernel
theorem d_Model_rest_46 : decode b_Model_rest 46 = .ok (.iload_n 1, 1) := by decide +kernel
theorem d_Model_rest_47 : decode b_Model_rest 47 = .ok (.invokevirtual 203, 3) := by decide +kernel
theorem d_Model_rest_50 : decode b_Model_rest 50 = .ok (.aload_n 0, 1) := by decide +kernel
theorem d_Model_rest_51 : decode b_Model_rest 51 = .ok (.getfield 140, 3) := by decide +kernel
theorem d_Model_rest_54 : decode b_Model_rest 54 = .ok (.ireturn, 1) := by decide +kernel
abbrev b_Model_walk : ByteArray := prog_8_method_42_code
def y_Model_walk : MethodName := ⟨"RoundAndRoundModel", "walk", "(III)I"⟩
theorem d_Model_walk_0 : decode b_Model_walk 0 = .ok (.aload_n 0, 1) := by decide +kernel
theorem d_Model_walk_1 : decode b_Model_walk 1 = .ok (.iload_n 1, 1) := by decide +kernel
theorem d_Model_walk_2 : decode b_Model_walk 2 = .ok (.invokevirtual 149, 3) := by decide +kernel
theorem d_Model_walk_5 : decode b_Model_walk 5 = .ok (.ifCond .ne 6, 3) := by decide +kernel
theorem d_Model_walk_8 : decode b_Model_walk 8 = .ok (.ldc 156, 2) := by decide +kernel
theorem d_Model_walk_10 : decode b_Model_walk 10 = .ok (.ireturn, 1) := by decide +kernel
theorem d_Model_walk_11 : decode b_Model_walk 11 = .ok (.iload_n 2, 1) := by decide +kernel
theorem d_Model_walk_12 : decode b_Model_walk 12 = .ok (.iconst 0, 1) := by decide +kernel
theorem d_Model_walk_13 : decode b_Model_walk 13 = .ok (.bipush (60), 2) := by decide +kernel
theorem d_Model_walk_15 : decode b_Model_walk 15 = .ok (.invokestatic 66, 3) := by decide +kernel
theorem d_Model_walk_18 : decode b_Model_walk 18 = .ok (.ifCond .eq 22, 3) := by decide +kernel
theorem d_Model_walk_21 : decode b_Model_walk 21 = .ok (.iload_n 3, 1) := by decide +kernel
theorem d_Model_walk_22 : decode b_Model_walk 22 = .ok (.bipush (10), 2) := by decide +kernel
theorem d_Model_walk_24 : decode b_Model_walk 24 = .ok (.bipush (91), 2) := by decide +kernel
theorem d_Model_walk_26 : decode b_Model_walk 26 = .ok (.invokestatic 66, 3) := by decide +kernel
theorem d_Model_walk_29 : decode b_Model_walk 29 = .ok (.ifCond .eq 11, 3) := by decide +kernel
theorem d_Model_walk_32 : decode b_Model_walk 32 = .ok (.iload_n 3, 1) := by decide +kernel
theorem d_Model_walk_33 : decode b_Model_walk 33 = .ok (.bipush (10), 2) := by decide +kernel
theorem d_Model_walk_35 : decode b_Model_walk 35 = .ok (.irem, 1) := by decide +kernel
theorem d_Model_walk_36 : decode b_Model_walk 36 = .ok (.iconst 1, 1) := by decide +kernel
theorem d_Model_walk_37 : decode b_Model_walk 37 = .ok (.if_icmp .le 6, 3) := by decide +kernel
theorem d_Model_walk_40 : decode b_Model_walk 40 = .ok (.ldc 157, 2) := by decide +kernel
theorem d_Model_walk_42 : decode b_Model_walk 42 = .ok (.ireturn, 1) := by decide +kernel
theorem d_Model_walk_43 : decode b_Model_walk 43 = .ok (.aload_n 0, 1) := by decide +kernel
theorem d_Model_walk_44 : decode b_Model_walk 44 = .ok (.iload_n 1, 1) := by decide +kernel
theorem d_Model_walk_45 : decode b_Model_walk 45 = .ok (.invokevirtual 196, 3) := by decide +kernel
theorem d_Model_walk_48 : decode b_Model_walk 48 = .ok (.aload_n 0, 1) := by decide +kernel
theorem d_Model_walk_49 : decode b_Model_walk 49 = .ok (.iload_n 1, 1) := by decide +kernel
theorem d_Model_walk_50 : decode b_Model_walk 50 = .ok (.iload_n 2, 1) := by decide +kernel
theorem d_Model_walk_51 : decode b_Model_walk 51 = .ok (.iload_n 3, 1) := by decide +kernel
theorem d_Model_walk_52 : decode b_Model_walk 52 = .ok (.bipush (10), 2) := by decide +kernel
theorem d_Model_walk_54 : decode b_Model_walk 54 = .ok (.idiv, 1) := by decide +kernel
theorem d_Model_walk_55 : decode b_Model_walk 55 = .ok (.iload_n 3, 1) := by decide +kernel
theorem d_Model_walk_56 : decode b_Model_walk 56 = .ok (.bipush (10), 2) := by decide +kernel
theorem d_Model_walk_58 : decode b_Model_walk 58 = .ok (.irem, 1) := by decide +kernel
theorem d_Model_walk_59 : decode b_Model_walk 59 = .ok (.invokevirtual 209, 3) := by decide +kernel
theorem d_Model_walk_62 : decode b_Model_walk 62 = .ok (.aload_n 0, 1) := by decide +kernel
theorem d_Model_walk_63 : decode b_Model_walk 63 = .ok (.iload_n 1, 1) := by decide +kernel
theorem d_Model_walk_64 : decode b_Model_walk 64 = .ok (.invokevirtual 203, 3) := by decide +kernel
theorem d_Model_walk_67 : decode b_Model_walk 67 = .ok (.aload_n 0, 1) := by decide +kernel
theorem d_Model_walk_68 : decode b_Model_walk 68 = .ok (.getfield 186, 3) := by decide +kernel
theorem d_Model_walk_71 : decode b_Model_walk 71 = .ok (.ireturn, 1) := by decide +kernel
abbrev b_Model_up : ByteArray := prog_8_method_43_code
def y_Model_up : MethodName := ⟨"RoundAndRoundModel", "up", "(I)I"⟩
theorem d_Model_up_0 : decode b_Model_up 0 = .ok (.aload_n 0, 1) := by decide +kernel
theorem d_Model_up_1 : decode b_Model_up 1 = .ok (.iload_n 1, 1) := by decide +kernel
theorem d_Model_up_2 : decode b_Model_up 2 = .ok (.invokevirtual 149, 3) := by decide +kernel
theorem d_Model_up_5 : decode b_Model_up 5 = .ok (.ifCond .ne 6, 3) := by decide +kernel
theorem d_Model_up_8 : decode b_Model_up 8 = .ok (.ldc 156, 2) := by decide +kernel
theorem d_Model_up_10 : decode b_Model_up 10 = .ok (.ireturn, 1) := by decide +kernel
theorem d_Model_up_11 : decode b_Model_up 11 = .ok (.aload_n 0, 1) := by decide +kernel
theorem d_Model_up_12 : decode b_Model_up 12 = .ok (.getfield 16, 3) := by decide +kernel
theorem d_Model_up_15 : decode b_Model_up 15 = .ok (.bipush (6), 2) := by decide +kernel
theorem d_Model_up_17 : decode b_Model_up 17 = .ok (.iload_n 1, 1) := by decide +kernel
theorem d_Model_up_18 : decode b_Model_up 18 = .ok (.imul, 1) := by decide +kernel
theorem d_Model_up_19 : decode b_Model_up 19 = .ok (.iconst 4, 1) := by decide +kernel
theorem d_Model_up_20 : decode b_Model_up 20 = .ok (.iadd, 1) := by decide +kernel
theorem d_Model_up_21 : decode b_Model_up 21 = .ok (.iaload, 1) := by decide +kernel
theorem d_Model_up_22 : decode b_Model_up 22 = .ok (.istore_n 2, 1) := by decide +kernel
theorem d_Model_up_23 : decode b_Model_up 23 = .ok (.aload_n 0, 1) := by decide +kernel
theorem d_Model_up_24 : decode b_Model_up 24 = .ok (.getfield 16, 3) := by decide +kernel
theorem d_Model_up_27 : decode b_Model_up 27 = .ok (.bipush (6), 2) := by decide +kernel
theorem d_Model_up_29 : decode b_Model_up 29 = .ok (.iload_n 1, 1) := by decide +kernel
theorem d_Model_up_30 : decode b_Model_up 30 = .ok (.imul, 1) := by decide +kernel
theorem d_Model_up_31 : decode b_Model_up 31 = .ok (.iconst 3, 1) := by decide +kernel
theorem d_Model_up_32 : decode b_Model_up 32 = .ok (.iadd, 1) := by decide +kernel
theorem d_Model_up_33 : decode b_Model_up 33 = .ok (.iconst 0, 1) := by decide +kernel
theorem d_Model_up_34 : decode b_Model_up 34 = .ok (.iastore, 1) := by decide +kernel
theorem d_Model_up_35 : decode b_Model_up 35 = .ok (.aload_n 0, 1) := by decide +kernel
theorem d_Model_up_36 : decode b_Model_up 36 = .ok (.getfield 16, 3) := by decide +kernel
theorem d_Model_up_39 : decode b_Model_up 39 = .ok (.bipush (6), 2) := by decide +kernel
theorem d_Model_up_41 : decode b_Model_up 41 = .ok (.iload_n 1, 1) := by decide +kernel
theorem d_Model_up_42 : decode b_Model_up 42 = .ok (.imul, 1) := by decide +kernel
theorem d_Model_up_43 : decode b_Model_up 43 = .ok (.iconst 4, 1) := by decide +kernel
theorem d_Model_up_44 : decode b_Model_up 44 = .ok (.iadd, 1) := by decide +kernel
theorem d_Model_up_45 : decode b_Model_up 45 = .ok (.iconst 0, 1) := by decide +kernel
theorem d_Model_up_46 : decode b_Model_up 46 = .ok (.iastore, 1) := by decide +kernel
theorem d_Model_up_47 : decode b_Model_up 47 = .ok (.aload_n 0, 1) := by decide +kernel
theorem d_Model_up_48 : decode b_Model_up 48 = .ok (.getfield 16, 3) := by decide +kernel
theorem d_Model_up_51 : decode b_Model_up 51 = .ok (.bipush (6), 2) := by decide +kernel
theorem d_Model_up_53 : decode b_Model_up 53 = .ok (.iload_n 1, 1) := by decide +kernel
theorem d_Model_up_54 : decode b_Model_up 54 = .ok (.imul, 1) := by decide +kernel
theorem d_Model_up_55 : decode b_Model_up 55 = .ok (.iconst 5, 1) := by decide +kernel
theorem d_Model_up_56 : decode b_Model_up 56 = .ok (.iadd, 1) := by decide +kernel
theorem d_Model_up_57 : decode b_Model_up 57 = .ok (.iconst 0, 1) := by decide +kernel
theorem d_Model_up_58 : decode b_Model_up 58 = .ok (.iastore, 1) := by decide +kernel
theorem d_Model_up_59 : decode b_Model_up 59 = .ok (.iload_n 2, 1) := by decide +kernel
theorem d_Model_up_60 : decode b_Model_up 60 = .ok (.ireturn, 1) := by decide +kernel
abbrev b_Model_begins : ByteArray := prog_8_method_44_code
def y_Model_begins : MethodName := ⟨"RoundAndRoundModel", "begins", "(I)V"⟩
theorem d_Model_begins_0 : decode b_Model_begins 0 = .ok (.aload_n 0, 1) := by decide +kernel
theorem d_Model_begins_1 : decode b_Model_begins 1 = .ok (.aload_n 0, 1) := by decide +kernel
theorem d_Model_begins_2 : decode b_Model_begins 2 = .ok (.getfield 16, 3) := by decide +kernel
theorem d_Model_begins_5 : decode b_Model_begins 5 = .ok (.bipush (6), 2) := by decide +kernel
theorem d_Model_begins_7 : decode b_Model_begins 7 = .ok (.iload_n 1, 1) := by decide +kernel
theorem d_Model_begins_8 : decode b_Model_begins 8 = .ok (.imul, 1) := by decide +kernel
theorem d_Model_begins_9 : decode b_Model_begins 9 = .ok (.iaload, 1) := by decide +kernel
theorem d_Model_begins_10 : decode b_Model_begins 10 = .ok (.putfield 140, 3) := by decide +kernel
theorem d_Model_begins_13 : decode b_Model_begins 13 = .ok (.aload_n 0, 1) := by decide +kernel
theorem d_Model_begins_14 : decode b_Model_begins 14 = .ok (.iconst 0, 1) := by decide +kernel
theorem d_Model_begins_15 : decode b_Model_begins 15 = .ok (.putfield 181, 3) := by decide +kernel
theorem d_Model_begins_18 : decode b_Model_begins 18 = .ok (.aload_n 0, 1) := by decide +kernel
theorem d_Model_begins_19 : decode b_Model_begins 19 = .ok (.iconst 0, 1) := by decide +kernel
theorem d_Model_begins_20 : decode b_Model_begins 20 = .ok (.putfield 186, 3) := by decide +kernel
theorem d_Model_begins_23 : decode b_Model_begins 23 = .ok (.aload_n 0, 1) := by decide +kernel
theorem d_Model_begins_24 : decode b_Model_begins 24 = .ok (.iconst 0, 1) := by decide +kernel
theorem d_Model_begins_25 : decode b_Model_begins 25 = .ok (.putfield 174, 3) := by decide +kernel
theorem d_Model_begins_28 : decode b_Model_begins 28 = .ok (.aload_n 0, 1) := by decide +kernel
theorem d_Model_begins_29 : decode b_Model_begins 29 = .ok (.iconst (-1), 1) := by decide +kernel
theorem d_Model_begins_30 : decode b_Model_begins 30 = .ok (.putfield 178, 3) := by decide +kernel
theorem d_Model_begins_33 : decode b_Model_begins 33 = .ok (.return_, 1) := by decide +kernel
abbrev b_Model_tries : ByteArray := prog_8_method_45_code
def y_Model_tries : MethodName := ⟨"RoundAndRoundModel", "tries", "(IIIIII)V"⟩
theorem d_Model_tries_0 : decode b_Model_tries 0 = .ok (.aload_n 0, 1) := by decide +kernel
theorem d_Model_tries_1 : decode b_Model_tries 1 = .ok (.iload_n 1, 1) := by decide +kernel
theorem d_Model_tries_2 : decode b_Model_tries 2 = .ok (.invokevirtual 212, 3) := by decide +kernel
theorem d_Model_tries_5 : decode b_Model_tries 5 = .ok (.aload_n 0, 1) := by decide +kernel
theorem d_Model_tries_6 : decode b_Model_tries 6 = .ok (.iload_n 1, 1) := by decide +kernel
theorem d_Model_tries_7 : decode b_Model_tries 7 = .ok (.iload_n 2, 1) := by decide +kernel
theorem d_Model_tries_8 : decode b_Model_tries 8 = .ok (.iload_n 3, 1) := by decide +kernel
theorem d_Model_tries_9 : decode b_Model_tries 9 = .ok (.invokevirtual 199, 3) := by decide +kernel
theorem d_Model_tries_12 : decode b_Model_tries 12 = .ok (.aload_n 0, 1) := by decide +kernel
theorem d_Model_tries_13 : decode b_Model_tries 13 = .ok (.iload_n 1, 1) := by decide +kernel
theorem d_Model_tries_14 : decode b_Model_tries 14 = .ok (.iload 4, 2) := by decide +kernel
theorem d_Model_tries_16 : decode b_Model_tries 16 = .ok (.iconst 1, 1) := by decide +kernel
theorem d_Model_tries_17 : decode b_Model_tries 17 = .ok (.invokevirtual 206, 3) := by decide +kernel
theorem d_Model_tries_20 : decode b_Model_tries 20 = .ok (.aload_n 0, 1) := by decide +kernel
theorem d_Model_tries_21 : decode b_Model_tries 21 = .ok (.iload_n 1, 1) := by decide +kernel
theorem d_Model_tries_22 : decode b_Model_tries 22 = .ok (.iload 6, 2) := by decide +kernel
theorem d_Model_tries_24 : decode b_Model_tries 24 = .ok (.iload 5, 2) := by decide +kernel
theorem d_Model_tries_26 : decode b_Model_tries 26 = .ok (.iconst 1, 1) := by decide +kernel
theorem d_Model_tries_27 : decode b_Model_tries 27 = .ok (.invokevirtual 209, 3) := by decide +kernel
theorem d_Model_tries_30 : decode b_Model_tries 30 = .ok (.return_, 1) := by decide +kernel
abbrev b_Model_areDigits : ByteArray := prog_8_method_46_code
def y_Model_areDigits : MethodName := ⟨"RoundAndRoundModel", "areDigits", "(I)Z"⟩
theorem d_Model_areDigits_0 : decode b_Model_areDigits 0 = .ok (.iload_n 0, 1) := by decide +kernel
theorem d_Model_areDigits_1 : decode b_Model_areDigits 1 = .ok (.bipush (11), 2) := by decide +kernel
theorem d_Model_areDigits_3 : decode b_Model_areDigits 3 = .ok (.bipush (99), 2) := by decide +kernel
theorem d_Model_areDigits_5 : decode b_Model_areDigits 5 = .ok (.invokestatic 66, 3) := by decide +kernel
theorem d_Model_areDigits_8 : decode b_Model_areDigits 8 = .ok (.ifCond .eq 14, 3) := by decide +kernel
theorem d_Model_areDigits_11 : decode b_Model_areDigits 11 = .ok (.iload_n 0, 1) := by decide +kernel
theorem d_Model_areDigits_12 : decode b_Model_areDigits 12 = .ok (.bipush (10), 2) := by decide +kernel
theorem d_Model_areDigits_14 : decode b_Model_areDigits 14 = .ok (.irem, 1) := by decide +kernel
theorem d_Model_areDigits_15 : decode b_Model_areDigits 15 = .ok (.ifCond .le 7, 3) := by decide +kernel
theorem d_Model_areDigits_18 : decode b_Model_areDigits 18 = .ok (.iconst 1, 1) := by decide +kernel
theorem d_Model_areDigits_19 : decode b_Model_areDigits 19 = .ok (.goto 4, 3) := by decide +kernel
theorem d_Model_areDigits_22 : decode b_Model_areDigits 22 = .ok (.iconst 0, 1) := by decide +kernel
theorem d_Model_areDigits_23 : decode b_Model_areDigits 23 = .ok (.ireturn, 1) := by decide +kernel
abbrev b_Model_ends : ByteArray := prog_8_method_47_code
def y_Model_ends : MethodName := ⟨"RoundAndRoundModel", "ends", "(IIIII)I"⟩
theorem d_Model_ends_0 : decode b_Model_ends 0 = .ok (.aload_n 0, 1) := by decide +kernel
theorem d_Model_ends_1 : decode b_Model_ends 1 = .ok (.iload_n 1, 1) := by decide +kernel
theorem d_Model_ends_2 : decode b_Model_ends 2 = .ok (.invokevirtual 149, 3) := by decide +kernel
theorem d_Model_ends_5 : decode b_Model_ends 5 = .ok (.ifCond .ne 6, 3) := by decide +kernel
theorem d_Model_ends_8 : decode b_Model_ends 8 = .ok (.ldc 156, 2) := by decide +kernel
theorem d_Model_ends_10 : decode b_Model_ends 10 = .ok (.ireturn, 1) := by decide +kernel
theorem d_Model_ends_11 : decode b_Model_ends 11 = .ok (.iload_n 2, 1) := by decide +kernel
theorem d_Model_ends_12 : decode b_Model_ends 12 = .ok (.invokestatic 193, 3) := by decide +kernel
theorem d_Model_ends_15 : decode b_Model_ends 15 = .ok (.ifCond .eq 49, 3) := by decide +kernel
theorem d_Model_ends_18 : decode b_Model_ends 18 = .ok (.iload_n 3, 1) := by decide +kernel
theorem d_Model_ends_19 : decode b_Model_ends 19 = .ok (.iconst 0, 1) := by decide +kernel
theorem d_Model_ends_20 : decode b_Model_ends 20 = .ok (.sipush (6099), 3) := by decide +kernel
theorem d_Model_ends_23 : decode b_Model_ends 23 = .ok (.invokestatic 66, 3) := by decide +kernel
theorem d_Model_ends_26 : decode b_Model_ends 26 = .ok (.ifCond .eq 38, 3) := by decide +kernel
theorem d_Model_ends_29 : decode b_Model_ends 29 = .ok (.iload_n 3, 1) := by decide +kernel
theorem d_Model_ends_30 : decode b_Model_ends 30 = .ok (.bipush (100), 2) := by decide +kernel
theorem d_Model_ends_32 : decode b_Model_ends 32 = .ok (.irem, 1) := by decide +kernel
theorem d_Model_ends_33 : decode b_Model_ends 33 = .ok (.invokestatic 215, 3) := by decide +kernel
theorem d_Model_ends_36 : decode b_Model_ends 36 = .ok (.ifCond .eq 28, 3) := by decide +kernel
theorem d_Model_ends_39 : decode b_Model_ends 39 = .ok (.iload 4, 2) := by decide +kernel
theorem d_Model_ends_41 : decode b_Model_ends 41 = .ok (.iconst 0, 1) := by decide +kernel
theorem d_Model_ends_42 : decode b_Model_ends 42 = .ok (.bipush (60), 2) := by decide +kernel
theorem d_Model_ends_44 : decode b_Model_ends 44 = .ok (.invokestatic 66, 3) := by decide +kernel
theorem d_Model_ends_47 : decode b_Model_ends 47 = .ok (.ifCond .eq 17, 3) := by decide +kernel
theorem d_Model_ends_50 : decode b_Model_ends 50 = .ok (.iload 5, 2) := by decide +kernel
theorem d_Model_ends_52 : decode b_Model_ends 52 = .ok (.iconst 0, 1) := by decide +kernel
theorem d_Model_ends_53 : decode b_Model_ends 53 = .ok (.iconst 3, 1) := by decide +kernel
theorem d_Model_ends_54 : decode b_Model_ends 54 = .ok (.invokestatic 66, 3) := by decide +kernel
theorem d_Model_ends_57 : decode b_Model_ends 57 = .ok (.ifCond .eq 7, 3) := by decide +kernel
theorem d_Model_ends_60 : decode b_Model_ends 60 = .ok (.iconst 1, 1) := by decide +kernel
theorem d_Model_ends_61 : decode b_Model_ends 61 = .ok (.goto 4, 3) := by decide +kernel
theorem d_Model_ends_64 : decode b_Model_ends 64 = .ok (.iconst 0, 1) := by decide +kernel
theorem d_Model_ends_65 : decode b_Model_ends 65 = .ok (.istore 6, 2) := by decide +kernel
theorem d_Model_ends_67 : decode b_Model_ends 67 = .ok (.iload 6, 2) := by decide +kernel
theorem d_Model_ends_69 : decode b_Model_ends 69 = .ok (.ifCond .ne 6, 3) := by decide +kernel
theorem d_Model_ends_72 : decode b_Model_ends 72 = .ok (.ldc 157, 2) := by decide +kernel
theorem d_Model_ends_74 : decode b_Model_ends 74 = .ok (.ireturn, 1) := by decide +kernel
theorem d_Model_ends_75 : decode b_Model_ends 75 = .ok (.aload_n 0, 1) := by decide +kernel
theorem d_Model_ends_76 : decode b_Model_ends 76 = .ok (.iload_n 1, 1) := by decide +kernel
theorem d_Model_ends_77 : decode b_Model_ends 77 = .ok (.iload_n 2, 1) := by decide +kernel
theorem d_Model_ends_78 : decode b_Model_ends 78 = .ok (.iload_n 3, 1) := by decide +kernel
theorem d_Model_ends_79 : decode b_Model_ends 79 = .ok (.bipush (10), 2) := by decide +kernel
theorem d_Model_ends_81 : decode b_Model_ends 81 = .ok (.idiv, 1) := by decide +kernel
theorem d_Model_ends_82 : decode b_Model_ends 82 = .ok (.bipush (10), 2) := by decide +kernel
theorem d_Model_ends_84 : decode b_Model_ends 84 = .ok (.irem, 1) := by decide +kernel
theorem d_Model_ends_85 : decode b_Model_ends 85 = .ok (.iload_n 3, 1) := by decide +kernel
theorem d_Model_ends_86 : decode b_Model_ends 86 = .ok (.bipush (100), 2) := by decide +kernel
theorem d_Model_ends_88 : decode b_Model_ends 88 = .ok (.idiv, 1) := by decide +kernel
theorem d_Model_ends_89 : decode b_Model_ends 89 = .ok (.iload_n 3, 1) := by decide +kernel
theorem d_Model_ends_90 : decode b_Model_ends 90 = .ok (.bipush (10), 2) := by decide +kernel
theorem d_Model_ends_92 : decode b_Model_ends 92 = .ok (.irem, 1) := by decide +kernel
theorem d_Model_ends_93 : decode b_Model_ends 93 = .ok (.iload 4, 2) := by decide +kernel
theorem d_Model_ends_95 : decode b_Model_ends 95 = .ok (.invokevirtual 218, 3) := by decide +kernel
theorem d_Model_ends_98 : decode b_Model_ends 98 = .ok (.iload 5, 2) := by decide +kernel
theorem d_Model_ends_100 : decode b_Model_ends 100 = .ok (.ifCond .ne 10, 3) := by decide +kernel
theorem d_Model_ends_103 : decode b_Model_ends 103 = .ok (.aload_n 0, 1) := by decide +kernel
theorem d_Model_ends_104 : decode b_Model_ends 104 = .ok (.getfield 140, 3) := by decide +kernel
theorem d_Model_ends_107 : decode b_Model_ends 107 = .ok (.goto 33, 3) := by decide +kernel
theorem d_Model_ends_110 : decode b_Model_ends 110 = .ok (.iload 5, 2) := by decide +kernel
theorem d_Model_ends_112 : decode b_Model_ends 112 = .ok (.iconst 1, 1) := by decide +kernel
theorem d_Model_ends_113 : decode b_Model_ends 113 = .ok (.if_icmp .ne 10, 3) := by decide +kernel
theorem d_Model_ends_116 : decode b_Model_ends 116 = .ok (.aload_n 0, 1) := by decide +kernel
theorem d_Model_ends_117 : decode b_Model_ends 117 = .ok (.getfield 186, 3) := by decide +kernel
theorem d_Model_ends_120 : decode b_Model_ends 120 = .ok (.goto 20, 3) := by decide +kernel
theorem d_Model_ends_123 : decode b_Model_ends 123 = .ok (.iload 5, 2) := by decide +kernel
theorem d_Model_ends_125 : decode b_Model_ends 125 = .ok (.iconst 2, 1) := by decide +kernel
theorem d_Model_ends_126 : decode b_Model_ends 126 = .ok (.if_icmp .ne 10, 3) := by decide +kernel
theorem d_Model_ends_129 : decode b_Model_ends 129 = .ok (.aload_n 0, 1) := by decide +kernel
theorem d_Model_ends_130 : decode b_Model_ends 130 = .ok (.getfield 181, 3) := by decide +kernel
theorem d_Model_ends_133 : decode b_Model_ends 133 = .ok (.goto 7, 3) := by decide +kernel
theorem d_Model_ends_136 : decode b_Model_ends 136 = .ok (.aload_n 0, 1) := by decide +kernel
theorem d_Model_ends_137 : decode b_Model_ends 137 = .ok (.getfield 178, 3) := by decide +kernel
theorem d_Model_ends_140 : decode b_Model_ends 140 = .ok (.ireturn, 1) := by decide +kernel
abbrev b_Model_stands : ByteArray := prog_8_method_48_code
def y_Model_stands : MethodName := ⟨"RoundAndRoundModel", "stands", "(II)I"⟩
theorem d_Model_stands_0 : decode b_Model_stands 0 = .ok (.aload_n 0, 1) := by decide +kernel
theorem d_Model_stands_1 : decode b_Model_stands 1 = .ok (.iload_n 1, 1) := by decide +kernel
theorem d_Model_stands_2 : decode b_Model_stands 2 = .ok (.invokevirtual 149, 3) := by decide +kernel
theorem d_Model_stands_5 : decode b_Model_stands 5 = .ok (.ifCond .ne 6, 3) := by decide +kernel
theorem d_Model_stands_8 : decode b_Model_stands 8 = .ok (.ldc 156, 2) := by decide +kernel
theorem d_Model_stands_10 : decode b_Model_stands 10 = .ok (.ireturn, 1) := by decide +kernel
theorem d_Model_stands_11 : decode b_Model_stands 11 = .ok (.iload_n 2, 1) := by decide +kernel
theorem d_Model_stands_12 : decode b_Model_stands 12 = .ok (.iconst 1, 1) := by decide +kernel
theorem d_Model_stands_13 : decode b_Model_stands 13 = .ok (.bipush (9), 2) := by decide +kernel
theorem d_Model_stands_15 : decode b_Model_stands 15 = .ok (.invokestatic 66, 3) := by decide +kernel
theorem d_Model_stands_18 : decode b_Model_stands 18 = .ok (.ifCond .ne 6, 3) := by decide +kernel
theorem d_Model_stands_21 : decode b_Model_stands 21 = .ok (.ldc 157, 2) := by decide +kernel
theorem d_Model_stands_23 : decode b_Model_stands 23 = .ok (.ireturn, 1) := by decide +kernel
theorem d_Model_stands_24 : decode b_Model_stands 24 = .ok (.iconst 0, 1) := by decide +kernel
theorem d_Model_stands_25 : decode b_Model_stands 25 = .ok (.istore_n 3, 1) := by decide +kernel
theorem d_Model_stands_26 : decode b_Model_stands 26 = .ok (.iconst 1, 1) := by decide +kernel
theorem d_Model_stands_27 : decode b_Model_stands 27 = .ok (.istore 4, 2) := by decide +kernel
theorem d_Model_stands_29 : decode b_Model_stands 29 = .ok (.iload 4, 2) := by decide +kernel
theorem d_Model_stands_31 : decode b_Model_stands 31 = .ok (.bipush (40), 2) := by decide +kernel
theorem d_Model_stands_33 : decode b_Model_stands 33 = .ok (.if_icmp .gt 44, 3) := by decide +kernel
theorem d_Model_stands_36 : decode b_Model_stands 36 = .ok (.aload_n 0, 1) := by decide +kernel
theorem d_Model_stands_37 : decode b_Model_stands 37 = .ok (.iload_n 1, 1) := by decide +kernel
theorem d_Model_stands_38 : decode b_Model_stands 38 = .ok (.invokevirtual 212, 3) := by decide +kernel
theorem d_Model_stands_41 : decode b_Model_stands 41 = .ok (.aload_n 0, 1) := by decide +kernel
theorem d_Model_stands_42 : decode b_Model_stands 42 = .ok (.iload_n 1, 1) := by decide +kernel
theorem d_Model_stands_43 : decode b_Model_stands 43 = .ok (.iload 4, 2) := by decide +kernel
theorem d_Model_stands_45 : decode b_Model_stands 45 = .ok (.iload_n 2, 1) := by decide +kernel
theorem d_Model_stands_46 : decode b_Model_stands 46 = .ok (.invokevirtual 199, 3) := by decide +kernel
theorem d_Model_stands_49 : decode b_Model_stands 49 = .ok (.aload_n 0, 1) := by decide +kernel
theorem d_Model_stands_50 : decode b_Model_stands 50 = .ok (.getfield 140, 3) := by decide +kernel
theorem d_Model_stands_53 : decode b_Model_stands 53 = .ok (.invokestatic 164, 3) := by decide +kernel
theorem d_Model_stands_56 : decode b_Model_stands 56 = .ok (.aload_n 0, 1) := by decide +kernel
theorem d_Model_stands_57 : decode b_Model_stands 57 = .ok (.iload_n 1, 1) := by decide +kernel
theorem d_Model_stands_58 : decode b_Model_stands 58 = .ok (.invokevirtual 158, 3) := by decide +kernel
theorem d_Model_stands_61 : decode b_Model_stands 61 = .ok (.if_icmp .ge 8, 3) := by decide +kernel
theorem d_Model_stands_64 : decode b_Model_stands 64 = .ok (.iload 4, 2) := by decide +kernel
theorem d_Model_stands_66 : decode b_Model_stands 66 = .ok (.goto 4, 3) := by decide +kernel
theorem d_Model_stands_69 : decode b_Model_stands 69 = .ok (.iload_n 3, 1) := by decide +kernel
theorem d_Model_stands_70 : decode b_Model_stands 70 = .ok (.istore_n 3, 1) := by decide +kernel
theorem d_Model_stands_71 : decode b_Model_stands 71 = .ok (.iinc 4 (1), 3) := by decide +kernel
theorem d_Model_stands_74 : decode b_Model_stands 74 = .ok (.goto (-45), 3) := by decide +kernel
theorem d_Model_stands_77 : decode b_Model_stands 77 = .ok (.iload_n 3, 1) := by decide +kernel
theorem d_Model_stands_78 : decode b_Model_stands 78 = .ok (.ireturn, 1) := by decide +kernel
abbrev b_Model_undo : ByteArray := prog_8_method_49_code
def y_Model_undo : MethodName := ⟨"RoundAndRoundModel", "undo", "(III)I"⟩
theorem d_Model_undo_0 : decode b_Model_undo 0 = .ok (.aload_n 0, 1) := by decide +kernel
theorem d_Model_undo_1 : decode b_Model_undo 1 = .ok (.iload_n 1, 1) := by decide +kernel
theorem d_Model_undo_2 : decode b_Model_undo 2 = .ok (.invokevirtual 149, 3) := by decide +kernel
theorem d_Model_undo_5 : decode b_Model_undo 5 = .ok (.ifCond .ne 6, 3) := by decide +kernel
theorem d_Model_undo_8 : decode b_Model_undo 8 = .ok (.ldc 156, 2) := by decide +kernel
theorem d_Model_undo_10 : decode b_Model_undo 10 = .ok (.ireturn, 1) := by decide +kernel
theorem d_Model_undo_11 : decode b_Model_undo 11 = .ok (.iload_n 2, 1) := by decide +kernel
theorem d_Model_undo_12 : decode b_Model_undo 12 = .ok (.iconst 1, 1) := by decide +kernel
theorem d_Model_undo_13 : decode b_Model_undo 13 = .ok (.bipush (9), 2) := by decide +kernel
theorem d_Model_undo_15 : decode b_Model_undo 15 = .ok (.invokestatic 66, 3) := by decide +kernel
theorem d_Model_undo_18 : decode b_Model_undo 18 = .ok (.ifCond .eq 12, 3) := by decide +kernel
theorem d_Model_undo_21 : decode b_Model_undo 21 = .ok (.iload_n 3, 1) := by decide +kernel
theorem d_Model_undo_22 : decode b_Model_undo 22 = .ok (.iconst 0, 1) := by decide +kernel
theorem d_Model_undo_23 : decode b_Model_undo 23 = .ok (.iconst 1, 1) := by decide +kernel
theorem d_Model_undo_24 : decode b_Model_undo 24 = .ok (.invokestatic 66, 3) := by decide +kernel
theorem d_Model_undo_27 : decode b_Model_undo 27 = .ok (.ifCond .ne 6, 3) := by decide +kernel
theorem d_Model_undo_30 : decode b_Model_undo 30 = .ok (.ldc 157, 2) := by decide +kernel
theorem d_Model_undo_32 : decode b_Model_undo 32 = .ok (.ireturn, 1) := by decide +kernel
theorem d_Model_undo_33 : decode b_Model_undo 33 = .ok (.iconst (-1), 1) := by decide +kernel
theorem d_Model_undo_34 : decode b_Model_undo 34 = .ok (.istore 4, 2) := by decide +kernel
theorem d_Model_undo_36 : decode b_Model_undo 36 = .ok (.iconst 0, 1) := by decide +kernel
theorem d_Model_undo_37 : decode b_Model_undo 37 = .ok (.istore 5, 2) := by decide +kernel
theorem d_Model_undo_39 : decode b_Model_undo 39 = .ok (.iconst 0, 1) := by decide +kernel
theorem d_Model_undo_40 : decode b_Model_undo 40 = .ok (.istore 6, 2) := by decide +kernel
theorem d_Model_undo_42 : decode b_Model_undo 42 = .ok (.iload 6, 2) := by decide +kernel
theorem d_Model_undo_44 : decode b_Model_undo 44 = .ok (.bipush (40), 2) := by decide +kernel
theorem d_Model_undo_46 : decode b_Model_undo 46 = .ok (.if_icmp .gt 93, 3) := by decide +kernel
theorem d_Model_undo_49 : decode b_Model_undo 49 = .ok (.aload_n 0, 1) := by decide +kernel
theorem d_Model_undo_50 : decode b_Model_undo 50 = .ok (.iload_n 1, 1) := by decide +kernel
theorem d_Model_undo_51 : decode b_Model_undo 51 = .ok (.invokevirtual 212, 3) := by decide +kernel
theorem d_Model_undo_54 : decode b_Model_undo 54 = .ok (.aload_n 0, 1) := by decide +kernel
theorem d_Model_undo_55 : decode b_Model_undo 55 = .ok (.iload_n 1, 1) := by decide +kernel
theorem d_Model_undo_56 : decode b_Model_undo 56 = .ok (.aload_n 0, 1) := by decide +kernel
theorem d_Model_undo_57 : decode b_Model_undo 57 = .ok (.getfield 140, 3) := by decide +kernel
theorem d_Model_undo_60 : decode b_Model_undo 60 = .ok (.ifCond .le 9, 3) := by decide +kernel
theorem d_Model_undo_63 : decode b_Model_undo 63 = .ok (.iload 6, 2) := by decide +kernel
theorem d_Model_undo_65 : decode b_Model_undo 65 = .ok (.ineg, 1) := by decide +kernel
theorem d_Model_undo_66 : decode b_Model_undo 66 = .ok (.goto 5, 3) := by decide +kernel
theorem d_Model_undo_69 : decode b_Model_undo 69 = .ok (.iload 6, 2) := by decide +kernel
theorem d_Model_undo_71 : decode b_Model_undo 71 = .ok (.iload_n 2, 1) := by decide +kernel
theorem d_Model_undo_72 : decode b_Model_undo 72 = .ok (.invokevirtual 199, 3) := by decide +kernel
theorem d_Model_undo_75 : decode b_Model_undo 75 = .ok (.iload 4, 2) := by decide +kernel
theorem d_Model_undo_77 : decode b_Model_undo 77 = .ok (.iconst (-1), 1) := by decide +kernel
theorem d_Model_undo_78 : decode b_Model_undo 78 = .ok (.if_icmp .eq 15, 3) := by decide +kernel
theorem d_Model_undo_81 : decode b_Model_undo 81 = .ok (.aload_n 0, 1) := by decide +kernel
theorem d_Model_undo_82 : decode b_Model_undo 82 = .ok (.getfield 140, 3) := by decide +kernel
theorem d_Model_undo_85 : decode b_Model_undo 85 = .ok (.invokestatic 164, 3) := by decide +kernel
theorem d_Model_undo_88 : decode b_Model_undo 88 = .ok (.iload 5, 2) := by decide +kernel
theorem d_Model_undo_90 : decode b_Model_undo 90 = .ok (.if_icmp .ge 7, 3) := by decide +kernel
theorem d_Model_undo_93 : decode b_Model_undo 93 = .ok (.iconst 1, 1) := by decide +kernel
theorem d_Model_undo_94 : decode b_Model_undo 94 = .ok (.goto 4, 3) := by decide +kernel
theorem d_Model_undo_97 : decode b_Model_undo 97 = .ok (.iconst 0, 1) := by decide +kernel
theorem d_Model_undo_98 : decode b_Model_undo 98 = .ok (.istore 7, 2) := by decide +kernel
theorem d_Model_undo_100 : decode b_Model_undo 100 = .ok (.iload 7, 2) := by decide +kernel
theorem d_Model_undo_102 : decode b_Model_undo 102 = .ok (.ifCond .eq 8, 3) := by decide +kernel
theorem d_Model_undo_105 : decode b_Model_undo 105 = .ok (.iload 6, 2) := by decide +kernel
theorem d_Model_undo_107 : decode b_Model_undo 107 = .ok (.goto 5, 3) := by decide +kernel
theorem d_Model_undo_110 : decode b_Model_undo 110 = .ok (.iload 4, 2) := by decide +kernel
theorem d_Model_undo_112 : decode b_Model_undo 112 = .ok (.istore 4, 2) := by decide +kernel
theorem d_Model_undo_114 : decode b_Model_undo 114 = .ok (.iload 7, 2) := by decide +kernel
theorem d_Model_undo_116 : decode b_Model_undo 116 = .ok (.ifCond .eq 13, 3) := by decide +kernel
theorem d_Model_undo_119 : decode b_Model_undo 119 = .ok (.aload_n 0, 1) := by decide +kernel
theorem d_Model_undo_120 : decode b_Model_undo 120 = .ok (.getfield 140, 3) := by decide +kernel
theorem d_Model_undo_123 : decode b_Model_undo 123 = .ok (.invokestatic 164, 3) := by decide +kernel
theorem d_Model_undo_126 : decode b_Model_undo 126 = .ok (.goto 5, 3) := by decide +kernel
theorem d_Model_undo_129 : decode b_Model_undo 129 = .ok (.iload 5, 2) := by decide +kernel
theorem d_Model_undo_131 : decode b_Model_undo 131 = .ok (.istore 5, 2) := by decide +kernel
theorem d_Model_undo_133 : decode b_Model_undo 133 = .ok (.iinc 6 (1), 3) := by decide +kernel
theorem d_Model_undo_136 : decode b_Model_undo 136 = .ok (.goto (-94), 3) := by decide +kernel
theorem d_Model_undo_139 : decode b_Model_undo 139 = .ok (.iload_n 3, 1) := by decide +kernel
theorem d_Model_undo_140 : decode b_Model_undo 140 = .ok (.ifCond .ne 8, 3) := by decide +kernel
theorem d_Model_undo_143 : decode b_Model_undo 143 = .ok (.iload 4, 2) := by decide +kernel
theorem d_Model_undo_145 : decode b_Model_undo 145 = .ok (.goto 5, 3) := by decide +kernel
theorem d_Model_undo_148 : decode b_Model_undo 148 = .ok (.iload 5, 2) := by decide +kernel
theorem d_Model_undo_150 : decode b_Model_undo 150 = .ok (.ireturn, 1) := by decide +kernel
abbrev b_Model_fine : ByteArray := prog_8_method_50_code
def y_Model_fine : MethodName := ⟨"RoundAndRoundModel", "fine", "(II)I"⟩
theorem d_Model_fine_0 : decode b_Model_fine 0 = .ok (.aload_n 0, 1) := by decide +kernel
theorem d_Model_fine_1 : decode b_Model_fine 1 = .ok (.iload_n 1, 1) := by decide +kernel
theorem d_Model_fine_2 : decode b_Model_fine 2 = .ok (.invokevirtual 149, 3) := by decide +kernel
theorem d_Model_fine_5 : decode b_Model_fine 5 = .ok (.ifCond .ne 6, 3) := by decide +kernel
theorem d_Model_fine_8 : decode b_Model_fine 8 = .ok (.ldc 156, 2) := by decide +kernel
theorem d_Model_fine_10 : decode b_Model_fine 10 = .ok (.ireturn, 1) := by decide +kernel
theorem d_Model_fine_11 : decode b_Model_fine 11 = .ok (.iload_n 2, 1) := by decide +kernel
theorem d_Model_fine_12 : decode b_Model_fine 12 = .ok (.iconst 1, 1) := by decide +kernel
theorem d_Model_fine_13 : decode b_Model_fine 13 = .ok (.sipush (9999), 3) := by decide +kernel
theorem d_Model_fine_16 : decode b_Model_fine 16 = .ok (.invokestatic 66, 3) := by decide +kernel
theorem d_Model_fine_19 : decode b_Model_fine 19 = .ok (.ifCond .ne 6, 3) := by decide +kernel
theorem d_Model_fine_22 : decode b_Model_fine 22 = .ok (.ldc 157, 2) := by decide +kernel
theorem d_Model_fine_24 : decode b_Model_fine 24 = .ok (.ireturn, 1) := by decide +kernel
theorem d_Model_fine_25 : decode b_Model_fine 25 = .ok (.aload_n 0, 1) := by decide +kernel
theorem d_Model_fine_26 : decode b_Model_fine 26 = .ok (.iload_n 1, 1) := by decide +kernel
theorem d_Model_fine_27 : decode b_Model_fine 27 = .ok (.invokevirtual 212, 3) := by decide +kernel
theorem d_Model_fine_30 : decode b_Model_fine 30 = .ok (.iconst 0, 1) := by decide +kernel
theorem d_Model_fine_31 : decode b_Model_fine 31 = .ok (.istore_n 3, 1) := by decide +kernel
theorem d_Model_fine_32 : decode b_Model_fine 32 = .ok (.iload_n 3, 1) := by decide +kernel
theorem d_Model_fine_33 : decode b_Model_fine 33 = .ok (.bipush (60), 2) := by decide +kernel
theorem d_Model_fine_35 : decode b_Model_fine 35 = .ok (.if_icmp .gt 28, 3) := by decide +kernel
theorem d_Model_fine_38 : decode b_Model_fine 38 = .ok (.aload_n 0, 1) := by decide +kernel
theorem d_Model_fine_39 : decode b_Model_fine 39 = .ok (.getfield 140, 3) := by decide +kernel
theorem d_Model_fine_42 : decode b_Model_fine 42 = .ok (.invokestatic 164, 3) := by decide +kernel
theorem d_Model_fine_45 : decode b_Model_fine 45 = .ok (.iload_n 2, 1) := by decide +kernel
theorem d_Model_fine_46 : decode b_Model_fine 46 = .ok (.if_icmp .ge 5, 3) := by decide +kernel
theorem d_Model_fine_49 : decode b_Model_fine 49 = .ok (.iload_n 3, 1) := by decide +kernel
theorem d_Model_fine_50 : decode b_Model_fine 50 = .ok (.ireturn, 1) := by decide +kernel
theorem d_Model_fine_51 : decode b_Model_fine 51 = .ok (.aload_n 0, 1) := by decide +kernel
theorem d_Model_fine_52 : decode b_Model_fine 52 = .ok (.iload_n 1, 1) := by decide +kernel
theorem d_Model_fine_53 : decode b_Model_fine 53 = .ok (.iconst 1, 1) := by decide +kernel
theorem d_Model_fine_54 : decode b_Model_fine 54 = .ok (.invokevirtual 170, 3) := by decide +kernel
theorem d_Model_fine_57 : decode b_Model_fine 57 = .ok (.iinc 3 (1), 3) := by decide +kernel
theorem d_Model_fine_60 : decode b_Model_fine 60 = .ok (.goto (-28), 3) := by decide +kernel
theorem d_Model_fine_63 : decode b_Model_fine 63 = .ok (.iconst (-1), 1) := by decide +kernel
theorem d_Model_fine_64 : decode b_Model_fine 64 = .ok (.ireturn, 1) := by decide +kernel
abbrev b_Model_isRace : ByteArray := prog_8_method_51_code
def y_Model_isRace : MethodName := ⟨"RoundAndRoundModel", "isRace", "(IIII)Z"⟩
theorem d_Model_isRace_0 : decode b_Model_isRace 0 = .ok (.iload_n 0, 1) := by decide +kernel
theorem d_Model_isRace_1 : decode b_Model_isRace 1 = .ok (.invokestatic 193, 3) := by decide +kernel
theorem d_Model_isRace_4 : decode b_Model_isRace 4 = .ok (.ifCond .eq 35, 3) := by decide +kernel
theorem d_Model_isRace_7 : decode b_Model_isRace 7 = .ok (.iload_n 1, 1) := by decide +kernel
theorem d_Model_isRace_8 : decode b_Model_isRace 8 = .ok (.invokestatic 215, 3) := by decide +kernel
theorem d_Model_isRace_11 : decode b_Model_isRace 11 = .ok (.ifCond .eq 28, 3) := by decide +kernel
theorem d_Model_isRace_14 : decode b_Model_isRace 14 = .ok (.iload_n 2, 1) := by decide +kernel
theorem d_Model_isRace_15 : decode b_Model_isRace 15 = .ok (.sipush (1000), 3) := by decide +kernel
theorem d_Model_isRace_18 : decode b_Model_isRace 18 = .ok (.ldc 222, 2) := by decide +kernel
theorem d_Model_isRace_20 : decode b_Model_isRace 20 = .ok (.invokestatic 66, 3) := by decide +kernel
theorem d_Model_isRace_23 : decode b_Model_isRace 23 = .ok (.ifCond .eq 16, 3) := by decide +kernel
theorem d_Model_isRace_26 : decode b_Model_isRace 26 = .ok (.iload_n 3, 1) := by decide +kernel
theorem d_Model_isRace_27 : decode b_Model_isRace 27 = .ok (.iconst 0, 1) := by decide +kernel
theorem d_Model_isRace_28 : decode b_Model_isRace 28 = .ok (.iconst 1, 1) := by decide +kernel
theorem d_Model_isRace_29 : decode b_Model_isRace 29 = .ok (.invokestatic 66, 3) := by decide +kernel
theorem d_Model_isRace_32 : decode b_Model_isRace 32 = .ok (.ifCond .eq 7, 3) := by decide +kernel
theorem d_Model_isRace_35 : decode b_Model_isRace 35 = .ok (.iconst 1, 1) := by decide +kernel
theorem d_Model_isRace_36 : decode b_Model_isRace 36 = .ok (.goto 4, 3) := by decide +kernel
theorem d_Model_isRace_39 : decode b_Model_isRace 39 = .ok (.iconst 0, 1) := by decide +kernel
theorem d_Model_isRace_40 : decode b_Model_isRace 40 = .ok (.ireturn, 1) := by decide +kernel
abbrev b_Model_raceOf : ByteArray := prog_8_method_52_code
def y_Model_raceOf : MethodName := ⟨"RoundAndRoundModel", "raceOf", "(IIIII)I"⟩
theorem d_Model_raceOf_0 : decode b_Model_raceOf 0 = .ok (.iload_n 3, 1) := by decide +kernel
theorem d_Model_raceOf_1 : decode b_Model_raceOf 1 = .ok (.bipush (10), 2) := by decide +kernel
theorem d_Model_raceOf_3 : decode b_Model_raceOf 3 = .ok (.irem, 1) := by decide +kernel
theorem d_Model_raceOf_4 : decode b_Model_raceOf 4 = .ok (.istore 6, 2) := by decide +kernel
theorem d_Model_raceOf_6 : decode b_Model_raceOf 6 = .ok (.iload 4, 2) := by decide +kernel
theorem d_Model_raceOf_8 : decode b_Model_raceOf 8 = .ok (.sipush (1000), 3) := by decide +kernel
theorem d_Model_raceOf_11 : decode b_Model_raceOf 11 = .ok (.idiv, 1) := by decide +kernel
theorem d_Model_raceOf_12 : decode b_Model_raceOf 12 = .ok (.iload 6, 2) := by decide +kernel
theorem d_Model_raceOf_14 : decode b_Model_raceOf 14 = .ok (.iadd, 1) := by decide +kernel
theorem d_Model_raceOf_15 : decode b_Model_raceOf 15 = .ok (.iconst 1, 1) := by decide +kernel
theorem d_Model_raceOf_16 : decode b_Model_raceOf 16 = .ok (.isub, 1) := by decide +kernel
theorem d_Model_raceOf_17 : decode b_Model_raceOf 17 = .ok (.iload 6, 2) := by decide +kernel
theorem d_Model_raceOf_19 : decode b_Model_raceOf 19 = .ok (.idiv, 1) := by decide +kernel
theorem d_Model_raceOf_20 : decode b_Model_raceOf 20 = .ok (.istore 7, 2) := by decide +kernel
theorem d_Model_raceOf_22 : decode b_Model_raceOf 22 = .ok (.iconst 0, 1) := by decide +kernel
theorem d_Model_raceOf_23 : decode b_Model_raceOf 23 = .ok (.istore 8, 2) := by decide +kernel
theorem d_Model_raceOf_25 : decode b_Model_raceOf 25 = .ok (.iload 8, 2) := by decide +kernel
theorem d_Model_raceOf_27 : decode b_Model_raceOf 27 = .ok (.bipush (60), 2) := by decide +kernel
theorem d_Model_raceOf_29 : decode b_Model_raceOf 29 = .ok (.if_icmp .gt 71, 3) := by decide +kernel
theorem d_Model_raceOf_32 : decode b_Model_raceOf 32 = .ok (.iload 7, 2) := by decide +kernel
theorem d_Model_raceOf_34 : decode b_Model_raceOf 34 = .ok (.bipush (60), 2) := by decide +kernel
theorem d_Model_raceOf_36 : decode b_Model_raceOf 36 = .ok (.if_icmp .gt 64, 3) := by decide +kernel
theorem d_Model_raceOf_39 : decode b_Model_raceOf 39 = .ok (.aload_n 0, 1) := by decide +kernel
theorem d_Model_raceOf_40 : decode b_Model_raceOf 40 = .ok (.iload_n 1, 1) := by decide +kernel
theorem d_Model_raceOf_41 : decode b_Model_raceOf 41 = .ok (.iload_n 2, 1) := by decide +kernel
theorem d_Model_raceOf_42 : decode b_Model_raceOf 42 = .ok (.iload_n 3, 1) := by decide +kernel
theorem d_Model_raceOf_43 : decode b_Model_raceOf 43 = .ok (.bipush (10), 2) := by decide +kernel
theorem d_Model_raceOf_45 : decode b_Model_raceOf 45 = .ok (.idiv, 1) := by decide +kernel
theorem d_Model_raceOf_46 : decode b_Model_raceOf 46 = .ok (.iload 8, 2) := by decide +kernel
theorem d_Model_raceOf_48 : decode b_Model_raceOf 48 = .ok (.iload 6, 2) := by decide +kernel
theorem d_Model_raceOf_50 : decode b_Model_raceOf 50 = .ok (.iload 7, 2) := by decide +kernel
theorem d_Model_raceOf_52 : decode b_Model_raceOf 52 = .ok (.invokevirtual 218, 3) := by decide +kernel
theorem d_Model_raceOf_55 : decode b_Model_raceOf 55 = .ok (.aload_n 0, 1) := by decide +kernel
theorem d_Model_raceOf_56 : decode b_Model_raceOf 56 = .ok (.getfield 174, 3) := by decide +kernel
theorem d_Model_raceOf_59 : decode b_Model_raceOf 59 = .ok (.ifCond .ne 35, 3) := by decide +kernel
theorem d_Model_raceOf_62 : decode b_Model_raceOf 62 = .ok (.aload_n 0, 1) := by decide +kernel
theorem d_Model_raceOf_63 : decode b_Model_raceOf 63 = .ok (.getfield 186, 3) := by decide +kernel
theorem d_Model_raceOf_66 : decode b_Model_raceOf 66 = .ok (.invokestatic 164, 3) := by decide +kernel
theorem d_Model_raceOf_69 : decode b_Model_raceOf 69 = .ok (.iload 4, 2) := by decide +kernel
theorem d_Model_raceOf_71 : decode b_Model_raceOf 71 = .ok (.sipush (1000), 3) := by decide +kernel
theorem d_Model_raceOf_74 : decode b_Model_raceOf 74 = .ok (.irem, 1) := by decide +kernel
theorem d_Model_raceOf_75 : decode b_Model_raceOf 75 = .ok (.if_icmp .gt 19, 3) := by decide +kernel
theorem d_Model_raceOf_78 : decode b_Model_raceOf 78 = .ok (.iload 5, 2) := by decide +kernel
theorem d_Model_raceOf_80 : decode b_Model_raceOf 80 = .ok (.ifCond .ne 8, 3) := by decide +kernel
theorem d_Model_raceOf_83 : decode b_Model_raceOf 83 = .ok (.iload 8, 2) := by decide +kernel
theorem d_Model_raceOf_85 : decode b_Model_raceOf 85 = .ok (.goto 8, 3) := by decide +kernel
theorem d_Model_raceOf_88 : decode b_Model_raceOf 88 = .ok (.iload 8, 2) := by decide +kernel
theorem d_Model_raceOf_90 : decode b_Model_raceOf 90 = .ok (.iload 7, 2) := by decide +kernel
theorem d_Model_raceOf_92 : decode b_Model_raceOf 92 = .ok (.iadd, 1) := by decide +kernel
theorem d_Model_raceOf_93 : decode b_Model_raceOf 93 = .ok (.ireturn, 1) := by decide +kernel
theorem d_Model_raceOf_94 : decode b_Model_raceOf 94 = .ok (.iinc 8 (1), 3) := by decide +kernel
theorem d_Model_raceOf_97 : decode b_Model_raceOf 97 = .ok (.goto (-72), 3) := by decide +kernel
theorem d_Model_raceOf_100 : decode b_Model_raceOf 100 = .ok (.iconst (-1), 1) := by decide +kernel
theorem d_Model_raceOf_101 : decode b_Model_raceOf 101 = .ok (.ireturn, 1) := by decide +kernel
abbrev b_Model_race : ByteArray := prog_8_method_53_code
def y_Model_race : MethodName := ⟨"RoundAndRoundModel", "race", "(IIIII)I"⟩
theorem d_Model_race_0 : decode b_Model_race 0 = .ok (.aload_n 0, 1) := by decide +kernel
theorem d_Model_race_1 : decode b_Model_race 1 = .ok (.iload_n 1, 1) := by decide +kernel
theorem d_Model_race_2 : decode b_Model_race 2 = .ok (.invokevirtual 149, 3) := by decide +kernel
theorem d_Model_race_5 : decode b_Model_race 5 = .ok (.ifCond .ne 6, 3) := by decide +kernel
theorem d_Model_race_8 : decode b_Model_race 8 = .ok (.ldc 156, 2) := by decide +kernel
theorem d_Model_race_10 : decode b_Model_race 10 = .ok (.ireturn, 1) := by decide +kernel
theorem d_Model_race_11 : decode b_Model_race 11 = .ok (.iload_n 2, 1) := by decide +kernel
theorem d_Model_race_12 : decode b_Model_race 12 = .ok (.iload_n 3, 1) := by decide +kernel
theorem d_Model_race_13 : decode b_Model_race 13 = .ok (.iload 4, 2) := by decide +kernel
theorem d_Model_race_15 : decode b_Model_race 15 = .ok (.iload 5, 2) := by decide +kernel
theorem d_Model_race_17 : decode b_Model_race 17 = .ok (.invokestatic 223, 3) := by decide +kernel
theorem d_Model_race_20 : decode b_Model_race 20 = .ok (.ifCond .eq 17, 3) := by decide +kernel
theorem d_Model_race_23 : decode b_Model_race 23 = .ok (.aload_n 0, 1) := by decide +kernel
theorem d_Model_race_24 : decode b_Model_race 24 = .ok (.iload_n 1, 1) := by decide +kernel
theorem d_Model_race_25 : decode b_Model_race 25 = .ok (.iload_n 2, 1) := by decide +kernel
theorem d_Model_race_26 : decode b_Model_race 26 = .ok (.iload_n 3, 1) := by decide +kernel
theorem d_Model_race_27 : decode b_Model_race 27 = .ok (.iload 4, 2) := by decide +kernel
theorem d_Model_race_29 : decode b_Model_race 29 = .ok (.iload 5, 2) := by decide +kernel
theorem d_Model_race_31 : decode b_Model_race 31 = .ok (.invokevirtual 227, 3) := by decide +kernel
theorem d_Model_race_34 : decode b_Model_race 34 = .ok (.goto 5, 3) := by decide +kernel
theorem d_Model_race_37 : decode b_Model_race 37 = .ok (.ldc 157, 2) := by decide +kernel
theorem d_Model_race_39 : decode b_Model_race 39 = .ok (.ireturn, 1) := by decide +kernel
abbrev b_Model_wins : ByteArray := prog_8_method_54_code
def y_Model_wins : MethodName := ⟨"RoundAndRoundModel", "wins", "(IIII)I"⟩
theorem d_Model_wins_0 : decode b_Model_wins 0 = .ok (.iload_n 1, 1) := by decide +kernel
theorem d_Model_wins_1 : decode b_Model_wins 1 = .ok (.iload_n 2, 1) := by decide +kernel
theorem d_Model_wins_2 : decode b_Model_wins 2 = .ok (.iload_n 3, 1) := by decide +kernel
theorem d_Model_wins_3 : decode b_Model_wins 3 = .ok (.iload 4, 2) := by decide +kernel
theorem d_Model_wins_5 : decode b_Model_wins 5 = .ok (.invokestatic 223, 3) := by decide +kernel
theorem d_Model_wins_8 : decode b_Model_wins 8 = .ok (.ifCond .ne 6, 3) := by decide +kernel
theorem d_Model_wins_11 : decode b_Model_wins 11 = .ok (.ldc 157, 2) := by decide +kernel
theorem d_Model_wins_13 : decode b_Model_wins 13 = .ok (.ireturn, 1) := by decide +kernel
theorem d_Model_wins_14 : decode b_Model_wins 14 = .ok (.iconst (-1), 1) := by decide +kernel
theorem d_Model_wins_15 : decode b_Model_wins 15 = .ok (.istore 5, 2) := by decide +kernel
theorem d_Model_wins_17 : decode b_Model_wins 17 = .ok (.iconst (-1), 1) := by decide +kernel
theorem d_Model_wins_18 : decode b_Model_wins 18 = .ok (.istore 6, 2) := by decide +kernel
theorem d_Model_wins_20 : decode b_Model_wins 20 = .ok (.iconst 0, 1) := by decide +kernel
theorem d_Model_wins_21 : decode b_Model_wins 21 = .ok (.istore 7, 2) := by decide +kernel
theorem d_Model_wins_23 : decode b_Model_wins 23 = .ok (.iload 7, 2) := by decide +kernel
theorem d_Model_wins_25 : decode b_Model_wins 25 = .ok (.aload_n 0, 1) := by decide +kernel
theorem d_Model_wins_26 : decode b_Model_wins 26 = .ok (.getfield 63, 3) := by decide +kernel
theorem d_Model_wins_29 : decode b_Model_wins 29 = .ok (.if_icmp .ge 75, 3) := by decide +kernel
theorem d_Model_wins_32 : decode b_Model_wins 32 = .ok (.aload_n 0, 1) := by decide +kernel
theorem d_Model_wins_33 : decode b_Model_wins 33 = .ok (.iload 7, 2) := by decide +kernel
theorem d_Model_wins_35 : decode b_Model_wins 35 = .ok (.iload_n 1, 1) := by decide +kernel
theorem d_Model_wins_36 : decode b_Model_wins 36 = .ok (.iload_n 2, 1) := by decide +kernel
theorem d_Model_wins_37 : decode b_Model_wins 37 = .ok (.iload_n 3, 1) := by decide +kernel
theorem d_Model_wins_38 : decode b_Model_wins 38 = .ok (.iconst 1, 1) := by decide +kernel
theorem d_Model_wins_39 : decode b_Model_wins 39 = .ok (.invokevirtual 227, 3) := by decide +kernel
theorem d_Model_wins_42 : decode b_Model_wins 42 = .ok (.istore 8, 2) := by decide +kernel
theorem d_Model_wins_44 : decode b_Model_wins 44 = .ok (.iload 8, 2) := by decide +kernel
theorem d_Model_wins_46 : decode b_Model_wins 46 = .ok (.iconst (-1), 1) := by decide +kernel
theorem d_Model_wins_47 : decode b_Model_wins 47 = .ok (.if_icmp .eq 20, 3) := by decide +kernel
theorem d_Model_wins_50 : decode b_Model_wins 50 = .ok (.iload 5, 2) := by decide +kernel
theorem d_Model_wins_52 : decode b_Model_wins 52 = .ok (.iconst (-1), 1) := by decide +kernel
theorem d_Model_wins_53 : decode b_Model_wins 53 = .ok (.if_icmp .eq 10, 3) := by decide +kernel
theorem d_Model_wins_56 : decode b_Model_wins 56 = .ok (.iload 8, 2) := by decide +kernel
theorem d_Model_wins_58 : decode b_Model_wins 58 = .ok (.iload 6, 2) := by decide +kernel
theorem d_Model_wins_60 : decode b_Model_wins 60 = .ok (.if_icmp .ge 7, 3) := by decide +kernel
theorem d_Model_wins_63 : decode b_Model_wins 63 = .ok (.iconst 1, 1) := by decide +kernel
theorem d_Model_wins_64 : decode b_Model_wins 64 = .ok (.goto 4, 3) := by decide +kernel
theorem d_Model_wins_67 : decode b_Model_wins 67 = .ok (.iconst 0, 1) := by decide +kernel
theorem d_Model_wins_68 : decode b_Model_wins 68 = .ok (.istore 9, 2) := by decide +kernel
theorem d_Model_wins_70 : decode b_Model_wins 70 = .ok (.iload 9, 2) := by decide +kernel
theorem d_Model_wins_72 : decode b_Model_wins 72 = .ok (.ifCond .eq 8, 3) := by decide +kernel
theorem d_Model_wins_75 : decode b_Model_wins 75 = .ok (.iload 7, 2) := by decide +kernel
theorem d_Model_wins_77 : decode b_Model_wins 77 = .ok (.goto 5, 3) := by decide +kernel
theorem d_Model_wins_80 : decode b_Model_wins 80 = .ok (.iload 5, 2) := by decide +kernel
theorem d_Model_wins_82 : decode b_Model_wins 82 = .ok (.istore 5, 2) := by decide +kernel
theorem d_Model_wins_84 : decode b_Model_wins 84 = .ok (.iload 9, 2) := by decide +kernel
theorem d_Model_wins_86 : decode b_Model_wins 86 = .ok (.ifCond .eq 8, 3) := by decide +kernel
theorem d_Model_wins_89 : decode b_Model_wins 89 = .ok (.iload 8, 2) := by decide +kernel
theorem d_Model_wins_91 : decode b_Model_wins 91 = .ok (.goto 5, 3) := by decide +kernel
theorem d_Model_wins_94 : decode b_Model_wins 94 = .ok (.iload 6, 2) := by decide +kernel
theorem d_Model_wins_96 : decode b_Model_wins 96 = .ok (.istore 6, 2) := by decide +kernel
theorem d_Model_wins_98 : decode b_Model_wins 98 = .ok (.iinc 7 (1), 3) := by decide +kernel
theorem d_Model_wins_101 : decode b_Model_wins 101 = .ok (.goto (-78), 3) := by decide +kernel
theorem d_Model_wins_104 : decode b_Model_wins 104 = .ok (.iload 4, 2) := by decide +kernel
theorem d_Model_wins_106 : decode b_Model_wins 106 = .ok (.ifCond .ne 8, 3) := by decide +kernel
theorem d_Model_wins_109 : decode b_Model_wins 109 = .ok (.iload 5, 2) := by decide +kernel
theorem d_Model_wins_111 : decode b_Model_wins 111 = .ok (.goto 5, 3) := by decide +kernel
theorem d_Model_wins_114 : decode b_Model_wins 114 = .ok (.iload 6, 2) := by decide +kernel
theorem d_Model_wins_116 : decode b_Model_wins 116 = .ok (.ireturn, 1) := by decide +kernel
abbrev b_Model_pace : ByteArray := prog_8_method_55_code
def y_Model_pace : MethodName := ⟨"RoundAndRoundModel", "pace", "(IIIII)I"⟩
theorem d_Model_pace_0 : decode b_Model_pace 0 = .ok (.aload_n 0, 1) := by decide +kernel
theorem d_Model_pace_1 : decode b_Model_pace 1 = .ok (.iload_n 1, 1) := by decide +kernel
theorem d_Model_pace_2 : decode b_Model_pace 2 = .ok (.invokevirtual 149, 3) := by decide +kernel
theorem d_Model_pace_5 : decode b_Model_pace 5 = .ok (.ifCond .ne 6, 3) := by decide +kernel
theorem d_Model_pace_8 : decode b_Model_pace 8 = .ok (.ldc 156, 2) := by decide +kernel
theorem d_Model_pace_10 : decode b_Model_pace 10 = .ok (.ireturn, 1) := by decide +kernel
theorem d_Model_pace_11 : decode b_Model_pace 11 = .ok (.iload_n 2, 1) := by decide +kernel
theorem d_Model_pace_12 : decode b_Model_pace 12 = .ok (.invokestatic 193, 3) := by decide +kernel
theorem d_Model_pace_15 : decode b_Model_pace 15 = .ok (.ifCond .eq 34, 3) := by decide +kernel
theorem d_Model_pace_18 : decode b_Model_pace 18 = .ok (.iload_n 3, 1) := by decide +kernel
theorem d_Model_pace_19 : decode b_Model_pace 19 = .ok (.iconst 1, 1) := by decide +kernel
theorem d_Model_pace_20 : decode b_Model_pace 20 = .ok (.bipush (9), 2) := by decide +kernel
theorem d_Model_pace_22 : decode b_Model_pace 22 = .ok (.invokestatic 66, 3) := by decide +kernel
theorem d_Model_pace_25 : decode b_Model_pace 25 = .ok (.ifCond .eq 24, 3) := by decide +kernel
theorem d_Model_pace_28 : decode b_Model_pace 28 = .ok (.iload 4, 2) := by decide +kernel
theorem d_Model_pace_30 : decode b_Model_pace 30 = .ok (.iconst 1, 1) := by decide +kernel
theorem d_Model_pace_31 : decode b_Model_pace 31 = .ok (.bipush (60), 2) := by decide +kernel
theorem d_Model_pace_33 : decode b_Model_pace 33 = .ok (.invokestatic 66, 3) := by decide +kernel
theorem d_Model_pace_36 : decode b_Model_pace 36 = .ok (.ifCond .eq 13, 3) := by decide +kernel
theorem d_Model_pace_39 : decode b_Model_pace 39 = .ok (.iload 5, 2) := by decide +kernel
theorem d_Model_pace_41 : decode b_Model_pace 41 = .ok (.iconst 0, 1) := by decide +kernel
theorem d_Model_pace_42 : decode b_Model_pace 42 = .ok (.iconst 1, 1) := by decide +kernel
theorem d_Model_pace_43 : decode b_Model_pace 43 = .ok (.invokestatic 66, 3) := by decide +kernel
theorem d_Model_pace_46 : decode b_Model_pace 46 = .ok (.ifCond .ne 6, 3) := by decide +kernel
theorem d_Model_pace_49 : decode b_Model_pace 49 = .ok (.ldc 157, 2) := by decide +kernel
theorem d_Model_pace_51 : decode b_Model_pace 51 = .ok (.ireturn, 1) := by decide +kernel
theorem d_Model_pace_52 : decode b_Model_pace 52 = .ok (.iconst (-1), 1) := by decide +kernel
theorem d_Model_pace_53 : decode b_Model_pace 53 = .ok (.istore 6, 2) := by decide +kernel
theorem d_Model_pace_55 : decode b_Model_pace 55 = .ok (.iconst (-1), 1) := by decide +kernel
theorem d_Model_pace_56 : decode b_Model_pace 56 = .ok (.istore 7, 2) := by decide +kernel
theorem d_Model_pace_58 : decode b_Model_pace 58 = .ok (.iconst 1, 1) := by decide +kernel
theorem d_Model_pace_59 : decode b_Model_pace 59 = .ok (.istore 8, 2) := by decide +kernel
theorem d_Model_pace_61 : decode b_Model_pace 61 = .ok (.iload 8, 2) := by decide +kernel
theorem d_Model_pace_63 : decode b_Model_pace 63 = .ok (.bipush (9), 2) := by decide +kernel
theorem d_Model_pace_65 : decode b_Model_pace 65 = .ok (.if_icmp .gt 94, 3) := by decide +kernel
theorem d_Model_pace_68 : decode b_Model_pace 68 = .ok (.aload_n 0, 1) := by decide +kernel
theorem d_Model_pace_69 : decode b_Model_pace 69 = .ok (.iload_n 1, 1) := by decide +kernel
theorem d_Model_pace_70 : decode b_Model_pace 70 = .ok (.iload_n 2, 1) := by decide +kernel
theorem d_Model_pace_71 : decode b_Model_pace 71 = .ok (.iload_n 3, 1) := by decide +kernel
theorem d_Model_pace_72 : decode b_Model_pace 72 = .ok (.iconst 0, 1) := by decide +kernel
theorem d_Model_pace_73 : decode b_Model_pace 73 = .ok (.iload 8, 2) := by decide +kernel
theorem d_Model_pace_75 : decode b_Model_pace 75 = .ok (.iload 4, 2) := by decide +kernel
theorem d_Model_pace_77 : decode b_Model_pace 77 = .ok (.iload 8, 2) := by decide +kernel
theorem d_Model_pace_79 : decode b_Model_pace 79 = .ok (.iadd, 1) := by decide +kernel
theorem d_Model_pace_80 : decode b_Model_pace 80 = .ok (.iconst 1, 1) := by decide +kernel
theorem d_Model_pace_81 : decode b_Model_pace 81 = .ok (.isub, 1) := by decide +kernel
theorem d_Model_pace_82 : decode b_Model_pace 82 = .ok (.iload 8, 2) := by decide +kernel
theorem d_Model_pace_84 : decode b_Model_pace 84 = .ok (.idiv, 1) := by decide +kernel
theorem d_Model_pace_85 : decode b_Model_pace 85 = .ok (.invokevirtual 218, 3) := by decide +kernel
theorem d_Model_pace_88 : decode b_Model_pace 88 = .ok (.aload_n 0, 1) := by decide +kernel
theorem d_Model_pace_89 : decode b_Model_pace 89 = .ok (.getfield 174, 3) := by decide +kernel
theorem d_Model_pace_92 : decode b_Model_pace 92 = .ok (.ifCond .ne 25, 3) := by decide +kernel
theorem d_Model_pace_95 : decode b_Model_pace 95 = .ok (.iload 6, 2) := by decide +kernel
theorem d_Model_pace_97 : decode b_Model_pace 97 = .ok (.iconst (-1), 1) := by decide +kernel
theorem d_Model_pace_98 : decode b_Model_pace 98 = .ok (.if_icmp .eq 15, 3) := by decide +kernel
theorem d_Model_pace_101 : decode b_Model_pace 101 = .ok (.aload_n 0, 1) := by decide +kernel
theorem d_Model_pace_102 : decode b_Model_pace 102 = .ok (.getfield 186, 3) := by decide +kernel
theorem d_Model_pace_105 : decode b_Model_pace 105 = .ok (.invokestatic 164, 3) := by decide +kernel
theorem d_Model_pace_108 : decode b_Model_pace 108 = .ok (.iload 7, 2) := by decide +kernel
theorem d_Model_pace_110 : decode b_Model_pace 110 = .ok (.if_icmp .gt 7, 3) := by decide +kernel
theorem d_Model_pace_113 : decode b_Model_pace 113 = .ok (.iconst 1, 1) := by decide +kernel
theorem d_Model_pace_114 : decode b_Model_pace 114 = .ok (.goto 4, 3) := by decide +kernel
theorem d_Model_pace_117 : decode b_Model_pace 117 = .ok (.iconst 0, 1) := by decide +kernel
theorem d_Model_pace_118 : decode b_Model_pace 118 = .ok (.istore 9, 2) := by decide +kernel
theorem d_Model_pace_120 : decode b_Model_pace 120 = .ok (.iload 9, 2) := by decide +kernel
theorem d_Model_pace_122 : decode b_Model_pace 122 = .ok (.ifCond .eq 8, 3) := by decide +kernel
theorem d_Model_pace_125 : decode b_Model_pace 125 = .ok (.iload 8, 2) := by decide +kernel
theorem d_Model_pace_127 : decode b_Model_pace 127 = .ok (.goto 5, 3) := by decide +kernel
theorem d_Model_pace_130 : decode b_Model_pace 130 = .ok (.iload 6, 2) := by decide +kernel
theorem d_Model_pace_132 : decode b_Model_pace 132 = .ok (.istore 6, 2) := by decide +kernel
theorem d_Model_pace_134 : decode b_Model_pace 134 = .ok (.iload 9, 2) := by decide +kernel
theorem d_Model_pace_136 : decode b_Model_pace 136 = .ok (.ifCond .eq 13, 3) := by decide +kernel
theorem d_Model_pace_139 : decode b_Model_pace 139 = .ok (.aload_n 0, 1) := by decide +kernel
theorem d_Model_pace_140 : decode b_Model_pace 140 = .ok (.getfield 186, 3) := by decide +kernel
theorem d_Model_pace_143 : decode b_Model_pace 143 = .ok (.invokestatic 164, 3) := by decide +kernel
theorem d_Model_pace_146 : decode b_Model_pace 146 = .ok (.goto 5, 3) := by decide +kernel
theorem d_Model_pace_149 : decode b_Model_pace 149 = .ok (.iload 7, 2) := by decide +kernel
theorem d_Model_pace_151 : decode b_Model_pace 151 = .ok (.istore 7, 2) := by decide +kernel
theorem d_Model_pace_153 : decode b_Model_pace 153 = .ok (.iinc 8 (1), 3) := by decide +kernel
theorem d_Model_pace_156 : decode b_Model_pace 156 = .ok (.goto (-95), 3) := by decide +kernel
theorem d_Model_pace_159 : decode b_Model_pace 159 = .ok (.iload 5, 2) := by decide +kernel
theorem d_Model_pace_161 : decode b_Model_pace 161 = .ok (.ifCond .ne 8, 3) := by decide +kernel
theorem d_Model_pace_164 : decode b_Model_pace 164 = .ok (.iload 6, 2) := by decide +kernel
theorem d_Model_pace_166 : decode b_Model_pace 166 = .ok (.goto 5, 3) := by decide +kernel
theorem d_Model_pace_169 : decode b_Model_pace 169 = .ok (.iload 7, 2) := by decide +kernel
theorem d_Model_pace_171 : decode b_Model_pace 171 = .ok (.ireturn, 1) := by decide +kernel
abbrev b_Model_byNumber : ByteArray := prog_8_method_56_code
def y_Model_byNumber : MethodName := ⟨"RoundAndRoundModel", "byNumber", "(I)I"⟩
theorem d_Model_byNumber_0 : decode b_Model_byNumber 0 = .ok (.iload_n 0, 1) := by decide +kernel
theorem d_Model_byNumber_1 : decode b_Model_byNumber 1 = .ok (.iconst 2, 1) := by decide +kernel
theorem d_Model_byNumber_2 : decode b_Model_byNumber 2 = .ok (.irem, 1) := by decide +kernel
theorem d_Model_byNumber_3 : decode b_Model_byNumber 3 = .ok (.iconst 1, 1) := by decide +kernel
theorem d_Model_byNumber_4 : decode b_Model_byNumber 4 = .ok (.if_icmp .ne 11, 3) := by decide +kernel
theorem d_Model_byNumber_7 : decode b_Model_byNumber 7 = .ok (.iload_n 0, 1) := by decide +kernel
theorem d_Model_byNumber_8 : decode b_Model_byNumber 8 = .ok (.iconst 1, 1) := by decide +kernel
theorem d_Model_byNumber_9 : decode b_Model_byNumber 9 = .ok (.iadd, 1) := by decide +kernel
theorem d_Model_byNumber_10 : decode b_Model_byNumber 10 = .ok (.iconst 2, 1) := by decide +kernel
theorem d_Model_byNumber_11 : decode b_Model_byNumber 11 = .ok (.idiv, 1) := by decide +kernel
theorem d_Model_byNumber_12 : decode b_Model_byNumber 12 = .ok (.goto 7, 3) := by decide +kernel
theorem d_Model_byNumber_15 : decode b_Model_byNumber 15 = .ok (.iload_n 0, 1) := by decide +kernel
theorem d_Model_byNumber_16 : decode b_Model_byNumber 16 = .ok (.iconst 2, 1) := by decide +kernel
theorem d_Model_byNumber_17 : decode b_Model_byNumber 17 = .ok (.idiv, 1) := by decide +kernel
theorem d_Model_byNumber_18 : decode b_Model_byNumber 18 = .ok (.ineg, 1) := by decide +kernel
theorem d_Model_byNumber_19 : decode b_Model_byNumber 19 = .ok (.ireturn, 1) := by decide +kernel
abbrev b_Model_roses : ByteArray := prog_8_method_57_code
def y_Model_roses : MethodName := ⟨"RoundAndRoundModel", "roses", "(IIIII)I"⟩
theorem d_Model_roses_0 : decode b_Model_roses 0 = .ok (.aload_n 0, 1) := by decide +kernel
theorem d_Model_roses_1 : decode b_Model_roses 1 = .ok (.iload_n 1, 1) := by decide +kernel
theorem d_Model_roses_2 : decode b_Model_roses 2 = .ok (.invokevirtual 149, 3) := by decide +kernel
theorem d_Model_roses_5 : decode b_Model_roses 5 = .ok (.ifCond .ne 6, 3) := by decide +kernel
theorem d_Model_roses_8 : decode b_Model_roses 8 = .ok (.ldc 156, 2) := by decide +kernel
theorem d_Model_roses_10 : decode b_Model_roses 10 = .ok (.ireturn, 1) := by decide +kernel
theorem d_Model_roses_11 : decode b_Model_roses 11 = .ok (.iload_n 2, 1) := by decide +kernel
theorem d_Model_roses_12 : decode b_Model_roses 12 = .ok (.invokestatic 215, 3) := by decide +kernel
theorem d_Model_roses_15 : decode b_Model_roses 15 = .ok (.ifCond .eq 35, 3) := by decide +kernel
theorem d_Model_roses_18 : decode b_Model_roses 18 = .ok (.iload_n 3, 1) := by decide +kernel
theorem d_Model_roses_19 : decode b_Model_roses 19 = .ok (.iconst 0, 1) := by decide +kernel
theorem d_Model_roses_20 : decode b_Model_roses 20 = .ok (.bipush (60), 2) := by decide +kernel
theorem d_Model_roses_22 : decode b_Model_roses 22 = .ok (.invokestatic 66, 3) := by decide +kernel
theorem d_Model_roses_25 : decode b_Model_roses 25 = .ok (.ifCond .eq 25, 3) := by decide +kernel
theorem d_Model_roses_28 : decode b_Model_roses 28 = .ok (.iload 4, 2) := by decide +kernel
theorem d_Model_roses_30 : decode b_Model_roses 30 = .ok (.ldc 184, 2) := by decide +kernel
theorem d_Model_roses_32 : decode b_Model_roses 32 = .ok (.ldc 185, 2) := by decide +kernel
theorem d_Model_roses_34 : decode b_Model_roses 34 = .ok (.invokestatic 66, 3) := by decide +kernel
theorem d_Model_roses_37 : decode b_Model_roses 37 = .ok (.ifCond .eq 13, 3) := by decide +kernel
theorem d_Model_roses_40 : decode b_Model_roses 40 = .ok (.iload 5, 2) := by decide +kernel
theorem d_Model_roses_42 : decode b_Model_roses 42 = .ok (.iconst 0, 1) := by decide +kernel
theorem d_Model_roses_43 : decode b_Model_roses 43 = .ok (.iconst 1, 1) := by decide +kernel
theorem d_Model_roses_44 : decode b_Model_roses 44 = .ok (.invokestatic 66, 3) := by decide +kernel
theorem d_Model_roses_47 : decode b_Model_roses 47 = .ok (.ifCond .ne 6, 3) := by decide +kernel
theorem d_Model_roses_50 : decode b_Model_roses 50 = .ok (.ldc 157, 2) := by decide +kernel
theorem d_Model_roses_52 : decode b_Model_roses 52 = .ok (.ireturn, 1) := by decide +kernel
theorem d_Model_roses_53 : decode b_Model_roses 53 = .ok (.iconst 0, 1) := by decide +kernel
theorem d_Model_roses_54 : decode b_Model_roses 54 = .ok (.istore 6, 2) := by decide +kernel
theorem d_Model_roses_56 : decode b_Model_roses 56 = .ok (.iconst 0, 1) := by decide +kernel
theorem d_Model_roses_57 : decode b_Model_roses 57 = .ok (.istore 7, 2) := by decide +kernel
theorem d_Model_roses_59 : decode b_Model_roses 59 = .ok (.iconst 0, 1) := by decide +kernel
theorem d_Model_roses_60 : decode b_Model_roses 60 = .ok (.istore 8, 2) := by decide +kernel
theorem d_Model_roses_62 : decode b_Model_roses 62 = .ok (.iconst 0, 1) := by decide +kernel
theorem d_Model_roses_63 : decode b_Model_roses 63 = .ok (.istore 9, 2) := by decide +kernel
theorem d_Model_roses_65 : decode b_Model_roses 65 = .ok (.iload 9, 2) := by decide +kernel
theorem d_Model_roses_67 : decode b_Model_roses 67 = .ok (.bipush (80), 2) := by decide +kernel
theorem d_Model_roses_69 : decode b_Model_roses 69 = .ok (.if_icmp .gt 89, 3) := by decide +kernel
theorem d_Model_roses_72 : decode b_Model_roses 72 = .ok (.aload_n 0, 1) := by decide +kernel
theorem d_Model_roses_73 : decode b_Model_roses 73 = .ok (.iload_n 1, 1) := by decide +kernel
theorem d_Model_roses_74 : decode b_Model_roses 74 = .ok (.iload 9, 2) := by decide +kernel
theorem d_Model_roses_76 : decode b_Model_roses 76 = .ok (.invokestatic 231, 3) := by decide +kernel
theorem d_Model_roses_79 : decode b_Model_roses 79 = .ok (.iload_n 2, 1) := by decide +kernel
theorem d_Model_roses_80 : decode b_Model_roses 80 = .ok (.bipush (10), 2) := by decide +kernel
theorem d_Model_roses_82 : decode b_Model_roses 82 = .ok (.idiv, 1) := by decide +kernel
theorem d_Model_roses_83 : decode b_Model_roses 83 = .ok (.iconst 0, 1) := by decide +kernel
theorem d_Model_roses_84 : decode b_Model_roses 84 = .ok (.iload_n 2, 1) := by decide +kernel
theorem d_Model_roses_85 : decode b_Model_roses 85 = .ok (.bipush (10), 2) := by decide +kernel
theorem d_Model_roses_87 : decode b_Model_roses 87 = .ok (.irem, 1) := by decide +kernel
theorem d_Model_roses_88 : decode b_Model_roses 88 = .ok (.iload_n 3, 1) := by decide +kernel
theorem d_Model_roses_89 : decode b_Model_roses 89 = .ok (.invokevirtual 218, 3) := by decide +kernel
theorem d_Model_roses_92 : decode b_Model_roses 92 = .ok (.aload_n 0, 1) := by decide +kernel
theorem d_Model_roses_93 : decode b_Model_roses 93 = .ok (.getfield 186, 3) := by decide +kernel
theorem d_Model_roses_96 : decode b_Model_roses 96 = .ok (.iload 4, 2) := by decide +kernel
theorem d_Model_roses_98 : decode b_Model_roses 98 = .ok (.isub, 1) := by decide +kernel
theorem d_Model_roses_99 : decode b_Model_roses 99 = .ok (.invokestatic 164, 3) := by decide +kernel
theorem d_Model_roses_102 : decode b_Model_roses 102 = .ok (.istore 10, 2) := by decide +kernel
theorem d_Model_roses_104 : decode b_Model_roses 104 = .ok (.iload 6, 2) := by decide +kernel
theorem d_Model_roses_106 : decode b_Model_roses 106 = .ok (.ifCond .eq 10, 3) := by decide +kernel
theorem d_Model_roses_109 : decode b_Model_roses 109 = .ok (.iload 10, 2) := by decide +kernel
theorem d_Model_roses_111 : decode b_Model_roses 111 = .ok (.iload 8, 2) := by decide +kernel
theorem d_Model_roses_113 : decode b_Model_roses 113 = .ok (.if_icmp .ge 11, 3) := by decide +kernel
theorem d_Model_roses_116 : decode b_Model_roses 116 = .ok (.iload 9, 2) := by decide +kernel
theorem d_Model_roses_118 : decode b_Model_roses 118 = .ok (.invokestatic 231, 3) := by decide +kernel
theorem d_Model_roses_121 : decode b_Model_roses 121 = .ok (.goto 5, 3) := by decide +kernel
theorem d_Model_roses_124 : decode b_Model_roses 124 = .ok (.iload 7, 2) := by decide +kernel
theorem d_Model_roses_126 : decode b_Model_roses 126 = .ok (.istore 7, 2) := by decide +kernel
theorem d_Model_roses_128 : decode b_Model_roses 128 = .ok (.iload 6, 2) := by decide +kernel
theorem d_Model_roses_130 : decode b_Model_roses 130 = .ok (.ifCond .eq 10, 3) := by decide +kernel
theorem d_Model_roses_133 : decode b_Model_roses 133 = .ok (.iload 10, 2) := by decide +kernel
theorem d_Model_roses_135 : decode b_Model_roses 135 = .ok (.iload 8, 2) := by decide +kernel
theorem d_Model_roses_137 : decode b_Model_roses 137 = .ok (.if_icmp .ge 8, 3) := by decide +kernel
theorem d_Model_roses_140 : decode b_Model_roses 140 = .ok (.iload 10, 2) := by decide +kernel
theorem d_Model_roses_142 : decode b_Model_roses 142 = .ok (.goto 5, 3) := by decide +kernel
theorem d_Model_roses_145 : decode b_Model_roses 145 = .ok (.iload 8, 2) := by decide +kernel
theorem d_Model_roses_147 : decode b_Model_roses 147 = .ok (.istore 8, 2) := by decide +kernel
theorem d_Model_roses_149 : decode b_Model_roses 149 = .ok (.iconst 1, 1) := by decide +kernel
theorem d_Model_roses_150 : decode b_Model_roses 150 = .ok (.istore 6, 2) := by decide +kernel
theorem d_Model_roses_152 : decode b_Model_roses 152 = .ok (.iinc 9 (1), 3) := by decide +kernel
theorem d_Model_roses_155 : decode b_Model_roses 155 = .ok (.goto (-90), 3) := by decide +kernel
theorem d_Model_roses_158 : decode b_Model_roses 158 = .ok (.iload 5, 2) := by decide +kernel
theorem d_Model_roses_160 : decode b_Model_roses 160 = .ok (.ifCond .ne 8, 3) := by decide +kernel
theorem d_Model_roses_163 : decode b_Model_roses 163 = .ok (.iload 7, 2) := by decide +kernel
theorem d_Model_roses_165 : decode b_Model_roses 165 = .ok (.goto 5, 3) := by decide +kernel
theorem d_Model_roses_168 : decode b_Model_roses 168 = .ok (.iload 8, 2) := by decide +kernel
theorem d_Model_roses_170 : decode b_Model_roses 170 = .ok (.ireturn, 1) := by decide +kernel
abbrev b_Model_sheetWrong : ByteArray := prog_8_method_58_code
def y_Model_sheetWrong : MethodName := ⟨"RoundAndRoundModel", "sheetWrong", "(I)I"⟩
theorem d_Model_sheetWrong_0 : decode b_Model_sheetWrong 0 = .ok (.iload_n 1, 1) := by decide +kernel
theorem d_Model_sheetWrong_1 : decode b_Model_sheetWrong 1 = .ok (.iconst 0, 1) := by decide +kernel
theorem d_Model_sheetWrong_2 : decode b_Model_sheetWrong 2 = .ok (.iconst 3, 1) := by decide +kernel
theorem d_Model_sheetWrong_3 : decode b_Model_sheetWrong 3 = .ok (.invokestatic 66, 3) := by decide +kernel
theorem d_Model_sheetWrong_6 : decode b_Model_sheetWrong 6 = .ok (.ifCond .ne 6, 3) := by decide +kernel
theorem d_Model_sheetWrong_9 : decode b_Model_sheetWrong 9 = .ok (.bipush (-2), 2) := by decide +kernel
theorem d_Model_sheetWrong_11 : decode b_Model_sheetWrong 11 = .ok (.ireturn, 1) := by decide +kernel
theorem d_Model_sheetWrong_12 : decode b_Model_sheetWrong 12 = .ok (.aload_n 0, 1) := by decide +kernel
theorem d_Model_sheetWrong_13 : decode b_Model_sheetWrong 13 = .ok (.getfield 31, 3) := by decide +kernel
theorem d_Model_sheetWrong_16 : decode b_Model_sheetWrong 16 = .ok (.iload_n 1, 1) := by decide +kernel
theorem d_Model_sheetWrong_17 : decode b_Model_sheetWrong 17 = .ok (.iaload, 1) := by decide +kernel
theorem d_Model_sheetWrong_18 : decode b_Model_sheetWrong 18 = .ok (.iconst (-1), 1) := by decide +kernel
theorem d_Model_sheetWrong_19 : decode b_Model_sheetWrong 19 = .ok (.if_icmp .ne 8, 3) := by decide +kernel
theorem d_Model_sheetWrong_22 : decode b_Model_sheetWrong 22 = .ok (.bipush (-11), 2) := by decide +kernel
theorem d_Model_sheetWrong_24 : decode b_Model_sheetWrong 24 = .ok (.goto 4, 3) := by decide +kernel
theorem d_Model_sheetWrong_27 : decode b_Model_sheetWrong 27 = .ok (.iconst 0, 1) := by decide +kernel
theorem d_Model_sheetWrong_28 : decode b_Model_sheetWrong 28 = .ok (.ireturn, 1) := by decide +kernel
abbrev b_Model_toldWrong : ByteArray := prog_8_method_59_code
def y_Model_toldWrong : MethodName := ⟨"RoundAndRoundModel", "toldWrong", "(IIII)I"⟩
theorem d_Model_toldWrong_0 : decode b_Model_toldWrong 0 = .ok (.aload_n 0, 1) := by decide +kernel
theorem d_Model_toldWrong_1 : decode b_Model_toldWrong 1 = .ok (.iload_n 1, 1) := by decide +kernel
theorem d_Model_toldWrong_2 : decode b_Model_toldWrong 2 = .ok (.invokevirtual 234, 3) := by decide +kernel
theorem d_Model_toldWrong_5 : decode b_Model_toldWrong 5 = .ok (.istore 5, 2) := by decide +kernel
theorem d_Model_toldWrong_7 : decode b_Model_toldWrong 7 = .ok (.iload 5, 2) := by decide +kernel
theorem d_Model_toldWrong_9 : decode b_Model_toldWrong 9 = .ok (.ifCond .eq 6, 3) := by decide +kernel
theorem d_Model_toldWrong_12 : decode b_Model_toldWrong 12 = .ok (.iload 5, 2) := by decide +kernel
theorem d_Model_toldWrong_14 : decode b_Model_toldWrong 14 = .ok (.ireturn, 1) := by decide +kernel
theorem d_Model_toldWrong_15 : decode b_Model_toldWrong 15 = .ok (.aload_n 0, 1) := by decide +kernel
theorem d_Model_toldWrong_16 : decode b_Model_toldWrong 16 = .ok (.iload_n 2, 1) := by decide +kernel
theorem d_Model_toldWrong_17 : decode b_Model_toldWrong 17 = .ok (.invokevirtual 149, 3) := by decide +kernel
theorem d_Model_toldWrong_20 : decode b_Model_toldWrong 20 = .ok (.ifCond .ne 8, 3) := by decide +kernel
theorem d_Model_toldWrong_23 : decode b_Model_toldWrong 23 = .ok (.bipush (-5), 2) := by decide +kernel
theorem d_Model_toldWrong_25 : decode b_Model_toldWrong 25 = .ok (.goto 24, 3) := by decide +kernel
theorem d_Model_toldWrong_28 : decode b_Model_toldWrong 28 = .ok (.iload_n 3, 1) := by decide +kernel
theorem d_Model_toldWrong_29 : decode b_Model_toldWrong 29 = .ok (.invokestatic 193, 3) := by decide +kernel
theorem d_Model_toldWrong_32 : decode b_Model_toldWrong 32 = .ok (.ifCond .eq 15, 3) := by decide +kernel
theorem d_Model_toldWrong_35 : decode b_Model_toldWrong 35 = .ok (.iload 4, 2) := by decide +kernel
theorem d_Model_toldWrong_37 : decode b_Model_toldWrong 37 = .ok (.invokestatic 215, 3) := by decide +kernel
theorem d_Model_toldWrong_40 : decode b_Model_toldWrong 40 = .ok (.ifCond .eq 7, 3) := by decide +kernel
theorem d_Model_toldWrong_43 : decode b_Model_toldWrong 43 = .ok (.iconst 0, 1) := by decide +kernel
theorem d_Model_toldWrong_44 : decode b_Model_toldWrong 44 = .ok (.goto 5, 3) := by decide +kernel
theorem d_Model_toldWrong_47 : decode b_Model_toldWrong 47 = .ok (.bipush (-7), 2) := by decide +kernel
theorem d_Model_toldWrong_49 : decode b_Model_toldWrong 49 = .ok (.ireturn, 1) := by decide +kernel
abbrev b_Model_unlike : ByteArray := prog_8_method_60_code
def y_Model_unlike : MethodName := ⟨"RoundAndRoundModel", "unlike", "(IIII)I"⟩
theorem d_Model_unlike_0 : decode b_Model_unlike 0 = .ok (.aload_n 0, 1) := by decide +kernel
theorem d_Model_unlike_1 : decode b_Model_unlike 1 = .ok (.iload_n 2, 1) := by decide +kernel
theorem d_Model_unlike_2 : decode b_Model_unlike 2 = .ok (.iload_n 3, 1) := by decide +kernel
theorem d_Model_unlike_3 : decode b_Model_unlike 3 = .ok (.iload 4, 2) := by decide +kernel
theorem d_Model_unlike_5 : decode b_Model_unlike 5 = .ok (.bipush (10), 2) := by decide +kernel
theorem d_Model_unlike_7 : decode b_Model_unlike 7 = .ok (.idiv, 1) := by decide +kernel
theorem d_Model_unlike_8 : decode b_Model_unlike 8 = .ok (.iconst 0, 1) := by decide +kernel
theorem d_Model_unlike_9 : decode b_Model_unlike 9 = .ok (.iload 4, 2) := by decide +kernel
theorem d_Model_unlike_11 : decode b_Model_unlike 11 = .ok (.bipush (10), 2) := by decide +kernel
theorem d_Model_unlike_13 : decode b_Model_unlike 13 = .ok (.irem, 1) := by decide +kernel
theorem d_Model_unlike_14 : decode b_Model_unlike 14 = .ok (.iconst 0, 1) := by decide +kernel
theorem d_Model_unlike_15 : decode b_Model_unlike 15 = .ok (.invokevirtual 218, 3) := by decide +kernel
theorem d_Model_unlike_18 : decode b_Model_unlike 18 = .ok (.iconst 0, 1) := by decide +kernel
theorem d_Model_unlike_19 : decode b_Model_unlike 19 = .ok (.istore 5, 2) := by decide +kernel
theorem d_Model_unlike_21 : decode b_Model_unlike 21 = .ok (.iload 5, 2) := by decide +kernel
theorem d_Model_unlike_23 : decode b_Model_unlike 23 = .ok (.aload_n 0, 1) := by decide +kernel
theorem d_Model_unlike_24 : decode b_Model_unlike 24 = .ok (.getfield 34, 3) := by decide +kernel
theorem d_Model_unlike_27 : decode b_Model_unlike 27 = .ok (.iload_n 1, 1) := by decide +kernel
theorem d_Model_unlike_28 : decode b_Model_unlike 28 = .ok (.iaload, 1) := by decide +kernel
theorem d_Model_unlike_29 : decode b_Model_unlike 29 = .ok (.if_icmp .ge 44, 3) := by decide +kernel
theorem d_Model_unlike_32 : decode b_Model_unlike 32 = .ok (.aload_n 0, 1) := by decide +kernel
theorem d_Model_unlike_33 : decode b_Model_unlike 33 = .ok (.iload_n 2, 1) := by decide +kernel
theorem d_Model_unlike_34 : decode b_Model_unlike 34 = .ok (.iload 4, 2) := by decide +kernel
theorem d_Model_unlike_36 : decode b_Model_unlike 36 = .ok (.bipush (10), 2) := by decide +kernel
theorem d_Model_unlike_38 : decode b_Model_unlike 38 = .ok (.irem, 1) := by decide +kernel
theorem d_Model_unlike_39 : decode b_Model_unlike 39 = .ok (.iconst 1, 1) := by decide +kernel
theorem d_Model_unlike_40 : decode b_Model_unlike 40 = .ok (.iload 5, 2) := by decide +kernel
theorem d_Model_unlike_42 : decode b_Model_unlike 42 = .ok (.invokevirtual 189, 3) := by decide +kernel
theorem d_Model_unlike_45 : decode b_Model_unlike 45 = .ok (.aload_n 0, 1) := by decide +kernel
theorem d_Model_unlike_46 : decode b_Model_unlike 46 = .ok (.getfield 37, 3) := by decide +kernel
theorem d_Model_unlike_49 : decode b_Model_unlike 49 = .ok (.bipush (40), 2) := by decide +kernel
theorem d_Model_unlike_51 : decode b_Model_unlike 51 = .ok (.iload_n 1, 1) := by decide +kernel
theorem d_Model_unlike_52 : decode b_Model_unlike 52 = .ok (.imul, 1) := by decide +kernel
theorem d_Model_unlike_53 : decode b_Model_unlike 53 = .ok (.iload 5, 2) := by decide +kernel
theorem d_Model_unlike_55 : decode b_Model_unlike 55 = .ok (.iadd, 1) := by decide +kernel
theorem d_Model_unlike_56 : decode b_Model_unlike 56 = .ok (.iaload, 1) := by decide +kernel
theorem d_Model_unlike_57 : decode b_Model_unlike 57 = .ok (.aload_n 0, 1) := by decide +kernel
theorem d_Model_unlike_58 : decode b_Model_unlike 58 = .ok (.getfield 186, 3) := by decide +kernel
theorem d_Model_unlike_61 : decode b_Model_unlike 61 = .ok (.if_icmp .eq 6, 3) := by decide +kernel
theorem d_Model_unlike_64 : decode b_Model_unlike 64 = .ok (.iload 5, 2) := by decide +kernel
theorem d_Model_unlike_66 : decode b_Model_unlike 66 = .ok (.ireturn, 1) := by decide +kernel
theorem d_Model_unlike_67 : decode b_Model_unlike 67 = .ok (.iinc 5 (1), 3) := by decide +kernel
theorem d_Model_unlike_70 : decode b_Model_unlike 70 = .ok (.goto (-49), 3) := by decide +kernel
theorem d_Model_unlike_73 : decode b_Model_unlike 73 = .ok (.iconst (-1), 1) := by decide +kernel
theorem d_Model_unlike_74 : decode b_Model_unlike 74 = .ok (.ireturn, 1) := by decide +kernel
abbrev b_Model_judge : ByteArray := prog_8_method_61_code
def y_Model_judge : MethodName := ⟨"RoundAndRoundModel", "judge", "(IIII)I"⟩
theorem d_Model_judge_0 : decode b_Model_judge 0 = .ok (.aload_n 0, 1) := by decide +kernel
theorem d_Model_judge_1 : decode b_Model_judge 1 = .ok (.iload_n 1, 1) := by decide +kernel
theorem d_Model_judge_2 : decode b_Model_judge 2 = .ok (.iload_n 2, 1) := by decide +kernel
theorem d_Model_judge_3 : decode b_Model_judge 3 = .ok (.iload_n 3, 1) := by decide +kernel
theorem d_Model_judge_4 : decode b_Model_judge 4 = .ok (.iload 4, 2) := by decide +kernel
theorem d_Model_judge_6 : decode b_Model_judge 6 = .ok (.invokevirtual 237, 3) := by decide +kernel
theorem d_Model_judge_9 : decode b_Model_judge 9 = .ok (.istore 5, 2) := by decide +kernel
theorem d_Model_judge_11 : decode b_Model_judge 11 = .ok (.iload 5, 2) := by decide +kernel
theorem d_Model_judge_13 : decode b_Model_judge 13 = .ok (.ifCond .ne 15, 3) := by decide +kernel
theorem d_Model_judge_16 : decode b_Model_judge 16 = .ok (.aload_n 0, 1) := by decide +kernel
theorem d_Model_judge_17 : decode b_Model_judge 17 = .ok (.iload_n 1, 1) := by decide +kernel
theorem d_Model_judge_18 : decode b_Model_judge 18 = .ok (.iload_n 2, 1) := by decide +kernel
theorem d_Model_judge_19 : decode b_Model_judge 19 = .ok (.iload_n 3, 1) := by decide +kernel
theorem d_Model_judge_20 : decode b_Model_judge 20 = .ok (.iload 4, 2) := by decide +kernel
theorem d_Model_judge_22 : decode b_Model_judge 22 = .ok (.invokevirtual 240, 3) := by decide +kernel
theorem d_Model_judge_25 : decode b_Model_judge 25 = .ok (.goto 5, 3) := by decide +kernel
theorem d_Model_judge_28 : decode b_Model_judge 28 = .ok (.iload 5, 2) := by decide +kernel
theorem d_Model_judge_30 : decode b_Model_judge 30 = .ok (.ireturn, 1) := by decide +kernel
abbrev b_Model_turned : ByteArray := prog_8_method_62_code
def y_Model_turned : MethodName := ⟨"RoundAndRoundModel", "turned", "(IIII)I"⟩
theorem d_Model_turned_0 : decode b_Model_turned 0 = .ok (.aload_n 0, 1) := by decide +kernel
theorem d_Model_turned_1 : decode b_Model_turned 1 = .ok (.iload_n 1, 1) := by decide +kernel
theorem d_Model_turned_2 : decode b_Model_turned 2 = .ok (.iload_n 2, 1) := by decide +kernel
theorem d_Model_turned_3 : decode b_Model_turned 3 = .ok (.iconst 0, 1) := by decide +kernel
theorem d_Model_turned_4 : decode b_Model_turned 4 = .ok (.iload_n 3, 1) := by decide +kernel
theorem d_Model_turned_5 : decode b_Model_turned 5 = .ok (.invokevirtual 237, 3) := by decide +kernel
theorem d_Model_turned_8 : decode b_Model_turned 8 = .ok (.istore 5, 2) := by decide +kernel
theorem d_Model_turned_10 : decode b_Model_turned 10 = .ok (.iload 5, 2) := by decide +kernel
theorem d_Model_turned_12 : decode b_Model_turned 12 = .ok (.ifCond .eq 6, 3) := by decide +kernel
theorem d_Model_turned_15 : decode b_Model_turned 15 = .ok (.iload 5, 2) := by decide +kernel
theorem d_Model_turned_17 : decode b_Model_turned 17 = .ok (.ireturn, 1) := by decide +kernel
theorem d_Model_turned_18 : decode b_Model_turned 18 = .ok (.iload 4, 2) := by decide +kernel
theorem d_Model_turned_20 : decode b_Model_turned 20 = .ok (.iconst 0, 1) := by decide +kernel
theorem d_Model_turned_21 : decode b_Model_turned 21 = .ok (.iconst 1, 1) := by decide +kernel
theorem d_Model_turned_22 : decode b_Model_turned 22 = .ok (.invokestatic 66, 3) := by decide +kernel
theorem d_Model_turned_25 : decode b_Model_turned 25 = .ok (.ifCond .ne 6, 3) := by decide +kernel
theorem d_Model_turned_28 : decode b_Model_turned 28 = .ok (.bipush (-7), 2) := by decide +kernel
theorem d_Model_turned_30 : decode b_Model_turned 30 = .ok (.ireturn, 1) := by decide +kernel
theorem d_Model_turned_31 : decode b_Model_turned 31 = .ok (.iconst 0, 1) := by decide +kernel
theorem d_Model_turned_32 : decode b_Model_turned 32 = .ok (.istore 6, 2) := by decide +kernel
theorem d_Model_turned_34 : decode b_Model_turned 34 = .ok (.bipush (-100), 2) := by decide +kernel
theorem d_Model_turned_36 : decode b_Model_turned 36 = .ok (.istore 7, 2) := by decide +kernel
theorem d_Model_turned_38 : decode b_Model_turned 38 = .ok (.iconst 0, 1) := by decide +kernel
theorem d_Model_turned_39 : decode b_Model_turned 39 = .ok (.istore 8, 2) := by decide +kernel
theorem d_Model_turned_41 : decode b_Model_turned 41 = .ok (.iload 8, 2) := by decide +kernel
theorem d_Model_turned_43 : decode b_Model_turned 43 = .ok (.bipush (80), 2) := by decide +kernel
theorem d_Model_turned_45 : decode b_Model_turned 45 = .ok (.if_icmp .gt 69, 3) := by decide +kernel
theorem d_Model_turned_48 : decode b_Model_turned 48 = .ok (.aload_n 0, 1) := by decide +kernel
theorem d_Model_turned_49 : decode b_Model_turned 49 = .ok (.iload_n 1, 1) := by decide +kernel
theorem d_Model_turned_50 : decode b_Model_turned 50 = .ok (.iload_n 2, 1) := by decide +kernel
theorem d_Model_turned_51 : decode b_Model_turned 51 = .ok (.iload 8, 2) := by decide +kernel
theorem d_Model_turned_53 : decode b_Model_turned 53 = .ok (.invokestatic 231, 3) := by decide +kernel
theorem d_Model_turned_56 : decode b_Model_turned 56 = .ok (.iload_n 3, 1) := by decide +kernel
theorem d_Model_turned_57 : decode b_Model_turned 57 = .ok (.invokevirtual 240, 3) := by decide +kernel
theorem d_Model_turned_60 : decode b_Model_turned 60 = .ok (.iconst (-1), 1) := by decide +kernel
theorem d_Model_turned_61 : decode b_Model_turned 61 = .ok (.if_icmp .ne 7, 3) := by decide +kernel
theorem d_Model_turned_64 : decode b_Model_turned 64 = .ok (.iconst 1, 1) := by decide +kernel
theorem d_Model_turned_65 : decode b_Model_turned 65 = .ok (.goto 4, 3) := by decide +kernel
theorem d_Model_turned_68 : decode b_Model_turned 68 = .ok (.iconst 0, 1) := by decide +kernel
theorem d_Model_turned_69 : decode b_Model_turned 69 = .ok (.istore 9, 2) := by decide +kernel
theorem d_Model_turned_71 : decode b_Model_turned 71 = .ok (.iload 9, 2) := by decide +kernel
theorem d_Model_turned_73 : decode b_Model_turned 73 = .ok (.ifCond .eq 16, 3) := by decide +kernel
theorem d_Model_turned_76 : decode b_Model_turned 76 = .ok (.iload 6, 2) := by decide +kernel
theorem d_Model_turned_78 : decode b_Model_turned 78 = .ok (.ifCond .ne 11, 3) := by decide +kernel
theorem d_Model_turned_81 : decode b_Model_turned 81 = .ok (.iload 8, 2) := by decide +kernel
theorem d_Model_turned_83 : decode b_Model_turned 83 = .ok (.invokestatic 231, 3) := by decide +kernel
theorem d_Model_turned_86 : decode b_Model_turned 86 = .ok (.goto 5, 3) := by decide +kernel
theorem d_Model_turned_89 : decode b_Model_turned 89 = .ok (.iload 7, 2) := by decide +kernel
theorem d_Model_turned_91 : decode b_Model_turned 91 = .ok (.istore 7, 2) := by decide +kernel
theorem d_Model_turned_93 : decode b_Model_turned 93 = .ok (.iload 6, 2) := by decide +kernel
theorem d_Model_turned_95 : decode b_Model_turned 95 = .ok (.iload 9, 2) := by decide +kernel
theorem d_Model_turned_97 : decode b_Model_turned 97 = .ok (.ifCond .eq 7, 3) := by decide +kernel
theorem d_Model_turned_100 : decode b_Model_turned 100 = .ok (.iconst 1, 1) := by decide +kernel
theorem d_Model_turned_101 : decode b_Model_turned 101 = .ok (.goto 4, 3) := by decide +kernel
theorem d_Model_turned_104 : decode b_Model_turned 104 = .ok (.iconst 0, 1) := by decide +kernel
theorem d_Model_turned_105 : decode b_Model_turned 105 = .ok (.iadd, 1) := by decide +kernel
theorem d_Model_turned_106 : decode b_Model_turned 106 = .ok (.istore 6, 2) := by decide +kernel
theorem d_Model_turned_108 : decode b_Model_turned 108 = .ok (.iinc 8 (1), 3) := by decide +kernel
theorem d_Model_turned_111 : decode b_Model_turned 111 = .ok (.goto (-70), 3) := by decide +kernel
theorem d_Model_turned_114 : decode b_Model_turned 114 = .ok (.iload 4, 2) := by decide +kernel
theorem d_Model_turned_116 : decode b_Model_turned 116 = .ok (.ifCond .ne 8, 3) := by decide +kernel
theorem d_Model_turned_119 : decode b_Model_turned 119 = .ok (.iload 6, 2) := by decide +kernel
theorem d_Model_turned_121 : decode b_Model_turned 121 = .ok (.goto 5, 3) := by decide +kernel
theorem d_Model_turned_124 : decode b_Model_turned 124 = .ok (.iload 7, 2) := by decide +kernel
theorem d_Model_turned_126 : decode b_Model_turned 126 = .ok (.ireturn, 1) := by decide +kernel
abbrev b_Model_kinds : ByteArray := prog_8_method_63_code
def y_Model_kinds : MethodName := ⟨"RoundAndRoundModel", "kinds", "(IIIII)I"⟩
theorem d_Model_kinds_0 : decode b_Model_kinds 0 = .ok (.aload_n 0, 1) := by decide +kernel
theorem d_Model_kinds_1 : decode b_Model_kinds 1 = .ok (.iload_n 1, 1) := by decide +kernel
theorem d_Model_kinds_2 : decode b_Model_kinds 2 = .ok (.iload_n 2, 1) := by decide +kernel
theorem d_Model_kinds_3 : decode b_Model_kinds 3 = .ok (.iload_n 3, 1) := by decide +kernel
theorem d_Model_kinds_4 : decode b_Model_kinds 4 = .ok (.iload 4, 2) := by decide +kernel
theorem d_Model_kinds_6 : decode b_Model_kinds 6 = .ok (.invokevirtual 237, 3) := by decide +kernel
theorem d_Model_kinds_9 : decode b_Model_kinds 9 = .ok (.istore 6, 2) := by decide +kernel
theorem d_Model_kinds_11 : decode b_Model_kinds 11 = .ok (.iload 6, 2) := by decide +kernel
theorem d_Model_kinds_13 : decode b_Model_kinds 13 = .ok (.ifCond .eq 6, 3) := by decide +kernel
theorem d_Model_kinds_16 : decode b_Model_kinds 16 = .ok (.iload 6, 2) := by decide +kernel
theorem d_Model_kinds_18 : decode b_Model_kinds 18 = .ok (.ireturn, 1) := by decide +kernel
theorem d_Model_kinds_19 : decode b_Model_kinds 19 = .ok (.iload 5, 2) := by decide +kernel
theorem d_Model_kinds_21 : decode b_Model_kinds 21 = .ok (.iconst 0, 1) := by decide +kernel
theorem d_Model_kinds_22 : decode b_Model_kinds 22 = .ok (.iconst 2, 1) := by decide +kernel
theorem d_Model_kinds_23 : decode b_Model_kinds 23 = .ok (.invokestatic 66, 3) := by decide +kernel
theorem d_Model_kinds_26 : decode b_Model_kinds 26 = .ok (.ifCond .ne 6, 3) := by decide +kernel
theorem d_Model_kinds_29 : decode b_Model_kinds 29 = .ok (.bipush (-7), 2) := by decide +kernel
theorem d_Model_kinds_31 : decode b_Model_kinds 31 = .ok (.ireturn, 1) := by decide +kernel
theorem d_Model_kinds_32 : decode b_Model_kinds 32 = .ok (.aload_n 0, 1) := by decide +kernel
theorem d_Model_kinds_33 : decode b_Model_kinds 33 = .ok (.getfield 7, 3) := by decide +kernel
theorem d_Model_kinds_36 : decode b_Model_kinds 36 = .ok (.iload_n 2, 1) := by decide +kernel
theorem d_Model_kinds_37 : decode b_Model_kinds 37 = .ok (.iaload, 1) := by decide +kernel
theorem d_Model_kinds_38 : decode b_Model_kinds 38 = .ok (.istore 7, 2) := by decide +kernel
theorem d_Model_kinds_40 : decode b_Model_kinds 40 = .ok (.aload_n 0, 1) := by decide +kernel
theorem d_Model_kinds_41 : decode b_Model_kinds 41 = .ok (.getfield 13, 3) := by decide +kernel
theorem d_Model_kinds_44 : decode b_Model_kinds 44 = .ok (.iload_n 2, 1) := by decide +kernel
theorem d_Model_kinds_45 : decode b_Model_kinds 45 = .ok (.iaload, 1) := by decide +kernel
theorem d_Model_kinds_46 : decode b_Model_kinds 46 = .ok (.istore 8, 2) := by decide +kernel
theorem d_Model_kinds_48 : decode b_Model_kinds 48 = .ok (.aload_n 0, 1) := by decide +kernel
theorem d_Model_kinds_49 : decode b_Model_kinds 49 = .ok (.getfield 16, 3) := by decide +kernel
theorem d_Model_kinds_52 : decode b_Model_kinds 52 = .ok (.bipush (6), 2) := by decide +kernel
theorem d_Model_kinds_54 : decode b_Model_kinds 54 = .ok (.iload_n 2, 1) := by decide +kernel
theorem d_Model_kinds_55 : decode b_Model_kinds 55 = .ok (.imul, 1) := by decide +kernel
theorem d_Model_kinds_56 : decode b_Model_kinds 56 = .ok (.iconst 1, 1) := by decide +kernel
theorem d_Model_kinds_57 : decode b_Model_kinds 57 = .ok (.iadd, 1) := by decide +kernel
theorem d_Model_kinds_58 : decode b_Model_kinds 58 = .ok (.iaload, 1) := by decide +kernel
theorem d_Model_kinds_59 : decode b_Model_kinds 59 = .ok (.istore 9, 2) := by decide +kernel
theorem d_Model_kinds_61 : decode b_Model_kinds 61 = .ok (.iconst 0, 1) := by decide +kernel
theorem d_Model_kinds_62 : decode b_Model_kinds 62 = .ok (.istore 10, 2) := by decide +kernel
theorem d_Model_kinds_64 : decode b_Model_kinds 64 = .ok (.iconst 0, 1) := by decide +kernel
theorem d_Model_kinds_65 : decode b_Model_kinds 65 = .ok (.istore 11, 2) := by decide +kernel
theorem d_Model_kinds_67 : decode b_Model_kinds 67 = .ok (.iload 11, 2) := by decide +kernel
theorem d_Model_kinds_69 : decode b_Model_kinds 69 = .ok (.iload 5, 2) := by decide +kernel
theorem d_Model_kinds_71 : decode b_Model_kinds 71 = .ok (.ifCond .ne 8, 3) := by decide +kernel
theorem d_Model_kinds_74 : decode b_Model_kinds 74 = .ok (.bipush (6), 2) := by decide +kernel
theorem d_Model_kinds_76 : decode b_Model_kinds 76 = .ok (.goto 5, 3) := by decide +kernel
theorem d_Model_kinds_79 : decode b_Model_kinds 79 = .ok (.bipush (10), 2) := by decide +kernel
theorem d_Model_kinds_81 : decode b_Model_kinds 81 = .ok (.if_icmp .ge 96, 3) := by decide +kernel
theorem d_Model_kinds_84 : decode b_Model_kinds 84 = .ok (.aload_n 0, 1) := by decide +kernel
theorem d_Model_kinds_85 : decode b_Model_kinds 85 = .ok (.getfield 7, 3) := by decide +kernel
theorem d_Model_kinds_88 : decode b_Model_kinds 88 = .ok (.iload_n 2, 1) := by decide +kernel
theorem d_Model_kinds_89 : decode b_Model_kinds 89 = .ok (.iload 5, 2) := by decide +kernel
theorem d_Model_kinds_91 : decode b_Model_kinds 91 = .ok (.ifCond .ne 8, 3) := by decide +kernel
theorem d_Model_kinds_94 : decode b_Model_kinds 94 = .ok (.iload 11, 2) := by decide +kernel
theorem d_Model_kinds_96 : decode b_Model_kinds 96 = .ok (.goto 5, 3) := by decide +kernel
theorem d_Model_kinds_99 : decode b_Model_kinds 99 = .ok (.iload 7, 2) := by decide +kernel
theorem d_Model_kinds_101 : decode b_Model_kinds 101 = .ok (.iastore, 1) := by decide +kernel
theorem d_Model_kinds_102 : decode b_Model_kinds 102 = .ok (.aload_n 0, 1) := by decide +kernel
theorem d_Model_kinds_103 : decode b_Model_kinds 103 = .ok (.getfield 13, 3) := by decide +kernel
theorem d_Model_kinds_106 : decode b_Model_kinds 106 = .ok (.iload_n 2, 1) := by decide +kernel
theorem d_Model_kinds_107 : decode b_Model_kinds 107 = .ok (.iload 5, 2) := by decide +kernel
theorem d_Model_kinds_109 : decode b_Model_kinds 109 = .ok (.iconst 1, 1) := by decide +kernel
theorem d_Model_kinds_110 : decode b_Model_kinds 110 = .ok (.if_icmp .ne 8, 3) := by decide +kernel
theorem d_Model_kinds_113 : decode b_Model_kinds 113 = .ok (.iload 11, 2) := by decide +kernel
theorem d_Model_kinds_115 : decode b_Model_kinds 115 = .ok (.goto 5, 3) := by decide +kernel
theorem d_Model_kinds_118 : decode b_Model_kinds 118 = .ok (.iload 8, 2) := by decide +kernel
theorem d_Model_kinds_120 : decode b_Model_kinds 120 = .ok (.iastore, 1) := by decide +kernel
theorem d_Model_kinds_121 : decode b_Model_kinds 121 = .ok (.aload_n 0, 1) := by decide +kernel
theorem d_Model_kinds_122 : decode b_Model_kinds 122 = .ok (.getfield 16, 3) := by decide +kernel
theorem d_Model_kinds_125 : decode b_Model_kinds 125 = .ok (.bipush (6), 2) := by decide +kernel
theorem d_Model_kinds_127 : decode b_Model_kinds 127 = .ok (.iload_n 2, 1) := by decide +kernel
theorem d_Model_kinds_128 : decode b_Model_kinds 128 = .ok (.imul, 1) := by decide +kernel
theorem d_Model_kinds_129 : decode b_Model_kinds 129 = .ok (.iconst 1, 1) := by decide +kernel
theorem d_Model_kinds_130 : decode b_Model_kinds 130 = .ok (.iadd, 1) := by decide +kernel
theorem d_Model_kinds_131 : decode b_Model_kinds 131 = .ok (.iload 5, 2) := by decide +kernel
theorem d_Model_kinds_133 : decode b_Model_kinds 133 = .ok (.iconst 2, 1) := by decide +kernel
theorem d_Model_kinds_134 : decode b_Model_kinds 134 = .ok (.if_icmp .ne 8, 3) := by decide +kernel
theorem d_Model_kinds_137 : decode b_Model_kinds 137 = .ok (.iload 11, 2) := by decide +kernel
theorem d_Model_kinds_139 : decode b_Model_kinds 139 = .ok (.goto 5, 3) := by decide +kernel
theorem d_Model_kinds_142 : decode b_Model_kinds 142 = .ok (.iload 9, 2) := by decide +kernel
theorem d_Model_kinds_144 : decode b_Model_kinds 144 = .ok (.iastore, 1) := by decide +kernel
theorem d_Model_kinds_145 : decode b_Model_kinds 145 = .ok (.iload 10, 2) := by decide +kernel
theorem d_Model_kinds_147 : decode b_Model_kinds 147 = .ok (.aload_n 0, 1) := by decide +kernel
theorem d_Model_kinds_148 : decode b_Model_kinds 148 = .ok (.iload_n 1, 1) := by decide +kernel
theorem d_Model_kinds_149 : decode b_Model_kinds 149 = .ok (.iload_n 2, 1) := by decide +kernel
theorem d_Model_kinds_150 : decode b_Model_kinds 150 = .ok (.iload_n 3, 1) := by decide +kernel
theorem d_Model_kinds_151 : decode b_Model_kinds 151 = .ok (.iload 4, 2) := by decide +kernel
theorem d_Model_kinds_153 : decode b_Model_kinds 153 = .ok (.invokevirtual 240, 3) := by decide +kernel
theorem d_Model_kinds_156 : decode b_Model_kinds 156 = .ok (.iconst (-1), 1) := by decide +kernel
theorem d_Model_kinds_157 : decode b_Model_kinds 157 = .ok (.if_icmp .ne 10, 3) := by decide +kernel
theorem d_Model_kinds_160 : decode b_Model_kinds 160 = .ok (.iconst 1, 1) := by decide +kernel
theorem d_Model_kinds_161 : decode b_Model_kinds 161 = .ok (.iload 11, 2) := by decide +kernel
theorem d_Model_kinds_163 : decode b_Model_kinds 163 = .ok (.ishl, 1) := by decide +kernel
theorem d_Model_kinds_164 : decode b_Model_kinds 164 = .ok (.goto 4, 3) := by decide +kernel
theorem d_Model_kinds_167 : decode b_Model_kinds 167 = .ok (.iconst 0, 1) := by decide +kernel
theorem d_Model_kinds_168 : decode b_Model_kinds 168 = .ok (.ior, 1) := by decide +kernel
theorem d_Model_kinds_169 : decode b_Model_kinds 169 = .ok (.istore 10, 2) := by decide +kernel
theorem d_Model_kinds_171 : decode b_Model_kinds 171 = .ok (.iinc 11 (1), 3) := by decide +kernel
theorem d_Model_kinds_174 : decode b_Model_kinds 174 = .ok (.goto (-107), 3) := by decide +kernel
theorem d_Model_kinds_177 : decode b_Model_kinds 177 = .ok (.aload_n 0, 1) := by decide +kernel
theorem d_Model_kinds_178 : decode b_Model_kinds 178 = .ok (.getfield 7, 3) := by decide +kernel
theorem d_Model_kinds_181 : decode b_Model_kinds 181 = .ok (.iload_n 2, 1) := by decide +kernel
theorem d_Model_kinds_182 : decode b_Model_kinds 182 = .ok (.iload 7, 2) := by decide +kernel
theorem d_Model_kinds_184 : decode b_Model_kinds 184 = .ok (.iastore, 1) := by decide +kernel
theorem d_Model_kinds_185 : decode b_Model_kinds 185 = .ok (.aload_n 0, 1) := by decide +kernel
theorem d_Model_kinds_186 : decode b_Model_kinds 186 = .ok (.getfield 13, 3) := by decide +kernel
theorem d_Model_kinds_189 : decode b_Model_kinds 189 = .ok (.iload_n 2, 1) := by decide +kernel
theorem d_Model_kinds_190 : decode b_Model_kinds 190 = .ok (.iload 8, 2) := by decide +kernel
theorem d_Model_kinds_192 : decode b_Model_kinds 192 = .ok (.iastore, 1) := by decide +kernel
theorem d_Model_kinds_193 : decode b_Model_kinds 193 = .ok (.aload_n 0, 1) := by decide +kernel
theorem d_Model_kinds_194 : decode b_Model_kinds 194 = .ok (.getfield 16, 3) := by decide +kernel
theorem d_Model_kinds_197 : decode b_Model_kinds 197 = .ok (.bipush (6), 2) := by decide +kernel
theorem d_Model_kinds_199 : decode b_Model_kinds 199 = .ok (.iload_n 2, 1) := by decide +kernel
theorem d_Model_kinds_200 : decode b_Model_kinds 200 = .ok (.imul, 1) := by decide +kernel
theorem d_Model_kinds_201 : decode b_Model_kinds 201 = .ok (.iconst 1, 1) := by decide +kernel
theorem d_Model_kinds_202 : decode b_Model_kinds 202 = .ok (.iadd, 1) := by decide +kernel
theorem d_Model_kinds_203 : decode b_Model_kinds 203 = .ok (.iload 9, 2) := by decide +kernel
theorem d_Model_kinds_205 : decode b_Model_kinds 205 = .ok (.iastore, 1) := by decide +kernel
theorem d_Model_kinds_206 : decode b_Model_kinds 206 = .ok (.iload 10, 2) := by decide +kernel
theorem d_Model_kinds_208 : decode b_Model_kinds 208 = .ok (.ireturn, 1) := by decide +kernel
abbrev b_Model_laws : ByteArray := prog_8_method_64_code
def y_Model_laws : MethodName := ⟨"RoundAndRoundModel", "laws", "(IIII)I"⟩
theorem d_Model_laws_0 : decode b_Model_laws 0 = .ok (.aload_n 0, 1) := by decide +kernel
theorem d_Model_laws_1 : decode b_Model_laws 1 = .ok (.iload_n 1, 1) := by decide +kernel
theorem d_Model_laws_2 : decode b_Model_laws 2 = .ok (.iload_n 2, 1) := by decide +kernel
theorem d_Model_laws_3 : decode b_Model_laws 3 = .ok (.iload_n 3, 1) := by decide +kernel
theorem d_Model_laws_4 : decode b_Model_laws 4 = .ok (.iload 4, 2) := by decide +kernel
theorem d_Model_laws_6 : decode b_Model_laws 6 = .ok (.invokevirtual 237, 3) := by decide +kernel
theorem d_Model_laws_9 : decode b_Model_laws 9 = .ok (.istore 5, 2) := by decide +kernel
theorem d_Model_laws_11 : decode b_Model_laws 11 = .ok (.iload 5, 2) := by decide +kernel
theorem d_Model_laws_13 : decode b_Model_laws 13 = .ok (.ifCond .eq 6, 3) := by decide +kernel
theorem d_Model_laws_16 : decode b_Model_laws 16 = .ok (.iload 5, 2) := by decide +kernel
theorem d_Model_laws_18 : decode b_Model_laws 18 = .ok (.ireturn, 1) := by decide +kernel
theorem d_Model_laws_19 : decode b_Model_laws 19 = .ok (.aload_n 0, 1) := by decide +kernel
theorem d_Model_laws_20 : decode b_Model_laws 20 = .ok (.getfield 73, 3) := by decide +kernel
theorem d_Model_laws_23 : decode b_Model_laws 23 = .ok (.istore 6, 2) := by decide +kernel
theorem d_Model_laws_25 : decode b_Model_laws 25 = .ok (.iconst 0, 1) := by decide +kernel
theorem d_Model_laws_26 : decode b_Model_laws 26 = .ok (.istore 7, 2) := by decide +kernel
theorem d_Model_laws_28 : decode b_Model_laws 28 = .ok (.iconst 0, 1) := by decide +kernel
theorem d_Model_laws_29 : decode b_Model_laws 29 = .ok (.istore 8, 2) := by decide +kernel
theorem d_Model_laws_31 : decode b_Model_laws 31 = .ok (.iload 8, 2) := by decide +kernel
theorem d_Model_laws_33 : decode b_Model_laws 33 = .ok (.aload_n 0, 1) := by decide +kernel
theorem d_Model_laws_34 : decode b_Model_laws 34 = .ok (.getfield 70, 3) := by decide +kernel
theorem d_Model_laws_37 : decode b_Model_laws 37 = .ok (.if_icmp .ge 41, 3) := by decide +kernel
theorem d_Model_laws_40 : decode b_Model_laws 40 = .ok (.aload_n 0, 1) := by decide +kernel
theorem d_Model_laws_41 : decode b_Model_laws 41 = .ok (.iload 8, 2) := by decide +kernel
theorem d_Model_laws_43 : decode b_Model_laws 43 = .ok (.putfield 73, 3) := by decide +kernel
theorem d_Model_laws_46 : decode b_Model_laws 46 = .ok (.iload 7, 2) := by decide +kernel
theorem d_Model_laws_48 : decode b_Model_laws 48 = .ok (.aload_n 0, 1) := by decide +kernel
theorem d_Model_laws_49 : decode b_Model_laws 49 = .ok (.iload_n 1, 1) := by decide +kernel
theorem d_Model_laws_50 : decode b_Model_laws 50 = .ok (.iload_n 2, 1) := by decide +kernel
theorem d_Model_laws_51 : decode b_Model_laws 51 = .ok (.iload_n 3, 1) := by decide +kernel
theorem d_Model_laws_52 : decode b_Model_laws 52 = .ok (.iload 4, 2) := by decide +kernel
theorem d_Model_laws_54 : decode b_Model_laws 54 = .ok (.invokevirtual 240, 3) := by decide +kernel
theorem d_Model_laws_57 : decode b_Model_laws 57 = .ok (.iconst (-1), 1) := by decide +kernel
theorem d_Model_laws_58 : decode b_Model_laws 58 = .ok (.if_icmp .ne 10, 3) := by decide +kernel
theorem d_Model_laws_61 : decode b_Model_laws 61 = .ok (.iconst 1, 1) := by decide +kernel
theorem d_Model_laws_62 : decode b_Model_laws 62 = .ok (.iload 8, 2) := by decide +kernel
theorem d_Model_laws_64 : decode b_Model_laws 64 = .ok (.ishl, 1) := by decide +kernel
theorem d_Model_laws_65 : decode b_Model_laws 65 = .ok (.goto 4, 3) := by decide +kernel
theorem d_Model_laws_68 : decode b_Model_laws 68 = .ok (.iconst 0, 1) := by decide +kernel
theorem d_Model_laws_69 : decode b_Model_laws 69 = .ok (.ior, 1) := by decide +kernel
theorem d_Model_laws_70 : decode b_Model_laws 70 = .ok (.istore 7, 2) := by decide +kernel
theorem d_Model_laws_72 : decode b_Model_laws 72 = .ok (.iinc 8 (1), 3) := by decide +kernel
theorem d_Model_laws_75 : decode b_Model_laws 75 = .ok (.goto (-44), 3) := by decide +kernel
theorem d_Model_laws_78 : decode b_Model_laws 78 = .ok (.aload_n 0, 1) := by decide +kernel
theorem d_Model_laws_79 : decode b_Model_laws 79 = .ok (.iload 6, 2) := by decide +kernel
theorem d_Model_laws_81 : decode b_Model_laws 81 = .ok (.putfield 73, 3) := by decide +kernel
theorem d_Model_laws_84 : decode b_Model_laws 84 = .ok (.iload 7, 2) := by decide +kernel
theorem d_Model_laws_86 : decode b_Model_laws 86 = .ok (.ireturn, 1) := by decide +kernel
abbrev b_Model_whose : ByteArray := prog_8_method_65_code
def y_Model_whose : MethodName := ⟨"RoundAndRoundModel", "whose", "(III)I"⟩
theorem d_Model_whose_0 : decode b_Model_whose 0 = .ok (.aload_n 0, 1) := by decide +kernel
theorem d_Model_whose_1 : decode b_Model_whose 1 = .ok (.iload_n 1, 1) := by decide +kernel
theorem d_Model_whose_2 : decode b_Model_whose 2 = .ok (.invokevirtual 234, 3) := by decide +kernel
theorem d_Model_whose_5 : decode b_Model_whose 5 = .ok (.istore 4, 2) := by decide +kernel
theorem d_Model_whose_7 : decode b_Model_whose 7 = .ok (.iload 4, 2) := by decide +kernel
theorem d_Model_whose_9 : decode b_Model_whose 9 = .ok (.ifCond .eq 6, 3) := by decide +kernel
theorem d_Model_whose_12 : decode b_Model_whose 12 = .ok (.iload 4, 2) := by decide +kernel
theorem d_Model_whose_14 : decode b_Model_whose 14 = .ok (.ireturn, 1) := by decide +kernel
theorem d_Model_whose_15 : decode b_Model_whose 15 = .ok (.iload_n 2, 1) := by decide +kernel
theorem d_Model_whose_16 : decode b_Model_whose 16 = .ok (.invokestatic 193, 3) := by decide +kernel
theorem d_Model_whose_19 : decode b_Model_whose 19 = .ok (.ifCond .eq 10, 3) := by decide +kernel
theorem d_Model_whose_22 : decode b_Model_whose 22 = .ok (.iload_n 3, 1) := by decide +kernel
theorem d_Model_whose_23 : decode b_Model_whose 23 = .ok (.invokestatic 215, 3) := by decide +kernel
theorem d_Model_whose_26 : decode b_Model_whose 26 = .ok (.ifCond .ne 6, 3) := by decide +kernel
theorem d_Model_whose_29 : decode b_Model_whose 29 = .ok (.bipush (-7), 2) := by decide +kernel
theorem d_Model_whose_31 : decode b_Model_whose 31 = .ok (.ireturn, 1) := by decide +kernel
theorem d_Model_whose_32 : decode b_Model_whose 32 = .ok (.iconst 0, 1) := by decide +kernel
theorem d_Model_whose_33 : decode b_Model_whose 33 = .ok (.istore 5, 2) := by decide +kernel
theorem d_Model_whose_35 : decode b_Model_whose 35 = .ok (.iconst 0, 1) := by decide +kernel
theorem d_Model_whose_36 : decode b_Model_whose 36 = .ok (.istore 6, 2) := by decide +kernel
theorem d_Model_whose_38 : decode b_Model_whose 38 = .ok (.iload 6, 2) := by decide +kernel
theorem d_Model_whose_40 : decode b_Model_whose 40 = .ok (.aload_n 0, 1) := by decide +kernel
theorem d_Model_whose_41 : decode b_Model_whose 41 = .ok (.getfield 63, 3) := by decide +kernel
theorem d_Model_whose_44 : decode b_Model_whose 44 = .ok (.if_icmp .ge 35, 3) := by decide +kernel
theorem d_Model_whose_47 : decode b_Model_whose 47 = .ok (.iload 5, 2) := by decide +kernel
theorem d_Model_whose_49 : decode b_Model_whose 49 = .ok (.aload_n 0, 1) := by decide +kernel
theorem d_Model_whose_50 : decode b_Model_whose 50 = .ok (.iload_n 1, 1) := by decide +kernel
theorem d_Model_whose_51 : decode b_Model_whose 51 = .ok (.iload 6, 2) := by decide +kernel
theorem d_Model_whose_53 : decode b_Model_whose 53 = .ok (.iload_n 2, 1) := by decide +kernel
theorem d_Model_whose_54 : decode b_Model_whose 54 = .ok (.iload_n 3, 1) := by decide +kernel
theorem d_Model_whose_55 : decode b_Model_whose 55 = .ok (.invokevirtual 240, 3) := by decide +kernel
theorem d_Model_whose_58 : decode b_Model_whose 58 = .ok (.iconst (-1), 1) := by decide +kernel
theorem d_Model_whose_59 : decode b_Model_whose 59 = .ok (.if_icmp .ne 10, 3) := by decide +kernel
theorem d_Model_whose_62 : decode b_Model_whose 62 = .ok (.iconst 1, 1) := by decide +kernel
theorem d_Model_whose_63 : decode b_Model_whose 63 = .ok (.iload 6, 2) := by decide +kernel
theorem d_Model_whose_65 : decode b_Model_whose 65 = .ok (.ishl, 1) := by decide +kernel
theorem d_Model_whose_66 : decode b_Model_whose 66 = .ok (.goto 4, 3) := by decide +kernel
theorem d_Model_whose_69 : decode b_Model_whose 69 = .ok (.iconst 0, 1) := by decide +kernel
theorem d_Model_whose_70 : decode b_Model_whose 70 = .ok (.ior, 1) := by decide +kernel
theorem d_Model_whose_71 : decode b_Model_whose 71 = .ok (.istore 5, 2) := by decide +kernel
theorem d_Model_whose_73 : decode b_Model_whose 73 = .ok (.iinc 6 (1), 3) := by decide +kernel
theorem d_Model_whose_76 : decode b_Model_whose 76 = .ok (.goto (-38), 3) := by decide +kernel
theorem d_Model_whose_79 : decode b_Model_whose 79 = .ok (.iload 5, 2) := by decide +kernel
theorem d_Model_whose_81 : decode b_Model_whose 81 = .ok (.ireturn, 1) := by decide +kernel
abbrev b_Model_film : ByteArray := prog_8_method_66_code
def y_Model_film : MethodName := ⟨"RoundAndRoundModel", "film", "(IIIII)I"⟩
theorem d_Model_film_0 : decode b_Model_film 0 = .ok (.iload_n 1, 1) := by decide +kernel
theorem d_Model_film_1 : decode b_Model_film 1 = .ok (.iconst 0, 1) := by decide +kernel
theorem d_Model_film_2 : decode b_Model_film 2 = .ok (.iconst 3, 1) := by decide +kernel
theorem d_Model_film_3 : decode b_Model_film 3 = .ok (.invokestatic 66, 3) := by decide +kernel
theorem d_Model_film_6 : decode b_Model_film 6 = .ok (.ifCond .ne 6, 3) := by decide +kernel
theorem d_Model_film_9 : decode b_Model_film 9 = .ok (.bipush (-2), 2) := by decide +kernel
theorem d_Model_film_11 : decode b_Model_film 11 = .ok (.ireturn, 1) := by decide +kernel
theorem d_Model_film_12 : decode b_Model_film 12 = .ok (.aload_n 0, 1) := by decide +kernel
theorem d_Model_film_13 : decode b_Model_film 13 = .ok (.iload_n 2, 1) := by decide +kernel
theorem d_Model_film_14 : decode b_Model_film 14 = .ok (.invokevirtual 149, 3) := by decide +kernel
theorem d_Model_film_17 : decode b_Model_film 17 = .ok (.ifCond .ne 6, 3) := by decide +kernel
theorem d_Model_film_20 : decode b_Model_film 20 = .ok (.bipush (-5), 2) := by decide +kernel
theorem d_Model_film_22 : decode b_Model_film 22 = .ok (.ireturn, 1) := by decide +kernel
theorem d_Model_film_23 : decode b_Model_film 23 = .ok (.iload_n 3, 1) := by decide +kernel
theorem d_Model_film_24 : decode b_Model_film 24 = .ok (.invokestatic 193, 3) := by decide +kernel
theorem d_Model_film_27 : decode b_Model_film 27 = .ok (.ifCond .eq 22, 3) := by decide +kernel
theorem d_Model_film_30 : decode b_Model_film 30 = .ok (.iload 4, 2) := by decide +kernel
theorem d_Model_film_32 : decode b_Model_film 32 = .ok (.invokestatic 215, 3) := by decide +kernel
theorem d_Model_film_35 : decode b_Model_film 35 = .ok (.ifCond .eq 14, 3) := by decide +kernel
theorem d_Model_film_38 : decode b_Model_film 38 = .ok (.iload 5, 2) := by decide +kernel
theorem d_Model_film_40 : decode b_Model_film 40 = .ok (.iconst 0, 1) := by decide +kernel
theorem d_Model_film_41 : decode b_Model_film 41 = .ok (.bipush (40), 2) := by decide +kernel
theorem d_Model_film_43 : decode b_Model_film 43 = .ok (.invokestatic 66, 3) := by decide +kernel
theorem d_Model_film_46 : decode b_Model_film 46 = .ok (.ifCond .ne 6, 3) := by decide +kernel
theorem d_Model_film_49 : decode b_Model_film 49 = .ok (.bipush (-7), 2) := by decide +kernel
theorem d_Model_film_51 : decode b_Model_film 51 = .ok (.ireturn, 1) := by decide +kernel
theorem d_Model_film_52 : decode b_Model_film 52 = .ok (.aload_n 0, 1) := by decide +kernel
theorem d_Model_film_53 : decode b_Model_film 53 = .ok (.getfield 31, 3) := by decide +kernel
theorem d_Model_film_56 : decode b_Model_film 56 = .ok (.iload_n 1, 1) := by decide +kernel
theorem d_Model_film_57 : decode b_Model_film 57 = .ok (.iconst 2, 1) := by decide +kernel
theorem d_Model_film_58 : decode b_Model_film 58 = .ok (.iastore, 1) := by decide +kernel
theorem d_Model_film_59 : decode b_Model_film 59 = .ok (.aload_n 0, 1) := by decide +kernel
theorem d_Model_film_60 : decode b_Model_film 60 = .ok (.getfield 34, 3) := by decide +kernel
theorem d_Model_film_63 : decode b_Model_film 63 = .ok (.iload_n 1, 1) := by decide +kernel
theorem d_Model_film_64 : decode b_Model_film 64 = .ok (.iload 5, 2) := by decide +kernel
theorem d_Model_film_66 : decode b_Model_film 66 = .ok (.iastore, 1) := by decide +kernel
theorem d_Model_film_67 : decode b_Model_film 67 = .ok (.aload_n 0, 1) := by decide +kernel
theorem d_Model_film_68 : decode b_Model_film 68 = .ok (.iload_n 2, 1) := by decide +kernel
theorem d_Model_film_69 : decode b_Model_film 69 = .ok (.iload_n 3, 1) := by decide +kernel
theorem d_Model_film_70 : decode b_Model_film 70 = .ok (.iload 4, 2) := by decide +kernel
theorem d_Model_film_72 : decode b_Model_film 72 = .ok (.bipush (10), 2) := by decide +kernel
theorem d_Model_film_74 : decode b_Model_film 74 = .ok (.idiv, 1) := by decide +kernel
theorem d_Model_film_75 : decode b_Model_film 75 = .ok (.iconst 0, 1) := by decide +kernel
theorem d_Model_film_76 : decode b_Model_film 76 = .ok (.iload 4, 2) := by decide +kernel
theorem d_Model_film_78 : decode b_Model_film 78 = .ok (.bipush (10), 2) := by decide +kernel
theorem d_Model_film_80 : decode b_Model_film 80 = .ok (.irem, 1) := by decide +kernel
theorem d_Model_film_81 : decode b_Model_film 81 = .ok (.iconst 0, 1) := by decide +kernel
theorem d_Model_film_82 : decode b_Model_film 82 = .ok (.invokevirtual 218, 3) := by decide +kernel
theorem d_Model_film_85 : decode b_Model_film 85 = .ok (.iconst 0, 1) := by decide +kernel
theorem d_Model_film_86 : decode b_Model_film 86 = .ok (.istore 6, 2) := by decide +kernel
theorem d_Model_film_88 : decode b_Model_film 88 = .ok (.iload 6, 2) := by decide +kernel
theorem d_Model_film_90 : decode b_Model_film 90 = .ok (.bipush (40), 2) := by decide +kernel
theorem d_Model_film_92 : decode b_Model_film 92 = .ok (.if_icmp .ge 49, 3) := by decide +kernel
theorem d_Model_film_95 : decode b_Model_film 95 = .ok (.aload_n 0, 1) := by decide +kernel
theorem d_Model_film_96 : decode b_Model_film 96 = .ok (.iload_n 2, 1) := by decide +kernel
theorem d_Model_film_97 : decode b_Model_film 97 = .ok (.iload 4, 2) := by decide +kernel
theorem d_Model_film_99 : decode b_Model_film 99 = .ok (.bipush (10), 2) := by decide +kernel
theorem d_Model_film_101 : decode b_Model_film 101 = .ok (.irem, 1) := by decide +kernel
theorem d_Model_film_102 : decode b_Model_film 102 = .ok (.iconst 1, 1) := by decide +kernel
theorem d_Model_film_103 : decode b_Model_film 103 = .ok (.iload 6, 2) := by decide +kernel
theorem d_Model_film_105 : decode b_Model_film 105 = .ok (.invokevirtual 189, 3) := by decide +kernel
theorem d_Model_film_108 : decode b_Model_film 108 = .ok (.aload_n 0, 1) := by decide +kernel
theorem d_Model_film_109 : decode b_Model_film 109 = .ok (.getfield 37, 3) := by decide +kernel
theorem d_Model_film_112 : decode b_Model_film 112 = .ok (.bipush (40), 2) := by decide +kernel
theorem d_Model_film_114 : decode b_Model_film 114 = .ok (.iload_n 1, 1) := by decide +kernel
theorem d_Model_film_115 : decode b_Model_film 115 = .ok (.imul, 1) := by decide +kernel
theorem d_Model_film_116 : decode b_Model_film 116 = .ok (.iload 6, 2) := by decide +kernel
theorem d_Model_film_118 : decode b_Model_film 118 = .ok (.iadd, 1) := by decide +kernel
theorem d_Model_film_119 : decode b_Model_film 119 = .ok (.iload 6, 2) := by decide +kernel
theorem d_Model_film_121 : decode b_Model_film 121 = .ok (.iload 5, 2) := by decide +kernel
theorem d_Model_film_123 : decode b_Model_film 123 = .ok (.if_icmp .ge 10, 3) := by decide +kernel
theorem d_Model_film_126 : decode b_Model_film 126 = .ok (.aload_n 0, 1) := by decide +kernel
theorem d_Model_film_127 : decode b_Model_film 127 = .ok (.getfield 186, 3) := by decide +kernel
theorem d_Model_film_130 : decode b_Model_film 130 = .ok (.goto 4, 3) := by decide +kernel
theorem d_Model_film_133 : decode b_Model_film 133 = .ok (.iconst 0, 1) := by decide +kernel
theorem d_Model_film_134 : decode b_Model_film 134 = .ok (.iastore, 1) := by decide +kernel
theorem d_Model_film_135 : decode b_Model_film 135 = .ok (.iinc 6 (1), 3) := by decide +kernel
theorem d_Model_film_138 : decode b_Model_film 138 = .ok (.goto (-50), 3) := by decide +kernel
theorem d_Model_film_141 : decode b_Model_film 141 = .ok (.iload 5, 2) := by decide +kernel
theorem d_Model_film_143 : decode b_Model_film 143 = .ok (.ireturn, 1) := by decide +kernel
abbrev b_Model_areOdds : ByteArray := prog_8_method_67_code
def y_Model_areOdds : MethodName := ⟨"RoundAndRoundModel", "areOdds", "(I)Z"⟩
theorem d_Model_areOdds_0 : decode b_Model_areOdds 0 = .ok (.iload_n 0, 1) := by decide +kernel
theorem d_Model_areOdds_1 : decode b_Model_areOdds 1 = .ok (.iconst 1, 1) := by decide +kernel
theorem d_Model_areOdds_2 : decode b_Model_areOdds 2 = .ok (.sipush (1009), 3) := by decide +kernel
theorem d_Model_areOdds_5 : decode b_Model_areOdds 5 = .ok (.invokestatic 66, 3) := by decide +kernel
theorem d_Model_areOdds_8 : decode b_Model_areOdds 8 = .ok (.ifCond .eq 14, 3) := by decide +kernel
theorem d_Model_areOdds_11 : decode b_Model_areOdds 11 = .ok (.iload_n 0, 1) := by decide +kernel
theorem d_Model_areOdds_12 : decode b_Model_areOdds 12 = .ok (.bipush (10), 2) := by decide +kernel
theorem d_Model_areOdds_14 : decode b_Model_areOdds 14 = .ok (.irem, 1) := by decide +kernel
theorem d_Model_areOdds_15 : decode b_Model_areOdds 15 = .ok (.ifCond .le 7, 3) := by decide +kernel
theorem d_Model_areOdds_18 : decode b_Model_areOdds 18 = .ok (.iconst 1, 1) := by decide +kernel
theorem d_Model_areOdds_19 : decode b_Model_areOdds 19 = .ok (.goto 4, 3) := by decide +kernel
theorem d_Model_areOdds_22 : decode b_Model_areOdds 22 = .ok (.iconst 0, 1) := by decide +kernel
theorem d_Model_areOdds_23 : decode b_Model_areOdds 23 = .ok (.ireturn, 1) := by decide +kernel
abbrev b_Model_walkBy : ByteArray := prog_8_method_68_code
def y_Model_walkBy : MethodName := ⟨"RoundAndRoundModel", "walkBy", "(IIII)V"⟩
theorem d_Model_walkBy_0 : decode b_Model_walkBy 0 = .ok (.iload_n 1, 1) := by decide +kernel
theorem d_Model_walkBy_1 : decode b_Model_walkBy 1 = .ok (.i2l, 1) := by decide +kernel
theorem d_Model_walkBy_2 : decode b_Model_walkBy 2 = .ok (.lconst 1, 1) := by decide +kernel
theorem d_Model_walkBy_3 : decode b_Model_walkBy 3 = .ok (.ladd, 1) := by decide +kernel
theorem d_Model_walkBy_4 : decode b_Model_walkBy 4 = .ok (.lstore 5, 2) := by decide +kernel
theorem d_Model_walkBy_6 : decode b_Model_walkBy 6 = .ok (.aload_n 0, 1) := by decide +kernel
theorem d_Model_walkBy_7 : decode b_Model_walkBy 7 = .ok (.iload_n 2, 1) := by decide +kernel
theorem d_Model_walkBy_8 : decode b_Model_walkBy 8 = .ok (.invokevirtual 212, 3) := by decide +kernel
theorem d_Model_walkBy_11 : decode b_Model_walkBy 11 = .ok (.iconst 0, 1) := by decide +kernel
theorem d_Model_walkBy_12 : decode b_Model_walkBy 12 = .ok (.istore 7, 2) := by decide +kernel
theorem d_Model_walkBy_14 : decode b_Model_walkBy 14 = .ok (.iload 7, 2) := by decide +kernel
theorem d_Model_walkBy_16 : decode b_Model_walkBy 16 = .ok (.iload_n 3, 1) := by decide +kernel
theorem d_Model_walkBy_17 : decode b_Model_walkBy 17 = .ok (.if_icmp .ge 54, 3) := by decide +kernel
theorem d_Model_walkBy_20 : decode b_Model_walkBy 20 = .ok (.lload 5, 2) := by decide +kernel
theorem d_Model_walkBy_22 : decode b_Model_walkBy 22 = .ok (.ldc2_w 243, 3) := by decide +kernel
theorem d_Model_walkBy_25 : decode b_Model_walkBy 25 = .ok (.lmul, 1) := by decide +kernel
theorem d_Model_walkBy_26 : decode b_Model_walkBy 26 = .ok (.ldc2_w 245, 3) := by decide +kernel
theorem d_Model_walkBy_29 : decode b_Model_walkBy 29 = .ok (.lrem, 1) := by decide +kernel
theorem d_Model_walkBy_30 : decode b_Model_walkBy 30 = .ok (.lstore 5, 2) := by decide +kernel
theorem d_Model_walkBy_32 : decode b_Model_walkBy 32 = .ok (.aload_n 0, 1) := by decide +kernel
theorem d_Model_walkBy_33 : decode b_Model_walkBy 33 = .ok (.iload_n 2, 1) := by decide +kernel
theorem d_Model_walkBy_34 : decode b_Model_walkBy 34 = .ok (.iload 4, 2) := by decide +kernel
theorem d_Model_walkBy_36 : decode b_Model_walkBy 36 = .ok (.bipush (10), 2) := by decide +kernel
theorem d_Model_walkBy_38 : decode b_Model_walkBy 38 = .ok (.irem, 1) := by decide +kernel
theorem d_Model_walkBy_39 : decode b_Model_walkBy 39 = .ok (.lload 5, 2) := by decide +kernel
theorem d_Model_walkBy_41 : decode b_Model_walkBy 41 = .ok (.ldc2_w 247, 3) := by decide +kernel
theorem d_Model_walkBy_44 : decode b_Model_walkBy 44 = .ok (.lrem, 1) := by decide +kernel
theorem d_Model_walkBy_45 : decode b_Model_walkBy 45 = .ok (.iload 4, 2) := by decide +kernel
theorem d_Model_walkBy_47 : decode b_Model_walkBy 47 = .ok (.bipush (10), 2) := by decide +kernel
theorem d_Model_walkBy_49 : decode b_Model_walkBy 49 = .ok (.idiv, 1) := by decide +kernel
theorem d_Model_walkBy_50 : decode b_Model_walkBy 50 = .ok (.i2l, 1) := by decide +kernel
theorem d_Model_walkBy_51 : decode b_Model_walkBy 51 = .ok (.lcmp, 1) := by decide +kernel
theorem d_Model_walkBy_52 : decode b_Model_walkBy 52 = .ok (.ifCond .ge 7, 3) := by decide +kernel
theorem d_Model_walkBy_55 : decode b_Model_walkBy 55 = .ok (.iconst 0, 1) := by decide +kernel
theorem d_Model_walkBy_56 : decode b_Model_walkBy 56 = .ok (.goto 4, 3) := by decide +kernel
theorem d_Model_walkBy_59 : decode b_Model_walkBy 59 = .ok (.iconst 1, 1) := by decide +kernel
theorem d_Model_walkBy_60 : decode b_Model_walkBy 60 = .ok (.iload 7, 2) := by decide +kernel
theorem d_Model_walkBy_62 : decode b_Model_walkBy 62 = .ok (.invokevirtual 189, 3) := by decide +kernel
theorem d_Model_walkBy_65 : decode b_Model_walkBy 65 = .ok (.iinc 7 (1), 3) := by decide +kernel
theorem d_Model_walkBy_68 : decode b_Model_walkBy 68 = .ok (.goto (-54), 3) := by decide +kernel
theorem d_Model_walkBy_71 : decode b_Model_walkBy 71 = .ok (.return_, 1) := by decide +kernel
abbrev b_Model_drawn : ByteArray := prog_8_method_69_code
def y_Model_drawn : MethodName := ⟨"RoundAndRoundModel", "drawn", "(IIIII)I"⟩
theorem d_Model_drawn_0 : decode b_Model_drawn 0 = .ok (.aload_n 0, 1) := by decide +kernel
theorem d_Model_drawn_1 : decode b_Model_drawn 1 = .ok (.iload_n 2, 1) := by decide +kernel
theorem d_Model_drawn_2 : decode b_Model_drawn 2 = .ok (.invokevirtual 149, 3) := by decide +kernel
theorem d_Model_drawn_5 : decode b_Model_drawn 5 = .ok (.ifCond .ne 6, 3) := by decide +kernel
theorem d_Model_drawn_8 : decode b_Model_drawn 8 = .ok (.ldc 156, 2) := by decide +kernel
theorem d_Model_drawn_10 : decode b_Model_drawn 10 = .ok (.ireturn, 1) := by decide +kernel
theorem d_Model_drawn_11 : decode b_Model_drawn 11 = .ok (.iload_n 1, 1) := by decide +kernel
theorem d_Model_drawn_12 : decode b_Model_drawn 12 = .ok (.iconst 0, 1) := by decide +kernel
theorem d_Model_drawn_13 : decode b_Model_drawn 13 = .ok (.ldc 185, 2) := by decide +kernel
theorem d_Model_drawn_15 : decode b_Model_drawn 15 = .ok (.invokestatic 66, 3) := by decide +kernel
theorem d_Model_drawn_18 : decode b_Model_drawn 18 = .ok (.ifCond .eq 31, 3) := by decide +kernel
theorem d_Model_drawn_21 : decode b_Model_drawn 21 = .ok (.iload_n 3, 1) := by decide +kernel
theorem d_Model_drawn_22 : decode b_Model_drawn 22 = .ok (.iconst 0, 1) := by decide +kernel
theorem d_Model_drawn_23 : decode b_Model_drawn 23 = .ok (.bipush (60), 2) := by decide +kernel
theorem d_Model_drawn_25 : decode b_Model_drawn 25 = .ok (.invokestatic 66, 3) := by decide +kernel
theorem d_Model_drawn_28 : decode b_Model_drawn 28 = .ok (.ifCond .eq 21, 3) := by decide +kernel
theorem d_Model_drawn_31 : decode b_Model_drawn 31 = .ok (.iload 4, 2) := by decide +kernel
theorem d_Model_drawn_33 : decode b_Model_drawn 33 = .ok (.invokestatic 249, 3) := by decide +kernel
theorem d_Model_drawn_36 : decode b_Model_drawn 36 = .ok (.ifCond .eq 13, 3) := by decide +kernel
theorem d_Model_drawn_39 : decode b_Model_drawn 39 = .ok (.iload 5, 2) := by decide +kernel
theorem d_Model_drawn_41 : decode b_Model_drawn 41 = .ok (.iconst 0, 1) := by decide +kernel
theorem d_Model_drawn_42 : decode b_Model_drawn 42 = .ok (.iconst 2, 1) := by decide +kernel
theorem d_Model_drawn_43 : decode b_Model_drawn 43 = .ok (.invokestatic 66, 3) := by decide +kernel
theorem d_Model_drawn_46 : decode b_Model_drawn 46 = .ok (.ifCond .ne 6, 3) := by decide +kernel
theorem d_Model_drawn_49 : decode b_Model_drawn 49 = .ok (.ldc 157, 2) := by decide +kernel
theorem d_Model_drawn_51 : decode b_Model_drawn 51 = .ok (.ireturn, 1) := by decide +kernel
theorem d_Model_drawn_52 : decode b_Model_drawn 52 = .ok (.aload_n 0, 1) := by decide +kernel
theorem d_Model_drawn_53 : decode b_Model_drawn 53 = .ok (.iload_n 1, 1) := by decide +kernel
theorem d_Model_drawn_54 : decode b_Model_drawn 54 = .ok (.iload_n 2, 1) := by decide +kernel
theorem d_Model_drawn_55 : decode b_Model_drawn 55 = .ok (.iload_n 3, 1) := by decide +kernel
theorem d_Model_drawn_56 : decode b_Model_drawn 56 = .ok (.iload 4, 2) := by decide +kernel
theorem d_Model_drawn_58 : decode b_Model_drawn 58 = .ok (.invokevirtual 252, 3) := by decide +kernel
theorem d_Model_drawn_61 : decode b_Model_drawn 61 = .ok (.iload 5, 2) := by decide +kernel
theorem d_Model_drawn_63 : decode b_Model_drawn 63 = .ok (.ifCond .ne 10, 3) := by decide +kernel
theorem d_Model_drawn_66 : decode b_Model_drawn 66 = .ok (.aload_n 0, 1) := by decide +kernel
theorem d_Model_drawn_67 : decode b_Model_drawn 67 = .ok (.getfield 186, 3) := by decide +kernel
theorem d_Model_drawn_70 : decode b_Model_drawn 70 = .ok (.goto 28, 3) := by decide +kernel
theorem d_Model_drawn_73 : decode b_Model_drawn 73 = .ok (.iload 5, 2) := by decide +kernel
theorem d_Model_drawn_75 : decode b_Model_drawn 75 = .ok (.iconst 1, 1) := by decide +kernel
theorem d_Model_drawn_76 : decode b_Model_drawn 76 = .ok (.if_icmp .ne 10, 3) := by decide +kernel
theorem d_Model_drawn_79 : decode b_Model_drawn 79 = .ok (.aload_n 0, 1) := by decide +kernel
theorem d_Model_drawn_80 : decode b_Model_drawn 80 = .ok (.getfield 181, 3) := by decide +kernel
theorem d_Model_drawn_83 : decode b_Model_drawn 83 = .ok (.goto 15, 3) := by decide +kernel
theorem d_Model_drawn_86 : decode b_Model_drawn 86 = .ok (.aload_n 0, 1) := by decide +kernel
theorem d_Model_drawn_87 : decode b_Model_drawn 87 = .ok (.getfield 174, 3) := by decide +kernel
theorem d_Model_drawn_90 : decode b_Model_drawn 90 = .ok (.ifCond .eq 7, 3) := by decide +kernel
theorem d_Model_drawn_93 : decode b_Model_drawn 93 = .ok (.iconst 1, 1) := by decide +kernel
theorem d_Model_drawn_94 : decode b_Model_drawn 94 = .ok (.goto 4, 3) := by decide +kernel
theorem d_Model_drawn_97 : decode b_Model_drawn 97 = .ok (.iconst 0, 1) := by decide +kernel
theorem d_Model_drawn_98 : decode b_Model_drawn 98 = .ok (.ireturn, 1) := by decide +kernel
abbrev b_Model_lowest : ByteArray := prog_8_method_70_code
def y_Model_lowest : MethodName := ⟨"RoundAndRoundModel", "lowest", "(JJI)J"⟩
theorem d_Model_lowest_0 : decode b_Model_lowest 0 = .ok (.lload_n 0, 1) := by decide +kernel
theorem d_Model_lowest_1 : decode b_Model_lowest 1 = .ok (.lconst 0, 1) := by decide +kernel
theorem d_Model_lowest_2 : decode b_Model_lowest 2 = .ok (.lcmp, 1) := by decide +kernel
theorem d_Model_lowest_3 : decode b_Model_lowest 3 = .ok (.ifCond .ne 7, 3) := by decide +kernel
theorem d_Model_lowest_6 : decode b_Model_lowest 6 = .ok (.iload 4, 2) := by decide +kernel
theorem d_Model_lowest_8 : decode b_Model_lowest 8 = .ok (.i2l, 1) := by decide +kernel
theorem d_Model_lowest_9 : decode b_Model_lowest 9 = .ok (.lreturn, 1) := by decide +kernel
theorem d_Model_lowest_10 : decode b_Model_lowest 10 = .ok (.lload_n 0, 1) := by decide +kernel
theorem d_Model_lowest_11 : decode b_Model_lowest 11 = .ok (.lstore 5, 2) := by decide +kernel
theorem d_Model_lowest_13 : decode b_Model_lowest 13 = .ok (.lload_n 2, 1) := by decide +kernel
theorem d_Model_lowest_14 : decode b_Model_lowest 14 = .ok (.lstore 7, 2) := by decide +kernel
theorem d_Model_lowest_16 : decode b_Model_lowest 16 = .ok (.lload 7, 2) := by decide +kernel
theorem d_Model_lowest_18 : decode b_Model_lowest 18 = .ok (.lconst 0, 1) := by decide +kernel
theorem d_Model_lowest_19 : decode b_Model_lowest 19 = .ok (.lcmp, 1) := by decide +kernel
theorem d_Model_lowest_20 : decode b_Model_lowest 20 = .ok (.ifCond .eq 21, 3) := by decide +kernel
theorem d_Model_lowest_23 : decode b_Model_lowest 23 = .ok (.lload 5, 2) := by decide +kernel
theorem d_Model_lowest_25 : decode b_Model_lowest 25 = .ok (.lload 7, 2) := by decide +kernel
theorem d_Model_lowest_27 : decode b_Model_lowest 27 = .ok (.lrem, 1) := by decide +kernel
theorem d_Model_lowest_28 : decode b_Model_lowest 28 = .ok (.lstore 9, 2) := by decide +kernel
theorem d_Model_lowest_30 : decode b_Model_lowest 30 = .ok (.lload 7, 2) := by decide +kernel
theorem d_Model_lowest_32 : decode b_Model_lowest 32 = .ok (.lstore 5, 2) := by decide +kernel
theorem d_Model_lowest_34 : decode b_Model_lowest 34 = .ok (.lload 9, 2) := by decide +kernel
theorem d_Model_lowest_36 : decode b_Model_lowest 36 = .ok (.lstore 7, 2) := by decide +kernel
theorem d_Model_lowest_38 : decode b_Model_lowest 38 = .ok (.goto (-22), 3) := by decide +kernel
theorem d_Model_lowest_41 : decode b_Model_lowest 41 = .ok (.iload 4, 2) := by decide +kernel
theorem d_Model_lowest_43 : decode b_Model_lowest 43 = .ok (.ifCond .ne 7, 3) := by decide +kernel
theorem d_Model_lowest_46 : decode b_Model_lowest 46 = .ok (.lload_n 0, 1) := by decide +kernel
theorem d_Model_lowest_47 : decode b_Model_lowest 47 = .ok (.goto 4, 3) := by decide +kernel
theorem d_Model_lowest_50 : decode b_Model_lowest 50 = .ok (.lload_n 2, 1) := by decide +kernel
theorem d_Model_lowest_51 : decode b_Model_lowest 51 = .ok (.lload 5, 2) := by decide +kernel
theorem d_Model_lowest_53 : decode b_Model_lowest 53 = .ok (.ldiv, 1) := by decide +kernel
theorem d_Model_lowest_54 : decode b_Model_lowest 54 = .ok (.lreturn, 1) := by decide +kernel
abbrev b_Model_odds : ByteArray := prog_8_method_71_code
def y_Model_odds : MethodName := ⟨"RoundAndRoundModel", "odds", "(IIIIII)J"⟩
theorem d_Model_odds_0 : decode b_Model_odds 0 = .ok (.iload_n 1, 1) := by decide +kernel
theorem d_Model_odds_1 : decode b_Model_odds 1 = .ok (.iconst 0, 1) := by decide +kernel
theorem d_Model_odds_2 : decode b_Model_odds 2 = .ok (.ldc 185, 2) := by decide +kernel
theorem d_Model_odds_4 : decode b_Model_odds 4 = .ok (.invokestatic 66, 3) := by decide +kernel
theorem d_Model_odds_7 : decode b_Model_odds 7 = .ok (.ifCond .eq 68, 3) := by decide +kernel
theorem d_Model_odds_10 : decode b_Model_odds 10 = .ok (.iload_n 2, 1) := by decide +kernel
theorem d_Model_odds_11 : decode b_Model_odds 11 = .ok (.iconst 0, 1) := by decide +kernel
theorem d_Model_odds_12 : decode b_Model_odds 12 = .ok (.sipush (6040), 3) := by decide +kernel
theorem d_Model_odds_15 : decode b_Model_odds 15 = .ok (.invokestatic 66, 3) := by decide +kernel
theorem d_Model_odds_18 : decode b_Model_odds 18 = .ok (.ifCond .eq 57, 3) := by decide +kernel
theorem d_Model_odds_21 : decode b_Model_odds 21 = .ok (.iload_n 2, 1) := by decide +kernel
theorem d_Model_odds_22 : decode b_Model_odds 22 = .ok (.bipush (100), 2) := by decide +kernel
theorem d_Model_odds_24 : decode b_Model_odds 24 = .ok (.irem, 1) := by decide +kernel
theorem d_Model_odds_25 : decode b_Model_odds 25 = .ok (.iconst 1, 1) := by decide +kernel
theorem d_Model_odds_26 : decode b_Model_odds 26 = .ok (.bipush (40), 2) := by decide +kernel
theorem d_Model_odds_28 : decode b_Model_odds 28 = .ok (.invokestatic 66, 3) := by decide +kernel
theorem d_Model_odds_31 : decode b_Model_odds 31 = .ok (.ifCond .eq 44, 3) := by decide +kernel
theorem d_Model_odds_34 : decode b_Model_odds 34 = .ok (.aload_n 0, 1) := by decide +kernel
theorem d_Model_odds_35 : decode b_Model_odds 35 = .ok (.iload_n 3, 1) := by decide +kernel
theorem d_Model_odds_36 : decode b_Model_odds 36 = .ok (.invokevirtual 149, 3) := by decide +kernel
theorem d_Model_odds_39 : decode b_Model_odds 39 = .ok (.ifCond .eq 36, 3) := by decide +kernel
theorem d_Model_odds_42 : decode b_Model_odds 42 = .ok (.iload 4, 2) := by decide +kernel
theorem d_Model_odds_44 : decode b_Model_odds 44 = .ok (.invokestatic 249, 3) := by decide +kernel
theorem d_Model_odds_47 : decode b_Model_odds 47 = .ok (.ifCond .eq 28, 3) := by decide +kernel
theorem d_Model_odds_50 : decode b_Model_odds 50 = .ok (.iload 5, 2) := by decide +kernel
theorem d_Model_odds_52 : decode b_Model_odds 52 = .ok (.iconst 0, 1) := by decide +kernel
theorem d_Model_odds_53 : decode b_Model_odds 53 = .ok (.ldc 185, 2) := by decide +kernel
theorem d_Model_odds_55 : decode b_Model_odds 55 = .ok (.invokestatic 66, 3) := by decide +kernel
theorem d_Model_odds_58 : decode b_Model_odds 58 = .ok (.ifCond .eq 17, 3) := by decide +kernel
theorem d_Model_odds_61 : decode b_Model_odds 61 = .ok (.iload 6, 2) := by decide +kernel
theorem d_Model_odds_63 : decode b_Model_odds 63 = .ok (.iconst 0, 1) := by decide +kernel
theorem d_Model_odds_64 : decode b_Model_odds 64 = .ok (.iconst 1, 1) := by decide +kernel
theorem d_Model_odds_65 : decode b_Model_odds 65 = .ok (.invokestatic 66, 3) := by decide +kernel
theorem d_Model_odds_68 : decode b_Model_odds 68 = .ok (.ifCond .eq 7, 3) := by decide +kernel
theorem d_Model_odds_71 : decode b_Model_odds 71 = .ok (.iconst 1, 1) := by decide +kernel
theorem d_Model_odds_72 : decode b_Model_odds 72 = .ok (.goto 4, 3) := by decide +kernel
theorem d_Model_odds_75 : decode b_Model_odds 75 = .ok (.iconst 0, 1) := by decide +kernel
theorem d_Model_odds_76 : decode b_Model_odds 76 = .ok (.istore 7, 2) := by decide +kernel
theorem d_Model_odds_78 : decode b_Model_odds 78 = .ok (.iload 7, 2) := by decide +kernel
theorem d_Model_odds_80 : decode b_Model_odds 80 = .ok (.ifCond .ne 7, 3) := by decide +kernel
theorem d_Model_odds_83 : decode b_Model_odds 83 = .ok (.ldc2_w 255, 3) := by decide +kernel
theorem d_Model_odds_86 : decode b_Model_odds 86 = .ok (.lreturn, 1) := by decide +kernel
theorem d_Model_odds_87 : decode b_Model_odds 87 = .ok (.lconst 0, 1) := by decide +kernel
theorem d_Model_odds_88 : decode b_Model_odds 88 = .ok (.lstore 8, 2) := by decide +kernel
theorem d_Model_odds_90 : decode b_Model_odds 90 = .ok (.iconst 0, 1) := by decide +kernel
theorem d_Model_odds_91 : decode b_Model_odds 91 = .ok (.istore 10, 2) := by decide +kernel
theorem d_Model_odds_93 : decode b_Model_odds 93 = .ok (.iload 10, 2) := by decide +kernel
theorem d_Model_odds_95 : decode b_Model_odds 95 = .ok (.iload_n 2, 1) := by decide +kernel
theorem d_Model_odds_96 : decode b_Model_odds 96 = .ok (.bipush (100), 2) := by decide +kernel
theorem d_Model_odds_98 : decode b_Model_odds 98 = .ok (.irem, 1) := by decide +kernel
theorem d_Model_odds_99 : decode b_Model_odds 99 = .ok (.if_icmp .ge 46, 3) := by decide +kernel
theorem d_Model_odds_102 : decode b_Model_odds 102 = .ok (.aload_n 0, 1) := by decide +kernel
theorem d_Model_odds_103 : decode b_Model_odds 103 = .ok (.iload_n 1, 1) := by decide +kernel
theorem d_Model_odds_104 : decode b_Model_odds 104 = .ok (.iload 10, 2) := by decide +kernel
theorem d_Model_odds_106 : decode b_Model_odds 106 = .ok (.iadd, 1) := by decide +kernel
theorem d_Model_odds_107 : decode b_Model_odds 107 = .ok (.iload_n 3, 1) := by decide +kernel
theorem d_Model_odds_108 : decode b_Model_odds 108 = .ok (.iload_n 2, 1) := by decide +kernel
theorem d_Model_odds_109 : decode b_Model_odds 109 = .ok (.bipush (100), 2) := by decide +kernel
theorem d_Model_odds_111 : decode b_Model_odds 111 = .ok (.idiv, 1) := by decide +kernel
theorem d_Model_odds_112 : decode b_Model_odds 112 = .ok (.iload 4, 2) := by decide +kernel
theorem d_Model_odds_114 : decode b_Model_odds 114 = .ok (.invokevirtual 252, 3) := by decide +kernel
theorem d_Model_odds_117 : decode b_Model_odds 117 = .ok (.lload 8, 2) := by decide +kernel
theorem d_Model_odds_119 : decode b_Model_odds 119 = .ok (.aload_n 0, 1) := by decide +kernel
theorem d_Model_odds_120 : decode b_Model_odds 120 = .ok (.getfield 186, 3) := by decide +kernel
theorem d_Model_odds_123 : decode b_Model_odds 123 = .ok (.invokestatic 164, 3) := by decide +kernel
theorem d_Model_odds_126 : decode b_Model_odds 126 = .ok (.iload 5, 2) := by decide +kernel
theorem d_Model_odds_128 : decode b_Model_odds 128 = .ok (.if_icmp .gt 7, 3) := by decide +kernel
theorem d_Model_odds_131 : decode b_Model_odds 131 = .ok (.lconst 1, 1) := by decide +kernel
theorem d_Model_odds_132 : decode b_Model_odds 132 = .ok (.goto 4, 3) := by decide +kernel
theorem d_Model_odds_135 : decode b_Model_odds 135 = .ok (.lconst 0, 1) := by decide +kernel
theorem d_Model_odds_136 : decode b_Model_odds 136 = .ok (.ladd, 1) := by decide +kernel
theorem d_Model_odds_137 : decode b_Model_odds 137 = .ok (.lstore 8, 2) := by decide +kernel
theorem d_Model_odds_139 : decode b_Model_odds 139 = .ok (.iinc 10 (1), 3) := by decide +kernel
theorem d_Model_odds_142 : decode b_Model_odds 142 = .ok (.goto (-49), 3) := by decide +kernel
theorem d_Model_odds_145 : decode b_Model_odds 145 = .ok (.lload 8, 2) := by decide +kernel
theorem d_Model_odds_147 : decode b_Model_odds 147 = .ok (.iload_n 2, 1) := by decide +kernel
theorem d_Model_odds_148 : decode b_Model_odds 148 = .ok (.bipush (100), 2) := by decide +kernel
theorem d_Model_odds_150 : decode b_Model_odds 150 = .ok (.irem, 1) := by decide +kernel
theorem d_Model_odds_151 : decode b_Model_odds 151 = .ok (.i2l, 1) := by decide +kernel
theorem d_Model_odds_152 : decode b_Model_odds 152 = .ok (.iload 6, 2) := by decide +kernel
theorem d_Model_odds_154 : decode b_Model_odds 154 = .ok (.invokestatic 257, 3) := by decide +kernel
theorem d_Model_odds_157 : decode b_Model_odds 157 = .ok (.lreturn, 1) := by decide +kernel
abbrev b_Model_image : ByteArray := prog_8_method_72_code
def y_Model_image : MethodName := ⟨"RoundAndRoundModel", "image", "()I"⟩
theorem d_Model_image_0 : decode b_Model_image 0 = .ok (.aload_n 0, 1) := by decide +kernel
theorem d_Model_image_1 : decode b_Model_image 1 = .ok (.iconst 1, 1) := by decide +kernel
theorem d_Model_image_2 : decode b_Model_image 2 = .ok (.putfield 261, 3) := by decide +kernel
theorem d_Model_image_5 : decode b_Model_image 5 = .ok (.aload_n 0, 1) := by decide +kernel
theorem d_Model_image_6 : decode b_Model_image 6 = .ok (.aload_n 0, 1) := by decide +kernel
theorem d_Model_image_7 : decode b_Model_image 7 = .ok (.getfield 63, 3) := by decide +kernel
theorem d_Model_image_10 : decode b_Model_image 10 = .ok (.putfield 264, 3) := by decide +kernel
theorem d_Model_image_13 : decode b_Model_image 13 = .ok (.aload_n 0, 1) := by decide +kernel
theorem d_Model_image_14 : decode b_Model_image 14 = .ok (.aload_n 0, 1) := by decide +kernel
theorem d_Model_image_15 : decode b_Model_image 15 = .ok (.getfield 73, 3) := by decide +kernel
theorem d_Model_image_18 : decode b_Model_image 18 = .ok (.putfield 267, 3) := by decide +kernel
theorem d_Model_image_21 : decode b_Model_image 21 = .ok (.iconst 0, 1) := by decide +kernel
theorem d_Model_image_22 : decode b_Model_image 22 = .ok (.istore_n 1, 1) := by decide +kernel
theorem d_Model_image_23 : decode b_Model_image 23 = .ok (.iload_n 1, 1) := by decide +kernel
theorem d_Model_image_24 : decode b_Model_image 24 = .ok (.bipush (30), 2) := by decide +kernel
theorem d_Model_image_26 : decode b_Model_image 26 = .ok (.if_icmp .ge 21, 3) := by decide +kernel
theorem d_Model_image_29 : decode b_Model_image 29 = .ok (.aload_n 0, 1) := by decide +kernel
theorem d_Model_image_30 : decode b_Model_image 30 = .ok (.getfield 28, 3) := by decide +kernel
theorem d_Model_image_33 : decode b_Model_image 33 = .ok (.iload_n 1, 1) := by decide +kernel
theorem d_Model_image_34 : decode b_Model_image 34 = .ok (.aload_n 0, 1) := by decide +kernel
theorem d_Model_image_35 : decode b_Model_image 35 = .ok (.getfield 16, 3) := by decide +kernel
theorem d_Model_image_38 : decode b_Model_image 38 = .ok (.iload_n 1, 1) := by decide +kernel
theorem d_Model_image_39 : decode b_Model_image 39 = .ok (.iaload, 1) := by decide +kernel
theorem d_Model_image_40 : decode b_Model_image 40 = .ok (.iastore, 1) := by decide +kernel
theorem d_Model_image_41 : decode b_Model_image 41 = .ok (.iinc 1 (1), 3) := by decide +kernel
theorem d_Model_image_44 : decode b_Model_image 44 = .ok (.goto (-21), 3) := by decide +kernel
theorem d_Model_image_47 : decode b_Model_image 47 = .ok (.aload_n 0, 1) := by decide +kernel
theorem d_Model_image_48 : decode b_Model_image 48 = .ok (.getfield 63, 3) := by decide +kernel
theorem d_Model_image_51 : decode b_Model_image 51 = .ok (.ireturn, 1) := by decide +kernel
abbrev b_Model_back : ByteArray := prog_8_method_73_code
def y_Model_back : MethodName := ⟨"RoundAndRoundModel", "back", "()I"⟩
theorem d_Model_back_0 : decode b_Model_back 0 = .ok (.aload_n 0, 1) := by decide +kernel
theorem d_Model_back_1 : decode b_Model_back 1 = .ok (.getfield 261, 3) := by decide +kernel
theorem d_Model_back_4 : decode b_Model_back 4 = .ok (.ifCond .ne 6, 3) := by decide +kernel
theorem d_Model_back_7 : decode b_Model_back 7 = .ok (.bipush (-3), 2) := by decide +kernel
theorem d_Model_back_9 : decode b_Model_back 9 = .ok (.ireturn, 1) := by decide +kernel
theorem d_Model_back_10 : decode b_Model_back 10 = .ok (.aload_n 0, 1) := by decide +kernel
theorem d_Model_back_11 : decode b_Model_back 11 = .ok (.aload_n 0, 1) := by decide +kernel
theorem d_Model_back_12 : decode b_Model_back 12 = .ok (.getfield 264, 3) := by decide +kernel
theorem d_Model_back_15 : decode b_Model_back 15 = .ok (.putfield 63, 3) := by decide +kernel
theorem d_Model_back_18 : decode b_Model_back 18 = .ok (.aload_n 0, 1) := by decide +kernel
theorem d_Model_back_19 : decode b_Model_back 19 = .ok (.aload_n 0, 1) := by decide +kernel
theorem d_Model_back_20 : decode b_Model_back 20 = .ok (.getfield 267, 3) := by decide +kernel
theorem d_Model_back_23 : decode b_Model_back 23 = .ok (.putfield 73, 3) := by decide +kernel
theorem d_Model_back_26 : decode b_Model_back 26 = .ok (.iconst 0, 1) := by decide +kernel
theorem d_Model_back_27 : decode b_Model_back 27 = .ok (.istore_n 1, 1) := by decide +kernel
theorem d_Model_back_28 : decode b_Model_back 28 = .ok (.iload_n 1, 1) := by decide +kernel
theorem d_Model_back_29 : decode b_Model_back 29 = .ok (.bipush (30), 2) := by decide +kernel
theorem d_Model_back_31 : decode b_Model_back 31 = .ok (.if_icmp .ge 21, 3) := by decide +kernel
theorem d_Model_back_34 : decode b_Model_back 34 = .ok (.aload_n 0, 1) := by decide +kernel
theorem d_Model_back_35 : decode b_Model_back 35 = .ok (.getfield 16, 3) := by decide +kernel
theorem d_Model_back_38 : decode b_Model_back 38 = .ok (.iload_n 1, 1) := by decide +kernel
theorem d_Model_back_39 : decode b_Model_back 39 = .ok (.aload_n 0, 1) := by decide +kernel
theorem d_Model_back_40 : decode b_Model_back 40 = .ok (.getfield 28, 3) := by decide +kernel
theorem d_Model_back_43 : decode b_Model_back 43 = .ok (.iload_n 1, 1) := by decide +kernel
theorem d_Model_back_44 : decode b_Model_back 44 = .ok (.iaload, 1) := by decide +kernel
theorem d_Model_back_45 : decode b_Model_back 45 = .ok (.iastore, 1) := by decide +kernel
theorem d_Model_back_46 : decode b_Model_back 46 = .ok (.iinc 1 (1), 3) := by decide +kernel
theorem d_Model_back_49 : decode b_Model_back 49 = .ok (.goto (-21), 3) := by decide +kernel
theorem d_Model_back_52 : decode b_Model_back 52 = .ok (.aload_n 0, 1) := by decide +kernel
theorem d_Model_back_53 : decode b_Model_back 53 = .ok (.getfield 63, 3) := by decide +kernel
theorem d_Model_back_56 : decode b_Model_back 56 = .ok (.ireturn, 1) := by decide +kernel
abbrev b_Model_sheet : ByteArray := prog_8_method_74_code
def y_Model_sheet : MethodName := ⟨"RoundAndRoundModel", "sheet", "(III)I"⟩
theorem d_Model_sheet_0 : decode b_Model_sheet 0 = .ok (.iload_n 1, 1) := by decide +kernel
theorem d_Model_sheet_1 : decode b_Model_sheet 1 = .ok (.iconst 0, 1) := by decide +kernel
theorem d_Model_sheet_2 : decode b_Model_sheet 2 = .ok (.iconst 3, 1) := by decide +kernel
theorem d_Model_sheet_3 : decode b_Model_sheet 3 = .ok (.invokestatic 66, 3) := by decide +kernel
theorem d_Model_sheet_6 : decode b_Model_sheet 6 = .ok (.ifCond .eq 23, 3) := by decide +kernel
theorem d_Model_sheet_9 : decode b_Model_sheet 9 = .ok (.iload_n 2, 1) := by decide +kernel
theorem d_Model_sheet_10 : decode b_Model_sheet 10 = .ok (.iconst (-1), 1) := by decide +kernel
theorem d_Model_sheet_11 : decode b_Model_sheet 11 = .ok (.iconst 2, 1) := by decide +kernel
theorem d_Model_sheet_12 : decode b_Model_sheet 12 = .ok (.invokestatic 66, 3) := by decide +kernel
theorem d_Model_sheet_15 : decode b_Model_sheet 15 = .ok (.ifCond .eq 14, 3) := by decide +kernel
theorem d_Model_sheet_18 : decode b_Model_sheet 18 = .ok (.iload_n 2, 1) := by decide +kernel
theorem d_Model_sheet_19 : decode b_Model_sheet 19 = .ok (.iconst (-1), 1) := by decide +kernel
theorem d_Model_sheet_20 : decode b_Model_sheet 20 = .ok (.if_icmp .eq 12, 3) := by decide +kernel
theorem d_Model_sheet_23 : decode b_Model_sheet 23 = .ok (.iload_n 3, 1) := by decide +kernel
theorem d_Model_sheet_24 : decode b_Model_sheet 24 = .ok (.bipush (40), 2) := by decide +kernel
theorem d_Model_sheet_26 : decode b_Model_sheet 26 = .ok (.if_icmp .le 6, 3) := by decide +kernel
theorem d_Model_sheet_29 : decode b_Model_sheet 29 = .ok (.bipush (-2), 2) := by decide +kernel
theorem d_Model_sheet_31 : decode b_Model_sheet 31 = .ok (.ireturn, 1) := by decide +kernel
theorem d_Model_sheet_32 : decode b_Model_sheet 32 = .ok (.iload_n 2, 1) := by decide +kernel
theorem d_Model_sheet_33 : decode b_Model_sheet 33 = .ok (.iconst (-1), 1) := by decide +kernel
theorem d_Model_sheet_34 : decode b_Model_sheet 34 = .ok (.if_icmp .eq 10, 3) := by decide +kernel
theorem d_Model_sheet_37 : decode b_Model_sheet 37 = .ok (.iload_n 3, 1) := by decide +kernel
theorem d_Model_sheet_38 : decode b_Model_sheet 38 = .ok (.ifCond .ge 6, 3) := by decide +kernel
theorem d_Model_sheet_41 : decode b_Model_sheet 41 = .ok (.bipush (-14), 2) := by decide +kernel
theorem d_Model_sheet_43 : decode b_Model_sheet 43 = .ok (.ireturn, 1) := by decide +kernel
theorem d_Model_sheet_44 : decode b_Model_sheet 44 = .ok (.aload_n 0, 1) := by decide +kernel
theorem d_Model_sheet_45 : decode b_Model_sheet 45 = .ok (.getfield 31, 3) := by decide +kernel
theorem d_Model_sheet_48 : decode b_Model_sheet 48 = .ok (.iload_n 1, 1) := by decide +kernel
theorem d_Model_sheet_49 : decode b_Model_sheet 49 = .ok (.iload_n 2, 1) := by decide +kernel
theorem d_Model_sheet_50 : decode b_Model_sheet 50 = .ok (.iastore, 1) := by decide +kernel
theorem d_Model_sheet_51 : decode b_Model_sheet 51 = .ok (.aload_n 0, 1) := by decide +kernel
theorem d_Model_sheet_52 : decode b_Model_sheet 52 = .ok (.getfield 34, 3) := by decide +kernel
theorem d_Model_sheet_55 : decode b_Model_sheet 55 = .ok (.iload_n 1, 1) := by decide +kernel
theorem d_Model_sheet_56 : decode b_Model_sheet 56 = .ok (.iload_n 2, 1) := by decide +kernel
theorem d_Model_sheet_57 : decode b_Model_sheet 57 = .ok (.iconst (-1), 1) := by decide +kernel
theorem d_Model_sheet_58 : decode b_Model_sheet 58 = .ok (.if_icmp .ne 7, 3) := by decide +kernel
theorem d_Model_sheet_61 : decode b_Model_sheet 61 = .ok (.iconst 0, 1) := by decide +kernel
theorem d_Model_sheet_62 : decode b_Model_sheet 62 = .ok (.goto 4, 3) := by decide +kernel
theorem d_Model_sheet_65 : decode b_Model_sheet 65 = .ok (.iload_n 3, 1) := by decide +kernel
theorem d_Model_sheet_66 : decode b_Model_sheet 66 = .ok (.iastore, 1) := by decide +kernel
theorem d_Model_sheet_67 : decode b_Model_sheet 67 = .ok (.iconst 0, 1) := by decide +kernel
theorem d_Model_sheet_68 : decode b_Model_sheet 68 = .ok (.istore 4, 2) := by decide +kernel
theorem d_Model_sheet_70 : decode b_Model_sheet 70 = .ok (.iload 4, 2) := by decide +kernel
theorem d_Model_sheet_72 : decode b_Model_sheet 72 = .ok (.bipush (40), 2) := by decide +kernel
theorem d_Model_sheet_74 : decode b_Model_sheet 74 = .ok (.if_icmp .ge 22, 3) := by decide +kernel
theorem d_Model_sheet_77 : decode b_Model_sheet 77 = .ok (.aload_n 0, 1) := by decide +kernel
theorem d_Model_sheet_78 : decode b_Model_sheet 78 = .ok (.getfield 37, 3) := by decide +kernel
theorem d_Model_sheet_81 : decode b_Model_sheet 81 = .ok (.bipush (40), 2) := by decide +kernel
theorem d_Model_sheet_83 : decode b_Model_sheet 83 = .ok (.iload_n 1, 1) := by decide +kernel
theorem d_Model_sheet_84 : decode b_Model_sheet 84 = .ok (.imul, 1) := by decide +kernel
theorem d_Model_sheet_85 : decode b_Model_sheet 85 = .ok (.iload 4, 2) := by decide +kernel
theorem d_Model_sheet_87 : decode b_Model_sheet 87 = .ok (.iadd, 1) := by decide +kernel
theorem d_Model_sheet_88 : decode b_Model_sheet 88 = .ok (.iconst 0, 1) := by decide +kernel
theorem d_Model_sheet_89 : decode b_Model_sheet 89 = .ok (.iastore, 1) := by decide +kernel
theorem d_Model_sheet_90 : decode b_Model_sheet 90 = .ok (.iinc 4 (1), 3) := by decide +kernel
theorem d_Model_sheet_93 : decode b_Model_sheet 93 = .ok (.goto (-23), 3) := by decide +kernel
theorem d_Model_sheet_96 : decode b_Model_sheet 96 = .ok (.iconst 1, 1) := by decide +kernel
theorem d_Model_sheet_97 : decode b_Model_sheet 97 = .ok (.ireturn, 1) := by decide +kernel
abbrev b_Model_cell : ByteArray := prog_8_method_75_code
def y_Model_cell : MethodName := ⟨"RoundAndRoundModel", "cell", "(III)I"⟩
theorem d_Model_cell_0 : decode b_Model_cell 0 = .ok (.iload_n 1, 1) := by decide +kernel
theorem d_Model_cell_1 : decode b_Model_cell 1 = .ok (.iconst 0, 1) := by decide +kernel
theorem d_Model_cell_2 : decode b_Model_cell 2 = .ok (.iconst 3, 1) := by decide +kernel
theorem d_Model_cell_3 : decode b_Model_cell 3 = .ok (.invokestatic 66, 3) := by decide +kernel
theorem d_Model_cell_6 : decode b_Model_cell 6 = .ok (.ifCond .ne 6, 3) := by decide +kernel
theorem d_Model_cell_9 : decode b_Model_cell 9 = .ok (.bipush (-2), 2) := by decide +kernel
theorem d_Model_cell_11 : decode b_Model_cell 11 = .ok (.ireturn, 1) := by decide +kernel
theorem d_Model_cell_12 : decode b_Model_cell 12 = .ok (.aload_n 0, 1) := by decide +kernel
theorem d_Model_cell_13 : decode b_Model_cell 13 = .ok (.getfield 31, 3) := by decide +kernel
theorem d_Model_cell_16 : decode b_Model_cell 16 = .ok (.iload_n 1, 1) := by decide +kernel
theorem d_Model_cell_17 : decode b_Model_cell 17 = .ok (.iaload, 1) := by decide +kernel
theorem d_Model_cell_18 : decode b_Model_cell 18 = .ok (.iconst (-1), 1) := by decide +kernel
theorem d_Model_cell_19 : decode b_Model_cell 19 = .ok (.if_icmp .ne 6, 3) := by decide +kernel
theorem d_Model_cell_22 : decode b_Model_cell 22 = .ok (.bipush (-11), 2) := by decide +kernel
theorem d_Model_cell_24 : decode b_Model_cell 24 = .ok (.ireturn, 1) := by decide +kernel
theorem d_Model_cell_25 : decode b_Model_cell 25 = .ok (.iload_n 2, 1) := by decide +kernel
theorem d_Model_cell_26 : decode b_Model_cell 26 = .ok (.iconst 0, 1) := by decide +kernel
theorem d_Model_cell_27 : decode b_Model_cell 27 = .ok (.aload_n 0, 1) := by decide +kernel
theorem d_Model_cell_28 : decode b_Model_cell 28 = .ok (.getfield 34, 3) := by decide +kernel
theorem d_Model_cell_31 : decode b_Model_cell 31 = .ok (.iload_n 1, 1) := by decide +kernel
theorem d_Model_cell_32 : decode b_Model_cell 32 = .ok (.iaload, 1) := by decide +kernel
theorem d_Model_cell_33 : decode b_Model_cell 33 = .ok (.iconst 1, 1) := by decide +kernel
theorem d_Model_cell_34 : decode b_Model_cell 34 = .ok (.isub, 1) := by decide +kernel
theorem d_Model_cell_35 : decode b_Model_cell 35 = .ok (.invokestatic 66, 3) := by decide +kernel
theorem d_Model_cell_38 : decode b_Model_cell 38 = .ok (.ifCond .ne 6, 3) := by decide +kernel
theorem d_Model_cell_41 : decode b_Model_cell 41 = .ok (.bipush (-12), 2) := by decide +kernel
theorem d_Model_cell_43 : decode b_Model_cell 43 = .ok (.ireturn, 1) := by decide +kernel
theorem d_Model_cell_44 : decode b_Model_cell 44 = .ok (.aload_n 0, 1) := by decide +kernel
theorem d_Model_cell_45 : decode b_Model_cell 45 = .ok (.getfield 37, 3) := by decide +kernel
theorem d_Model_cell_48 : decode b_Model_cell 48 = .ok (.bipush (40), 2) := by decide +kernel
theorem d_Model_cell_50 : decode b_Model_cell 50 = .ok (.iload_n 1, 1) := by decide +kernel
theorem d_Model_cell_51 : decode b_Model_cell 51 = .ok (.imul, 1) := by decide +kernel
theorem d_Model_cell_52 : decode b_Model_cell 52 = .ok (.iload_n 2, 1) := by decide +kernel
theorem d_Model_cell_53 : decode b_Model_cell 53 = .ok (.iadd, 1) := by decide +kernel
theorem d_Model_cell_54 : decode b_Model_cell 54 = .ok (.aload_n 0, 1) := by decide +kernel
theorem d_Model_cell_55 : decode b_Model_cell 55 = .ok (.getfield 31, 3) := by decide +kernel
theorem d_Model_cell_58 : decode b_Model_cell 58 = .ok (.iload_n 1, 1) := by decide +kernel
theorem d_Model_cell_59 : decode b_Model_cell 59 = .ok (.iaload, 1) := by decide +kernel
theorem d_Model_cell_60 : decode b_Model_cell 60 = .ok (.ifCond .ne 8, 3) := by decide +kernel
theorem d_Model_cell_63 : decode b_Model_cell 63 = .ok (.iload_n 3, 1) := by decide +kernel
theorem d_Model_cell_64 : decode b_Model_cell 64 = .ok (.i2b, 1) := by decide +kernel
theorem d_Model_cell_65 : decode b_Model_cell 65 = .ok (.goto 19, 3) := by decide +kernel
theorem d_Model_cell_68 : decode b_Model_cell 68 = .ok (.aload_n 0, 1) := by decide +kernel
theorem d_Model_cell_69 : decode b_Model_cell 69 = .ok (.getfield 31, 3) := by decide +kernel
theorem d_Model_cell_72 : decode b_Model_cell 72 = .ok (.iload_n 1, 1) := by decide +kernel
theorem d_Model_cell_73 : decode b_Model_cell 73 = .ok (.iaload, 1) := by decide +kernel
theorem d_Model_cell_74 : decode b_Model_cell 74 = .ok (.iconst 1, 1) := by decide +kernel
theorem d_Model_cell_75 : decode b_Model_cell 75 = .ok (.if_icmp .ne 8, 3) := by decide +kernel
theorem d_Model_cell_78 : decode b_Model_cell 78 = .ok (.iload_n 3, 1) := by decide +kernel
theorem d_Model_cell_79 : decode b_Model_cell 79 = .ok (.i2s, 1) := by decide +kernel
theorem d_Model_cell_80 : decode b_Model_cell 80 = .ok (.goto 4, 3) := by decide +kernel
theorem d_Model_cell_83 : decode b_Model_cell 83 = .ok (.iload_n 3, 1) := by decide +kernel
theorem d_Model_cell_84 : decode b_Model_cell 84 = .ok (.iastore, 1) := by decide +kernel
theorem d_Model_cell_85 : decode b_Model_cell 85 = .ok (.iconst 1, 1) := by decide +kernel
theorem d_Model_cell_86 : decode b_Model_cell 86 = .ok (.ireturn, 1) := by decide +kernel
abbrev b_Model_copy : ByteArray := prog_8_method_76_code
def y_Model_copy : MethodName := ⟨"RoundAndRoundModel", "copy", "(IIIII)I"⟩
theorem d_Model_copy_0 : decode b_Model_copy 0 = .ok (.iload_n 1, 1) := by decide +kernel
theorem d_Model_copy_1 : decode b_Model_copy 1 = .ok (.iconst 0, 1) := by decide +kernel
theorem d_Model_copy_2 : decode b_Model_copy 2 = .ok (.iconst 3, 1) := by decide +kernel
theorem d_Model_copy_3 : decode b_Model_copy 3 = .ok (.invokestatic 66, 3) := by decide +kernel
theorem d_Model_copy_6 : decode b_Model_copy 6 = .ok (.ifCond .eq 12, 3) := by decide +kernel
theorem d_Model_copy_9 : decode b_Model_copy 9 = .ok (.iload_n 3, 1) := by decide +kernel
theorem d_Model_copy_10 : decode b_Model_copy 10 = .ok (.iconst 0, 1) := by decide +kernel
theorem d_Model_copy_11 : decode b_Model_copy 11 = .ok (.iconst 3, 1) := by decide +kernel
theorem d_Model_copy_12 : decode b_Model_copy 12 = .ok (.invokestatic 66, 3) := by decide +kernel
theorem d_Model_copy_15 : decode b_Model_copy 15 = .ok (.ifCond .ne 6, 3) := by decide +kernel
theorem d_Model_copy_18 : decode b_Model_copy 18 = .ok (.bipush (-2), 2) := by decide +kernel
theorem d_Model_copy_20 : decode b_Model_copy 20 = .ok (.ireturn, 1) := by decide +kernel
theorem d_Model_copy_21 : decode b_Model_copy 21 = .ok (.aload_n 0, 1) := by decide +kernel
theorem d_Model_copy_22 : decode b_Model_copy 22 = .ok (.getfield 31, 3) := by decide +kernel
theorem d_Model_copy_25 : decode b_Model_copy 25 = .ok (.iload_n 1, 1) := by decide +kernel
theorem d_Model_copy_26 : decode b_Model_copy 26 = .ok (.iaload, 1) := by decide +kernel
theorem d_Model_copy_27 : decode b_Model_copy 27 = .ok (.iconst (-1), 1) := by decide +kernel
theorem d_Model_copy_28 : decode b_Model_copy 28 = .ok (.if_icmp .eq 13, 3) := by decide +kernel
theorem d_Model_copy_31 : decode b_Model_copy 31 = .ok (.aload_n 0, 1) := by decide +kernel
theorem d_Model_copy_32 : decode b_Model_copy 32 = .ok (.getfield 31, 3) := by decide +kernel
theorem d_Model_copy_35 : decode b_Model_copy 35 = .ok (.iload_n 3, 1) := by decide +kernel
theorem d_Model_copy_36 : decode b_Model_copy 36 = .ok (.iaload, 1) := by decide +kernel
theorem d_Model_copy_37 : decode b_Model_copy 37 = .ok (.iconst (-1), 1) := by decide +kernel
theorem d_Model_copy_38 : decode b_Model_copy 38 = .ok (.if_icmp .ne 6, 3) := by decide +kernel
theorem d_Model_copy_41 : decode b_Model_copy 41 = .ok (.bipush (-11), 2) := by decide +kernel
theorem d_Model_copy_43 : decode b_Model_copy 43 = .ok (.ireturn, 1) := by decide +kernel
theorem d_Model_copy_44 : decode b_Model_copy 44 = .ok (.aload_n 0, 1) := by decide +kernel
theorem d_Model_copy_45 : decode b_Model_copy 45 = .ok (.getfield 31, 3) := by decide +kernel
theorem d_Model_copy_48 : decode b_Model_copy 48 = .ok (.iload_n 1, 1) := by decide +kernel
theorem d_Model_copy_49 : decode b_Model_copy 49 = .ok (.iaload, 1) := by decide +kernel
theorem d_Model_copy_50 : decode b_Model_copy 50 = .ok (.aload_n 0, 1) := by decide +kernel
theorem d_Model_copy_51 : decode b_Model_copy 51 = .ok (.getfield 31, 3) := by decide +kernel
theorem d_Model_copy_54 : decode b_Model_copy 54 = .ok (.iload_n 3, 1) := by decide +kernel
theorem d_Model_copy_55 : decode b_Model_copy 55 = .ok (.iaload, 1) := by decide +kernel
theorem d_Model_copy_56 : decode b_Model_copy 56 = .ok (.if_icmp .eq 6, 3) := by decide +kernel
theorem d_Model_copy_59 : decode b_Model_copy 59 = .ok (.bipush (-13), 2) := by decide +kernel
theorem d_Model_copy_61 : decode b_Model_copy 61 = .ok (.ireturn, 1) := by decide +kernel
theorem d_Model_copy_62 : decode b_Model_copy 62 = .ok (.iload 5, 2) := by decide +kernel
theorem d_Model_copy_64 : decode b_Model_copy 64 = .ok (.ifCond .lt 60, 3) := by decide +kernel
theorem d_Model_copy_67 : decode b_Model_copy 67 = .ok (.iload_n 2, 1) := by decide +kernel
theorem d_Model_copy_68 : decode b_Model_copy 68 = .ok (.ifCond .lt 56, 3) := by decide +kernel
theorem d_Model_copy_71 : decode b_Model_copy 71 = .ok (.iload 4, 2) := by decide +kernel
theorem d_Model_copy_73 : decode b_Model_copy 73 = .ok (.ifCond .lt 51, 3) := by decide +kernel
theorem d_Model_copy_76 : decode b_Model_copy 76 = .ok (.iload_n 2, 1) := by decide +kernel
theorem d_Model_copy_77 : decode b_Model_copy 77 = .ok (.aload_n 0, 1) := by decide +kernel
theorem d_Model_copy_78 : decode b_Model_copy 78 = .ok (.getfield 34, 3) := by decide +kernel
theorem d_Model_copy_81 : decode b_Model_copy 81 = .ok (.iload_n 1, 1) := by decide +kernel
theorem d_Model_copy_82 : decode b_Model_copy 82 = .ok (.iaload, 1) := by decide +kernel
theorem d_Model_copy_83 : decode b_Model_copy 83 = .ok (.if_icmp .gt 41, 3) := by decide +kernel
theorem d_Model_copy_86 : decode b_Model_copy 86 = .ok (.iload 4, 2) := by decide +kernel
theorem d_Model_copy_88 : decode b_Model_copy 88 = .ok (.aload_n 0, 1) := by decide +kernel
theorem d_Model_copy_89 : decode b_Model_copy 89 = .ok (.getfield 34, 3) := by decide +kernel
theorem d_Model_copy_92 : decode b_Model_copy 92 = .ok (.iload_n 3, 1) := by decide +kernel
theorem d_Model_copy_93 : decode b_Model_copy 93 = .ok (.iaload, 1) := by decide +kernel
theorem d_Model_copy_94 : decode b_Model_copy 94 = .ok (.if_icmp .gt 30, 3) := by decide +kernel
theorem d_Model_copy_97 : decode b_Model_copy 97 = .ok (.iload 5, 2) := by decide +kernel
theorem d_Model_copy_99 : decode b_Model_copy 99 = .ok (.aload_n 0, 1) := by decide +kernel
theorem d_Model_copy_100 : decode b_Model_copy 100 = .ok (.getfield 34, 3) := by decide +kernel
theorem d_Model_copy_103 : decode b_Model_copy 103 = .ok (.iload_n 1, 1) := by decide +kernel
theorem d_Model_copy_104 : decode b_Model_copy 104 = .ok (.iaload, 1) := by decide +kernel
theorem d_Model_copy_105 : decode b_Model_copy 105 = .ok (.iload_n 2, 1) := by decide +kernel
theorem d_Model_copy_106 : decode b_Model_copy 106 = .ok (.isub, 1) := by decide +kernel
theorem d_Model_copy_107 : decode b_Model_copy 107 = .ok (.if_icmp .gt 17, 3) := by decide +kernel
theorem d_Model_copy_110 : decode b_Model_copy 110 = .ok (.iload 5, 2) := by decide +kernel
theorem d_Model_copy_112 : decode b_Model_copy 112 = .ok (.aload_n 0, 1) := by decide +kernel
theorem d_Model_copy_113 : decode b_Model_copy 113 = .ok (.getfield 34, 3) := by decide +kernel
theorem d_Model_copy_116 : decode b_Model_copy 116 = .ok (.iload_n 3, 1) := by decide +kernel
theorem d_Model_copy_117 : decode b_Model_copy 117 = .ok (.iaload, 1) := by decide +kernel
theorem d_Model_copy_118 : decode b_Model_copy 118 = .ok (.iload 4, 2) := by decide +kernel
theorem d_Model_copy_120 : decode b_Model_copy 120 = .ok (.isub, 1) := by decide +kernel
theorem d_Model_copy_121 : decode b_Model_copy 121 = .ok (.if_icmp .le 6, 3) := by decide +kernel
theorem d_Model_copy_124 : decode b_Model_copy 124 = .ok (.bipush (-12), 2) := by decide +kernel
theorem d_Model_copy_126 : decode b_Model_copy 126 = .ok (.ireturn, 1) := by decide +kernel
theorem d_Model_copy_127 : decode b_Model_copy 127 = .ok (.bipush (40), 2) := by decide +kernel
theorem d_Model_copy_129 : decode b_Model_copy 129 = .ok (.iload_n 1, 1) := by decide +kernel
theorem d_Model_copy_130 : decode b_Model_copy 130 = .ok (.imul, 1) := by decide +kernel
theorem d_Model_copy_131 : decode b_Model_copy 131 = .ok (.iload_n 2, 1) := by decide +kernel
theorem d_Model_copy_132 : decode b_Model_copy 132 = .ok (.iadd, 1) := by decide +kernel
theorem d_Model_copy_133 : decode b_Model_copy 133 = .ok (.istore 6, 2) := by decide +kernel
theorem d_Model_copy_135 : decode b_Model_copy 135 = .ok (.bipush (40), 2) := by decide +kernel
theorem d_Model_copy_137 : decode b_Model_copy 137 = .ok (.iload_n 3, 1) := by decide +kernel
theorem d_Model_copy_138 : decode b_Model_copy 138 = .ok (.imul, 1) := by decide +kernel
theorem d_Model_copy_139 : decode b_Model_copy 139 = .ok (.iload 4, 2) := by decide +kernel
theorem d_Model_copy_141 : decode b_Model_copy 141 = .ok (.iadd, 1) := by decide +kernel
theorem d_Model_copy_142 : decode b_Model_copy 142 = .ok (.istore 7, 2) := by decide +kernel
theorem d_Model_copy_144 : decode b_Model_copy 144 = .ok (.iconst 0, 1) := by decide +kernel
theorem d_Model_copy_145 : decode b_Model_copy 145 = .ok (.istore 8, 2) := by decide +kernel
theorem d_Model_copy_147 : decode b_Model_copy 147 = .ok (.iload 8, 2) := by decide +kernel
theorem d_Model_copy_149 : decode b_Model_copy 149 = .ok (.iload 5, 2) := by decide +kernel
theorem d_Model_copy_151 : decode b_Model_copy 151 = .ok (.if_icmp .ge 50, 3) := by decide +kernel
theorem d_Model_copy_154 : decode b_Model_copy 154 = .ok (.iload 6, 2) := by decide +kernel
theorem d_Model_copy_156 : decode b_Model_copy 156 = .ok (.iload 7, 2) := by decide +kernel
theorem d_Model_copy_158 : decode b_Model_copy 158 = .ok (.if_icmp .ge 13, 3) := by decide +kernel
theorem d_Model_copy_161 : decode b_Model_copy 161 = .ok (.iload 5, 2) := by decide +kernel
theorem d_Model_copy_163 : decode b_Model_copy 163 = .ok (.iconst 1, 1) := by decide +kernel
theorem d_Model_copy_164 : decode b_Model_copy 164 = .ok (.isub, 1) := by decide +kernel
theorem d_Model_copy_165 : decode b_Model_copy 165 = .ok (.iload 8, 2) := by decide +kernel
theorem d_Model_copy_167 : decode b_Model_copy 167 = .ok (.isub, 1) := by decide +kernel
theorem d_Model_copy_168 : decode b_Model_copy 168 = .ok (.goto 5, 3) := by decide +kernel
theorem d_Model_copy_171 : decode b_Model_copy 171 = .ok (.iload 8, 2) := by decide +kernel
theorem d_Model_copy_173 : decode b_Model_copy 173 = .ok (.istore 9, 2) := by decide +kernel
theorem d_Model_copy_175 : decode b_Model_copy 175 = .ok (.aload_n 0, 1) := by decide +kernel
theorem d_Model_copy_176 : decode b_Model_copy 176 = .ok (.getfield 37, 3) := by decide +kernel
theorem d_Model_copy_179 : decode b_Model_copy 179 = .ok (.iload 7, 2) := by decide +kernel
theorem d_Model_copy_181 : decode b_Model_copy 181 = .ok (.iload 9, 2) := by decide +kernel
theorem d_Model_copy_183 : decode b_Model_copy 183 = .ok (.iadd, 1) := by decide +kernel
theorem d_Model_copy_184 : decode b_Model_copy 184 = .ok (.aload_n 0, 1) := by decide +kernel
theorem d_Model_copy_185 : decode b_Model_copy 185 = .ok (.getfield 37, 3) := by decide +kernel
theorem d_Model_copy_188 : decode b_Model_copy 188 = .ok (.iload 6, 2) := by decide +kernel
theorem d_Model_copy_190 : decode b_Model_copy 190 = .ok (.iload 9, 2) := by decide +kernel
theorem d_Model_copy_192 : decode b_Model_copy 192 = .ok (.iadd, 1) := by decide +kernel
theorem d_Model_copy_193 : decode b_Model_copy 193 = .ok (.iaload, 1) := by decide +kernel
theorem d_Model_copy_194 : decode b_Model_copy 194 = .ok (.iastore, 1) := by decide +kernel
theorem d_Model_copy_195 : decode b_Model_copy 195 = .ok (.iinc 8 (1), 3) := by decide +kernel
theorem d_Model_copy_198 : decode b_Model_copy 198 = .ok (.goto (-51), 3) := by decide +kernel
theorem d_Model_copy_201 : decode b_Model_copy 201 = .ok (.iload 5, 2) := by decide +kernel
theorem d_Model_copy_203 : decode b_Model_copy 203 = .ok (.ireturn, 1) := by decide +kernel
abbrev b_Model_headsBy : ByteArray := prog_8_method_77_code
def y_Model_headsBy : MethodName := ⟨"RoundAndRoundModel", "headsBy", "(IIII)I"⟩
theorem d_Model_headsBy_0 : decode b_Model_headsBy 0 = .ok (.iload_n 1, 1) := by decide +kernel
theorem d_Model_headsBy_1 : decode b_Model_headsBy 1 = .ok (.iconst 0, 1) := by decide +kernel
theorem d_Model_headsBy_2 : decode b_Model_headsBy 2 = .ok (.iconst 3, 1) := by decide +kernel
theorem d_Model_headsBy_3 : decode b_Model_headsBy 3 = .ok (.invokestatic 66, 3) := by decide +kernel
theorem d_Model_headsBy_6 : decode b_Model_headsBy 6 = .ok (.ifCond .eq 22, 3) := by decide +kernel
theorem d_Model_headsBy_9 : decode b_Model_headsBy 9 = .ok (.iload_n 2, 1) := by decide +kernel
theorem d_Model_headsBy_10 : decode b_Model_headsBy 10 = .ok (.iconst 0, 1) := by decide +kernel
theorem d_Model_headsBy_11 : decode b_Model_headsBy 11 = .ok (.iconst 2, 1) := by decide +kernel
theorem d_Model_headsBy_12 : decode b_Model_headsBy 12 = .ok (.invokestatic 66, 3) := by decide +kernel
theorem d_Model_headsBy_15 : decode b_Model_headsBy 15 = .ok (.ifCond .eq 13, 3) := by decide +kernel
theorem d_Model_headsBy_18 : decode b_Model_headsBy 18 = .ok (.iload 4, 2) := by decide +kernel
theorem d_Model_headsBy_20 : decode b_Model_headsBy 20 = .ok (.iconst 0, 1) := by decide +kernel
theorem d_Model_headsBy_21 : decode b_Model_headsBy 21 = .ok (.iconst 5, 1) := by decide +kernel
theorem d_Model_headsBy_22 : decode b_Model_headsBy 22 = .ok (.invokestatic 66, 3) := by decide +kernel
theorem d_Model_headsBy_25 : decode b_Model_headsBy 25 = .ok (.ifCond .ne 6, 3) := by decide +kernel
theorem d_Model_headsBy_28 : decode b_Model_headsBy 28 = .ok (.bipush (-2), 2) := by decide +kernel
theorem d_Model_headsBy_30 : decode b_Model_headsBy 30 = .ok (.ireturn, 1) := by decide +kernel
theorem d_Model_headsBy_31 : decode b_Model_headsBy 31 = .ok (.aload_n 0, 1) := by decide +kernel
theorem d_Model_headsBy_32 : decode b_Model_headsBy 32 = .ok (.getfield 31, 3) := by decide +kernel
theorem d_Model_headsBy_35 : decode b_Model_headsBy 35 = .ok (.iload_n 1, 1) := by decide +kernel
theorem d_Model_headsBy_36 : decode b_Model_headsBy 36 = .ok (.iaload, 1) := by decide +kernel
theorem d_Model_headsBy_37 : decode b_Model_headsBy 37 = .ok (.iconst (-1), 1) := by decide +kernel
theorem d_Model_headsBy_38 : decode b_Model_headsBy 38 = .ok (.if_icmp .ne 6, 3) := by decide +kernel
theorem d_Model_headsBy_41 : decode b_Model_headsBy 41 = .ok (.bipush (-11), 2) := by decide +kernel
theorem d_Model_headsBy_43 : decode b_Model_headsBy 43 = .ok (.ireturn, 1) := by decide +kernel
theorem d_Model_headsBy_44 : decode b_Model_headsBy 44 = .ok (.aload_n 0, 1) := by decide +kernel
theorem d_Model_headsBy_45 : decode b_Model_headsBy 45 = .ok (.getfield 31, 3) := by decide +kernel
theorem d_Model_headsBy_48 : decode b_Model_headsBy 48 = .ok (.iload_n 1, 1) := by decide +kernel
theorem d_Model_headsBy_49 : decode b_Model_headsBy 49 = .ok (.iaload, 1) := by decide +kernel
theorem d_Model_headsBy_50 : decode b_Model_headsBy 50 = .ok (.iload_n 2, 1) := by decide +kernel
theorem d_Model_headsBy_51 : decode b_Model_headsBy 51 = .ok (.if_icmp .eq 6, 3) := by decide +kernel
theorem d_Model_headsBy_54 : decode b_Model_headsBy 54 = .ok (.bipush (-13), 2) := by decide +kernel
theorem d_Model_headsBy_56 : decode b_Model_headsBy 56 = .ok (.ireturn, 1) := by decide +kernel
theorem d_Model_headsBy_57 : decode b_Model_headsBy 57 = .ok (.iconst 0, 1) := by decide +kernel
theorem d_Model_headsBy_58 : decode b_Model_headsBy 58 = .ok (.istore 5, 2) := by decide +kernel
theorem d_Model_headsBy_60 : decode b_Model_headsBy 60 = .ok (.iconst 0, 1) := by decide +kernel
theorem d_Model_headsBy_61 : decode b_Model_headsBy 61 = .ok (.istore 6, 2) := by decide +kernel
theorem d_Model_headsBy_63 : decode b_Model_headsBy 63 = .ok (.iload 6, 2) := by decide +kernel
theorem d_Model_headsBy_65 : decode b_Model_headsBy 65 = .ok (.iload 4, 2) := by decide +kernel
theorem d_Model_headsBy_67 : decode b_Model_headsBy 67 = .ok (.if_icmp .ge 85, 3) := by decide +kernel
theorem d_Model_headsBy_70 : decode b_Model_headsBy 70 = .ok (.iload_n 3, 1) := by decide +kernel
theorem d_Model_headsBy_71 : decode b_Model_headsBy 71 = .ok (.iconst 2, 1) := by decide +kernel
theorem d_Model_headsBy_72 : decode b_Model_headsBy 72 = .ok (.iload 6, 2) := by decide +kernel
theorem d_Model_headsBy_74 : decode b_Model_headsBy 74 = .ok (.imul, 1) := by decide +kernel
theorem d_Model_headsBy_75 : decode b_Model_headsBy 75 = .ok (.iadd, 1) := by decide +kernel
theorem d_Model_headsBy_76 : decode b_Model_headsBy 76 = .ok (.istore 7, 2) := by decide +kernel
theorem d_Model_headsBy_78 : decode b_Model_headsBy 78 = .ok (.iload_n 3, 1) := by decide +kernel
theorem d_Model_headsBy_79 : decode b_Model_headsBy 79 = .ok (.ifCond .lt 22, 3) := by decide +kernel
theorem d_Model_headsBy_82 : decode b_Model_headsBy 82 = .ok (.iload 7, 2) := by decide +kernel
theorem d_Model_headsBy_84 : decode b_Model_headsBy 84 = .ok (.iload_n 3, 1) := by decide +kernel
theorem d_Model_headsBy_85 : decode b_Model_headsBy 85 = .ok (.if_icmp .lt 16, 3) := by decide +kernel
theorem d_Model_headsBy_88 : decode b_Model_headsBy 88 = .ok (.iload 7, 2) := by decide +kernel
theorem d_Model_headsBy_90 : decode b_Model_headsBy 90 = .ok (.aload_n 0, 1) := by decide +kernel
theorem d_Model_headsBy_91 : decode b_Model_headsBy 91 = .ok (.getfield 34, 3) := by decide +kernel
theorem d_Model_headsBy_94 : decode b_Model_headsBy 94 = .ok (.iload_n 1, 1) := by decide +kernel
theorem d_Model_headsBy_95 : decode b_Model_headsBy 95 = .ok (.iaload, 1) := by decide +kernel
theorem d_Model_headsBy_96 : decode b_Model_headsBy 96 = .ok (.iconst 2, 1) := by decide +kernel
theorem d_Model_headsBy_97 : decode b_Model_headsBy 97 = .ok (.isub, 1) := by decide +kernel
theorem d_Model_headsBy_98 : decode b_Model_headsBy 98 = .ok (.if_icmp .le 6, 3) := by decide +kernel
theorem d_Model_headsBy_101 : decode b_Model_headsBy 101 = .ok (.bipush (-12), 2) := by decide +kernel
theorem d_Model_headsBy_103 : decode b_Model_headsBy 103 = .ok (.ireturn, 1) := by decide +kernel
theorem d_Model_headsBy_104 : decode b_Model_headsBy 104 = .ok (.bipush (40), 2) := by decide +kernel
theorem d_Model_headsBy_106 : decode b_Model_headsBy 106 = .ok (.iload_n 1, 1) := by decide +kernel
theorem d_Model_headsBy_107 : decode b_Model_headsBy 107 = .ok (.imul, 1) := by decide +kernel
theorem d_Model_headsBy_108 : decode b_Model_headsBy 108 = .ok (.iload 7, 2) := by decide +kernel
theorem d_Model_headsBy_110 : decode b_Model_headsBy 110 = .ok (.iadd, 1) := by decide +kernel
theorem d_Model_headsBy_111 : decode b_Model_headsBy 111 = .ok (.istore 8, 2) := by decide +kernel
theorem d_Model_headsBy_113 : decode b_Model_headsBy 113 = .ok (.iload 5, 2) := by decide +kernel
theorem d_Model_headsBy_115 : decode b_Model_headsBy 115 = .ok (.aload_n 0, 1) := by decide +kernel
theorem d_Model_headsBy_116 : decode b_Model_headsBy 116 = .ok (.aload_n 0, 1) := by decide +kernel
theorem d_Model_headsBy_117 : decode b_Model_headsBy 117 = .ok (.getfield 37, 3) := by decide +kernel
theorem d_Model_headsBy_120 : decode b_Model_headsBy 120 = .ok (.iload 8, 2) := by decide +kernel
theorem d_Model_headsBy_122 : decode b_Model_headsBy 122 = .ok (.iaload, 1) := by decide +kernel
theorem d_Model_headsBy_123 : decode b_Model_headsBy 123 = .ok (.aload_n 0, 1) := by decide +kernel
theorem d_Model_headsBy_124 : decode b_Model_headsBy 124 = .ok (.getfield 37, 3) := by decide +kernel
theorem d_Model_headsBy_127 : decode b_Model_headsBy 127 = .ok (.iload 8, 2) := by decide +kernel
theorem d_Model_headsBy_129 : decode b_Model_headsBy 129 = .ok (.iconst 1, 1) := by decide +kernel
theorem d_Model_headsBy_130 : decode b_Model_headsBy 130 = .ok (.iadd, 1) := by decide +kernel
theorem d_Model_headsBy_131 : decode b_Model_headsBy 131 = .ok (.iaload, 1) := by decide +kernel
theorem d_Model_headsBy_132 : decode b_Model_headsBy 132 = .ok (.invokevirtual 270, 3) := by decide +kernel
theorem d_Model_headsBy_135 : decode b_Model_headsBy 135 = .ok (.ifCond .lt 7, 3) := by decide +kernel
theorem d_Model_headsBy_138 : decode b_Model_headsBy 138 = .ok (.iconst 1, 1) := by decide +kernel
theorem d_Model_headsBy_139 : decode b_Model_headsBy 139 = .ok (.goto 4, 3) := by decide +kernel
theorem d_Model_headsBy_142 : decode b_Model_headsBy 142 = .ok (.iconst 0, 1) := by decide +kernel
theorem d_Model_headsBy_143 : decode b_Model_headsBy 143 = .ok (.iadd, 1) := by decide +kernel
theorem d_Model_headsBy_144 : decode b_Model_headsBy 144 = .ok (.istore 5, 2) := by decide +kernel
theorem d_Model_headsBy_146 : decode b_Model_headsBy 146 = .ok (.iinc 6 (1), 3) := by decide +kernel
theorem d_Model_headsBy_149 : decode b_Model_headsBy 149 = .ok (.goto (-86), 3) := by decide +kernel
theorem d_Model_headsBy_152 : decode b_Model_headsBy 152 = .ok (.iload 5, 2) := by decide +kernel
theorem d_Model_headsBy_154 : decode b_Model_headsBy 154 = .ok (.ireturn, 1) := by decide +kernel
abbrev b_Model_isUnder : ByteArray := prog_8_method_78_code
def y_Model_isUnder : MethodName := ⟨"RoundAndRoundModel", "isUnder", "(II)Z"⟩
theorem d_Model_isUnder_0 : decode b_Model_isUnder 0 = .ok (.iload_n 1, 1) := by decide +kernel
theorem d_Model_isUnder_1 : decode b_Model_isUnder 1 = .ok (.ifCond .eq 28, 3) := by decide +kernel
theorem d_Model_isUnder_4 : decode b_Model_isUnder 4 = .ok (.iload_n 0, 1) := by decide +kernel
theorem d_Model_isUnder_5 : decode b_Model_isUnder 5 = .ok (.iload_n 1, 1) := by decide +kernel
theorem d_Model_isUnder_6 : decode b_Model_isUnder 6 = .ok (.if_icmp .eq 23, 3) := by decide +kernel
theorem d_Model_isUnder_9 : decode b_Model_isUnder 9 = .ok (.iload_n 1, 1) := by decide +kernel
theorem d_Model_isUnder_10 : decode b_Model_isUnder 10 = .ok (.iconst 1, 1) := by decide +kernel
theorem d_Model_isUnder_11 : decode b_Model_isUnder 11 = .ok (.if_icmp .ne 8, 3) := by decide +kernel
theorem d_Model_isUnder_14 : decode b_Model_isUnder 14 = .ok (.iload_n 0, 1) := by decide +kernel
theorem d_Model_isUnder_15 : decode b_Model_isUnder 15 = .ok (.iconst 3, 1) := by decide +kernel
theorem d_Model_isUnder_16 : decode b_Model_isUnder 16 = .ok (.if_icmp .eq 13, 3) := by decide +kernel
theorem d_Model_isUnder_19 : decode b_Model_isUnder 19 = .ok (.iload_n 1, 1) := by decide +kernel
theorem d_Model_isUnder_20 : decode b_Model_isUnder 20 = .ok (.iconst 2, 1) := by decide +kernel
theorem d_Model_isUnder_21 : decode b_Model_isUnder 21 = .ok (.if_icmp .ne 12, 3) := by decide +kernel
theorem d_Model_isUnder_24 : decode b_Model_isUnder 24 = .ok (.iload_n 0, 1) := by decide +kernel
theorem d_Model_isUnder_25 : decode b_Model_isUnder 25 = .ok (.iconst 4, 1) := by decide +kernel
theorem d_Model_isUnder_26 : decode b_Model_isUnder 26 = .ok (.if_icmp .ne 7, 3) := by decide +kernel
theorem d_Model_isUnder_29 : decode b_Model_isUnder 29 = .ok (.iconst 1, 1) := by decide +kernel
theorem d_Model_isUnder_30 : decode b_Model_isUnder 30 = .ok (.goto 4, 3) := by decide +kernel
theorem d_Model_isUnder_33 : decode b_Model_isUnder 33 = .ok (.iconst 0, 1) := by decide +kernel
theorem d_Model_isUnder_34 : decode b_Model_isUnder 34 = .ok (.ireturn, 1) := by decide +kernel
abbrev b_Model_taken : ByteArray := prog_8_method_79_code
def y_Model_taken : MethodName := ⟨"RoundAndRoundModel", "taken", "(II)I"⟩
theorem d_Model_taken_0 : decode b_Model_taken 0 = .ok (.iload_n 2, 1) := by decide +kernel
theorem d_Model_taken_1 : decode b_Model_taken 1 = .ok (.iconst 0, 1) := by decide +kernel
theorem d_Model_taken_2 : decode b_Model_taken 2 = .ok (.bipush (6), 2) := by decide +kernel
theorem d_Model_taken_4 : decode b_Model_taken 4 = .ok (.invokestatic 66, 3) := by decide +kernel
theorem d_Model_taken_7 : decode b_Model_taken 7 = .ok (.ifCond .ne 6, 3) := by decide +kernel
theorem d_Model_taken_10 : decode b_Model_taken 10 = .ok (.bipush (-2), 2) := by decide +kernel
theorem d_Model_taken_12 : decode b_Model_taken 12 = .ok (.ireturn, 1) := by decide +kernel
theorem d_Model_taken_13 : decode b_Model_taken 13 = .ok (.iload_n 1, 1) := by decide +kernel
theorem d_Model_taken_14 : decode b_Model_taken 14 = .ok (.iconst 0, 1) := by decide +kernel
theorem d_Model_taken_15 : decode b_Model_taken 15 = .ok (.bipush (9), 2) := by decide +kernel
theorem d_Model_taken_17 : decode b_Model_taken 17 = .ok (.invokestatic 66, 3) := by decide +kernel
theorem d_Model_taken_20 : decode b_Model_taken 20 = .ok (.ifCond .ne 6, 3) := by decide +kernel
theorem d_Model_taken_23 : decode b_Model_taken 23 = .ok (.bipush (-12), 2) := by decide +kernel
theorem d_Model_taken_25 : decode b_Model_taken 25 = .ok (.ireturn, 1) := by decide +kernel
theorem d_Model_taken_26 : decode b_Model_taken 26 = .ok (.iload_n 1, 1) := by decide +kernel
theorem d_Model_taken_27 : decode b_Model_taken 27 = .ok (.iconst 5, 1) := by decide +kernel
theorem d_Model_taken_28 : decode b_Model_taken 28 = .ok (.irem, 1) := by decide +kernel
theorem d_Model_taken_29 : decode b_Model_taken 29 = .ok (.aload_n 0, 1) := by decide +kernel
theorem d_Model_taken_30 : decode b_Model_taken 30 = .ok (.getfield 63, 3) := by decide +kernel
theorem d_Model_taken_33 : decode b_Model_taken 33 = .ok (.if_icmp .lt 6, 3) := by decide +kernel
theorem d_Model_taken_36 : decode b_Model_taken 36 = .ok (.bipush (-11), 2) := by decide +kernel
theorem d_Model_taken_38 : decode b_Model_taken 38 = .ok (.ireturn, 1) := by decide +kernel
theorem d_Model_taken_39 : decode b_Model_taken 39 = .ok (.iload_n 1, 1) := by decide +kernel
theorem d_Model_taken_40 : decode b_Model_taken 40 = .ok (.iconst 5, 1) := by decide +kernel
theorem d_Model_taken_41 : decode b_Model_taken 41 = .ok (.if_icmp .lt 30, 3) := by decide +kernel
theorem d_Model_taken_44 : decode b_Model_taken 44 = .ok (.iload_n 2, 1) := by decide +kernel
theorem d_Model_taken_45 : decode b_Model_taken 45 = .ok (.bipush (6), 2) := by decide +kernel
theorem d_Model_taken_47 : decode b_Model_taken 47 = .ok (.if_icmp .ne 19, 3) := by decide +kernel
theorem d_Model_taken_50 : decode b_Model_taken 50 = .ok (.aload_n 0, 1) := by decide +kernel
theorem d_Model_taken_51 : decode b_Model_taken 51 = .ok (.getfield 16, 3) := by decide +kernel
theorem d_Model_taken_54 : decode b_Model_taken 54 = .ok (.bipush (6), 2) := by decide +kernel
theorem d_Model_taken_56 : decode b_Model_taken 56 = .ok (.iload_n 1, 1) := by decide +kernel
theorem d_Model_taken_57 : decode b_Model_taken 57 = .ok (.iconst 5, 1) := by decide +kernel
theorem d_Model_taken_58 : decode b_Model_taken 58 = .ok (.isub, 1) := by decide +kernel
theorem d_Model_taken_59 : decode b_Model_taken 59 = .ok (.imul, 1) := by decide +kernel
theorem d_Model_taken_60 : decode b_Model_taken 60 = .ok (.iconst 5, 1) := by decide +kernel
theorem d_Model_taken_61 : decode b_Model_taken 61 = .ok (.iadd, 1) := by decide +kernel
theorem d_Model_taken_62 : decode b_Model_taken 62 = .ok (.iaload, 1) := by decide +kernel
theorem d_Model_taken_63 : decode b_Model_taken 63 = .ok (.goto 33, 3) := by decide +kernel
theorem d_Model_taken_66 : decode b_Model_taken 66 = .ok (.bipush (-13), 2) := by decide +kernel
theorem d_Model_taken_68 : decode b_Model_taken 68 = .ok (.goto 28, 3) := by decide +kernel
theorem d_Model_taken_71 : decode b_Model_taken 71 = .ok (.iload_n 2, 1) := by decide +kernel
theorem d_Model_taken_72 : decode b_Model_taken 72 = .ok (.bipush (6), 2) := by decide +kernel
theorem d_Model_taken_74 : decode b_Model_taken 74 = .ok (.if_icmp .ge 20, 3) := by decide +kernel
theorem d_Model_taken_77 : decode b_Model_taken 77 = .ok (.aload_n 0, 1) := by decide +kernel
theorem d_Model_taken_78 : decode b_Model_taken 78 = .ok (.getfield 7, 3) := by decide +kernel
theorem d_Model_taken_81 : decode b_Model_taken 81 = .ok (.iload_n 1, 1) := by decide +kernel
theorem d_Model_taken_82 : decode b_Model_taken 82 = .ok (.iaload, 1) := by decide +kernel
theorem d_Model_taken_83 : decode b_Model_taken 83 = .ok (.iload_n 2, 1) := by decide +kernel
theorem d_Model_taken_84 : decode b_Model_taken 84 = .ok (.invokestatic 273, 3) := by decide +kernel
theorem d_Model_taken_87 : decode b_Model_taken 87 = .ok (.ifCond .eq 7, 3) := by decide +kernel
theorem d_Model_taken_90 : decode b_Model_taken 90 = .ok (.iload_n 1, 1) := by decide +kernel
theorem d_Model_taken_91 : decode b_Model_taken 91 = .ok (.goto 5, 3) := by decide +kernel
theorem d_Model_taken_94 : decode b_Model_taken 94 = .ok (.bipush (-13), 2) := by decide +kernel
theorem d_Model_taken_96 : decode b_Model_taken 96 = .ok (.ireturn, 1) := by decide +kernel
