theorem dX11_isIn_0 : decode cX11_isIn 0 = .ok (.lload_n 0, 1) := by decide +kernel
theorem dX11_isIn_1 : decode cX11_isIn 1 = .ok (.lload_n 2, 1) := by decide +kernel
theorem dX11_isIn_2 : decode cX11_isIn 2 = .ok (.lcmp, 1) := by decide +kernel
theorem dX11_isIn_3 : decode cX11_isIn 3 = .ok (.ifCond .lt 14, 3) := by decide +kernel
theorem dX11_isIn_6 : decode cX11_isIn 6 = .ok (.lload_n 0, 1) := by decide +kernel
theorem dX11_isIn_7 : decode cX11_isIn 7 = .ok (.lload 4, 2) := by decide +kernel
theorem dX11_isIn_9 : decode cX11_isIn 9 = .ok (.lcmp, 1) := by decide +kernel
theorem dX11_isIn_10 : decode cX11_isIn 10 = .ok (.ifCond .gt 7, 3) := by decide +kernel
theorem dX11_isIn_13 : decode cX11_isIn 13 = .ok (.iconst 1, 1) := by decide +kernel
theorem dX11_isIn_14 : decode cX11_isIn 14 = .ok (.goto 4, 3) := by decide +kernel
theorem dX11_isIn_17 : decode cX11_isIn 17 = .ok (.iconst 0, 1) := by decide +kernel
theorem dX11_isIn_18 : decode cX11_isIn 18 = .ok (.ireturn, 1) := by decide +kernel
theorem dX11_has_0 : decode cX11_has 0 = .ok (.iload_n 0, 1) := by decide +kernel
theorem dX11_has_1 : decode cX11_has 1 = .ok (.iload_n 1, 1) := by decide +kernel
theorem dX11_has_2 : decode cX11_has 2 = .ok (.ishr, 1) := by decide +kernel
theorem dX11_has_3 : decode cX11_has 3 = .ok (.iconst 1, 1) := by decide +kernel
theorem dX11_has_4 : decode cX11_has 4 = .ok (.iand, 1) := by decide +kernel
theorem dX11_has_5 : decode cX11_has 5 = .ok (.iconst 1, 1) := by decide +kernel
theorem dX11_has_6 : decode cX11_has 6 = .ok (.if_icmp .ne 7, 3) := by decide +kernel
theorem dX11_has_9 : decode cX11_has 9 = .ok (.iconst 1, 1) := by decide +kernel
theorem dX11_has_10 : decode cX11_has 10 = .ok (.goto 4, 3) := by decide +kernel
theorem dX11_has_13 : decode cX11_has 13 = .ok (.iconst 0, 1) := by decide +kernel
theorem dX11_has_14 : decode cX11_has 14 = .ok (.ireturn, 1) := by decide +kernel
theorem dX11_greater_0 : decode cX11_greater 0 = .ok (.iload_n 0, 1) := by decide +kernel
theorem dX11_greater_1 : decode cX11_greater 1 = .ok (.iload_n 1, 1) := by decide +kernel
theorem dX11_greater_2 : decode cX11_greater 2 = .ok (.if_icmp .le 7, 3) := by decide +kernel
theorem dX11_greater_5 : decode cX11_greater 5 = .ok (.iload_n 0, 1) := by decide +kernel
theorem dX11_greater_6 : decode cX11_greater 6 = .ok (.goto 4, 3) := by decide +kernel
theorem dX11_greater_9 : decode cX11_greater 9 = .ok (.iload_n 1, 1) := by decide +kernel
theorem dX11_greater_10 : decode cX11_greater 10 = .ok (.ireturn, 1) := by decide +kernel
theorem dX11_init_0 : decode cX11_init 0 = .ok (.aload_n 0, 1) := by decide +kernel
theorem dX11_init_1 : decode cX11_init 1 = .ok (.invokespecial 7, 3) := by decide +kernel
theorem dX11_init_4 : decode cX11_init 4 = .ok (.aload_n 0, 1) := by decide +kernel
theorem dX11_init_5 : decode cX11_init 5 = .ok (.sipush 520, 3) := by decide +kernel
theorem dX11_init_8 : decode cX11_init 8 = .ok (.newarray .int, 2) := by decide +kernel
theorem dX11_init_10 : decode cX11_init 10 = .ok (.putfield 13, 3) := by decide +kernel
theorem dX11_init_13 : decode cX11_init 13 = .ok (.aload_n 0, 1) := by decide +kernel
theorem dX11_init_14 : decode cX11_init 14 = .ok (.sipush 520, 3) := by decide +kernel
theorem dX11_init_17 : decode cX11_init 17 = .ok (.newarray .int, 2) := by decide +kernel
theorem dX11_init_19 : decode cX11_init 19 = .ok (.putfield 17, 3) := by decide +kernel
theorem dX11_init_22 : decode cX11_init 22 = .ok (.aload_n 0, 1) := by decide +kernel
theorem dX11_init_23 : decode cX11_init 23 = .ok (.sipush 512, 3) := by decide +kernel
theorem dX11_init_26 : decode cX11_init 26 = .ok (.newarray .int, 2) := by decide +kernel
theorem dX11_init_28 : decode cX11_init 28 = .ok (.putfield 20, 3) := by decide +kernel
theorem dX11_init_31 : decode cX11_init 31 = .ok (.aload_n 0, 1) := by decide +kernel
theorem dX11_init_32 : decode cX11_init 32 = .ok (.iconst (-1), 1) := by decide +kernel
theorem dX11_init_33 : decode cX11_init 33 = .ok (.putfield 23, 3) := by decide +kernel
theorem dX11_init_36 : decode cX11_init 36 = .ok (.aload_n 0, 1) := by decide +kernel
theorem dX11_init_37 : decode cX11_init 37 = .ok (.sipush 286, 3) := by decide +kernel
theorem dX11_init_40 : decode cX11_init 40 = .ok (.newarray .int, 2) := by decide +kernel
theorem dX11_init_42 : decode cX11_init 42 = .ok (.putfield 26, 3) := by decide +kernel
theorem dX11_init_45 : decode cX11_init 45 = .ok (.aload_n 0, 1) := by decide +kernel
theorem dX11_init_46 : decode cX11_init 46 = .ok (.bipush 13, 2) := by decide +kernel
theorem dX11_init_48 : decode cX11_init 48 = .ok (.newarray .int, 2) := by decide +kernel
theorem dX11_init_50 : decode cX11_init 50 = .ok (.putfield 29, 3) := by decide +kernel
theorem dX11_init_53 : decode cX11_init 53 = .ok (.aload_n 0, 1) := by decide +kernel
theorem dX11_init_54 : decode cX11_init 54 = .ok (.iconst 5, 1) := by decide +kernel
theorem dX11_init_55 : decode cX11_init 55 = .ok (.newarray .int, 2) := by decide +kernel
theorem dX11_init_57 : decode cX11_init 57 = .ok (.putfield 32, 3) := by decide +kernel
theorem dX11_init_60 : decode cX11_init 60 = .ok (.aload_n 0, 1) := by decide +kernel
theorem dX11_init_61 : decode cX11_init 61 = .ok (.sipush 512, 3) := by decide +kernel
theorem dX11_init_64 : decode cX11_init 64 = .ok (.newarray .int, 2) := by decide +kernel
theorem dX11_init_66 : decode cX11_init 66 = .ok (.putfield 35, 3) := by decide +kernel
theorem dX11_init_69 : decode cX11_init 69 = .ok (.aload_n 0, 1) := by decide +kernel
theorem dX11_init_70 : decode cX11_init 70 = .ok (.sipush 480, 3) := by decide +kernel
theorem dX11_init_73 : decode cX11_init 73 = .ok (.newarray .int, 2) := by decide +kernel
theorem dX11_init_75 : decode cX11_init 75 = .ok (.putfield 38, 3) := by decide +kernel
theorem dX11_init_78 : decode cX11_init 78 = .ok (.aload_n 0, 1) := by decide +kernel
theorem dX11_init_79 : decode cX11_init 79 = .ok (.bipush 40, 2) := by decide +kernel
theorem dX11_init_81 : decode cX11_init 81 = .ok (.newarray .int, 2) := by decide +kernel
theorem dX11_init_83 : decode cX11_init 83 = .ok (.putfield 41, 3) := by decide +kernel
theorem dX11_init_86 : decode cX11_init 86 = .ok (.aload_n 0, 1) := by decide +kernel
theorem dX11_init_87 : decode cX11_init 87 = .ok (.bipush 7, 2) := by decide +kernel
theorem dX11_init_89 : decode cX11_init 89 = .ok (.newarray .int, 2) := by decide +kernel
theorem dX11_init_91 : decode cX11_init 91 = .ok (.putfield 44, 3) := by decide +kernel
theorem dX11_init_94 : decode cX11_init 94 = .ok (.aload_n 0, 1) := by decide +kernel
theorem dX11_init_95 : decode cX11_init 95 = .ok (.bipush 77, 2) := by decide +kernel
theorem dX11_init_97 : decode cX11_init 97 = .ok (.newarray .int, 2) := by decide +kernel
theorem dX11_init_99 : decode cX11_init 99 = .ok (.dup, 1) := by decide +kernel
theorem dX11_init_100 : decode cX11_init 100 = .ok (.iconst 0, 1) := by decide +kernel
theorem dX11_init_101 : decode cX11_init 101 = .ok (.iconst 1, 1) := by decide +kernel
theorem dX11_init_102 : decode cX11_init 102 = .ok (.iastore, 1) := by decide +kernel
theorem dX11_init_103 : decode cX11_init 103 = .ok (.dup, 1) := by decide +kernel
theorem dX11_init_104 : decode cX11_init 104 = .ok (.iconst 1, 1) := by decide +kernel
theorem dX11_init_105 : decode cX11_init 105 = .ok (.iconst 1, 1) := by decide +kernel
theorem dX11_init_106 : decode cX11_init 106 = .ok (.iastore, 1) := by decide +kernel
theorem dX11_init_107 : decode cX11_init 107 = .ok (.dup, 1) := by decide +kernel
theorem dX11_init_108 : decode cX11_init 108 = .ok (.iconst 2, 1) := by decide +kernel
theorem dX11_init_109 : decode cX11_init 109 = .ok (.sipush 640, 3) := by decide +kernel
theorem dX11_init_112 : decode cX11_init 112 = .ok (.iastore, 1) := by decide +kernel
theorem dX11_init_113 : decode cX11_init 113 = .ok (.dup, 1) := by decide +kernel
theorem dX11_init_114 : decode cX11_init 114 = .ok (.iconst 3, 1) := by decide +kernel
theorem dX11_init_115 : decode cX11_init 115 = .ok (.sipush 480, 3) := by decide +kernel
theorem dX11_init_118 : decode cX11_init 118 = .ok (.iastore, 1) := by decide +kernel
theorem dX11_init_119 : decode cX11_init 119 = .ok (.dup, 1) := by decide +kernel
theorem dX11_init_120 : decode cX11_init 120 = .ok (.iconst 4, 1) := by decide +kernel
theorem dX11_init_121 : decode cX11_init 121 = .ok (.sipush 800, 3) := by decide +kernel
theorem dX11_init_124 : decode cX11_init 124 = .ok (.iastore, 1) := by decide +kernel
theorem dX11_init_125 : decode cX11_init 125 = .ok (.dup, 1) := by decide +kernel
theorem dX11_init_126 : decode cX11_init 126 = .ok (.iconst 5, 1) := by decide +kernel
theorem dX11_init_127 : decode cX11_init 127 = .ok (.sipush 525, 3) := by decide +kernel
theorem dX11_init_130 : decode cX11_init 130 = .ok (.iastore, 1) := by decide +kernel
theorem dX11_init_131 : decode cX11_init 131 = .ok (.dup, 1) := by decide +kernel
theorem dX11_init_132 : decode cX11_init 132 = .ok (.bipush 6, 2) := by decide +kernel
theorem dX11_init_134 : decode cX11_init 134 = .ok (.sipush 25175, 3) := by decide +kernel
theorem dX11_init_137 : decode cX11_init 137 = .ok (.iastore, 1) := by decide +kernel
theorem dX11_init_138 : decode cX11_init 138 = .ok (.dup, 1) := by decide +kernel
theorem dX11_init_139 : decode cX11_init 139 = .ok (.bipush 7, 2) := by decide +kernel
theorem dX11_init_141 : decode cX11_init 141 = .ok (.iconst 2, 1) := by decide +kernel
theorem dX11_init_142 : decode cX11_init 142 = .ok (.iastore, 1) := by decide +kernel
theorem dX11_init_143 : decode cX11_init 143 = .ok (.dup, 1) := by decide +kernel
theorem dX11_init_144 : decode cX11_init 144 = .ok (.bipush 8, 2) := by decide +kernel
theorem dX11_init_146 : decode cX11_init 146 = .ok (.iconst 3, 1) := by decide +kernel
theorem dX11_init_147 : decode cX11_init 147 = .ok (.iastore, 1) := by decide +kernel
theorem dX11_init_148 : decode cX11_init 148 = .ok (.dup, 1) := by decide +kernel
theorem dX11_init_149 : decode cX11_init 149 = .ok (.bipush 9, 2) := by decide +kernel
theorem dX11_init_151 : decode cX11_init 151 = .ok (.sipush 720, 3) := by decide +kernel
theorem dX11_init_154 : decode cX11_init 154 = .ok (.iastore, 1) := by decide +kernel
theorem dX11_init_155 : decode cX11_init 155 = .ok (.dup, 1) := by decide +kernel
theorem dX11_init_156 : decode cX11_init 156 = .ok (.bipush 10, 2) := by decide +kernel
theorem dX11_init_158 : decode cX11_init 158 = .ok (.sipush 480, 3) := by decide +kernel
theorem dX11_init_161 : decode cX11_init 161 = .ok (.iastore, 1) := by decide +kernel
theorem dX11_init_162 : decode cX11_init 162 = .ok (.dup, 1) := by decide +kernel
theorem dX11_init_163 : decode cX11_init 163 = .ok (.bipush 11, 2) := by decide +kernel
theorem dX11_init_165 : decode cX11_init 165 = .ok (.sipush 858, 3) := by decide +kernel
theorem dX11_init_168 : decode cX11_init 168 = .ok (.iastore, 1) := by decide +kernel
theorem dX11_init_169 : decode cX11_init 169 = .ok (.dup, 1) := by decide +kernel
theorem dX11_init_170 : decode cX11_init 170 = .ok (.bipush 12, 2) := by decide +kernel
theorem dX11_init_172 : decode cX11_init 172 = .ok (.sipush 525, 3) := by decide +kernel
theorem dX11_init_175 : decode cX11_init 175 = .ok (.iastore, 1) := by decide +kernel
theorem dX11_init_176 : decode cX11_init 176 = .ok (.dup, 1) := by decide +kernel
theorem dX11_init_177 : decode cX11_init 177 = .ok (.bipush 13, 2) := by decide +kernel
theorem dX11_init_179 : decode cX11_init 179 = .ok (.sipush 27000, 3) := by decide +kernel
theorem dX11_init_182 : decode cX11_init 182 = .ok (.iastore, 1) := by decide +kernel
theorem dX11_init_183 : decode cX11_init 183 = .ok (.dup, 1) := by decide +kernel
theorem dX11_init_184 : decode cX11_init 184 = .ok (.bipush 14, 2) := by decide +kernel
theorem dX11_init_186 : decode cX11_init 186 = .ok (.iconst 4, 1) := by decide +kernel
theorem dX11_init_187 : decode cX11_init 187 = .ok (.iastore, 1) := by decide +kernel
theorem dX11_init_188 : decode cX11_init 188 = .ok (.dup, 1) := by decide +kernel
theorem dX11_init_189 : decode cX11_init 189 = .ok (.bipush 15, 2) := by decide +kernel
theorem dX11_init_191 : decode cX11_init 191 = .ok (.iconst 4, 1) := by decide +kernel
theorem dX11_init_192 : decode cX11_init 192 = .ok (.iastore, 1) := by decide +kernel
theorem dX11_init_193 : decode cX11_init 193 = .ok (.dup, 1) := by decide +kernel
theorem dX11_init_194 : decode cX11_init 194 = .ok (.bipush 16, 2) := by decide +kernel
theorem dX11_init_196 : decode cX11_init 196 = .ok (.sipush 1280, 3) := by decide +kernel
theorem dX11_init_199 : decode cX11_init 199 = .ok (.iastore, 1) := by decide +kernel
theorem dX11_init_200 : decode cX11_init 200 = .ok (.dup, 1) := by decide +kernel
theorem dX11_init_201 : decode cX11_init 201 = .ok (.bipush 17, 2) := by decide +kernel
theorem dX11_init_203 : decode cX11_init 203 = .ok (.sipush 720, 3) := by decide +kernel
theorem dX11_init_206 : decode cX11_init 206 = .ok (.iastore, 1) := by decide +kernel
theorem dX11_init_207 : decode cX11_init 207 = .ok (.dup, 1) := by decide +kernel
theorem dX11_init_208 : decode cX11_init 208 = .ok (.bipush 18, 2) := by decide +kernel
theorem dX11_init_210 : decode cX11_init 210 = .ok (.sipush 1650, 3) := by decide +kernel
theorem dX11_init_213 : decode cX11_init 213 = .ok (.iastore, 1) := by decide +kernel
theorem dX11_init_214 : decode cX11_init 214 = .ok (.dup, 1) := by decide +kernel
theorem dX11_init_215 : decode cX11_init 215 = .ok (.bipush 19, 2) := by decide +kernel
theorem dX11_init_217 : decode cX11_init 217 = .ok (.sipush 750, 3) := by decide +kernel
theorem dX11_init_220 : decode cX11_init 220 = .ok (.iastore, 1) := by decide +kernel
theorem dX11_init_221 : decode cX11_init 221 = .ok (.dup, 1) := by decide +kernel
theorem dX11_init_222 : decode cX11_init 222 = .ok (.bipush 20, 2) := by decide +kernel
theorem dX11_init_224 : decode cX11_init 224 = .ok (.ldc 47, 2) := by decide +kernel
theorem dX11_init_226 : decode cX11_init 226 = .ok (.iastore, 1) := by decide +kernel
theorem dX11_init_227 : decode cX11_init 227 = .ok (.dup, 1) := by decide +kernel
theorem dX11_init_228 : decode cX11_init 228 = .ok (.bipush 21, 2) := by decide +kernel
theorem dX11_init_230 : decode cX11_init 230 = .ok (.bipush 16, 2) := by decide +kernel
theorem dX11_init_232 : decode cX11_init 232 = .ok (.iastore, 1) := by decide +kernel
theorem dX11_init_233 : decode cX11_init 233 = .ok (.dup, 1) := by decide +kernel
theorem dX11_init_234 : decode cX11_init 234 = .ok (.bipush 22, 2) := by decide +kernel
theorem dX11_init_236 : decode cX11_init 236 = .ok (.bipush 16, 2) := by decide +kernel
theorem dX11_init_238 : decode cX11_init 238 = .ok (.iastore, 1) := by decide +kernel
theorem dX11_init_239 : decode cX11_init 239 = .ok (.dup, 1) := by decide +kernel
theorem dX11_init_240 : decode cX11_init 240 = .ok (.bipush 23, 2) := by decide +kernel
theorem dX11_init_242 : decode cX11_init 242 = .ok (.sipush 1920, 3) := by decide +kernel
theorem dX11_init_245 : decode cX11_init 245 = .ok (.iastore, 1) := by decide +kernel
theorem dX11_init_246 : decode cX11_init 246 = .ok (.dup, 1) := by decide +kernel
theorem dX11_init_247 : decode cX11_init 247 = .ok (.bipush 24, 2) := by decide +kernel
theorem dX11_init_249 : decode cX11_init 249 = .ok (.sipush 1080, 3) := by decide +kernel
theorem dX11_init_252 : decode cX11_init 252 = .ok (.iastore, 1) := by decide +kernel
theorem dX11_init_253 : decode cX11_init 253 = .ok (.dup, 1) := by decide +kernel
theorem dX11_init_254 : decode cX11_init 254 = .ok (.bipush 25, 2) := by decide +kernel
theorem dX11_init_256 : decode cX11_init 256 = .ok (.sipush 2200, 3) := by decide +kernel
theorem dX11_init_259 : decode cX11_init 259 = .ok (.iastore, 1) := by decide +kernel
theorem dX11_init_260 : decode cX11_init 260 = .ok (.dup, 1) := by decide +kernel
theorem dX11_init_261 : decode cX11_init 261 = .ok (.bipush 26, 2) := by decide +kernel
theorem dX11_init_263 : decode cX11_init 263 = .ok (.sipush 1125, 3) := by decide +kernel
theorem dX11_init_266 : decode cX11_init 266 = .ok (.iastore, 1) := by decide +kernel
theorem dX11_init_267 : decode cX11_init 267 = .ok (.dup, 1) := by decide +kernel
theorem dX11_init_268 : decode cX11_init 268 = .ok (.bipush 27, 2) := by decide +kernel
theorem dX11_init_270 : decode cX11_init 270 = .ok (.ldc 48, 2) := by decide +kernel
theorem dX11_init_272 : decode cX11_init 272 = .ok (.iastore, 1) := by decide +kernel
theorem dX11_init_273 : decode cX11_init 273 = .ok (.dup, 1) := by decide +kernel
theorem dX11_init_274 : decode cX11_init 274 = .ok (.bipush 28, 2) := by decide +kernel
theorem dX11_init_276 : decode cX11_init 276 = .ok (.bipush 17, 2) := by decide +kernel
theorem dX11_init_278 : decode cX11_init 278 = .ok (.iastore, 1) := by decide +kernel
theorem dX11_init_279 : decode cX11_init 279 = .ok (.dup, 1) := by decide +kernel
theorem dX11_init_280 : decode cX11_init 280 = .ok (.bipush 29, 2) := by decide +kernel
theorem dX11_init_282 : decode cX11_init 282 = .ok (.bipush 18, 2) := by decide +kernel
theorem dX11_init_284 : decode cX11_init 284 = .ok (.iastore, 1) := by decide +kernel
theorem dX11_init_285 : decode cX11_init 285 = .ok (.dup, 1) := by decide +kernel
theorem dX11_init_286 : decode cX11_init 286 = .ok (.bipush 30, 2) := by decide +kernel
theorem dX11_init_288 : decode cX11_init 288 = .ok (.sipush 720, 3) := by decide +kernel
theorem dX11_init_291 : decode cX11_init 291 = .ok (.iastore, 1) := by decide +kernel
theorem dX11_init_292 : decode cX11_init 292 = .ok (.dup, 1) := by decide +kernel
theorem dX11_init_293 : decode cX11_init 293 = .ok (.bipush 31, 2) := by decide +kernel
theorem dX11_init_295 : decode cX11_init 295 = .ok (.sipush 576, 3) := by decide +kernel
theorem dX11_init_298 : decode cX11_init 298 = .ok (.iastore, 1) := by decide +kernel
theorem dX11_init_299 : decode cX11_init 299 = .ok (.dup, 1) := by decide +kernel
theorem dX11_init_300 : decode cX11_init 300 = .ok (.bipush 32, 2) := by decide +kernel
theorem dX11_init_302 : decode cX11_init 302 = .ok (.sipush 864, 3) := by decide +kernel
theorem dX11_init_305 : decode cX11_init 305 = .ok (.iastore, 1) := by decide +kernel
theorem dX11_init_306 : decode cX11_init 306 = .ok (.dup, 1) := by decide +kernel
theorem dX11_init_307 : decode cX11_init 307 = .ok (.bipush 33, 2) := by decide +kernel
theorem dX11_init_309 : decode cX11_init 309 = .ok (.sipush 625, 3) := by decide +kernel
theorem dX11_init_312 : decode cX11_init 312 = .ok (.iastore, 1) := by decide +kernel
theorem dX11_init_313 : decode cX11_init 313 = .ok (.dup, 1) := by decide +kernel
theorem dX11_init_314 : decode cX11_init 314 = .ok (.bipush 34, 2) := by decide +kernel
theorem dX11_init_316 : decode cX11_init 316 = .ok (.sipush 27000, 3) := by decide +kernel
theorem dX11_init_319 : decode cX11_init 319 = .ok (.iastore, 1) := by decide +kernel
theorem dX11_init_320 : decode cX11_init 320 = .ok (.dup, 1) := by decide +kernel
theorem dX11_init_321 : decode cX11_init 321 = .ok (.bipush 35, 2) := by decide +kernel
theorem dX11_init_323 : decode cX11_init 323 = .ok (.bipush 19, 2) := by decide +kernel
theorem dX11_init_325 : decode cX11_init 325 = .ok (.iastore, 1) := by decide +kernel
theorem dX11_init_326 : decode cX11_init 326 = .ok (.dup, 1) := by decide +kernel
theorem dX11_init_327 : decode cX11_init 327 = .ok (.bipush 36, 2) := by decide +kernel
theorem dX11_init_329 : decode cX11_init 329 = .ok (.bipush 19, 2) := by decide +kernel
theorem dX11_init_331 : decode cX11_init 331 = .ok (.iastore, 1) := by decide +kernel
theorem dX11_init_332 : decode cX11_init 332 = .ok (.dup, 1) := by decide +kernel
theorem dX11_init_333 : decode cX11_init 333 = .ok (.bipush 37, 2) := by decide +kernel
theorem dX11_init_335 : decode cX11_init 335 = .ok (.sipush 1280, 3) := by decide +kernel
theorem dX11_init_338 : decode cX11_init 338 = .ok (.iastore, 1) := by decide +kernel
theorem dX11_init_339 : decode cX11_init 339 = .ok (.dup, 1) := by decide +kernel
theorem dX11_init_340 : decode cX11_init 340 = .ok (.bipush 38, 2) := by decide +kernel
theorem dX11_init_342 : decode cX11_init 342 = .ok (.sipush 720, 3) := by decide +kernel
theorem dX11_init_345 : decode cX11_init 345 = .ok (.iastore, 1) := by decide +kernel
theorem dX11_init_346 : decode cX11_init 346 = .ok (.dup, 1) := by decide +kernel
theorem dX11_init_347 : decode cX11_init 347 = .ok (.bipush 39, 2) := by decide +kernel
theorem dX11_init_349 : decode cX11_init 349 = .ok (.sipush 1980, 3) := by decide +kernel
theorem dX11_init_352 : decode cX11_init 352 = .ok (.iastore, 1) := by decide +kernel
theorem dX11_init_353 : decode cX11_init 353 = .ok (.dup, 1) := by decide +kernel
theorem dX11_init_354 : decode cX11_init 354 = .ok (.bipush 40, 2) := by decide +kernel
theorem dX11_init_356 : decode cX11_init 356 = .ok (.sipush 750, 3) := by decide +kernel
theorem dX11_init_359 : decode cX11_init 359 = .ok (.iastore, 1) := by decide +kernel
theorem dX11_init_360 : decode cX11_init 360 = .ok (.dup, 1) := by decide +kernel
theorem dX11_init_361 : decode cX11_init 361 = .ok (.bipush 41, 2) := by decide +kernel
theorem dX11_init_363 : decode cX11_init 363 = .ok (.ldc 47, 2) := by decide +kernel
theorem dX11_init_365 : decode cX11_init 365 = .ok (.iastore, 1) := by decide +kernel
theorem dX11_init_366 : decode cX11_init 366 = .ok (.dup, 1) := by decide +kernel
theorem dX11_init_367 : decode cX11_init 367 = .ok (.bipush 42, 2) := by decide +kernel
theorem dX11_init_369 : decode cX11_init 369 = .ok (.bipush 31, 2) := by decide +kernel
theorem dX11_init_371 : decode cX11_init 371 = .ok (.iastore, 1) := by decide +kernel
theorem dX11_init_372 : decode cX11_init 372 = .ok (.dup, 1) := by decide +kernel
theorem dX11_init_373 : decode cX11_init 373 = .ok (.bipush 43, 2) := by decide +kernel
theorem dX11_init_375 : decode cX11_init 375 = .ok (.bipush 31, 2) := by decide +kernel
theorem dX11_init_377 : decode cX11_init 377 = .ok (.iastore, 1) := by decide +kernel
theorem dX11_init_378 : decode cX11_init 378 = .ok (.dup, 1) := by decide +kernel
theorem dX11_init_379 : decode cX11_init 379 = .ok (.bipush 44, 2) := by decide +kernel
theorem dX11_init_381 : decode cX11_init 381 = .ok (.sipush 1920, 3) := by decide +kernel
theorem dX11_init_384 : decode cX11_init 384 = .ok (.iastore, 1) := by decide +kernel
theorem dX11_init_385 : decode cX11_init 385 = .ok (.dup, 1) := by decide +kernel
theorem dX11_init_386 : decode cX11_init 386 = .ok (.bipush 45, 2) := by decide +kernel
theorem dX11_init_388 : decode cX11_init 388 = .ok (.sipush 1080, 3) := by decide +kernel
theorem dX11_init_391 : decode cX11_init 391 = .ok (.iastore, 1) := by decide +kernel
theorem dX11_init_392 : decode cX11_init 392 = .ok (.dup, 1) := by decide +kernel
theorem dX11_init_393 : decode cX11_init 393 = .ok (.bipush 46, 2) := by decide +kernel
theorem dX11_init_395 : decode cX11_init 395 = .ok (.sipush 2640, 3) := by decide +kernel
theorem dX11_init_398 : decode cX11_init 398 = .ok (.iastore, 1) := by decide +kernel
theorem dX11_init_399 : decode cX11_init 399 = .ok (.dup, 1) := by decide +kernel
theorem dX11_init_400 : decode cX11_init 400 = .ok (.bipush 47, 2) := by decide +kernel
theorem dX11_init_402 : decode cX11_init 402 = .ok (.sipush 1125, 3) := by decide +kernel
theorem dX11_init_405 : decode cX11_init 405 = .ok (.iastore, 1) := by decide +kernel
theorem dX11_init_406 : decode cX11_init 406 = .ok (.dup, 1) := by decide +kernel
theorem dX11_init_407 : decode cX11_init 407 = .ok (.bipush 48, 2) := by decide +kernel
theorem dX11_init_409 : decode cX11_init 409 = .ok (.ldc 48, 2) := by decide +kernel
theorem dX11_init_411 : decode cX11_init 411 = .ok (.iastore, 1) := by decide +kernel
theorem dX11_init_412 : decode cX11_init 412 = .ok (.dup, 1) := by decide +kernel
theorem dX11_init_413 : decode cX11_init 413 = .ok (.bipush 49, 2) := by decide +kernel
theorem dX11_init_415 : decode cX11_init 415 = .ok (.bipush 32, 2) := by decide +kernel
theorem dX11_init_417 : decode cX11_init 417 = .ok (.iastore, 1) := by decide +kernel
theorem dX11_init_418 : decode cX11_init 418 = .ok (.dup, 1) := by decide +kernel
theorem dX11_init_419 : decode cX11_init 419 = .ok (.bipush 50, 2) := by decide +kernel
theorem dX11_init_421 : decode cX11_init 421 = .ok (.bipush 32, 2) := by decide +kernel
theorem dX11_init_423 : decode cX11_init 423 = .ok (.iastore, 1) := by decide +kernel
theorem dX11_init_424 : decode cX11_init 424 = .ok (.dup, 1) := by decide +kernel
theorem dX11_init_425 : decode cX11_init 425 = .ok (.bipush 51, 2) := by decide +kernel
theorem dX11_init_427 : decode cX11_init 427 = .ok (.sipush 1920, 3) := by decide +kernel
theorem dX11_init_430 : decode cX11_init 430 = .ok (.iastore, 1) := by decide +kernel
theorem dX11_init_431 : decode cX11_init 431 = .ok (.dup, 1) := by decide +kernel
theorem dX11_init_432 : decode cX11_init 432 = .ok (.bipush 52, 2) := by decide +kernel
theorem dX11_init_434 : decode cX11_init 434 = .ok (.sipush 1080, 3) := by decide +kernel
theorem dX11_init_437 : decode cX11_init 437 = .ok (.iastore, 1) := by decide +kernel
theorem dX11_init_438 : decode cX11_init 438 = .ok (.dup, 1) := by decide +kernel
theorem dX11_init_439 : decode cX11_init 439 = .ok (.bipush 53, 2) := by decide +kernel
theorem dX11_init_441 : decode cX11_init 441 = .ok (.sipush 2750, 3) := by decide +kernel
theorem dX11_init_444 : decode cX11_init 444 = .ok (.iastore, 1) := by decide +kernel
theorem dX11_init_445 : decode cX11_init 445 = .ok (.dup, 1) := by decide +kernel
theorem dX11_init_446 : decode cX11_init 446 = .ok (.bipush 54, 2) := by decide +kernel
theorem dX11_init_448 : decode cX11_init 448 = .ok (.sipush 1125, 3) := by decide +kernel
theorem dX11_init_451 : decode cX11_init 451 = .ok (.iastore, 1) := by decide +kernel
theorem dX11_init_452 : decode cX11_init 452 = .ok (.dup, 1) := by decide +kernel
theorem dX11_init_453 : decode cX11_init 453 = .ok (.bipush 55, 2) := by decide +kernel
theorem dX11_init_455 : decode cX11_init 455 = .ok (.ldc 47, 2) := by decide +kernel
theorem dX11_init_457 : decode cX11_init 457 = .ok (.iastore, 1) := by decide +kernel
theorem dX11_init_458 : decode cX11_init 458 = .ok (.dup, 1) := by decide +kernel
theorem dX11_init_459 : decode cX11_init 459 = .ok (.bipush 56, 2) := by decide +kernel
theorem dX11_init_461 : decode cX11_init 461 = .ok (.bipush 63, 2) := by decide +kernel
theorem dX11_init_463 : decode cX11_init 463 = .ok (.iastore, 1) := by decide +kernel
theorem dX11_init_464 : decode cX11_init 464 = .ok (.dup, 1) := by decide +kernel
theorem dX11_init_465 : decode cX11_init 465 = .ok (.bipush 57, 2) := by decide +kernel
theorem dX11_init_467 : decode cX11_init 467 = .ok (.bipush 63, 2) := by decide +kernel
theorem dX11_init_469 : decode cX11_init 469 = .ok (.iastore, 1) := by decide +kernel
theorem dX11_init_470 : decode cX11_init 470 = .ok (.dup, 1) := by decide +kernel
theorem dX11_init_471 : decode cX11_init 471 = .ok (.bipush 58, 2) := by decide +kernel
theorem dX11_init_473 : decode cX11_init 473 = .ok (.sipush 1920, 3) := by decide +kernel
theorem dX11_init_476 : decode cX11_init 476 = .ok (.iastore, 1) := by decide +kernel
theorem dX11_init_477 : decode cX11_init 477 = .ok (.dup, 1) := by decide +kernel
theorem dX11_init_478 : decode cX11_init 478 = .ok (.bipush 59, 2) := by decide +kernel
theorem dX11_init_480 : decode cX11_init 480 = .ok (.sipush 1080, 3) := by decide +kernel
theorem dX11_init_483 : decode cX11_init 483 = .ok (.iastore, 1) := by decide +kernel
theorem dX11_init_484 : decode cX11_init 484 = .ok (.dup, 1) := by decide +kernel
theorem dX11_init_485 : decode cX11_init 485 = .ok (.bipush 60, 2) := by decide +kernel
theorem dX11_init_487 : decode cX11_init 487 = .ok (.sipush 2200, 3) := by decide +kernel
theorem dX11_init_490 : decode cX11_init 490 = .ok (.iastore, 1) := by decide +kernel
theorem dX11_init_491 : decode cX11_init 491 = .ok (.dup, 1) := by decide +kernel
theorem dX11_init_492 : decode cX11_init 492 = .ok (.bipush 61, 2) := by decide +kernel
theorem dX11_init_494 : decode cX11_init 494 = .ok (.sipush 1125, 3) := by decide +kernel
theorem dX11_init_497 : decode cX11_init 497 = .ok (.iastore, 1) := by decide +kernel
theorem dX11_init_498 : decode cX11_init 498 = .ok (.dup, 1) := by decide +kernel
theorem dX11_init_499 : decode cX11_init 499 = .ok (.bipush 62, 2) := by decide +kernel
theorem dX11_init_501 : decode cX11_init 501 = .ok (.ldc 49, 2) := by decide +kernel
theorem dX11_init_503 : decode cX11_init 503 = .ok (.iastore, 1) := by decide +kernel
theorem dX11_init_504 : decode cX11_init 504 = .ok (.dup, 1) := by decide +kernel
theorem dX11_init_505 : decode cX11_init 505 = .ok (.bipush 63, 2) := by decide +kernel
theorem dX11_init_507 : decode cX11_init 507 = .ok (.bipush 95, 2) := by decide +kernel
theorem dX11_init_509 : decode cX11_init 509 = .ok (.iastore, 1) := by decide +kernel
theorem dX11_init_510 : decode cX11_init 510 = .ok (.dup, 1) := by decide +kernel
theorem dX11_init_511 : decode cX11_init 511 = .ok (.bipush 64, 2) := by decide +kernel
theorem dX11_init_513 : decode cX11_init 513 = .ok (.bipush 95, 2) := by decide +kernel
theorem dX11_init_515 : decode cX11_init 515 = .ok (.iastore, 1) := by decide +kernel
theorem dX11_init_516 : decode cX11_init 516 = .ok (.dup, 1) := by decide +kernel
theorem dX11_init_517 : decode cX11_init 517 = .ok (.bipush 65, 2) := by decide +kernel
theorem dX11_init_519 : decode cX11_init 519 = .ok (.sipush 3840, 3) := by decide +kernel
theorem dX11_init_522 : decode cX11_init 522 = .ok (.iastore, 1) := by decide +kernel
theorem dX11_init_523 : decode cX11_init 523 = .ok (.dup, 1) := by decide +kernel
theorem dX11_init_524 : decode cX11_init 524 = .ok (.bipush 66, 2) := by decide +kernel
theorem dX11_init_526 : decode cX11_init 526 = .ok (.sipush 2160, 3) := by decide +kernel
theorem dX11_init_529 : decode cX11_init 529 = .ok (.iastore, 1) := by decide +kernel
theorem dX11_init_530 : decode cX11_init 530 = .ok (.dup, 1) := by decide +kernel
theorem dX11_init_531 : decode cX11_init 531 = .ok (.bipush 67, 2) := by decide +kernel
theorem dX11_init_533 : decode cX11_init 533 = .ok (.sipush 4400, 3) := by decide +kernel
theorem dX11_init_536 : decode cX11_init 536 = .ok (.iastore, 1) := by decide +kernel
theorem dX11_init_537 : decode cX11_init 537 = .ok (.dup, 1) := by decide +kernel
theorem dX11_init_538 : decode cX11_init 538 = .ok (.bipush 68, 2) := by decide +kernel
theorem dX11_init_540 : decode cX11_init 540 = .ok (.sipush 2250, 3) := by decide +kernel
theorem dX11_init_543 : decode cX11_init 543 = .ok (.iastore, 1) := by decide +kernel
theorem dX11_init_544 : decode cX11_init 544 = .ok (.dup, 1) := by decide +kernel
theorem dX11_init_545 : decode cX11_init 545 = .ok (.bipush 69, 2) := by decide +kernel
theorem dX11_init_547 : decode cX11_init 547 = .ok (.ldc 49, 2) := by decide +kernel
theorem dX11_init_549 : decode cX11_init 549 = .ok (.iastore, 1) := by decide +kernel
theorem dX11_init_550 : decode cX11_init 550 = .ok (.dup, 1) := by decide +kernel
theorem dX11_init_551 : decode cX11_init 551 = .ok (.bipush 70, 2) := by decide +kernel
theorem dX11_init_553 : decode cX11_init 553 = .ok (.bipush 97, 2) := by decide +kernel
theorem dX11_init_555 : decode cX11_init 555 = .ok (.iastore, 1) := by decide +kernel
theorem dX11_init_556 : decode cX11_init 556 = .ok (.dup, 1) := by decide +kernel
theorem dX11_init_557 : decode cX11_init 557 = .ok (.bipush 71, 2) := by decide +kernel
theorem dX11_init_559 : decode cX11_init 559 = .ok (.bipush 97, 2) := by decide +kernel
theorem dX11_init_561 : decode cX11_init 561 = .ok (.iastore, 1) := by decide +kernel
theorem dX11_init_562 : decode cX11_init 562 = .ok (.dup, 1) := by decide +kernel
theorem dX11_init_563 : decode cX11_init 563 = .ok (.bipush 72, 2) := by decide +kernel
theorem dX11_init_565 : decode cX11_init 565 = .ok (.sipush 3840, 3) := by decide +kernel
theorem dX11_init_568 : decode cX11_init 568 = .ok (.iastore, 1) := by decide +kernel
theorem dX11_init_569 : decode cX11_init 569 = .ok (.dup, 1) := by decide +kernel
theorem dX11_init_570 : decode cX11_init 570 = .ok (.bipush 73, 2) := by decide +kernel
theorem dX11_init_572 : decode cX11_init 572 = .ok (.sipush 2160, 3) := by decide +kernel
theorem dX11_init_575 : decode cX11_init 575 = .ok (.iastore, 1) := by decide +kernel
theorem dX11_init_576 : decode cX11_init 576 = .ok (.dup, 1) := by decide +kernel
theorem dX11_init_577 : decode cX11_init 577 = .ok (.bipush 74, 2) := by decide +kernel
theorem dX11_init_579 : decode cX11_init 579 = .ok (.sipush 4400, 3) := by decide +kernel
theorem dX11_init_582 : decode cX11_init 582 = .ok (.iastore, 1) := by decide +kernel
theorem dX11_init_583 : decode cX11_init 583 = .ok (.dup, 1) := by decide +kernel
theorem dX11_init_584 : decode cX11_init 584 = .ok (.bipush 75, 2) := by decide +kernel
theorem dX11_init_586 : decode cX11_init 586 = .ok (.sipush 2250, 3) := by decide +kernel
theorem dX11_init_589 : decode cX11_init 589 = .ok (.iastore, 1) := by decide +kernel
theorem dX11_init_590 : decode cX11_init 590 = .ok (.dup, 1) := by decide +kernel
theorem dX11_init_591 : decode cX11_init 591 = .ok (.bipush 76, 2) := by decide +kernel
theorem dX11_init_593 : decode cX11_init 593 = .ok (.ldc 50, 2) := by decide +kernel
theorem dX11_init_595 : decode cX11_init 595 = .ok (.iastore, 1) := by decide +kernel
theorem dX11_init_596 : decode cX11_init 596 = .ok (.putfield 51, 3) := by decide +kernel
theorem dX11_init_599 : decode cX11_init 599 = .ok (.aload_n 0, 1) := by decide +kernel
theorem dX11_init_600 : decode cX11_init 600 = .ok (.bipush 30, 2) := by decide +kernel
theorem dX11_init_602 : decode cX11_init 602 = .ok (.newarray .int, 2) := by decide +kernel
theorem dX11_init_604 : decode cX11_init 604 = .ok (.dup, 1) := by decide +kernel
theorem dX11_init_605 : decode cX11_init 605 = .ok (.iconst 0, 1) := by decide +kernel
theorem dX11_init_606 : decode cX11_init 606 = .ok (.bipush 35, 2) := by decide +kernel
theorem dX11_init_608 : decode cX11_init 608 = .ok (.iastore, 1) := by decide +kernel
theorem dX11_init_609 : decode cX11_init 609 = .ok (.dup, 1) := by decide +kernel
theorem dX11_init_610 : decode cX11_init 610 = .ok (.iconst 1, 1) := by decide +kernel
theorem dX11_init_611 : decode cX11_init 611 = .ok (.iconst 5, 1) := by decide +kernel
theorem dX11_init_612 : decode cX11_init 612 = .ok (.iastore, 1) := by decide +kernel
theorem dX11_init_613 : decode cX11_init 613 = .ok (.dup, 1) := by decide +kernel
theorem dX11_init_614 : decode cX11_init 614 = .ok (.iconst 2, 1) := by decide +kernel
theorem dX11_init_615 : decode cX11_init 615 = .ok (.sipush 640, 3) := by decide +kernel
theorem dX11_init_618 : decode cX11_init 618 = .ok (.iastore, 1) := by decide +kernel
theorem dX11_init_619 : decode cX11_init 619 = .ok (.dup, 1) := by decide +kernel
theorem dX11_init_620 : decode cX11_init 620 = .ok (.iconst 3, 1) := by decide +kernel
theorem dX11_init_621 : decode cX11_init 621 = .ok (.sipush 480, 3) := by decide +kernel
theorem dX11_init_624 : decode cX11_init 624 = .ok (.iastore, 1) := by decide +kernel
theorem dX11_init_625 : decode cX11_init 625 = .ok (.dup, 1) := by decide +kernel
theorem dX11_init_626 : decode cX11_init 626 = .ok (.iconst 4, 1) := by decide +kernel
theorem dX11_init_627 : decode cX11_init 627 = .ok (.bipush 60, 2) := by decide +kernel
theorem dX11_init_629 : decode cX11_init 629 = .ok (.iastore, 1) := by decide +kernel
theorem dX11_init_630 : decode cX11_init 630 = .ok (.dup, 1) := by decide +kernel
theorem dX11_init_631 : decode cX11_init 631 = .ok (.iconst 5, 1) := by decide +kernel
theorem dX11_init_632 : decode cX11_init 632 = .ok (.bipush 35, 2) := by decide +kernel
theorem dX11_init_634 : decode cX11_init 634 = .ok (.iastore, 1) := by decide +kernel
theorem dX11_init_635 : decode cX11_init 635 = .ok (.dup, 1) := by decide +kernel
theorem dX11_init_636 : decode cX11_init 636 = .ok (.bipush 6, 2) := by decide +kernel
theorem dX11_init_638 : decode cX11_init 638 = .ok (.iconst 2, 1) := by decide +kernel
theorem dX11_init_639 : decode cX11_init 639 = .ok (.iastore, 1) := by decide +kernel
theorem dX11_init_640 : decode cX11_init 640 = .ok (.dup, 1) := by decide +kernel
theorem dX11_init_641 : decode cX11_init 641 = .ok (.bipush 7, 2) := by decide +kernel
theorem dX11_init_643 : decode cX11_init 643 = .ok (.sipush 640, 3) := by decide +kernel
theorem dX11_init_646 : decode cX11_init 646 = .ok (.iastore, 1) := by decide +kernel
theorem dX11_init_647 : decode cX11_init 647 = .ok (.dup, 1) := by decide +kernel
theorem dX11_init_648 : decode cX11_init 648 = .ok (.bipush 8, 2) := by decide +kernel
theorem dX11_init_650 : decode cX11_init 650 = .ok (.sipush 480, 3) := by decide +kernel
theorem dX11_init_653 : decode cX11_init 653 = .ok (.iastore, 1) := by decide +kernel
theorem dX11_init_654 : decode cX11_init 654 = .ok (.dup, 1) := by decide +kernel
theorem dX11_init_655 : decode cX11_init 655 = .ok (.bipush 9, 2) := by decide +kernel
theorem dX11_init_657 : decode cX11_init 657 = .ok (.bipush 75, 2) := by decide +kernel
theorem dX11_init_659 : decode cX11_init 659 = .ok (.iastore, 1) := by decide +kernel
theorem dX11_init_660 : decode cX11_init 660 = .ok (.dup, 1) := by decide +kernel
theorem dX11_init_661 : decode cX11_init 661 = .ok (.bipush 10, 2) := by decide +kernel
theorem dX11_init_663 : decode cX11_init 663 = .ok (.bipush 35, 2) := by decide +kernel
theorem dX11_init_665 : decode cX11_init 665 = .ok (.iastore, 1) := by decide +kernel
theorem dX11_init_666 : decode cX11_init 666 = .ok (.dup, 1) := by decide +kernel
theorem dX11_init_667 : decode cX11_init 667 = .ok (.bipush 11, 2) := by decide +kernel
theorem dX11_init_669 : decode cX11_init 669 = .ok (.iconst 0, 1) := by decide +kernel
theorem dX11_init_670 : decode cX11_init 670 = .ok (.iastore, 1) := by decide +kernel
theorem dX11_init_671 : decode cX11_init 671 = .ok (.dup, 1) := by decide +kernel
theorem dX11_init_672 : decode cX11_init 672 = .ok (.bipush 12, 2) := by decide +kernel
theorem dX11_init_674 : decode cX11_init 674 = .ok (.sipush 800, 3) := by decide +kernel
theorem dX11_init_677 : decode cX11_init 677 = .ok (.iastore, 1) := by decide +kernel
theorem dX11_init_678 : decode cX11_init 678 = .ok (.dup, 1) := by decide +kernel
theorem dX11_init_679 : decode cX11_init 679 = .ok (.bipush 13, 2) := by decide +kernel
theorem dX11_init_681 : decode cX11_init 681 = .ok (.sipush 600, 3) := by decide +kernel
theorem dX11_init_684 : decode cX11_init 684 = .ok (.iastore, 1) := by decide +kernel
theorem dX11_init_685 : decode cX11_init 685 = .ok (.dup, 1) := by decide +kernel
theorem dX11_init_686 : decode cX11_init 686 = .ok (.bipush 14, 2) := by decide +kernel
theorem dX11_init_688 : decode cX11_init 688 = .ok (.bipush 60, 2) := by decide +kernel
theorem dX11_init_690 : decode cX11_init 690 = .ok (.iastore, 1) := by decide +kernel
theorem dX11_init_691 : decode cX11_init 691 = .ok (.dup, 1) := by decide +kernel
theorem dX11_init_692 : decode cX11_init 692 = .ok (.bipush 15, 2) := by decide +kernel
theorem dX11_init_694 : decode cX11_init 694 = .ok (.bipush 36, 2) := by decide +kernel
theorem dX11_init_696 : decode cX11_init 696 = .ok (.iastore, 1) := by decide +kernel
theorem dX11_init_697 : decode cX11_init 697 = .ok (.dup, 1) := by decide +kernel
theorem dX11_init_698 : decode cX11_init 698 = .ok (.bipush 16, 2) := by decide +kernel
theorem dX11_init_700 : decode cX11_init 700 = .ok (.iconst 3, 1) := by decide +kernel
theorem dX11_init_701 : decode cX11_init 701 = .ok (.iastore, 1) := by decide +kernel
theorem dX11_init_702 : decode cX11_init 702 = .ok (.dup, 1) := by decide +kernel
theorem dX11_init_703 : decode cX11_init 703 = .ok (.bipush 17, 2) := by decide +kernel
theorem dX11_init_705 : decode cX11_init 705 = .ok (.sipush 1024, 3) := by decide +kernel
theorem dX11_init_708 : decode cX11_init 708 = .ok (.iastore, 1) := by decide +kernel
theorem dX11_init_709 : decode cX11_init 709 = .ok (.dup, 1) := by decide +kernel
theorem dX11_init_710 : decode cX11_init 710 = .ok (.bipush 18, 2) := by decide +kernel
theorem dX11_init_712 : decode cX11_init 712 = .ok (.sipush 768, 3) := by decide +kernel
theorem dX11_init_715 : decode cX11_init 715 = .ok (.iastore, 1) := by decide +kernel
theorem dX11_init_716 : decode cX11_init 716 = .ok (.dup, 1) := by decide +kernel
theorem dX11_init_717 : decode cX11_init 717 = .ok (.bipush 19, 2) := by decide +kernel
theorem dX11_init_719 : decode cX11_init 719 = .ok (.bipush 60, 2) := by decide +kernel
theorem dX11_init_721 : decode cX11_init 721 = .ok (.iastore, 1) := by decide +kernel
theorem dX11_init_722 : decode cX11_init 722 = .ok (.dup, 1) := by decide +kernel
theorem dX11_init_723 : decode cX11_init 723 = .ok (.bipush 20, 2) := by decide +kernel
theorem dX11_init_725 : decode cX11_init 725 = .ok (.bipush 36, 2) := by decide +kernel
theorem dX11_init_727 : decode cX11_init 727 = .ok (.iastore, 1) := by decide +kernel
theorem dX11_init_728 : decode cX11_init 728 = .ok (.dup, 1) := by decide +kernel
theorem dX11_init_729 : decode cX11_init 729 = .ok (.bipush 21, 2) := by decide +kernel
theorem dX11_init_731 : decode cX11_init 731 = .ok (.iconst 1, 1) := by decide +kernel
theorem dX11_init_732 : decode cX11_init 732 = .ok (.iastore, 1) := by decide +kernel
theorem dX11_init_733 : decode cX11_init 733 = .ok (.dup, 1) := by decide +kernel
theorem dX11_init_734 : decode cX11_init 734 = .ok (.bipush 22, 2) := by decide +kernel
theorem dX11_init_736 : decode cX11_init 736 = .ok (.sipush 1024, 3) := by decide +kernel
theorem dX11_init_739 : decode cX11_init 739 = .ok (.iastore, 1) := by decide +kernel
theorem dX11_init_740 : decode cX11_init 740 = .ok (.dup, 1) := by decide +kernel
theorem dX11_init_741 : decode cX11_init 741 = .ok (.bipush 23, 2) := by decide +kernel
theorem dX11_init_743 : decode cX11_init 743 = .ok (.sipush 768, 3) := by decide +kernel
theorem dX11_init_746 : decode cX11_init 746 = .ok (.iastore, 1) := by decide +kernel
theorem dX11_init_747 : decode cX11_init 747 = .ok (.dup, 1) := by decide +kernel
theorem dX11_init_748 : decode cX11_init 748 = .ok (.bipush 24, 2) := by decide +kernel
theorem dX11_init_750 : decode cX11_init 750 = .ok (.bipush 75, 2) := by decide +kernel
theorem dX11_init_752 : decode cX11_init 752 = .ok (.iastore, 1) := by decide +kernel
theorem dX11_init_753 : decode cX11_init 753 = .ok (.dup, 1) := by decide +kernel
theorem dX11_init_754 : decode cX11_init 754 = .ok (.bipush 25, 2) := by decide +kernel
theorem dX11_init_756 : decode cX11_init 756 = .ok (.bipush 36, 2) := by decide +kernel
theorem dX11_init_758 : decode cX11_init 758 = .ok (.iastore, 1) := by decide +kernel
theorem dX11_init_759 : decode cX11_init 759 = .ok (.dup, 1) := by decide +kernel
theorem dX11_init_760 : decode cX11_init 760 = .ok (.bipush 26, 2) := by decide +kernel
theorem dX11_init_762 : decode cX11_init 762 = .ok (.iconst 0, 1) := by decide +kernel
theorem dX11_init_763 : decode cX11_init 763 = .ok (.iastore, 1) := by decide +kernel
theorem dX11_init_764 : decode cX11_init 764 = .ok (.dup, 1) := by decide +kernel
theorem dX11_init_765 : decode cX11_init 765 = .ok (.bipush 27, 2) := by decide +kernel
theorem dX11_init_767 : decode cX11_init 767 = .ok (.sipush 1280, 3) := by decide +kernel
theorem dX11_init_770 : decode cX11_init 770 = .ok (.iastore, 1) := by decide +kernel
theorem dX11_init_771 : decode cX11_init 771 = .ok (.dup, 1) := by decide +kernel
theorem dX11_init_772 : decode cX11_init 772 = .ok (.bipush 28, 2) := by decide +kernel
theorem dX11_init_774 : decode cX11_init 774 = .ok (.sipush 1024, 3) := by decide +kernel
theorem dX11_init_777 : decode cX11_init 777 = .ok (.iastore, 1) := by decide +kernel
theorem dX11_init_778 : decode cX11_init 778 = .ok (.dup, 1) := by decide +kernel
theorem dX11_init_779 : decode cX11_init 779 = .ok (.bipush 29, 2) := by decide +kernel
theorem dX11_init_781 : decode cX11_init 781 = .ok (.bipush 75, 2) := by decide +kernel
theorem dX11_init_783 : decode cX11_init 783 = .ok (.iastore, 1) := by decide +kernel
theorem dX11_init_784 : decode cX11_init 784 = .ok (.putfield 54, 3) := by decide +kernel
theorem dX11_init_787 : decode cX11_init 787 = .ok (.aload_n 0, 1) := by decide +kernel
theorem dX11_init_788 : decode cX11_init 788 = .ok (.sipush 128, 3) := by decide +kernel
theorem dX11_init_791 : decode cX11_init 791 = .ok (.newarray .int, 2) := by decide +kernel
theorem dX11_init_793 : decode cX11_init 793 = .ok (.putfield 57, 3) := by decide +kernel
theorem dX11_init_796 : decode cX11_init 796 = .ok (.aload_n 0, 1) := by decide +kernel
theorem dX11_init_797 : decode cX11_init 797 = .ok (.bipush 30, 2) := by decide +kernel
theorem dX11_init_799 : decode cX11_init 799 = .ok (.newarray .int, 2) := by decide +kernel
theorem dX11_init_801 : decode cX11_init 801 = .ok (.putfield 60, 3) := by decide +kernel
theorem dX11_init_804 : decode cX11_init 804 = .ok (.aload_n 0, 1) := by decide +kernel
theorem dX11_init_805 : decode cX11_init 805 = .ok (.bipush 9, 2) := by decide +kernel
theorem dX11_init_807 : decode cX11_init 807 = .ok (.newarray .int, 2) := by decide +kernel
theorem dX11_init_809 : decode cX11_init 809 = .ok (.putfield 63, 3) := by decide +kernel
theorem dX11_init_812 : decode cX11_init 812 = .ok (.aload_n 0, 1) := by decide +kernel
theorem dX11_init_813 : decode cX11_init 813 = .ok (.bipush 8, 2) := by decide +kernel
theorem dX11_init_815 : decode cX11_init 815 = .ok (.putfield 66, 3) := by decide +kernel
theorem dX11_init_818 : decode cX11_init 818 = .ok (.aload_n 0, 1) := by decide +kernel
theorem dX11_init_819 : decode cX11_init 819 = .ok (.iconst 4, 1) := by decide +kernel
theorem dX11_init_820 : decode cX11_init 820 = .ok (.putfield 69, 3) := by decide +kernel
theorem dX11_init_823 : decode cX11_init 823 = .ok (.aload_n 0, 1) := by decide +kernel
theorem dX11_init_824 : decode cX11_init 824 = .ok (.iconst 2, 1) := by decide +kernel
theorem dX11_init_825 : decode cX11_init 825 = .ok (.putfield 72, 3) := by decide +kernel
theorem dX11_init_828 : decode cX11_init 828 = .ok (.aload_n 0, 1) := by decide +kernel
theorem dX11_init_829 : decode cX11_init 829 = .ok (.bipush 88, 2) := by decide +kernel
theorem dX11_init_831 : decode cX11_init 831 = .ok (.newarray .int, 2) := by decide +kernel
theorem dX11_init_833 : decode cX11_init 833 = .ok (.putfield 75, 3) := by decide +kernel
theorem dX11_init_836 : decode cX11_init 836 = .ok (.aload_n 0, 1) := by decide +kernel
theorem dX11_init_837 : decode cX11_init 837 = .ok (.bipush 88, 2) := by decide +kernel
theorem dX11_init_839 : decode cX11_init 839 = .ok (.newarray .int, 2) := by decide +kernel
theorem dX11_init_841 : decode cX11_init 841 = .ok (.putfield 78, 3) := by decide +kernel
theorem dX11_init_844 : decode cX11_init 844 = .ok (.aload_n 0, 1) := by decide +kernel
theorem dX11_init_845 : decode cX11_init 845 = .ok (.iconst 4, 1) := by decide +kernel
theorem dX11_init_846 : decode cX11_init 846 = .ok (.newarray .int, 2) := by decide +kernel
theorem dX11_init_848 : decode cX11_init 848 = .ok (.putfield 81, 3) := by decide +kernel
theorem dX11_init_851 : decode cX11_init 851 = .ok (.aload_n 0, 1) := by decide +kernel
theorem dX11_init_852 : decode cX11_init 852 = .ok (.iconst 4, 1) := by decide +kernel
theorem dX11_init_853 : decode cX11_init 853 = .ok (.newarray .int, 2) := by decide +kernel
theorem dX11_init_855 : decode cX11_init 855 = .ok (.putfield 84, 3) := by decide +kernel
theorem dX11_init_858 : decode cX11_init 858 = .ok (.aload_n 0, 1) := by decide +kernel
theorem dX11_init_859 : decode cX11_init 859 = .ok (.iconst 4, 1) := by decide +kernel
theorem dX11_init_860 : decode cX11_init 860 = .ok (.newarray .int, 2) := by decide +kernel
theorem dX11_init_862 : decode cX11_init 862 = .ok (.putfield 87, 3) := by decide +kernel
theorem dX11_init_865 : decode cX11_init 865 = .ok (.aload_n 0, 1) := by decide +kernel
theorem dX11_init_866 : decode cX11_init 866 = .ok (.iconst 4, 1) := by decide +kernel
theorem dX11_init_867 : decode cX11_init 867 = .ok (.newarray .int, 2) := by decide +kernel
theorem dX11_init_869 : decode cX11_init 869 = .ok (.putfield 90, 3) := by decide +kernel
theorem dX11_init_872 : decode cX11_init 872 = .ok (.aload_n 0, 1) := by decide +kernel
theorem dX11_init_873 : decode cX11_init 873 = .ok (.sipush 1750, 3) := by decide +kernel
theorem dX11_init_876 : decode cX11_init 876 = .ok (.newarray .int, 2) := by decide +kernel
theorem dX11_init_878 : decode cX11_init 878 = .ok (.putfield 93, 3) := by decide +kernel
theorem dX11_init_881 : decode cX11_init 881 = .ok (.return_, 1) := by decide +kernel
theorem dX11_feed_0 : decode cX11_feed 0 = .ok (.aload_n 0, 1) := by decide +kernel
theorem dX11_feed_1 : decode cX11_feed 1 = .ok (.iconst 0, 1) := by decide +kernel
theorem dX11_feed_2 : decode cX11_feed 2 = .ok (.putfield 1, 3) := by decide +kernel
theorem dX11_feed_5 : decode cX11_feed 5 = .ok (.aload_n 0, 1) := by decide +kernel
theorem dX11_feed_6 : decode cX11_feed 6 = .ok (.getfield 96, 3) := by decide +kernel
theorem dX11_feed_9 : decode cX11_feed 9 = .ok (.bipush 20, 2) := by decide +kernel
theorem dX11_feed_11 : decode cX11_feed 11 = .ok (.iadd, 1) := by decide +kernel
theorem dX11_feed_12 : decode cX11_feed 12 = .ok (.sipush 520, 3) := by decide +kernel
theorem dX11_feed_15 : decode cX11_feed 15 = .ok (.if_icmp .le 6, 3) := by decide +kernel
theorem dX11_feed_18 : decode cX11_feed 18 = .ok (.bipush (-4), 2) := by decide +kernel
theorem dX11_feed_20 : decode cX11_feed 20 = .ok (.ireturn, 1) := by decide +kernel
theorem dX11_feed_21 : decode cX11_feed 21 = .ok (.iconst 0, 1) := by decide +kernel
theorem dX11_feed_22 : decode cX11_feed 22 = .ok (.istore 6, 2) := by decide +kernel
theorem dX11_feed_24 : decode cX11_feed 24 = .ok (.iload 6, 2) := by decide +kernel
theorem dX11_feed_26 : decode cX11_feed 26 = .ok (.bipush 20, 2) := by decide +kernel
theorem dX11_feed_28 : decode cX11_feed 28 = .ok (.if_icmp .ge 93, 3) := by decide +kernel
theorem dX11_feed_31 : decode cX11_feed 31 = .ok (.iload 6, 2) := by decide +kernel
theorem dX11_feed_33 : decode cX11_feed 33 = .ok (.iconst 4, 1) := by decide +kernel
theorem dX11_feed_34 : decode cX11_feed 34 = .ok (.if_icmp .ge 7, 3) := by decide +kernel
theorem dX11_feed_37 : decode cX11_feed 37 = .ok (.iload_n 1, 1) := by decide +kernel
theorem dX11_feed_38 : decode cX11_feed 38 = .ok (.goto 39, 3) := by decide +kernel
theorem dX11_feed_41 : decode cX11_feed 41 = .ok (.iload 6, 2) := by decide +kernel
theorem dX11_feed_43 : decode cX11_feed 43 = .ok (.bipush 8, 2) := by decide +kernel
theorem dX11_feed_45 : decode cX11_feed 45 = .ok (.if_icmp .ge 7, 3) := by decide +kernel
theorem dX11_feed_48 : decode cX11_feed 48 = .ok (.iload_n 2, 1) := by decide +kernel
theorem dX11_feed_49 : decode cX11_feed 49 = .ok (.goto 28, 3) := by decide +kernel
theorem dX11_feed_52 : decode cX11_feed 52 = .ok (.iload 6, 2) := by decide +kernel
theorem dX11_feed_54 : decode cX11_feed 54 = .ok (.bipush 12, 2) := by decide +kernel
theorem dX11_feed_56 : decode cX11_feed 56 = .ok (.if_icmp .ge 7, 3) := by decide +kernel
theorem dX11_feed_59 : decode cX11_feed 59 = .ok (.iload_n 3, 1) := by decide +kernel
theorem dX11_feed_60 : decode cX11_feed 60 = .ok (.goto 17, 3) := by decide +kernel
theorem dX11_feed_63 : decode cX11_feed 63 = .ok (.iload 6, 2) := by decide +kernel
theorem dX11_feed_65 : decode cX11_feed 65 = .ok (.bipush 16, 2) := by decide +kernel
theorem dX11_feed_67 : decode cX11_feed 67 = .ok (.if_icmp .ge 8, 3) := by decide +kernel
theorem dX11_feed_70 : decode cX11_feed 70 = .ok (.iload 4, 2) := by decide +kernel
theorem dX11_feed_72 : decode cX11_feed 72 = .ok (.goto 5, 3) := by decide +kernel
theorem dX11_feed_75 : decode cX11_feed 75 = .ok (.iload 5, 2) := by decide +kernel
theorem dX11_feed_77 : decode cX11_feed 77 = .ok (.istore 7, 2) := by decide +kernel
theorem dX11_feed_79 : decode cX11_feed 79 = .ok (.aload_n 0, 1) := by decide +kernel
theorem dX11_feed_80 : decode cX11_feed 80 = .ok (.getfield 13, 3) := by decide +kernel
theorem dX11_feed_83 : decode cX11_feed 83 = .ok (.aload_n 0, 1) := by decide +kernel
theorem dX11_feed_84 : decode cX11_feed 84 = .ok (.getfield 96, 3) := by decide +kernel
theorem dX11_feed_87 : decode cX11_feed 87 = .ok (.iload 7, 2) := by decide +kernel
theorem dX11_feed_89 : decode cX11_feed 89 = .ok (.bipush 24, 2) := by decide +kernel
theorem dX11_feed_91 : decode cX11_feed 91 = .ok (.bipush 8, 2) := by decide +kernel
theorem dX11_feed_93 : decode cX11_feed 93 = .ok (.iload 6, 2) := by decide +kernel
theorem dX11_feed_95 : decode cX11_feed 95 = .ok (.iconst 4, 1) := by decide +kernel
theorem dX11_feed_96 : decode cX11_feed 96 = .ok (.irem, 1) := by decide +kernel
theorem dX11_feed_97 : decode cX11_feed 97 = .ok (.imul, 1) := by decide +kernel
theorem dX11_feed_98 : decode cX11_feed 98 = .ok (.isub, 1) := by decide +kernel
theorem dX11_feed_99 : decode cX11_feed 99 = .ok (.ishr, 1) := by decide +kernel
theorem dX11_feed_100 : decode cX11_feed 100 = .ok (.sipush 255, 3) := by decide +kernel
theorem dX11_feed_103 : decode cX11_feed 103 = .ok (.iand, 1) := by decide +kernel
theorem dX11_feed_104 : decode cX11_feed 104 = .ok (.iastore, 1) := by decide +kernel
theorem dX11_feed_105 : decode cX11_feed 105 = .ok (.aload_n 0, 1) := by decide +kernel
theorem dX11_feed_106 : decode cX11_feed 106 = .ok (.dup, 1) := by decide +kernel
theorem dX11_feed_107 : decode cX11_feed 107 = .ok (.getfield 96, 3) := by decide +kernel
theorem dX11_feed_110 : decode cX11_feed 110 = .ok (.iconst 1, 1) := by decide +kernel
theorem dX11_feed_111 : decode cX11_feed 111 = .ok (.iadd, 1) := by decide +kernel
theorem dX11_feed_112 : decode cX11_feed 112 = .ok (.putfield 96, 3) := by decide +kernel
theorem dX11_feed_115 : decode cX11_feed 115 = .ok (.iinc 6 1, 3) := by decide +kernel
theorem dX11_feed_118 : decode cX11_feed 118 = .ok (.goto (-94), 3) := by decide +kernel
theorem dX11_feed_121 : decode cX11_feed 121 = .ok (.aload_n 0, 1) := by decide +kernel
theorem dX11_feed_122 : decode cX11_feed 122 = .ok (.getfield 96, 3) := by decide +kernel
theorem dX11_feed_125 : decode cX11_feed 125 = .ok (.ireturn, 1) := by decide +kernel
theorem dX11_fails_0 : decode cX11_fails 0 = .ok (.aload_n 0, 1) := by decide +kernel
theorem dX11_fails_1 : decode cX11_fails 1 = .ok (.getfield 99, 3) := by decide +kernel
theorem dX11_fails_4 : decode cX11_fails 4 = .ok (.ifCond .eq 4, 3) := by decide +kernel
theorem dX11_fails_7 : decode cX11_fails 7 = .ok (.return_, 1) := by decide +kernel
theorem dX11_fails_8 : decode cX11_fails 8 = .ok (.aload_n 0, 1) := by decide +kernel
theorem dX11_fails_9 : decode cX11_fails 9 = .ok (.iload_n 1, 1) := by decide +kernel
theorem dX11_fails_10 : decode cX11_fails 10 = .ok (.putfield 99, 3) := by decide +kernel
theorem dX11_fails_13 : decode cX11_fails 13 = .ok (.aload_n 0, 1) := by decide +kernel
theorem dX11_fails_14 : decode cX11_fails 14 = .ok (.iload_n 2, 1) := by decide +kernel
theorem dX11_fails_15 : decode cX11_fails 15 = .ok (.putfield 23, 3) := by decide +kernel
theorem dX11_fails_18 : decode cX11_fails 18 = .ok (.return_, 1) := by decide +kernel
theorem dX11_sumOf_0 : decode cX11_sumOf 0 = .ok (.iconst 0, 1) := by decide +kernel
theorem dX11_sumOf_1 : decode cX11_sumOf 1 = .ok (.istore_n 2, 1) := by decide +kernel
theorem dX11_sumOf_2 : decode cX11_sumOf 2 = .ok (.iconst 0, 1) := by decide +kernel
theorem dX11_sumOf_3 : decode cX11_sumOf 3 = .ok (.istore_n 3, 1) := by decide +kernel
theorem dX11_sumOf_4 : decode cX11_sumOf 4 = .ok (.iload_n 3, 1) := by decide +kernel
theorem dX11_sumOf_5 : decode cX11_sumOf 5 = .ok (.sipush 128, 3) := by decide +kernel
theorem dX11_sumOf_8 : decode cX11_sumOf 8 = .ok (.if_icmp .ge 24, 3) := by decide +kernel
theorem dX11_sumOf_11 : decode cX11_sumOf 11 = .ok (.iload_n 2, 1) := by decide +kernel
theorem dX11_sumOf_12 : decode cX11_sumOf 12 = .ok (.aload_n 0, 1) := by decide +kernel
theorem dX11_sumOf_13 : decode cX11_sumOf 13 = .ok (.getfield 17, 3) := by decide +kernel
theorem dX11_sumOf_16 : decode cX11_sumOf 16 = .ok (.sipush 128, 3) := by decide +kernel
theorem dX11_sumOf_19 : decode cX11_sumOf 19 = .ok (.iload_n 1, 1) := by decide +kernel
theorem dX11_sumOf_20 : decode cX11_sumOf 20 = .ok (.imul, 1) := by decide +kernel
theorem dX11_sumOf_21 : decode cX11_sumOf 21 = .ok (.iload_n 3, 1) := by decide +kernel
theorem dX11_sumOf_22 : decode cX11_sumOf 22 = .ok (.iadd, 1) := by decide +kernel
theorem dX11_sumOf_23 : decode cX11_sumOf 23 = .ok (.iaload, 1) := by decide +kernel
theorem dX11_sumOf_24 : decode cX11_sumOf 24 = .ok (.iadd, 1) := by decide +kernel
theorem dX11_sumOf_25 : decode cX11_sumOf 25 = .ok (.istore_n 2, 1) := by decide +kernel
theorem dX11_sumOf_26 : decode cX11_sumOf 26 = .ok (.iinc 3 1, 3) := by decide +kernel
theorem dX11_sumOf_29 : decode cX11_sumOf 29 = .ok (.goto (-25), 3) := by decide +kernel
theorem dX11_sumOf_32 : decode cX11_sumOf 32 = .ok (.iload_n 2, 1) := by decide +kernel
theorem dX11_sumOf_33 : decode cX11_sumOf 33 = .ok (.ireturn, 1) := by decide +kernel
theorem dX11_checks_0 : decode cX11_checks 0 = .ok (.aload_n 0, 1) := by decide +kernel
theorem dX11_checks_1 : decode cX11_checks 1 = .ok (.getfield 102, 3) := by decide +kernel
theorem dX11_checks_4 : decode cX11_checks 4 = .ok (.sipush 128, 3) := by decide +kernel
theorem dX11_checks_7 : decode cX11_checks 7 = .ok (.idiv, 1) := by decide +kernel
theorem dX11_checks_8 : decode cX11_checks 8 = .ok (.istore_n 1, 1) := by decide +kernel
theorem dX11_checks_9 : decode cX11_checks 9 = .ok (.aload_n 0, 1) := by decide +kernel
theorem dX11_checks_10 : decode cX11_checks 10 = .ok (.getfield 102, 3) := by decide +kernel
theorem dX11_checks_13 : decode cX11_checks 13 = .ok (.sipush 128, 3) := by decide +kernel
theorem dX11_checks_16 : decode cX11_checks 16 = .ok (.irem, 1) := by decide +kernel
theorem dX11_checks_17 : decode cX11_checks 17 = .ok (.ifCond .ne 15, 3) := by decide +kernel
theorem dX11_checks_20 : decode cX11_checks 20 = .ok (.iload_n 1, 1) := by decide +kernel
theorem dX11_checks_21 : decode cX11_checks 21 = .ok (.i2l, 1) := by decide +kernel
theorem dX11_checks_22 : decode cX11_checks 22 = .ok (.lconst 1, 1) := by decide +kernel
theorem dX11_checks_23 : decode cX11_checks 23 = .ok (.ldc2_w 105, 3) := by decide +kernel
theorem dX11_checks_26 : decode cX11_checks 26 = .ok (.invokestatic 107, 3) := by decide +kernel
theorem dX11_checks_29 : decode cX11_checks 29 = .ok (.ifCond .ne 13, 3) := by decide +kernel
theorem dX11_checks_32 : decode cX11_checks 32 = .ok (.aload_n 0, 1) := by decide +kernel
theorem dX11_checks_33 : decode cX11_checks 33 = .ok (.iconst 1, 1) := by decide +kernel
theorem dX11_checks_34 : decode cX11_checks 34 = .ok (.aload_n 0, 1) := by decide +kernel
theorem dX11_checks_35 : decode cX11_checks 35 = .ok (.getfield 102, 3) := by decide +kernel
theorem dX11_checks_38 : decode cX11_checks 38 = .ok (.invokevirtual 111, 3) := by decide +kernel
theorem dX11_checks_41 : decode cX11_checks 41 = .ok (.return_, 1) := by decide +kernel
theorem dX11_checks_42 : decode cX11_checks 42 = .ok (.iconst 0, 1) := by decide +kernel
theorem dX11_checks_43 : decode cX11_checks 43 = .ok (.istore_n 2, 1) := by decide +kernel
theorem dX11_checks_44 : decode cX11_checks 44 = .ok (.iload_n 2, 1) := by decide +kernel
theorem dX11_checks_45 : decode cX11_checks 45 = .ok (.bipush 8, 2) := by decide +kernel
theorem dX11_checks_47 : decode cX11_checks 47 = .ok (.if_icmp .ge 41, 3) := by decide +kernel
theorem dX11_checks_50 : decode cX11_checks 50 = .ok (.aload_n 0, 1) := by decide +kernel
theorem dX11_checks_51 : decode cX11_checks 51 = .ok (.getfield 17, 3) := by decide +kernel
theorem dX11_checks_54 : decode cX11_checks 54 = .ok (.iload_n 2, 1) := by decide +kernel
theorem dX11_checks_55 : decode cX11_checks 55 = .ok (.iaload, 1) := by decide +kernel
theorem dX11_checks_56 : decode cX11_checks 56 = .ok (.iload_n 2, 1) := by decide +kernel
theorem dX11_checks_57 : decode cX11_checks 57 = .ok (.ifCond .eq 9, 3) := by decide +kernel
theorem dX11_checks_60 : decode cX11_checks 60 = .ok (.iload_n 2, 1) := by decide +kernel
theorem dX11_checks_61 : decode cX11_checks 61 = .ok (.bipush 7, 2) := by decide +kernel
theorem dX11_checks_63 : decode cX11_checks 63 = .ok (.if_icmp .ne 7, 3) := by decide +kernel
theorem dX11_checks_66 : decode cX11_checks 66 = .ok (.iconst 0, 1) := by decide +kernel
theorem dX11_checks_67 : decode cX11_checks 67 = .ok (.goto 6, 3) := by decide +kernel
theorem dX11_checks_70 : decode cX11_checks 70 = .ok (.sipush 255, 3) := by decide +kernel
theorem dX11_checks_73 : decode cX11_checks 73 = .ok (.if_icmp .eq 9, 3) := by decide +kernel
theorem dX11_checks_76 : decode cX11_checks 76 = .ok (.aload_n 0, 1) := by decide +kernel
theorem dX11_checks_77 : decode cX11_checks 77 = .ok (.iconst 2, 1) := by decide +kernel
theorem dX11_checks_78 : decode cX11_checks 78 = .ok (.iload_n 2, 1) := by decide +kernel
theorem dX11_checks_79 : decode cX11_checks 79 = .ok (.invokevirtual 111, 3) := by decide +kernel
theorem dX11_checks_82 : decode cX11_checks 82 = .ok (.iinc 2 1, 3) := by decide +kernel
theorem dX11_checks_85 : decode cX11_checks 85 = .ok (.goto (-41), 3) := by decide +kernel
theorem dX11_checks_88 : decode cX11_checks 88 = .ok (.iconst 0, 1) := by decide +kernel
theorem dX11_checks_89 : decode cX11_checks 89 = .ok (.istore_n 2, 1) := by decide +kernel
theorem dX11_checks_90 : decode cX11_checks 90 = .ok (.iload_n 2, 1) := by decide +kernel
theorem dX11_checks_91 : decode cX11_checks 91 = .ok (.iload_n 1, 1) := by decide +kernel
theorem dX11_checks_92 : decode cX11_checks 92 = .ok (.if_icmp .ge 62, 3) := by decide +kernel
theorem dX11_checks_95 : decode cX11_checks 95 = .ok (.iload_n 2, 1) := by decide +kernel
theorem dX11_checks_96 : decode cX11_checks 96 = .ok (.ifCond .le 27, 3) := by decide +kernel
theorem dX11_checks_99 : decode cX11_checks 99 = .ok (.aload_n 0, 1) := by decide +kernel
theorem dX11_checks_100 : decode cX11_checks 100 = .ok (.getfield 17, 3) := by decide +kernel
theorem dX11_checks_103 : decode cX11_checks 103 = .ok (.sipush 128, 3) := by decide +kernel
theorem dX11_checks_106 : decode cX11_checks 106 = .ok (.iload_n 2, 1) := by decide +kernel
theorem dX11_checks_107 : decode cX11_checks 107 = .ok (.imul, 1) := by decide +kernel
theorem dX11_checks_108 : decode cX11_checks 108 = .ok (.iaload, 1) := by decide +kernel
theorem dX11_checks_109 : decode cX11_checks 109 = .ok (.iconst 2, 1) := by decide +kernel
theorem dX11_checks_110 : decode cX11_checks 110 = .ok (.if_icmp .eq 13, 3) := by decide +kernel
theorem dX11_checks_113 : decode cX11_checks 113 = .ok (.aload_n 0, 1) := by decide +kernel
theorem dX11_checks_114 : decode cX11_checks 114 = .ok (.iconst 2, 1) := by decide +kernel
theorem dX11_checks_115 : decode cX11_checks 115 = .ok (.sipush 128, 3) := by decide +kernel
theorem dX11_checks_118 : decode cX11_checks 118 = .ok (.iload_n 2, 1) := by decide +kernel
theorem dX11_checks_119 : decode cX11_checks 119 = .ok (.imul, 1) := by decide +kernel
theorem dX11_checks_120 : decode cX11_checks 120 = .ok (.invokevirtual 111, 3) := by decide +kernel
theorem dX11_checks_123 : decode cX11_checks 123 = .ok (.aload_n 0, 1) := by decide +kernel
theorem dX11_checks_124 : decode cX11_checks 124 = .ok (.iload_n 2, 1) := by decide +kernel
theorem dX11_checks_125 : decode cX11_checks 125 = .ok (.invokevirtual 115, 3) := by decide +kernel
theorem dX11_checks_128 : decode cX11_checks 128 = .ok (.sipush 256, 3) := by decide +kernel
theorem dX11_checks_131 : decode cX11_checks 131 = .ok (.irem, 1) := by decide +kernel
theorem dX11_checks_132 : decode cX11_checks 132 = .ok (.ifCond .eq 16, 3) := by decide +kernel
theorem dX11_checks_135 : decode cX11_checks 135 = .ok (.aload_n 0, 1) := by decide +kernel
theorem dX11_checks_136 : decode cX11_checks 136 = .ok (.iconst 3, 1) := by decide +kernel
theorem dX11_checks_137 : decode cX11_checks 137 = .ok (.sipush 128, 3) := by decide +kernel
theorem dX11_checks_140 : decode cX11_checks 140 = .ok (.iload_n 2, 1) := by decide +kernel
theorem dX11_checks_141 : decode cX11_checks 141 = .ok (.imul, 1) := by decide +kernel
theorem dX11_checks_142 : decode cX11_checks 142 = .ok (.bipush 127, 2) := by decide +kernel
theorem dX11_checks_144 : decode cX11_checks 144 = .ok (.iadd, 1) := by decide +kernel
theorem dX11_checks_145 : decode cX11_checks 145 = .ok (.invokevirtual 111, 3) := by decide +kernel
theorem dX11_checks_148 : decode cX11_checks 148 = .ok (.iinc 2 1, 3) := by decide +kernel
theorem dX11_checks_151 : decode cX11_checks 151 = .ok (.goto (-61), 3) := by decide +kernel
theorem dX11_checks_154 : decode cX11_checks 154 = .ok (.aload_n 0, 1) := by decide +kernel
theorem dX11_checks_155 : decode cX11_checks 155 = .ok (.getfield 17, 3) := by decide +kernel
theorem dX11_checks_158 : decode cX11_checks 158 = .ok (.bipush 18, 2) := by decide +kernel
theorem dX11_checks_160 : decode cX11_checks 160 = .ok (.iaload, 1) := by decide +kernel
theorem dX11_checks_161 : decode cX11_checks 161 = .ok (.iconst 1, 1) := by decide +kernel
theorem dX11_checks_162 : decode cX11_checks 162 = .ok (.if_icmp .eq 10, 3) := by decide +kernel
theorem dX11_checks_165 : decode cX11_checks 165 = .ok (.aload_n 0, 1) := by decide +kernel
theorem dX11_checks_166 : decode cX11_checks 166 = .ok (.iconst 4, 1) := by decide +kernel
theorem dX11_checks_167 : decode cX11_checks 167 = .ok (.bipush 18, 2) := by decide +kernel
theorem dX11_checks_169 : decode cX11_checks 169 = .ok (.invokevirtual 111, 3) := by decide +kernel
theorem dX11_checks_172 : decode cX11_checks 172 = .ok (.aload_n 0, 1) := by decide +kernel
theorem dX11_checks_173 : decode cX11_checks 173 = .ok (.getfield 17, 3) := by decide +kernel
theorem dX11_checks_176 : decode cX11_checks 176 = .ok (.bipush 126, 2) := by decide +kernel
theorem dX11_checks_178 : decode cX11_checks 178 = .ok (.iaload, 1) := by decide +kernel
theorem dX11_checks_179 : decode cX11_checks 179 = .ok (.iload_n 1, 1) := by decide +kernel
theorem dX11_checks_180 : decode cX11_checks 180 = .ok (.iconst 1, 1) := by decide +kernel
theorem dX11_checks_181 : decode cX11_checks 181 = .ok (.isub, 1) := by decide +kernel
theorem dX11_checks_182 : decode cX11_checks 182 = .ok (.if_icmp .eq 10, 3) := by decide +kernel
theorem dX11_checks_185 : decode cX11_checks 185 = .ok (.aload_n 0, 1) := by decide +kernel
theorem dX11_checks_186 : decode cX11_checks 186 = .ok (.iconst 5, 1) := by decide +kernel
theorem dX11_checks_187 : decode cX11_checks 187 = .ok (.bipush 126, 2) := by decide +kernel
theorem dX11_checks_189 : decode cX11_checks 189 = .ok (.invokevirtual 111, 3) := by decide +kernel
theorem dX11_checks_192 : decode cX11_checks 192 = .ok (.iconst 1, 1) := by decide +kernel
theorem dX11_checks_193 : decode cX11_checks 193 = .ok (.istore_n 2, 1) := by decide +kernel
theorem dX11_checks_194 : decode cX11_checks 194 = .ok (.iload_n 2, 1) := by decide +kernel
theorem dX11_checks_195 : decode cX11_checks 195 = .ok (.iload_n 1, 1) := by decide +kernel
theorem dX11_checks_196 : decode cX11_checks 196 = .ok (.if_icmp .ge 18, 3) := by decide +kernel
theorem dX11_checks_199 : decode cX11_checks 199 = .ok (.aload_n 0, 1) := by decide +kernel
theorem dX11_checks_200 : decode cX11_checks 200 = .ok (.sipush 128, 3) := by decide +kernel
theorem dX11_checks_203 : decode cX11_checks 203 = .ok (.iload_n 2, 1) := by decide +kernel
theorem dX11_checks_204 : decode cX11_checks 204 = .ok (.imul, 1) := by decide +kernel
theorem dX11_checks_205 : decode cX11_checks 205 = .ok (.invokevirtual 119, 3) := by decide +kernel
theorem dX11_checks_208 : decode cX11_checks 208 = .ok (.iinc 2 1, 3) := by decide +kernel
theorem dX11_checks_211 : decode cX11_checks 211 = .ok (.goto (-17), 3) := by decide +kernel
theorem dX11_checks_214 : decode cX11_checks 214 = .ok (.return_, 1) := by decide +kernel
theorem dX11_checksExtension_0 : decode cX11_checksExtension 0 = .ok (.aload_n 0, 1) := by decide +kernel
theorem dX11_checksExtension_1 : decode cX11_checksExtension 1 = .ok (.getfield 17, 3) := by decide +kernel
theorem dX11_checksExtension_4 : decode cX11_checksExtension 4 = .ok (.iload_n 1, 1) := by decide +kernel
theorem dX11_checksExtension_5 : decode cX11_checksExtension 5 = .ok (.iconst 2, 1) := by decide +kernel
theorem dX11_checksExtension_6 : decode cX11_checksExtension 6 = .ok (.iadd, 1) := by decide +kernel
theorem dX11_checksExtension_7 : decode cX11_checksExtension 7 = .ok (.iaload, 1) := by decide +kernel
theorem dX11_checksExtension_8 : decode cX11_checksExtension 8 = .ok (.istore_n 2, 1) := by decide +kernel
theorem dX11_checksExtension_9 : decode cX11_checksExtension 9 = .ok (.iload_n 2, 1) := by decide +kernel
theorem dX11_checksExtension_10 : decode cX11_checksExtension 10 = .ok (.ifCond .eq 26, 3) := by decide +kernel
theorem dX11_checksExtension_13 : decode cX11_checksExtension 13 = .ok (.iload_n 2, 1) := by decide +kernel
theorem dX11_checksExtension_14 : decode cX11_checksExtension 14 = .ok (.i2l, 1) := by decide +kernel
theorem dX11_checksExtension_15 : decode cX11_checksExtension 15 = .ok (.ldc2_w 105, 3) := by decide +kernel
theorem dX11_checksExtension_18 : decode cX11_checksExtension 18 = .ok (.ldc2_w 123, 3) := by decide +kernel
theorem dX11_checksExtension_21 : decode cX11_checksExtension 21 = .ok (.invokestatic 107, 3) := by decide +kernel
theorem dX11_checksExtension_24 : decode cX11_checksExtension 24 = .ok (.ifCond .ne 12, 3) := by decide +kernel
theorem dX11_checksExtension_27 : decode cX11_checksExtension 27 = .ok (.aload_n 0, 1) := by decide +kernel
theorem dX11_checksExtension_28 : decode cX11_checksExtension 28 = .ok (.bipush 6, 2) := by decide +kernel
theorem dX11_checksExtension_30 : decode cX11_checksExtension 30 = .ok (.iload_n 1, 1) := by decide +kernel
theorem dX11_checksExtension_31 : decode cX11_checksExtension 31 = .ok (.iconst 2, 1) := by decide +kernel
theorem dX11_checksExtension_32 : decode cX11_checksExtension 32 = .ok (.iadd, 1) := by decide +kernel
theorem dX11_checksExtension_33 : decode cX11_checksExtension 33 = .ok (.invokevirtual 111, 3) := by decide +kernel
theorem dX11_checksExtension_36 : decode cX11_checksExtension 36 = .ok (.iconst 4, 1) := by decide +kernel
theorem dX11_checksExtension_37 : decode cX11_checksExtension 37 = .ok (.istore_n 3, 1) := by decide +kernel
theorem dX11_checksExtension_38 : decode cX11_checksExtension 38 = .ok (.aload_n 0, 1) := by decide +kernel
theorem dX11_checksExtension_39 : decode cX11_checksExtension 39 = .ok (.getfield 99, 3) := by decide +kernel
theorem dX11_checksExtension_42 : decode cX11_checksExtension 42 = .ok (.ifCond .ne 46, 3) := by decide +kernel
theorem dX11_checksExtension_45 : decode cX11_checksExtension 45 = .ok (.iload_n 3, 1) := by decide +kernel
theorem dX11_checksExtension_46 : decode cX11_checksExtension 46 = .ok (.iload_n 2, 1) := by decide +kernel
theorem dX11_checksExtension_47 : decode cX11_checksExtension 47 = .ok (.if_icmp .ge 41, 3) := by decide +kernel
theorem dX11_checksExtension_50 : decode cX11_checksExtension 50 = .ok (.iload_n 3, 1) := by decide +kernel
theorem dX11_checksExtension_51 : decode cX11_checksExtension 51 = .ok (.iconst 1, 1) := by decide +kernel
theorem dX11_checksExtension_52 : decode cX11_checksExtension 52 = .ok (.iadd, 1) := by decide +kernel
theorem dX11_checksExtension_53 : decode cX11_checksExtension 53 = .ok (.aload_n 0, 1) := by decide +kernel
theorem dX11_checksExtension_54 : decode cX11_checksExtension 54 = .ok (.getfield 17, 3) := by decide +kernel
theorem dX11_checksExtension_57 : decode cX11_checksExtension 57 = .ok (.iload_n 1, 1) := by decide +kernel
theorem dX11_checksExtension_58 : decode cX11_checksExtension 58 = .ok (.iload_n 3, 1) := by decide +kernel
theorem dX11_checksExtension_59 : decode cX11_checksExtension 59 = .ok (.iadd, 1) := by decide +kernel
theorem dX11_checksExtension_60 : decode cX11_checksExtension 60 = .ok (.iaload, 1) := by decide +kernel
theorem dX11_checksExtension_61 : decode cX11_checksExtension 61 = .ok (.bipush 32, 2) := by decide +kernel
theorem dX11_checksExtension_63 : decode cX11_checksExtension 63 = .ok (.irem, 1) := by decide +kernel
theorem dX11_checksExtension_64 : decode cX11_checksExtension 64 = .ok (.iadd, 1) := by decide +kernel
theorem dX11_checksExtension_65 : decode cX11_checksExtension 65 = .ok (.istore 4, 2) := by decide +kernel
theorem dX11_checksExtension_67 : decode cX11_checksExtension 67 = .ok (.iload 4, 2) := by decide +kernel
theorem dX11_checksExtension_69 : decode cX11_checksExtension 69 = .ok (.iload_n 2, 1) := by decide +kernel
theorem dX11_checksExtension_70 : decode cX11_checksExtension 70 = .ok (.if_icmp .le 12, 3) := by decide +kernel
theorem dX11_checksExtension_73 : decode cX11_checksExtension 73 = .ok (.aload_n 0, 1) := by decide +kernel
theorem dX11_checksExtension_74 : decode cX11_checksExtension 74 = .ok (.bipush 7, 2) := by decide +kernel
theorem dX11_checksExtension_76 : decode cX11_checksExtension 76 = .ok (.iload_n 1, 1) := by decide +kernel
theorem dX11_checksExtension_77 : decode cX11_checksExtension 77 = .ok (.iload_n 3, 1) := by decide +kernel
theorem dX11_checksExtension_78 : decode cX11_checksExtension 78 = .ok (.iadd, 1) := by decide +kernel
theorem dX11_checksExtension_79 : decode cX11_checksExtension 79 = .ok (.invokevirtual 111, 3) := by decide +kernel
theorem dX11_checksExtension_82 : decode cX11_checksExtension 82 = .ok (.iload 4, 2) := by decide +kernel
theorem dX11_checksExtension_84 : decode cX11_checksExtension 84 = .ok (.istore_n 3, 1) := by decide +kernel
theorem dX11_checksExtension_85 : decode cX11_checksExtension 85 = .ok (.goto (-47), 3) := by decide +kernel
theorem dX11_checksExtension_88 : decode cX11_checksExtension 88 = .ok (.return_, 1) := by decide +kernel
theorem dX11_load_0 : decode cX11_load 0 = .ok (.aload_n 0, 1) := by decide +kernel
theorem dX11_load_1 : decode cX11_load 1 = .ok (.iconst 0, 1) := by decide +kernel
theorem dX11_load_2 : decode cX11_load 2 = .ok (.putfield 1, 3) := by decide +kernel
theorem dX11_load_5 : decode cX11_load 5 = .ok (.iload_n 1, 1) := by decide +kernel
theorem dX11_load_6 : decode cX11_load 6 = .ok (.i2l, 1) := by decide +kernel
theorem dX11_load_7 : decode cX11_load 7 = .ok (.lconst 0, 1) := by decide +kernel
theorem dX11_load_8 : decode cX11_load 8 = .ok (.aload_n 0, 1) := by decide +kernel
theorem dX11_load_9 : decode cX11_load 9 = .ok (.getfield 96, 3) := by decide +kernel
theorem dX11_load_12 : decode cX11_load 12 = .ok (.i2l, 1) := by decide +kernel
theorem dX11_load_13 : decode cX11_load 13 = .ok (.invokestatic 107, 3) := by decide +kernel
theorem dX11_load_16 : decode cX11_load 16 = .ok (.ifCond .ne 6, 3) := by decide +kernel
theorem dX11_load_19 : decode cX11_load 19 = .ok (.bipush (-3), 2) := by decide +kernel
theorem dX11_load_21 : decode cX11_load 21 = .ok (.ireturn, 1) := by decide +kernel
theorem dX11_load_22 : decode cX11_load 22 = .ok (.aload_n 0, 1) := by decide +kernel
theorem dX11_load_23 : decode cX11_load 23 = .ok (.iconst 0, 1) := by decide +kernel
theorem dX11_load_24 : decode cX11_load 24 = .ok (.putfield 96, 3) := by decide +kernel
theorem dX11_load_27 : decode cX11_load 27 = .ok (.aload_n 0, 1) := by decide +kernel
theorem dX11_load_28 : decode cX11_load 28 = .ok (.iload_n 1, 1) := by decide +kernel
theorem dX11_load_29 : decode cX11_load 29 = .ok (.putfield 102, 3) := by decide +kernel
theorem dX11_load_32 : decode cX11_load 32 = .ok (.iconst 0, 1) := by decide +kernel
theorem dX11_load_33 : decode cX11_load 33 = .ok (.istore_n 2, 1) := by decide +kernel
theorem dX11_load_34 : decode cX11_load 34 = .ok (.iload_n 2, 1) := by decide +kernel
theorem dX11_load_35 : decode cX11_load 35 = .ok (.iload_n 1, 1) := by decide +kernel
theorem dX11_load_36 : decode cX11_load 36 = .ok (.if_icmp .ge 21, 3) := by decide +kernel
theorem dX11_load_39 : decode cX11_load 39 = .ok (.aload_n 0, 1) := by decide +kernel
theorem dX11_load_40 : decode cX11_load 40 = .ok (.getfield 17, 3) := by decide +kernel
theorem dX11_load_43 : decode cX11_load 43 = .ok (.iload_n 2, 1) := by decide +kernel
theorem dX11_load_44 : decode cX11_load 44 = .ok (.aload_n 0, 1) := by decide +kernel
theorem dX11_load_45 : decode cX11_load 45 = .ok (.getfield 13, 3) := by decide +kernel
theorem dX11_load_48 : decode cX11_load 48 = .ok (.iload_n 2, 1) := by decide +kernel
theorem dX11_load_49 : decode cX11_load 49 = .ok (.iaload, 1) := by decide +kernel
theorem dX11_load_50 : decode cX11_load 50 = .ok (.iastore, 1) := by decide +kernel
theorem dX11_load_51 : decode cX11_load 51 = .ok (.iinc 2 1, 3) := by decide +kernel
theorem dX11_load_54 : decode cX11_load 54 = .ok (.goto (-20), 3) := by decide +kernel
theorem dX11_load_57 : decode cX11_load 57 = .ok (.aload_n 0, 1) := by decide +kernel
theorem dX11_load_58 : decode cX11_load 58 = .ok (.iconst 0, 1) := by decide +kernel
theorem dX11_load_59 : decode cX11_load 59 = .ok (.putfield 99, 3) := by decide +kernel
theorem dX11_load_62 : decode cX11_load 62 = .ok (.aload_n 0, 1) := by decide +kernel
theorem dX11_load_63 : decode cX11_load 63 = .ok (.iconst (-1), 1) := by decide +kernel
theorem dX11_load_64 : decode cX11_load 64 = .ok (.putfield 23, 3) := by decide +kernel
theorem dX11_load_67 : decode cX11_load 67 = .ok (.aload_n 0, 1) := by decide +kernel
theorem dX11_load_68 : decode cX11_load 68 = .ok (.invokevirtual 125, 3) := by decide +kernel
theorem dX11_load_71 : decode cX11_load 71 = .ok (.aload_n 0, 1) := by decide +kernel
theorem dX11_load_72 : decode cX11_load 72 = .ok (.getfield 99, 3) := by decide +kernel
theorem dX11_load_75 : decode cX11_load 75 = .ok (.ifCond .eq 11, 3) := by decide +kernel
theorem dX11_load_78 : decode cX11_load 78 = .ok (.bipush (-30), 2) := by decide +kernel
theorem dX11_load_80 : decode cX11_load 80 = .ok (.aload_n 0, 1) := by decide +kernel
theorem dX11_load_81 : decode cX11_load 81 = .ok (.getfield 99, 3) := by decide +kernel
theorem dX11_load_84 : decode cX11_load 84 = .ok (.isub, 1) := by decide +kernel
theorem dX11_load_85 : decode cX11_load 85 = .ok (.ireturn, 1) := by decide +kernel
theorem dX11_load_86 : decode cX11_load 86 = .ok (.iconst 0, 1) := by decide +kernel
theorem dX11_load_87 : decode cX11_load 87 = .ok (.istore_n 2, 1) := by decide +kernel
theorem dX11_load_88 : decode cX11_load 88 = .ok (.iload_n 2, 1) := by decide +kernel
theorem dX11_load_89 : decode cX11_load 89 = .ok (.iload_n 1, 1) := by decide +kernel
theorem dX11_load_90 : decode cX11_load 90 = .ok (.if_icmp .ge 21, 3) := by decide +kernel
theorem dX11_load_93 : decode cX11_load 93 = .ok (.aload_n 0, 1) := by decide +kernel
theorem dX11_load_94 : decode cX11_load 94 = .ok (.getfield 20, 3) := by decide +kernel
theorem dX11_load_97 : decode cX11_load 97 = .ok (.iload_n 2, 1) := by decide +kernel
theorem dX11_load_98 : decode cX11_load 98 = .ok (.aload_n 0, 1) := by decide +kernel
theorem dX11_load_99 : decode cX11_load 99 = .ok (.getfield 17, 3) := by decide +kernel
theorem dX11_load_102 : decode cX11_load 102 = .ok (.iload_n 2, 1) := by decide +kernel
theorem dX11_load_103 : decode cX11_load 103 = .ok (.iaload, 1) := by decide +kernel
theorem dX11_load_104 : decode cX11_load 104 = .ok (.iastore, 1) := by decide +kernel
theorem dX11_load_105 : decode cX11_load 105 = .ok (.iinc 2 1, 3) := by decide +kernel
theorem dX11_load_108 : decode cX11_load 108 = .ok (.goto (-20), 3) := by decide +kernel
theorem dX11_load_111 : decode cX11_load 111 = .ok (.aload_n 0, 1) := by decide +kernel
theorem dX11_load_112 : decode cX11_load 112 = .ok (.iload_n 1, 1) := by decide +kernel
theorem dX11_load_113 : decode cX11_load 113 = .ok (.sipush 128, 3) := by decide +kernel
theorem dX11_load_116 : decode cX11_load 116 = .ok (.idiv, 1) := by decide +kernel
theorem dX11_load_117 : decode cX11_load 117 = .ok (.putfield 128, 3) := by decide +kernel
theorem dX11_load_120 : decode cX11_load 120 = .ok (.aload_n 0, 1) := by decide +kernel
theorem dX11_load_121 : decode cX11_load 121 = .ok (.invokevirtual 131, 3) := by decide +kernel
theorem dX11_load_124 : decode cX11_load 124 = .ok (.aload_n 0, 1) := by decide +kernel
theorem dX11_load_125 : decode cX11_load 125 = .ok (.getfield 134, 3) := by decide +kernel
theorem dX11_load_128 : decode cX11_load 128 = .ok (.ireturn, 1) := by decide +kernel
theorem dX11_fault_0 : decode cX11_fault 0 = .ok (.aload_n 0, 1) := by decide +kernel
theorem dX11_fault_1 : decode cX11_fault 1 = .ok (.iconst 0, 1) := by decide +kernel
theorem dX11_fault_2 : decode cX11_fault 2 = .ok (.putfield 1, 3) := by decide +kernel
theorem dX11_fault_5 : decode cX11_fault 5 = .ok (.iload_n 1, 1) := by decide +kernel
theorem dX11_fault_6 : decode cX11_fault 6 = .ok (.ifCond .ne 10, 3) := by decide +kernel
theorem dX11_fault_9 : decode cX11_fault 9 = .ok (.aload_n 0, 1) := by decide +kernel
theorem dX11_fault_10 : decode cX11_fault 10 = .ok (.getfield 99, 3) := by decide +kernel
theorem dX11_fault_13 : decode cX11_fault 13 = .ok (.goto 16, 3) := by decide +kernel
theorem dX11_fault_16 : decode cX11_fault 16 = .ok (.iload_n 1, 1) := by decide +kernel
theorem dX11_fault_17 : decode cX11_fault 17 = .ok (.iconst 1, 1) := by decide +kernel
theorem dX11_fault_18 : decode cX11_fault 18 = .ok (.if_icmp .ne 10, 3) := by decide +kernel
theorem dX11_fault_21 : decode cX11_fault 21 = .ok (.aload_n 0, 1) := by decide +kernel
theorem dX11_fault_22 : decode cX11_fault 22 = .ok (.getfield 23, 3) := by decide +kernel
theorem dX11_fault_25 : decode cX11_fault 25 = .ok (.goto 4, 3) := by decide +kernel
theorem dX11_fault_28 : decode cX11_fault 28 = .ok (.iconst (-1), 1) := by decide +kernel
theorem dX11_fault_29 : decode cX11_fault 29 = .ok (.ireturn, 1) := by decide +kernel
theorem dX11_mend_0 : decode cX11_mend 0 = .ok (.aload_n 0, 1) := by decide +kernel
theorem dX11_mend_1 : decode cX11_mend 1 = .ok (.iconst 0, 1) := by decide +kernel
theorem dX11_mend_2 : decode cX11_mend 2 = .ok (.putfield 1, 3) := by decide +kernel
theorem dX11_mend_5 : decode cX11_mend 5 = .ok (.iload_n 1, 1) := by decide +kernel
theorem dX11_mend_6 : decode cX11_mend 6 = .ok (.ifCond .ge 6, 3) := by decide +kernel
theorem dX11_mend_9 : decode cX11_mend 9 = .ok (.bipush (-3), 2) := by decide +kernel
theorem dX11_mend_11 : decode cX11_mend 11 = .ok (.ireturn, 1) := by decide +kernel
theorem dX11_mend_12 : decode cX11_mend 12 = .ok (.iload_n 1, 1) := by decide +kernel
theorem dX11_mend_13 : decode cX11_mend 13 = .ok (.aload_n 0, 1) := by decide +kernel
theorem dX11_mend_14 : decode cX11_mend 14 = .ok (.getfield 102, 3) := by decide +kernel
theorem dX11_mend_17 : decode cX11_mend 17 = .ok (.aload_n 0, 1) := by decide +kernel
theorem dX11_mend_18 : decode cX11_mend 18 = .ok (.getfield 102, 3) := by decide +kernel
theorem dX11_mend_21 : decode cX11_mend 21 = .ok (.sipush 128, 3) := by decide +kernel
theorem dX11_mend_24 : decode cX11_mend 24 = .ok (.irem, 1) := by decide +kernel
theorem dX11_mend_25 : decode cX11_mend 25 = .ok (.isub, 1) := by decide +kernel
theorem dX11_mend_26 : decode cX11_mend 26 = .ok (.if_icmp .lt 5, 3) := by decide +kernel
theorem dX11_mend_29 : decode cX11_mend 29 = .ok (.iconst (-1), 1) := by decide +kernel
theorem dX11_mend_30 : decode cX11_mend 30 = .ok (.ireturn, 1) := by decide +kernel
theorem dX11_mend_31 : decode cX11_mend 31 = .ok (.aload_n 0, 1) := by decide +kernel
theorem dX11_mend_32 : decode cX11_mend 32 = .ok (.iload_n 1, 1) := by decide +kernel
theorem dX11_mend_33 : decode cX11_mend 33 = .ok (.sipush 128, 3) := by decide +kernel
theorem dX11_mend_36 : decode cX11_mend 36 = .ok (.idiv, 1) := by decide +kernel
theorem dX11_mend_37 : decode cX11_mend 37 = .ok (.invokevirtual 115, 3) := by decide +kernel
theorem dX11_mend_40 : decode cX11_mend 40 = .ok (.aload_n 0, 1) := by decide +kernel
theorem dX11_mend_41 : decode cX11_mend 41 = .ok (.getfield 17, 3) := by decide +kernel
theorem dX11_mend_44 : decode cX11_mend 44 = .ok (.iload_n 1, 1) := by decide +kernel
theorem dX11_mend_45 : decode cX11_mend 45 = .ok (.iaload, 1) := by decide +kernel
theorem dX11_mend_46 : decode cX11_mend 46 = .ok (.isub, 1) := by decide +kernel
theorem dX11_mend_47 : decode cX11_mend 47 = .ok (.istore_n 2, 1) := by decide +kernel
theorem dX11_mend_48 : decode cX11_mend 48 = .ok (.sipush 256, 3) := by decide +kernel
theorem dX11_mend_51 : decode cX11_mend 51 = .ok (.iload_n 2, 1) := by decide +kernel
theorem dX11_mend_52 : decode cX11_mend 52 = .ok (.sipush 256, 3) := by decide +kernel
theorem dX11_mend_55 : decode cX11_mend 55 = .ok (.irem, 1) := by decide +kernel
theorem dX11_mend_56 : decode cX11_mend 56 = .ok (.isub, 1) := by decide +kernel
theorem dX11_mend_57 : decode cX11_mend 57 = .ok (.sipush 256, 3) := by decide +kernel
theorem dX11_mend_60 : decode cX11_mend 60 = .ok (.irem, 1) := by decide +kernel
theorem dX11_mend_61 : decode cX11_mend 61 = .ok (.ireturn, 1) := by decide +kernel
theorem dX11_at_0 : decode cX11_at 0 = .ok (.aload_n 0, 1) := by decide +kernel
theorem dX11_at_1 : decode cX11_at 1 = .ok (.getfield 20, 3) := by decide +kernel
theorem dX11_at_4 : decode cX11_at 4 = .ok (.iload_n 1, 1) := by decide +kernel
theorem dX11_at_5 : decode cX11_at 5 = .ok (.iaload, 1) := by decide +kernel
theorem dX11_at_6 : decode cX11_at 6 = .ok (.ireturn, 1) := by decide +kernel
theorem dX11_readsDetailed_0 : decode cX11_readsDetailed 0 = .ok (.bipush 11, 2) := by decide +kernel
theorem dX11_readsDetailed_2 : decode cX11_readsDetailed 2 = .ok (.aload_n 0, 1) := by decide +kernel
theorem dX11_readsDetailed_3 : decode cX11_readsDetailed 3 = .ok (.getfield 137, 3) := by decide +kernel
theorem dX11_readsDetailed_6 : decode cX11_readsDetailed 6 = .ok (.imul, 1) := by decide +kernel
theorem dX11_readsDetailed_7 : decode cX11_readsDetailed 7 = .ok (.istore_n 2, 1) := by decide +kernel
theorem dX11_readsDetailed_8 : decode cX11_readsDetailed 8 = .ok (.aload_n 0, 1) := by decide +kernel
theorem dX11_readsDetailed_9 : decode cX11_readsDetailed 9 = .ok (.iload_n 1, 1) := by decide +kernel
theorem dX11_readsDetailed_10 : decode cX11_readsDetailed 10 = .ok (.bipush 11, 2) := by decide +kernel
theorem dX11_readsDetailed_12 : decode cX11_readsDetailed 12 = .ok (.iadd, 1) := by decide +kernel
theorem dX11_readsDetailed_13 : decode cX11_readsDetailed 13 = .ok (.invokevirtual 140, 3) := by decide +kernel
theorem dX11_readsDetailed_16 : decode cX11_readsDetailed 16 = .ok (.istore_n 3, 1) := by decide +kernel
theorem dX11_readsDetailed_17 : decode cX11_readsDetailed 17 = .ok (.aload_n 0, 1) := by decide +kernel
theorem dX11_readsDetailed_18 : decode cX11_readsDetailed 18 = .ok (.getfield 26, 3) := by decide +kernel
theorem dX11_readsDetailed_21 : decode cX11_readsDetailed 21 = .ok (.iload_n 2, 1) := by decide +kernel
theorem dX11_readsDetailed_22 : decode cX11_readsDetailed 22 = .ok (.bipush 10, 2) := by decide +kernel
theorem dX11_readsDetailed_24 : decode cX11_readsDetailed 24 = .ok (.sipush 256, 3) := by decide +kernel
theorem dX11_readsDetailed_27 : decode cX11_readsDetailed 27 = .ok (.aload_n 0, 1) := by decide +kernel
theorem dX11_readsDetailed_28 : decode cX11_readsDetailed 28 = .ok (.iload_n 1, 1) := by decide +kernel
theorem dX11_readsDetailed_29 : decode cX11_readsDetailed 29 = .ok (.iconst 1, 1) := by decide +kernel
theorem dX11_readsDetailed_30 : decode cX11_readsDetailed 30 = .ok (.iadd, 1) := by decide +kernel
theorem dX11_readsDetailed_31 : decode cX11_readsDetailed 31 = .ok (.invokevirtual 140, 3) := by decide +kernel
theorem dX11_readsDetailed_34 : decode cX11_readsDetailed 34 = .ok (.imul, 1) := by decide +kernel
theorem dX11_readsDetailed_35 : decode cX11_readsDetailed 35 = .ok (.aload_n 0, 1) := by decide +kernel
theorem dX11_readsDetailed_36 : decode cX11_readsDetailed 36 = .ok (.iload_n 1, 1) := by decide +kernel
theorem dX11_readsDetailed_37 : decode cX11_readsDetailed 37 = .ok (.invokevirtual 140, 3) := by decide +kernel
theorem dX11_readsDetailed_40 : decode cX11_readsDetailed 40 = .ok (.iadd, 1) := by decide +kernel
theorem dX11_readsDetailed_41 : decode cX11_readsDetailed 41 = .ok (.imul, 1) := by decide +kernel
theorem dX11_readsDetailed_42 : decode cX11_readsDetailed 42 = .ok (.iastore, 1) := by decide +kernel
theorem dX11_readsDetailed_43 : decode cX11_readsDetailed 43 = .ok (.aload_n 0, 1) := by decide +kernel
theorem dX11_readsDetailed_44 : decode cX11_readsDetailed 44 = .ok (.getfield 26, 3) := by decide +kernel
theorem dX11_readsDetailed_47 : decode cX11_readsDetailed 47 = .ok (.iload_n 2, 1) := by decide +kernel
theorem dX11_readsDetailed_48 : decode cX11_readsDetailed 48 = .ok (.iconst 1, 1) := by decide +kernel
theorem dX11_readsDetailed_49 : decode cX11_readsDetailed 49 = .ok (.iadd, 1) := by decide +kernel
theorem dX11_readsDetailed_50 : decode cX11_readsDetailed 50 = .ok (.aload_n 0, 1) := by decide +kernel
theorem dX11_readsDetailed_51 : decode cX11_readsDetailed 51 = .ok (.iload_n 1, 1) := by decide +kernel
theorem dX11_readsDetailed_52 : decode cX11_readsDetailed 52 = .ok (.iconst 2, 1) := by decide +kernel
theorem dX11_readsDetailed_53 : decode cX11_readsDetailed 53 = .ok (.iadd, 1) := by decide +kernel
theorem dX11_readsDetailed_54 : decode cX11_readsDetailed 54 = .ok (.invokevirtual 140, 3) := by decide +kernel
theorem dX11_readsDetailed_57 : decode cX11_readsDetailed 57 = .ok (.aload_n 0, 1) := by decide +kernel
theorem dX11_readsDetailed_58 : decode cX11_readsDetailed 58 = .ok (.iload_n 1, 1) := by decide +kernel
theorem dX11_readsDetailed_59 : decode cX11_readsDetailed 59 = .ok (.iconst 4, 1) := by decide +kernel
theorem dX11_readsDetailed_60 : decode cX11_readsDetailed 60 = .ok (.iadd, 1) := by decide +kernel
theorem dX11_readsDetailed_61 : decode cX11_readsDetailed 61 = .ok (.invokevirtual 140, 3) := by decide +kernel
theorem dX11_readsDetailed_64 : decode cX11_readsDetailed 64 = .ok (.bipush 16, 2) := by decide +kernel
theorem dX11_readsDetailed_66 : decode cX11_readsDetailed 66 = .ok (.idiv, 1) := by decide +kernel
theorem dX11_readsDetailed_67 : decode cX11_readsDetailed 67 = .ok (.sipush 256, 3) := by decide +kernel
theorem dX11_readsDetailed_70 : decode cX11_readsDetailed 70 = .ok (.imul, 1) := by decide +kernel
theorem dX11_readsDetailed_71 : decode cX11_readsDetailed 71 = .ok (.iadd, 1) := by decide +kernel
theorem dX11_readsDetailed_72 : decode cX11_readsDetailed 72 = .ok (.iastore, 1) := by decide +kernel
theorem dX11_readsDetailed_73 : decode cX11_readsDetailed 73 = .ok (.aload_n 0, 1) := by decide +kernel
theorem dX11_readsDetailed_74 : decode cX11_readsDetailed 74 = .ok (.getfield 26, 3) := by decide +kernel
theorem dX11_readsDetailed_77 : decode cX11_readsDetailed 77 = .ok (.iload_n 2, 1) := by decide +kernel
theorem dX11_readsDetailed_78 : decode cX11_readsDetailed 78 = .ok (.iconst 1, 1) := by decide +kernel
theorem dX11_readsDetailed_79 : decode cX11_readsDetailed 79 = .ok (.iadd, 1) := by decide +kernel
theorem dX11_readsDetailed_80 : decode cX11_readsDetailed 80 = .ok (.iconst 1, 1) := by decide +kernel
theorem dX11_readsDetailed_81 : decode cX11_readsDetailed 81 = .ok (.iadd, 1) := by decide +kernel
theorem dX11_readsDetailed_82 : decode cX11_readsDetailed 82 = .ok (.aload_n 0, 1) := by decide +kernel
theorem dX11_readsDetailed_83 : decode cX11_readsDetailed 83 = .ok (.iload_n 1, 1) := by decide +kernel
theorem dX11_readsDetailed_84 : decode cX11_readsDetailed 84 = .ok (.iconst 3, 1) := by decide +kernel
theorem dX11_readsDetailed_85 : decode cX11_readsDetailed 85 = .ok (.iadd, 1) := by decide +kernel
theorem dX11_readsDetailed_86 : decode cX11_readsDetailed 86 = .ok (.invokevirtual 140, 3) := by decide +kernel
theorem dX11_readsDetailed_89 : decode cX11_readsDetailed 89 = .ok (.aload_n 0, 1) := by decide +kernel
theorem dX11_readsDetailed_90 : decode cX11_readsDetailed 90 = .ok (.iload_n 1, 1) := by decide +kernel
theorem dX11_readsDetailed_91 : decode cX11_readsDetailed 91 = .ok (.iconst 4, 1) := by decide +kernel
theorem dX11_readsDetailed_92 : decode cX11_readsDetailed 92 = .ok (.iadd, 1) := by decide +kernel
theorem dX11_readsDetailed_93 : decode cX11_readsDetailed 93 = .ok (.invokevirtual 140, 3) := by decide +kernel
theorem dX11_readsDetailed_96 : decode cX11_readsDetailed 96 = .ok (.bipush 16, 2) := by decide +kernel
theorem dX11_readsDetailed_98 : decode cX11_readsDetailed 98 = .ok (.irem, 1) := by decide +kernel
theorem dX11_readsDetailed_99 : decode cX11_readsDetailed 99 = .ok (.sipush 256, 3) := by decide +kernel
theorem dX11_readsDetailed_102 : decode cX11_readsDetailed 102 = .ok (.imul, 1) := by decide +kernel
theorem dX11_readsDetailed_103 : decode cX11_readsDetailed 103 = .ok (.iadd, 1) := by decide +kernel
theorem dX11_readsDetailed_104 : decode cX11_readsDetailed 104 = .ok (.iastore, 1) := by decide +kernel
theorem dX11_readsDetailed_105 : decode cX11_readsDetailed 105 = .ok (.aload_n 0, 1) := by decide +kernel
theorem dX11_readsDetailed_106 : decode cX11_readsDetailed 106 = .ok (.getfield 26, 3) := by decide +kernel
theorem dX11_readsDetailed_109 : decode cX11_readsDetailed 109 = .ok (.iload_n 2, 1) := by decide +kernel
theorem dX11_readsDetailed_110 : decode cX11_readsDetailed 110 = .ok (.iconst 1, 1) := by decide +kernel
theorem dX11_readsDetailed_111 : decode cX11_readsDetailed 111 = .ok (.iadd, 1) := by decide +kernel
theorem dX11_readsDetailed_112 : decode cX11_readsDetailed 112 = .ok (.iconst 2, 1) := by decide +kernel
theorem dX11_readsDetailed_113 : decode cX11_readsDetailed 113 = .ok (.iadd, 1) := by decide +kernel
theorem dX11_readsDetailed_114 : decode cX11_readsDetailed 114 = .ok (.aload_n 0, 1) := by decide +kernel
theorem dX11_readsDetailed_115 : decode cX11_readsDetailed 115 = .ok (.iload_n 1, 1) := by decide +kernel
theorem dX11_readsDetailed_116 : decode cX11_readsDetailed 116 = .ok (.bipush 8, 2) := by decide +kernel
theorem dX11_readsDetailed_118 : decode cX11_readsDetailed 118 = .ok (.iadd, 1) := by decide +kernel
theorem dX11_readsDetailed_119 : decode cX11_readsDetailed 119 = .ok (.invokevirtual 140, 3) := by decide +kernel
theorem dX11_readsDetailed_122 : decode cX11_readsDetailed 122 = .ok (.iload_n 3, 1) := by decide +kernel
theorem dX11_readsDetailed_123 : decode cX11_readsDetailed 123 = .ok (.bipush 64, 2) := by decide +kernel
theorem dX11_readsDetailed_125 : decode cX11_readsDetailed 125 = .ok (.idiv, 1) := by decide +kernel
theorem dX11_readsDetailed_126 : decode cX11_readsDetailed 126 = .ok (.sipush 256, 3) := by decide +kernel
theorem dX11_readsDetailed_129 : decode cX11_readsDetailed 129 = .ok (.imul, 1) := by decide +kernel
theorem dX11_readsDetailed_130 : decode cX11_readsDetailed 130 = .ok (.iadd, 1) := by decide +kernel
theorem dX11_readsDetailed_131 : decode cX11_readsDetailed 131 = .ok (.iastore, 1) := by decide +kernel
theorem dX11_readsDetailed_132 : decode cX11_readsDetailed 132 = .ok (.aload_n 0, 1) := by decide +kernel
theorem dX11_readsDetailed_133 : decode cX11_readsDetailed 133 = .ok (.getfield 26, 3) := by decide +kernel
theorem dX11_readsDetailed_136 : decode cX11_readsDetailed 136 = .ok (.iload_n 2, 1) := by decide +kernel
theorem dX11_readsDetailed_137 : decode cX11_readsDetailed 137 = .ok (.iconst 1, 1) := by decide +kernel
theorem dX11_readsDetailed_138 : decode cX11_readsDetailed 138 = .ok (.iadd, 1) := by decide +kernel
theorem dX11_readsDetailed_139 : decode cX11_readsDetailed 139 = .ok (.iconst 3, 1) := by decide +kernel
theorem dX11_readsDetailed_140 : decode cX11_readsDetailed 140 = .ok (.iadd, 1) := by decide +kernel
theorem dX11_readsDetailed_141 : decode cX11_readsDetailed 141 = .ok (.aload_n 0, 1) := by decide +kernel
theorem dX11_readsDetailed_142 : decode cX11_readsDetailed 142 = .ok (.iload_n 1, 1) := by decide +kernel
theorem dX11_readsDetailed_143 : decode cX11_readsDetailed 143 = .ok (.bipush 9, 2) := by decide +kernel
theorem dX11_readsDetailed_145 : decode cX11_readsDetailed 145 = .ok (.iadd, 1) := by decide +kernel
theorem dX11_readsDetailed_146 : decode cX11_readsDetailed 146 = .ok (.invokevirtual 140, 3) := by decide +kernel
theorem dX11_readsDetailed_149 : decode cX11_readsDetailed 149 = .ok (.iload_n 3, 1) := by decide +kernel
theorem dX11_readsDetailed_150 : decode cX11_readsDetailed 150 = .ok (.bipush 16, 2) := by decide +kernel
theorem dX11_readsDetailed_152 : decode cX11_readsDetailed 152 = .ok (.idiv, 1) := by decide +kernel
theorem dX11_readsDetailed_153 : decode cX11_readsDetailed 153 = .ok (.iconst 4, 1) := by decide +kernel
theorem dX11_readsDetailed_154 : decode cX11_readsDetailed 154 = .ok (.irem, 1) := by decide +kernel
theorem dX11_readsDetailed_155 : decode cX11_readsDetailed 155 = .ok (.sipush 256, 3) := by decide +kernel
theorem dX11_readsDetailed_158 : decode cX11_readsDetailed 158 = .ok (.imul, 1) := by decide +kernel
theorem dX11_readsDetailed_159 : decode cX11_readsDetailed 159 = .ok (.iadd, 1) := by decide +kernel
theorem dX11_readsDetailed_160 : decode cX11_readsDetailed 160 = .ok (.iastore, 1) := by decide +kernel
theorem dX11_readsDetailed_161 : decode cX11_readsDetailed 161 = .ok (.aload_n 0, 1) := by decide +kernel
theorem dX11_readsDetailed_162 : decode cX11_readsDetailed 162 = .ok (.getfield 26, 3) := by decide +kernel
theorem dX11_readsDetailed_165 : decode cX11_readsDetailed 165 = .ok (.iload_n 2, 1) := by decide +kernel
theorem dX11_readsDetailed_166 : decode cX11_readsDetailed 166 = .ok (.iconst 5, 1) := by decide +kernel
theorem dX11_readsDetailed_167 : decode cX11_readsDetailed 167 = .ok (.iadd, 1) := by decide +kernel
theorem dX11_readsDetailed_168 : decode cX11_readsDetailed 168 = .ok (.aload_n 0, 1) := by decide +kernel
theorem dX11_readsDetailed_169 : decode cX11_readsDetailed 169 = .ok (.iload_n 1, 1) := by decide +kernel
theorem dX11_readsDetailed_170 : decode cX11_readsDetailed 170 = .ok (.iconst 5, 1) := by decide +kernel
theorem dX11_readsDetailed_171 : decode cX11_readsDetailed 171 = .ok (.iadd, 1) := by decide +kernel
theorem dX11_readsDetailed_172 : decode cX11_readsDetailed 172 = .ok (.invokevirtual 140, 3) := by decide +kernel
theorem dX11_readsDetailed_175 : decode cX11_readsDetailed 175 = .ok (.aload_n 0, 1) := by decide +kernel
theorem dX11_readsDetailed_176 : decode cX11_readsDetailed 176 = .ok (.iload_n 1, 1) := by decide +kernel
theorem dX11_readsDetailed_177 : decode cX11_readsDetailed 177 = .ok (.bipush 7, 2) := by decide +kernel
theorem dX11_readsDetailed_179 : decode cX11_readsDetailed 179 = .ok (.iadd, 1) := by decide +kernel
theorem dX11_readsDetailed_180 : decode cX11_readsDetailed 180 = .ok (.invokevirtual 140, 3) := by decide +kernel
theorem dX11_readsDetailed_183 : decode cX11_readsDetailed 183 = .ok (.bipush 16, 2) := by decide +kernel
theorem dX11_readsDetailed_185 : decode cX11_readsDetailed 185 = .ok (.idiv, 1) := by decide +kernel
theorem dX11_readsDetailed_186 : decode cX11_readsDetailed 186 = .ok (.sipush 256, 3) := by decide +kernel
theorem dX11_readsDetailed_189 : decode cX11_readsDetailed 189 = .ok (.imul, 1) := by decide +kernel
theorem dX11_readsDetailed_190 : decode cX11_readsDetailed 190 = .ok (.iadd, 1) := by decide +kernel
theorem dX11_readsDetailed_191 : decode cX11_readsDetailed 191 = .ok (.iastore, 1) := by decide +kernel
theorem dX11_readsDetailed_192 : decode cX11_readsDetailed 192 = .ok (.aload_n 0, 1) := by decide +kernel
theorem dX11_readsDetailed_193 : decode cX11_readsDetailed 193 = .ok (.getfield 26, 3) := by decide +kernel
theorem dX11_readsDetailed_196 : decode cX11_readsDetailed 196 = .ok (.iload_n 2, 1) := by decide +kernel
theorem dX11_readsDetailed_197 : decode cX11_readsDetailed 197 = .ok (.iconst 5, 1) := by decide +kernel
theorem dX11_readsDetailed_198 : decode cX11_readsDetailed 198 = .ok (.iadd, 1) := by decide +kernel
theorem dX11_readsDetailed_199 : decode cX11_readsDetailed 199 = .ok (.iconst 1, 1) := by decide +kernel
theorem dX11_readsDetailed_200 : decode cX11_readsDetailed 200 = .ok (.iadd, 1) := by decide +kernel
theorem dX11_readsDetailed_201 : decode cX11_readsDetailed 201 = .ok (.aload_n 0, 1) := by decide +kernel
theorem dX11_readsDetailed_202 : decode cX11_readsDetailed 202 = .ok (.iload_n 1, 1) := by decide +kernel
theorem dX11_readsDetailed_203 : decode cX11_readsDetailed 203 = .ok (.bipush 6, 2) := by decide +kernel
theorem dX11_readsDetailed_205 : decode cX11_readsDetailed 205 = .ok (.iadd, 1) := by decide +kernel
theorem dX11_readsDetailed_206 : decode cX11_readsDetailed 206 = .ok (.invokevirtual 140, 3) := by decide +kernel
theorem dX11_readsDetailed_209 : decode cX11_readsDetailed 209 = .ok (.aload_n 0, 1) := by decide +kernel
theorem dX11_readsDetailed_210 : decode cX11_readsDetailed 210 = .ok (.iload_n 1, 1) := by decide +kernel
theorem dX11_readsDetailed_211 : decode cX11_readsDetailed 211 = .ok (.bipush 7, 2) := by decide +kernel
theorem dX11_readsDetailed_213 : decode cX11_readsDetailed 213 = .ok (.iadd, 1) := by decide +kernel
theorem dX11_readsDetailed_214 : decode cX11_readsDetailed 214 = .ok (.invokevirtual 140, 3) := by decide +kernel
theorem dX11_readsDetailed_217 : decode cX11_readsDetailed 217 = .ok (.bipush 16, 2) := by decide +kernel
theorem dX11_readsDetailed_219 : decode cX11_readsDetailed 219 = .ok (.irem, 1) := by decide +kernel
theorem dX11_readsDetailed_220 : decode cX11_readsDetailed 220 = .ok (.sipush 256, 3) := by decide +kernel
theorem dX11_readsDetailed_223 : decode cX11_readsDetailed 223 = .ok (.imul, 1) := by decide +kernel
theorem dX11_readsDetailed_224 : decode cX11_readsDetailed 224 = .ok (.iadd, 1) := by decide +kernel
theorem dX11_readsDetailed_225 : decode cX11_readsDetailed 225 = .ok (.iastore, 1) := by decide +kernel
theorem dX11_readsDetailed_226 : decode cX11_readsDetailed 226 = .ok (.aload_n 0, 1) := by decide +kernel
theorem dX11_readsDetailed_227 : decode cX11_readsDetailed 227 = .ok (.getfield 26, 3) := by decide +kernel
theorem dX11_readsDetailed_230 : decode cX11_readsDetailed 230 = .ok (.iload_n 2, 1) := by decide +kernel
theorem dX11_readsDetailed_231 : decode cX11_readsDetailed 231 = .ok (.iconst 5, 1) := by decide +kernel
theorem dX11_readsDetailed_232 : decode cX11_readsDetailed 232 = .ok (.iadd, 1) := by decide +kernel
theorem dX11_readsDetailed_233 : decode cX11_readsDetailed 233 = .ok (.iconst 2, 1) := by decide +kernel
theorem dX11_readsDetailed_234 : decode cX11_readsDetailed 234 = .ok (.iadd, 1) := by decide +kernel
theorem dX11_readsDetailed_235 : decode cX11_readsDetailed 235 = .ok (.aload_n 0, 1) := by decide +kernel
theorem dX11_readsDetailed_236 : decode cX11_readsDetailed 236 = .ok (.iload_n 1, 1) := by decide +kernel
theorem dX11_readsDetailed_237 : decode cX11_readsDetailed 237 = .ok (.bipush 10, 2) := by decide +kernel
theorem dX11_readsDetailed_239 : decode cX11_readsDetailed 239 = .ok (.iadd, 1) := by decide +kernel
theorem dX11_readsDetailed_240 : decode cX11_readsDetailed 240 = .ok (.invokevirtual 140, 3) := by decide +kernel
theorem dX11_readsDetailed_243 : decode cX11_readsDetailed 243 = .ok (.bipush 16, 2) := by decide +kernel
theorem dX11_readsDetailed_245 : decode cX11_readsDetailed 245 = .ok (.idiv, 1) := by decide +kernel
theorem dX11_readsDetailed_246 : decode cX11_readsDetailed 246 = .ok (.iload_n 3, 1) := by decide +kernel
theorem dX11_readsDetailed_247 : decode cX11_readsDetailed 247 = .ok (.iconst 4, 1) := by decide +kernel
theorem dX11_readsDetailed_248 : decode cX11_readsDetailed 248 = .ok (.idiv, 1) := by decide +kernel
theorem dX11_readsDetailed_249 : decode cX11_readsDetailed 249 = .ok (.iconst 4, 1) := by decide +kernel
theorem dX11_readsDetailed_250 : decode cX11_readsDetailed 250 = .ok (.irem, 1) := by decide +kernel
theorem dX11_readsDetailed_251 : decode cX11_readsDetailed 251 = .ok (.bipush 16, 2) := by decide +kernel
theorem dX11_readsDetailed_253 : decode cX11_readsDetailed 253 = .ok (.imul, 1) := by decide +kernel
theorem dX11_readsDetailed_254 : decode cX11_readsDetailed 254 = .ok (.iadd, 1) := by decide +kernel
theorem dX11_readsDetailed_255 : decode cX11_readsDetailed 255 = .ok (.iastore, 1) := by decide +kernel
theorem dX11_readsDetailed_256 : decode cX11_readsDetailed 256 = .ok (.aload_n 0, 1) := by decide +kernel
theorem dX11_readsDetailed_257 : decode cX11_readsDetailed 257 = .ok (.getfield 26, 3) := by decide +kernel
theorem dX11_readsDetailed_260 : decode cX11_readsDetailed 260 = .ok (.iload_n 2, 1) := by decide +kernel
theorem dX11_readsDetailed_261 : decode cX11_readsDetailed 261 = .ok (.iconst 5, 1) := by decide +kernel
theorem dX11_readsDetailed_262 : decode cX11_readsDetailed 262 = .ok (.iadd, 1) := by decide +kernel
theorem dX11_readsDetailed_263 : decode cX11_readsDetailed 263 = .ok (.iconst 3, 1) := by decide +kernel
theorem dX11_readsDetailed_264 : decode cX11_readsDetailed 264 = .ok (.iadd, 1) := by decide +kernel
theorem dX11_readsDetailed_265 : decode cX11_readsDetailed 265 = .ok (.aload_n 0, 1) := by decide +kernel
theorem dX11_readsDetailed_266 : decode cX11_readsDetailed 266 = .ok (.iload_n 1, 1) := by decide +kernel
theorem dX11_readsDetailed_267 : decode cX11_readsDetailed 267 = .ok (.bipush 10, 2) := by decide +kernel
theorem dX11_readsDetailed_269 : decode cX11_readsDetailed 269 = .ok (.iadd, 1) := by decide +kernel
theorem dX11_readsDetailed_270 : decode cX11_readsDetailed 270 = .ok (.invokevirtual 140, 3) := by decide +kernel
theorem dX11_readsDetailed_273 : decode cX11_readsDetailed 273 = .ok (.bipush 16, 2) := by decide +kernel
theorem dX11_readsDetailed_275 : decode cX11_readsDetailed 275 = .ok (.irem, 1) := by decide +kernel
theorem dX11_readsDetailed_276 : decode cX11_readsDetailed 276 = .ok (.iload_n 3, 1) := by decide +kernel
theorem dX11_readsDetailed_277 : decode cX11_readsDetailed 277 = .ok (.iconst 4, 1) := by decide +kernel
theorem dX11_readsDetailed_278 : decode cX11_readsDetailed 278 = .ok (.irem, 1) := by decide +kernel
theorem dX11_readsDetailed_279 : decode cX11_readsDetailed 279 = .ok (.bipush 16, 2) := by decide +kernel
theorem dX11_readsDetailed_281 : decode cX11_readsDetailed 281 = .ok (.imul, 1) := by decide +kernel
theorem dX11_readsDetailed_282 : decode cX11_readsDetailed 282 = .ok (.iadd, 1) := by decide +kernel
theorem dX11_readsDetailed_283 : decode cX11_readsDetailed 283 = .ok (.iastore, 1) := by decide +kernel
theorem dX11_readsDetailed_284 : decode cX11_readsDetailed 284 = .ok (.aload_n 0, 1) := by decide +kernel
theorem dX11_readsDetailed_285 : decode cX11_readsDetailed 285 = .ok (.getfield 26, 3) := by decide +kernel
theorem dX11_readsDetailed_288 : decode cX11_readsDetailed 288 = .ok (.iload_n 2, 1) := by decide +kernel
theorem dX11_readsDetailed_289 : decode cX11_readsDetailed 289 = .ok (.bipush 9, 2) := by decide +kernel
theorem dX11_readsDetailed_291 : decode cX11_readsDetailed 291 = .ok (.iadd, 1) := by decide +kernel
theorem dX11_readsDetailed_292 : decode cX11_readsDetailed 292 = .ok (.aload_n 0, 1) := by decide +kernel
theorem dX11_readsDetailed_293 : decode cX11_readsDetailed 293 = .ok (.iload_n 1, 1) := by decide +kernel
theorem dX11_readsDetailed_294 : decode cX11_readsDetailed 294 = .ok (.bipush 17, 2) := by decide +kernel
theorem dX11_readsDetailed_296 : decode cX11_readsDetailed 296 = .ok (.iadd, 1) := by decide +kernel
theorem dX11_readsDetailed_297 : decode cX11_readsDetailed 297 = .ok (.invokevirtual 140, 3) := by decide +kernel
theorem dX11_readsDetailed_300 : decode cX11_readsDetailed 300 = .ok (.sipush 128, 3) := by decide +kernel
theorem dX11_readsDetailed_303 : decode cX11_readsDetailed 303 = .ok (.idiv, 1) := by decide +kernel
theorem dX11_readsDetailed_304 : decode cX11_readsDetailed 304 = .ok (.iastore, 1) := by decide +kernel
theorem dX11_readsDetailed_305 : decode cX11_readsDetailed 305 = .ok (.aload_n 0, 1) := by decide +kernel
theorem dX11_readsDetailed_306 : decode cX11_readsDetailed 306 = .ok (.getfield 26, 3) := by decide +kernel
theorem dX11_readsDetailed_309 : decode cX11_readsDetailed 309 = .ok (.iload_n 2, 1) := by decide +kernel
theorem dX11_readsDetailed_310 : decode cX11_readsDetailed 310 = .ok (.bipush 10, 2) := by decide +kernel
theorem dX11_readsDetailed_312 : decode cX11_readsDetailed 312 = .ok (.iadd, 1) := by decide +kernel
theorem dX11_readsDetailed_313 : decode cX11_readsDetailed 313 = .ok (.aload_n 0, 1) := by decide +kernel
theorem dX11_readsDetailed_314 : decode cX11_readsDetailed 314 = .ok (.iload_n 2, 1) := by decide +kernel
theorem dX11_readsDetailed_315 : decode cX11_readsDetailed 315 = .ok (.iconst 1, 1) := by decide +kernel
theorem dX11_readsDetailed_316 : decode cX11_readsDetailed 316 = .ok (.iadd, 1) := by decide +kernel
theorem dX11_readsDetailed_317 : decode cX11_readsDetailed 317 = .ok (.invokevirtual 143, 3) := by decide +kernel
theorem dX11_readsDetailed_320 : decode cX11_readsDetailed 320 = .ok (.ifCond .ne 13, 3) := by decide +kernel
theorem dX11_readsDetailed_323 : decode cX11_readsDetailed 323 = .ok (.aload_n 0, 1) := by decide +kernel
theorem dX11_readsDetailed_324 : decode cX11_readsDetailed 324 = .ok (.iload_n 2, 1) := by decide +kernel
theorem dX11_readsDetailed_325 : decode cX11_readsDetailed 325 = .ok (.iconst 5, 1) := by decide +kernel
theorem dX11_readsDetailed_326 : decode cX11_readsDetailed 326 = .ok (.iadd, 1) := by decide +kernel
theorem dX11_readsDetailed_327 : decode cX11_readsDetailed 327 = .ok (.invokevirtual 143, 3) := by decide +kernel
theorem dX11_readsDetailed_330 : decode cX11_readsDetailed 330 = .ok (.ifCond .eq 7, 3) := by decide +kernel
theorem dX11_readsDetailed_333 : decode cX11_readsDetailed 333 = .ok (.iconst 1, 1) := by decide +kernel
theorem dX11_readsDetailed_334 : decode cX11_readsDetailed 334 = .ok (.goto 4, 3) := by decide +kernel
theorem dX11_readsDetailed_337 : decode cX11_readsDetailed 337 = .ok (.iconst 0, 1) := by decide +kernel
theorem dX11_readsDetailed_338 : decode cX11_readsDetailed 338 = .ok (.iastore, 1) := by decide +kernel
theorem dX11_readsDetailed_339 : decode cX11_readsDetailed 339 = .ok (.aload_n 0, 1) := by decide +kernel
theorem dX11_readsDetailed_340 : decode cX11_readsDetailed 340 = .ok (.dup, 1) := by decide +kernel
theorem dX11_readsDetailed_341 : decode cX11_readsDetailed 341 = .ok (.getfield 137, 3) := by decide +kernel
theorem dX11_readsDetailed_344 : decode cX11_readsDetailed 344 = .ok (.iconst 1, 1) := by decide +kernel
theorem dX11_readsDetailed_345 : decode cX11_readsDetailed 345 = .ok (.iadd, 1) := by decide +kernel
theorem dX11_readsDetailed_346 : decode cX11_readsDetailed 346 = .ok (.putfield 137, 3) := by decide +kernel
theorem dX11_readsDetailed_349 : decode cX11_readsDetailed 349 = .ok (.return_, 1) := by decide +kernel
theorem dX11_isBroken_0 : decode cX11_isBroken 0 = .ok (.aload_n 0, 1) := by decide +kernel
theorem dX11_isBroken_1 : decode cX11_isBroken 1 = .ok (.getfield 26, 3) := by decide +kernel
theorem dX11_isBroken_4 : decode cX11_isBroken 4 = .ok (.iload_n 1, 1) := by decide +kernel
theorem dX11_isBroken_5 : decode cX11_isBroken 5 = .ok (.iaload, 1) := by decide +kernel
theorem dX11_isBroken_6 : decode cX11_isBroken 6 = .ok (.ifCond .eq 31, 3) := by decide +kernel
theorem dX11_isBroken_9 : decode cX11_isBroken 9 = .ok (.aload_n 0, 1) := by decide +kernel
theorem dX11_isBroken_10 : decode cX11_isBroken 10 = .ok (.getfield 26, 3) := by decide +kernel
theorem dX11_isBroken_13 : decode cX11_isBroken 13 = .ok (.iload_n 1, 1) := by decide +kernel
theorem dX11_isBroken_14 : decode cX11_isBroken 14 = .ok (.iconst 2, 1) := by decide +kernel
theorem dX11_isBroken_15 : decode cX11_isBroken 15 = .ok (.iadd, 1) := by decide +kernel
theorem dX11_isBroken_16 : decode cX11_isBroken 16 = .ok (.iaload, 1) := by decide +kernel
theorem dX11_isBroken_17 : decode cX11_isBroken 17 = .ok (.aload_n 0, 1) := by decide +kernel
theorem dX11_isBroken_18 : decode cX11_isBroken 18 = .ok (.getfield 26, 3) := by decide +kernel
theorem dX11_isBroken_21 : decode cX11_isBroken 21 = .ok (.iload_n 1, 1) := by decide +kernel
theorem dX11_isBroken_22 : decode cX11_isBroken 22 = .ok (.iconst 3, 1) := by decide +kernel
theorem dX11_isBroken_23 : decode cX11_isBroken 23 = .ok (.iadd, 1) := by decide +kernel
theorem dX11_isBroken_24 : decode cX11_isBroken 24 = .ok (.iaload, 1) := by decide +kernel
theorem dX11_isBroken_25 : decode cX11_isBroken 25 = .ok (.iadd, 1) := by decide +kernel
theorem dX11_isBroken_26 : decode cX11_isBroken 26 = .ok (.aload_n 0, 1) := by decide +kernel
theorem dX11_isBroken_27 : decode cX11_isBroken 27 = .ok (.getfield 26, 3) := by decide +kernel
theorem dX11_isBroken_30 : decode cX11_isBroken 30 = .ok (.iload_n 1, 1) := by decide +kernel
theorem dX11_isBroken_31 : decode cX11_isBroken 31 = .ok (.iconst 1, 1) := by decide +kernel
theorem dX11_isBroken_32 : decode cX11_isBroken 32 = .ok (.iadd, 1) := by decide +kernel
theorem dX11_isBroken_33 : decode cX11_isBroken 33 = .ok (.iaload, 1) := by decide +kernel
theorem dX11_isBroken_34 : decode cX11_isBroken 34 = .ok (.if_icmp .le 7, 3) := by decide +kernel
theorem dX11_isBroken_37 : decode cX11_isBroken 37 = .ok (.iconst 1, 1) := by decide +kernel
theorem dX11_isBroken_38 : decode cX11_isBroken 38 = .ok (.goto 4, 3) := by decide +kernel
theorem dX11_isBroken_41 : decode cX11_isBroken 41 = .ok (.iconst 0, 1) := by decide +kernel
theorem dX11_isBroken_42 : decode cX11_isBroken 42 = .ok (.ireturn, 1) := by decide +kernel
theorem dX11_isDetailed_0 : decode cX11_isDetailed 0 = .ok (.aload_n 0, 1) := by decide +kernel
theorem dX11_isDetailed_1 : decode cX11_isDetailed 1 = .ok (.iload_n 1, 1) := by decide +kernel
theorem dX11_isDetailed_2 : decode cX11_isDetailed 2 = .ok (.invokevirtual 140, 3) := by decide +kernel
theorem dX11_isDetailed_5 : decode cX11_isDetailed 5 = .ok (.aload_n 0, 1) := by decide +kernel
theorem dX11_isDetailed_6 : decode cX11_isDetailed 6 = .ok (.iload_n 1, 1) := by decide +kernel
theorem dX11_isDetailed_7 : decode cX11_isDetailed 7 = .ok (.iconst 1, 1) := by decide +kernel
theorem dX11_isDetailed_8 : decode cX11_isDetailed 8 = .ok (.iadd, 1) := by decide +kernel
theorem dX11_isDetailed_9 : decode cX11_isDetailed 9 = .ok (.invokevirtual 140, 3) := by decide +kernel
theorem dX11_isDetailed_12 : decode cX11_isDetailed 12 = .ok (.iadd, 1) := by decide +kernel
theorem dX11_isDetailed_13 : decode cX11_isDetailed 13 = .ok (.ifCond .le 7, 3) := by decide +kernel
theorem dX11_isDetailed_16 : decode cX11_isDetailed 16 = .ok (.iconst 1, 1) := by decide +kernel
theorem dX11_isDetailed_17 : decode cX11_isDetailed 17 = .ok (.goto 4, 3) := by decide +kernel
theorem dX11_isDetailed_20 : decode cX11_isDetailed 20 = .ok (.iconst 0, 1) := by decide +kernel
theorem dX11_isDetailed_21 : decode cX11_isDetailed 21 = .ok (.ireturn, 1) := by decide +kernel
theorem dX11_readsOther_0 : decode cX11_readsOther 0 = .ok (.aload_n 0, 1) := by decide +kernel
theorem dX11_readsOther_1 : decode cX11_readsOther 1 = .ok (.iload_n 1, 1) := by decide +kernel
theorem dX11_readsOther_2 : decode cX11_readsOther 2 = .ok (.iconst 3, 1) := by decide +kernel
theorem dX11_readsOther_3 : decode cX11_readsOther 3 = .ok (.iadd, 1) := by decide +kernel
theorem dX11_readsOther_4 : decode cX11_readsOther 4 = .ok (.invokevirtual 140, 3) := by decide +kernel
theorem dX11_readsOther_7 : decode cX11_readsOther 7 = .ok (.sipush 252, 3) := by decide +kernel
theorem dX11_readsOther_10 : decode cX11_readsOther 10 = .ok (.if_icmp .ne 95, 3) := by decide +kernel
theorem dX11_readsOther_13 : decode cX11_readsOther 13 = .ok (.aload_n 0, 1) := by decide +kernel
theorem dX11_readsOther_14 : decode cX11_readsOther 14 = .ok (.iconst 0, 1) := by decide +kernel
theorem dX11_readsOther_15 : decode cX11_readsOther 15 = .ok (.putfield 147, 3) := by decide +kernel
theorem dX11_readsOther_18 : decode cX11_readsOther 18 = .ok (.iconst 5, 1) := by decide +kernel
theorem dX11_readsOther_19 : decode cX11_readsOther 19 = .ok (.istore_n 2, 1) := by decide +kernel
theorem dX11_readsOther_20 : decode cX11_readsOther 20 = .ok (.iload_n 2, 1) := by decide +kernel
theorem dX11_readsOther_21 : decode cX11_readsOther 21 = .ok (.bipush 18, 2) := by decide +kernel
theorem dX11_readsOther_23 : decode cX11_readsOther 23 = .ok (.if_icmp .ge 82, 3) := by decide +kernel
theorem dX11_readsOther_26 : decode cX11_readsOther 26 = .ok (.aload_n 0, 1) := by decide +kernel
theorem dX11_readsOther_27 : decode cX11_readsOther 27 = .ok (.iload_n 1, 1) := by decide +kernel
theorem dX11_readsOther_28 : decode cX11_readsOther 28 = .ok (.iload_n 2, 1) := by decide +kernel
theorem dX11_readsOther_29 : decode cX11_readsOther 29 = .ok (.iadd, 1) := by decide +kernel
theorem dX11_readsOther_30 : decode cX11_readsOther 30 = .ok (.invokevirtual 140, 3) := by decide +kernel
theorem dX11_readsOther_33 : decode cX11_readsOther 33 = .ok (.bipush 10, 2) := by decide +kernel
theorem dX11_readsOther_35 : decode cX11_readsOther 35 = .ok (.if_icmp .eq 70, 3) := by decide +kernel
theorem dX11_readsOther_38 : decode cX11_readsOther 38 = .ok (.aload_n 0, 1) := by decide +kernel
theorem dX11_readsOther_39 : decode cX11_readsOther 39 = .ok (.iload_n 1, 1) := by decide +kernel
theorem dX11_readsOther_40 : decode cX11_readsOther 40 = .ok (.iload_n 2, 1) := by decide +kernel
theorem dX11_readsOther_41 : decode cX11_readsOther 41 = .ok (.iadd, 1) := by decide +kernel
theorem dX11_readsOther_42 : decode cX11_readsOther 42 = .ok (.invokevirtual 140, 3) := by decide +kernel
theorem dX11_readsOther_45 : decode cX11_readsOther 45 = .ok (.ifCond .eq 60, 3) := by decide +kernel
theorem dX11_readsOther_48 : decode cX11_readsOther 48 = .ok (.aload_n 0, 1) := by decide +kernel
theorem dX11_readsOther_49 : decode cX11_readsOther 49 = .ok (.getfield 29, 3) := by decide +kernel
theorem dX11_readsOther_52 : decode cX11_readsOther 52 = .ok (.aload_n 0, 1) := by decide +kernel
theorem dX11_readsOther_53 : decode cX11_readsOther 53 = .ok (.getfield 147, 3) := by decide +kernel
theorem dX11_readsOther_56 : decode cX11_readsOther 56 = .ok (.aload_n 0, 1) := by decide +kernel
theorem dX11_readsOther_57 : decode cX11_readsOther 57 = .ok (.iload_n 1, 1) := by decide +kernel
theorem dX11_readsOther_58 : decode cX11_readsOther 58 = .ok (.iload_n 2, 1) := by decide +kernel
theorem dX11_readsOther_59 : decode cX11_readsOther 59 = .ok (.iadd, 1) := by decide +kernel
theorem dX11_readsOther_60 : decode cX11_readsOther 60 = .ok (.invokevirtual 140, 3) := by decide +kernel
theorem dX11_readsOther_63 : decode cX11_readsOther 63 = .ok (.i2l, 1) := by decide +kernel
theorem dX11_readsOther_64 : decode cX11_readsOther 64 = .ok (.ldc2_w 150, 3) := by decide +kernel
theorem dX11_readsOther_67 : decode cX11_readsOther 67 = .ok (.ldc2_w 152, 3) := by decide +kernel
theorem dX11_readsOther_70 : decode cX11_readsOther 70 = .ok (.invokestatic 107, 3) := by decide +kernel
theorem dX11_readsOther_73 : decode cX11_readsOther 73 = .ok (.ifCond .eq 13, 3) := by decide +kernel
theorem dX11_readsOther_76 : decode cX11_readsOther 76 = .ok (.aload_n 0, 1) := by decide +kernel
theorem dX11_readsOther_77 : decode cX11_readsOther 77 = .ok (.iload_n 1, 1) := by decide +kernel
theorem dX11_readsOther_78 : decode cX11_readsOther 78 = .ok (.iload_n 2, 1) := by decide +kernel
theorem dX11_readsOther_79 : decode cX11_readsOther 79 = .ok (.iadd, 1) := by decide +kernel
theorem dX11_readsOther_80 : decode cX11_readsOther 80 = .ok (.invokevirtual 140, 3) := by decide +kernel
theorem dX11_readsOther_83 : decode cX11_readsOther 83 = .ok (.goto 5, 3) := by decide +kernel
theorem dX11_readsOther_86 : decode cX11_readsOther 86 = .ok (.bipush 63, 2) := by decide +kernel
theorem dX11_readsOther_88 : decode cX11_readsOther 88 = .ok (.iastore, 1) := by decide +kernel
theorem dX11_readsOther_89 : decode cX11_readsOther 89 = .ok (.aload_n 0, 1) := by decide +kernel
theorem dX11_readsOther_90 : decode cX11_readsOther 90 = .ok (.dup, 1) := by decide +kernel
theorem dX11_readsOther_91 : decode cX11_readsOther 91 = .ok (.getfield 147, 3) := by decide +kernel
theorem dX11_readsOther_94 : decode cX11_readsOther 94 = .ok (.iconst 1, 1) := by decide +kernel
theorem dX11_readsOther_95 : decode cX11_readsOther 95 = .ok (.iadd, 1) := by decide +kernel
theorem dX11_readsOther_96 : decode cX11_readsOther 96 = .ok (.putfield 147, 3) := by decide +kernel
theorem dX11_readsOther_99 : decode cX11_readsOther 99 = .ok (.iinc 2 1, 3) := by decide +kernel
theorem dX11_readsOther_102 : decode cX11_readsOther 102 = .ok (.goto (-82), 3) := by decide +kernel
theorem dX11_readsOther_105 : decode cX11_readsOther 105 = .ok (.aload_n 0, 1) := by decide +kernel
theorem dX11_readsOther_106 : decode cX11_readsOther 106 = .ok (.iload_n 1, 1) := by decide +kernel
theorem dX11_readsOther_107 : decode cX11_readsOther 107 = .ok (.iconst 3, 1) := by decide +kernel
theorem dX11_readsOther_108 : decode cX11_readsOther 108 = .ok (.iadd, 1) := by decide +kernel
theorem dX11_readsOther_109 : decode cX11_readsOther 109 = .ok (.invokevirtual 140, 3) := by decide +kernel
theorem dX11_readsOther_112 : decode cX11_readsOther 112 = .ok (.sipush 253, 3) := by decide +kernel
theorem dX11_readsOther_115 : decode cX11_readsOther 115 = .ok (.if_icmp .ne 54, 3) := by decide +kernel
theorem dX11_readsOther_118 : decode cX11_readsOther 118 = .ok (.aload_n 0, 1) := by decide +kernel
theorem dX11_readsOther_119 : decode cX11_readsOther 119 = .ok (.iconst 1, 1) := by decide +kernel
theorem dX11_readsOther_120 : decode cX11_readsOther 120 = .ok (.putfield 154, 3) := by decide +kernel
theorem dX11_readsOther_123 : decode cX11_readsOther 123 = .ok (.iconst 0, 1) := by decide +kernel
theorem dX11_readsOther_124 : decode cX11_readsOther 124 = .ok (.istore_n 2, 1) := by decide +kernel
theorem dX11_readsOther_125 : decode cX11_readsOther 125 = .ok (.iload_n 2, 1) := by decide +kernel
theorem dX11_readsOther_126 : decode cX11_readsOther 126 = .ok (.iconst 4, 1) := by decide +kernel
theorem dX11_readsOther_127 : decode cX11_readsOther 127 = .ok (.if_icmp .ge 24, 3) := by decide +kernel
theorem dX11_readsOther_130 : decode cX11_readsOther 130 = .ok (.aload_n 0, 1) := by decide +kernel
theorem dX11_readsOther_131 : decode cX11_readsOther 131 = .ok (.getfield 32, 3) := by decide +kernel
theorem dX11_readsOther_134 : decode cX11_readsOther 134 = .ok (.iload_n 2, 1) := by decide +kernel
theorem dX11_readsOther_135 : decode cX11_readsOther 135 = .ok (.aload_n 0, 1) := by decide +kernel
theorem dX11_readsOther_136 : decode cX11_readsOther 136 = .ok (.iload_n 1, 1) := by decide +kernel
theorem dX11_readsOther_137 : decode cX11_readsOther 137 = .ok (.iconst 5, 1) := by decide +kernel
theorem dX11_readsOther_138 : decode cX11_readsOther 138 = .ok (.iadd, 1) := by decide +kernel
theorem dX11_readsOther_139 : decode cX11_readsOther 139 = .ok (.iload_n 2, 1) := by decide +kernel
theorem dX11_readsOther_140 : decode cX11_readsOther 140 = .ok (.iadd, 1) := by decide +kernel
theorem dX11_readsOther_141 : decode cX11_readsOther 141 = .ok (.invokevirtual 140, 3) := by decide +kernel
theorem dX11_readsOther_144 : decode cX11_readsOther 144 = .ok (.iastore, 1) := by decide +kernel
theorem dX11_readsOther_145 : decode cX11_readsOther 145 = .ok (.iinc 2 1, 3) := by decide +kernel
theorem dX11_readsOther_148 : decode cX11_readsOther 148 = .ok (.goto (-23), 3) := by decide +kernel
theorem dX11_readsOther_151 : decode cX11_readsOther 151 = .ok (.aload_n 0, 1) := by decide +kernel
theorem dX11_readsOther_152 : decode cX11_readsOther 152 = .ok (.getfield 32, 3) := by decide +kernel
theorem dX11_readsOther_155 : decode cX11_readsOther 155 = .ok (.iconst 4, 1) := by decide +kernel
theorem dX11_readsOther_156 : decode cX11_readsOther 156 = .ok (.sipush 10000, 3) := by decide +kernel
theorem dX11_readsOther_159 : decode cX11_readsOther 159 = .ok (.aload_n 0, 1) := by decide +kernel
theorem dX11_readsOther_160 : decode cX11_readsOther 160 = .ok (.iload_n 1, 1) := by decide +kernel
theorem dX11_readsOther_161 : decode cX11_readsOther 161 = .ok (.bipush 9, 2) := by decide +kernel
theorem dX11_readsOther_163 : decode cX11_readsOther 163 = .ok (.iadd, 1) := by decide +kernel
theorem dX11_readsOther_164 : decode cX11_readsOther 164 = .ok (.invokevirtual 140, 3) := by decide +kernel
theorem dX11_readsOther_167 : decode cX11_readsOther 167 = .ok (.imul, 1) := by decide +kernel
theorem dX11_readsOther_168 : decode cX11_readsOther 168 = .ok (.iastore, 1) := by decide +kernel
theorem dX11_readsOther_169 : decode cX11_readsOther 169 = .ok (.return_, 1) := by decide +kernel
theorem dX11_readsData_0 : decode cX11_readsData 0 = .ok (.aload_n 0, 1) := by decide +kernel
theorem dX11_readsData_1 : decode cX11_readsData 1 = .ok (.iload_n 1, 1) := by decide +kernel
theorem dX11_readsData_2 : decode cX11_readsData 2 = .ok (.invokevirtual 140, 3) := by decide +kernel
theorem dX11_readsData_5 : decode cX11_readsData 5 = .ok (.bipush 32, 2) := by decide +kernel
theorem dX11_readsData_7 : decode cX11_readsData 7 = .ok (.idiv, 1) := by decide +kernel
theorem dX11_readsData_8 : decode cX11_readsData 8 = .ok (.istore_n 3, 1) := by decide +kernel
theorem dX11_readsData_9 : decode cX11_readsData 9 = .ok (.iload_n 3, 1) := by decide +kernel
theorem dX11_readsData_10 : decode cX11_readsData 10 = .ok (.iconst 1, 1) := by decide +kernel
theorem dX11_readsData_11 : decode cX11_readsData 11 = .ok (.if_icmp .ne 15, 3) := by decide +kernel
theorem dX11_readsData_14 : decode cX11_readsData 14 = .ok (.aload_n 0, 1) := by decide +kernel
theorem dX11_readsData_15 : decode cX11_readsData 15 = .ok (.dup, 1) := by decide +kernel
theorem dX11_readsData_16 : decode cX11_readsData 16 = .ok (.getfield 158, 3) := by decide +kernel
theorem dX11_readsData_19 : decode cX11_readsData 19 = .ok (.iload_n 2, 1) := by decide +kernel
theorem dX11_readsData_20 : decode cX11_readsData 20 = .ok (.iconst 3, 1) := by decide +kernel
theorem dX11_readsData_21 : decode cX11_readsData 21 = .ok (.idiv, 1) := by decide +kernel
theorem dX11_readsData_22 : decode cX11_readsData 22 = .ok (.iadd, 1) := by decide +kernel
theorem dX11_readsData_23 : decode cX11_readsData 23 = .ok (.putfield 158, 3) := by decide +kernel
theorem dX11_readsData_26 : decode cX11_readsData 26 = .ok (.iconst 1, 1) := by decide +kernel
theorem dX11_readsData_27 : decode cX11_readsData 27 = .ok (.istore 4, 2) := by decide +kernel
theorem dX11_readsData_29 : decode cX11_readsData 29 = .ok (.iload 4, 2) := by decide +kernel
theorem dX11_readsData_31 : decode cX11_readsData 31 = .ok (.iload_n 2, 1) := by decide +kernel
theorem dX11_readsData_32 : decode cX11_readsData 32 = .ok (.if_icmp .gt 45, 3) := by decide +kernel
theorem dX11_readsData_35 : decode cX11_readsData 35 = .ok (.iload_n 3, 1) := by decide +kernel
theorem dX11_readsData_36 : decode cX11_readsData 36 = .ok (.iconst 2, 1) := by decide +kernel
theorem dX11_readsData_37 : decode cX11_readsData 37 = .ok (.if_icmp .ne 40, 3) := by decide +kernel
theorem dX11_readsData_40 : decode cX11_readsData 40 = .ok (.aload_n 0, 1) := by decide +kernel
theorem dX11_readsData_41 : decode cX11_readsData 41 = .ok (.getfield 35, 3) := by decide +kernel
theorem dX11_readsData_44 : decode cX11_readsData 44 = .ok (.aload_n 0, 1) := by decide +kernel
theorem dX11_readsData_45 : decode cX11_readsData 45 = .ok (.getfield 161, 3) := by decide +kernel
theorem dX11_readsData_48 : decode cX11_readsData 48 = .ok (.aload_n 0, 1) := by decide +kernel
theorem dX11_readsData_49 : decode cX11_readsData 49 = .ok (.iload_n 1, 1) := by decide +kernel
theorem dX11_readsData_50 : decode cX11_readsData 50 = .ok (.iload 4, 2) := by decide +kernel
theorem dX11_readsData_52 : decode cX11_readsData 52 = .ok (.iadd, 1) := by decide +kernel
theorem dX11_readsData_53 : decode cX11_readsData 53 = .ok (.invokevirtual 140, 3) := by decide +kernel
theorem dX11_readsData_56 : decode cX11_readsData 56 = .ok (.sipush 128, 3) := by decide +kernel
theorem dX11_readsData_59 : decode cX11_readsData 59 = .ok (.irem, 1) := by decide +kernel
theorem dX11_readsData_60 : decode cX11_readsData 60 = .ok (.iastore, 1) := by decide +kernel
theorem dX11_readsData_61 : decode cX11_readsData 61 = .ok (.aload_n 0, 1) := by decide +kernel
theorem dX11_readsData_62 : decode cX11_readsData 62 = .ok (.dup, 1) := by decide +kernel
theorem dX11_readsData_63 : decode cX11_readsData 63 = .ok (.getfield 161, 3) := by decide +kernel
theorem dX11_readsData_66 : decode cX11_readsData 66 = .ok (.iconst 1, 1) := by decide +kernel
theorem dX11_readsData_67 : decode cX11_readsData 67 = .ok (.iadd, 1) := by decide +kernel
theorem dX11_readsData_68 : decode cX11_readsData 68 = .ok (.putfield 161, 3) := by decide +kernel
theorem dX11_readsData_71 : decode cX11_readsData 71 = .ok (.iinc 4 1, 3) := by decide +kernel
theorem dX11_readsData_74 : decode cX11_readsData 74 = .ok (.goto (-45), 3) := by decide +kernel
theorem dX11_readsData_77 : decode cX11_readsData 77 = .ok (.iload_n 3, 1) := by decide +kernel
theorem dX11_readsData_78 : decode cX11_readsData 78 = .ok (.iconst 3, 1) := by decide +kernel
theorem dX11_readsData_79 : decode cX11_readsData 79 = .ok (.if_icmp .ne 58, 3) := by decide +kernel
theorem dX11_readsData_82 : decode cX11_readsData 82 = .ok (.iload_n 2, 1) := by decide +kernel
theorem dX11_readsData_83 : decode cX11_readsData 83 = .ok (.bipush 7, 2) := by decide +kernel
theorem dX11_readsData_85 : decode cX11_readsData 85 = .ok (.if_icmp .lt 52, 3) := by decide +kernel
theorem dX11_readsData_88 : decode cX11_readsData 88 = .ok (.aload_n 0, 1) := by decide +kernel
theorem dX11_readsData_89 : decode cX11_readsData 89 = .ok (.iload_n 1, 1) := by decide +kernel
theorem dX11_readsData_90 : decode cX11_readsData 90 = .ok (.iconst 1, 1) := by decide +kernel
theorem dX11_readsData_91 : decode cX11_readsData 91 = .ok (.iadd, 1) := by decide +kernel
theorem dX11_readsData_92 : decode cX11_readsData 92 = .ok (.invokevirtual 140, 3) := by decide +kernel
theorem dX11_readsData_95 : decode cX11_readsData 95 = .ok (.iconst 3, 1) := by decide +kernel
theorem dX11_readsData_96 : decode cX11_readsData 96 = .ok (.if_icmp .ne 41, 3) := by decide +kernel
theorem dX11_readsData_99 : decode cX11_readsData 99 = .ok (.aload_n 0, 1) := by decide +kernel
theorem dX11_readsData_100 : decode cX11_readsData 100 = .ok (.iload_n 1, 1) := by decide +kernel
theorem dX11_readsData_101 : decode cX11_readsData 101 = .ok (.iconst 2, 1) := by decide +kernel
theorem dX11_readsData_102 : decode cX11_readsData 102 = .ok (.iadd, 1) := by decide +kernel
theorem dX11_readsData_103 : decode cX11_readsData 103 = .ok (.invokevirtual 140, 3) := by decide +kernel
theorem dX11_readsData_106 : decode cX11_readsData 106 = .ok (.bipush 12, 2) := by decide +kernel
theorem dX11_readsData_108 : decode cX11_readsData 108 = .ok (.if_icmp .ne 29, 3) := by decide +kernel
theorem dX11_readsData_111 : decode cX11_readsData 111 = .ok (.aload_n 0, 1) := by decide +kernel
theorem dX11_readsData_112 : decode cX11_readsData 112 = .ok (.iload_n 1, 1) := by decide +kernel
theorem dX11_readsData_113 : decode cX11_readsData 113 = .ok (.iconst 3, 1) := by decide +kernel
theorem dX11_readsData_114 : decode cX11_readsData 114 = .ok (.iadd, 1) := by decide +kernel
theorem dX11_readsData_115 : decode cX11_readsData 115 = .ok (.invokevirtual 140, 3) := by decide +kernel
theorem dX11_readsData_118 : decode cX11_readsData 118 = .ok (.ifCond .ne 19, 3) := by decide +kernel
theorem dX11_readsData_121 : decode cX11_readsData 121 = .ok (.aload_n 0, 1) := by decide +kernel
theorem dX11_readsData_122 : decode cX11_readsData 122 = .ok (.sipush 5000, 3) := by decide +kernel
theorem dX11_readsData_125 : decode cX11_readsData 125 = .ok (.aload_n 0, 1) := by decide +kernel
theorem dX11_readsData_126 : decode cX11_readsData 126 = .ok (.iload_n 1, 1) := by decide +kernel
theorem dX11_readsData_127 : decode cX11_readsData 127 = .ok (.bipush 7, 2) := by decide +kernel
theorem dX11_readsData_129 : decode cX11_readsData 129 = .ok (.iadd, 1) := by decide +kernel
theorem dX11_readsData_130 : decode cX11_readsData 130 = .ok (.invokevirtual 140, 3) := by decide +kernel
theorem dX11_readsData_133 : decode cX11_readsData 133 = .ok (.imul, 1) := by decide +kernel
theorem dX11_readsData_134 : decode cX11_readsData 134 = .ok (.putfield 164, 3) := by decide +kernel
theorem dX11_readsData_137 : decode cX11_readsData 137 = .ok (.return_, 1) := by decide +kernel
theorem dX11_readsAll_0 : decode cX11_readsAll 0 = .ok (.aload_n 0, 1) := by decide +kernel
theorem dX11_readsAll_1 : decode cX11_readsAll 1 = .ok (.iconst 0, 1) := by decide +kernel
theorem dX11_readsAll_2 : decode cX11_readsAll 2 = .ok (.putfield 137, 3) := by decide +kernel
theorem dX11_readsAll_5 : decode cX11_readsAll 5 = .ok (.aload_n 0, 1) := by decide +kernel
theorem dX11_readsAll_6 : decode cX11_readsAll 6 = .ok (.iconst 0, 1) := by decide +kernel
theorem dX11_readsAll_7 : decode cX11_readsAll 7 = .ok (.putfield 147, 3) := by decide +kernel
theorem dX11_readsAll_10 : decode cX11_readsAll 10 = .ok (.aload_n 0, 1) := by decide +kernel
theorem dX11_readsAll_11 : decode cX11_readsAll 11 = .ok (.iconst 0, 1) := by decide +kernel
theorem dX11_readsAll_12 : decode cX11_readsAll 12 = .ok (.putfield 164, 3) := by decide +kernel
theorem dX11_readsAll_15 : decode cX11_readsAll 15 = .ok (.aload_n 0, 1) := by decide +kernel
theorem dX11_readsAll_16 : decode cX11_readsAll 16 = .ok (.iconst 0, 1) := by decide +kernel
theorem dX11_readsAll_17 : decode cX11_readsAll 17 = .ok (.putfield 158, 3) := by decide +kernel
theorem dX11_readsAll_20 : decode cX11_readsAll 20 = .ok (.aload_n 0, 1) := by decide +kernel
theorem dX11_readsAll_21 : decode cX11_readsAll 21 = .ok (.iconst 0, 1) := by decide +kernel
theorem dX11_readsAll_22 : decode cX11_readsAll 22 = .ok (.putfield 161, 3) := by decide +kernel
theorem dX11_readsAll_25 : decode cX11_readsAll 25 = .ok (.aload_n 0, 1) := by decide +kernel
theorem dX11_readsAll_26 : decode cX11_readsAll 26 = .ok (.iconst 0, 1) := by decide +kernel
theorem dX11_readsAll_27 : decode cX11_readsAll 27 = .ok (.putfield 154, 3) := by decide +kernel
theorem dX11_readsAll_30 : decode cX11_readsAll 30 = .ok (.bipush 54, 2) := by decide +kernel
theorem dX11_readsAll_32 : decode cX11_readsAll 32 = .ok (.istore_n 1, 1) := by decide +kernel
theorem dX11_readsAll_33 : decode cX11_readsAll 33 = .ok (.iload_n 1, 1) := by decide +kernel
theorem dX11_readsAll_34 : decode cX11_readsAll 34 = .ok (.bipush 126, 2) := by decide +kernel
theorem dX11_readsAll_36 : decode cX11_readsAll 36 = .ok (.if_icmp .ge 30, 3) := by decide +kernel
theorem dX11_readsAll_39 : decode cX11_readsAll 39 = .ok (.aload_n 0, 1) := by decide +kernel
theorem dX11_readsAll_40 : decode cX11_readsAll 40 = .ok (.iload_n 1, 1) := by decide +kernel
theorem dX11_readsAll_41 : decode cX11_readsAll 41 = .ok (.invokevirtual 167, 3) := by decide +kernel
theorem dX11_readsAll_44 : decode cX11_readsAll 44 = .ok (.ifCond .eq 11, 3) := by decide +kernel
theorem dX11_readsAll_47 : decode cX11_readsAll 47 = .ok (.aload_n 0, 1) := by decide +kernel
theorem dX11_readsAll_48 : decode cX11_readsAll 48 = .ok (.iload_n 1, 1) := by decide +kernel
theorem dX11_readsAll_49 : decode cX11_readsAll 49 = .ok (.invokevirtual 170, 3) := by decide +kernel
theorem dX11_readsAll_52 : decode cX11_readsAll 52 = .ok (.goto 8, 3) := by decide +kernel
theorem dX11_readsAll_55 : decode cX11_readsAll 55 = .ok (.aload_n 0, 1) := by decide +kernel
theorem dX11_readsAll_56 : decode cX11_readsAll 56 = .ok (.iload_n 1, 1) := by decide +kernel
theorem dX11_readsAll_57 : decode cX11_readsAll 57 = .ok (.invokevirtual 173, 3) := by decide +kernel
theorem dX11_readsAll_60 : decode cX11_readsAll 60 = .ok (.iinc 1 18, 3) := by decide +kernel
theorem dX11_readsAll_63 : decode cX11_readsAll 63 = .ok (.goto (-30), 3) := by decide +kernel
theorem dX11_readsAll_66 : decode cX11_readsAll 66 = .ok (.aload_n 0, 1) := by decide +kernel
theorem dX11_readsAll_67 : decode cX11_readsAll 67 = .ok (.aload_n 0, 1) := by decide +kernel
theorem dX11_readsAll_68 : decode cX11_readsAll 68 = .ok (.getfield 137, 3) := by decide +kernel
theorem dX11_readsAll_71 : decode cX11_readsAll 71 = .ok (.putfield 176, 3) := by decide +kernel
theorem dX11_readsAll_74 : decode cX11_readsAll 74 = .ok (.iconst 1, 1) := by decide +kernel
theorem dX11_readsAll_75 : decode cX11_readsAll 75 = .ok (.istore_n 1, 1) := by decide +kernel
theorem dX11_readsAll_76 : decode cX11_readsAll 76 = .ok (.iload_n 1, 1) := by decide +kernel
theorem dX11_readsAll_77 : decode cX11_readsAll 77 = .ok (.aload_n 0, 1) := by decide +kernel
theorem dX11_readsAll_78 : decode cX11_readsAll 78 = .ok (.getfield 128, 3) := by decide +kernel
theorem dX11_readsAll_81 : decode cX11_readsAll 81 = .ok (.if_icmp .ge 117, 3) := by decide +kernel
theorem dX11_readsAll_84 : decode cX11_readsAll 84 = .ok (.sipush 128, 3) := by decide +kernel
theorem dX11_readsAll_87 : decode cX11_readsAll 87 = .ok (.iload_n 1, 1) := by decide +kernel
theorem dX11_readsAll_88 : decode cX11_readsAll 88 = .ok (.imul, 1) := by decide +kernel
theorem dX11_readsAll_89 : decode cX11_readsAll 89 = .ok (.istore_n 2, 1) := by decide +kernel
theorem dX11_readsAll_90 : decode cX11_readsAll 90 = .ok (.aload_n 0, 1) := by decide +kernel
theorem dX11_readsAll_91 : decode cX11_readsAll 91 = .ok (.iload_n 2, 1) := by decide +kernel
theorem dX11_readsAll_92 : decode cX11_readsAll 92 = .ok (.iconst 2, 1) := by decide +kernel
theorem dX11_readsAll_93 : decode cX11_readsAll 93 = .ok (.iadd, 1) := by decide +kernel
theorem dX11_readsAll_94 : decode cX11_readsAll 94 = .ok (.invokevirtual 140, 3) := by decide +kernel
theorem dX11_readsAll_97 : decode cX11_readsAll 97 = .ok (.istore_n 3, 1) := by decide +kernel
theorem dX11_readsAll_98 : decode cX11_readsAll 98 = .ok (.iconst 4, 1) := by decide +kernel
theorem dX11_readsAll_99 : decode cX11_readsAll 99 = .ok (.istore 4, 2) := by decide +kernel
theorem dX11_readsAll_101 : decode cX11_readsAll 101 = .ok (.iload 4, 2) := by decide +kernel
theorem dX11_readsAll_103 : decode cX11_readsAll 103 = .ok (.iload_n 3, 1) := by decide +kernel
theorem dX11_readsAll_104 : decode cX11_readsAll 104 = .ok (.if_icmp .ge 43, 3) := by decide +kernel
theorem dX11_readsAll_107 : decode cX11_readsAll 107 = .ok (.aload_n 0, 1) := by decide +kernel
theorem dX11_readsAll_108 : decode cX11_readsAll 108 = .ok (.iload_n 2, 1) := by decide +kernel
theorem dX11_readsAll_109 : decode cX11_readsAll 109 = .ok (.iload 4, 2) := by decide +kernel
theorem dX11_readsAll_111 : decode cX11_readsAll 111 = .ok (.iadd, 1) := by decide +kernel
theorem dX11_readsAll_112 : decode cX11_readsAll 112 = .ok (.aload_n 0, 1) := by decide +kernel
theorem dX11_readsAll_113 : decode cX11_readsAll 113 = .ok (.iload_n 2, 1) := by decide +kernel
theorem dX11_readsAll_114 : decode cX11_readsAll 114 = .ok (.iload 4, 2) := by decide +kernel
theorem dX11_readsAll_116 : decode cX11_readsAll 116 = .ok (.iadd, 1) := by decide +kernel
theorem dX11_readsAll_117 : decode cX11_readsAll 117 = .ok (.invokevirtual 140, 3) := by decide +kernel
theorem dX11_readsAll_120 : decode cX11_readsAll 120 = .ok (.bipush 32, 2) := by decide +kernel
theorem dX11_readsAll_122 : decode cX11_readsAll 122 = .ok (.irem, 1) := by decide +kernel
theorem dX11_readsAll_123 : decode cX11_readsAll 123 = .ok (.invokevirtual 179, 3) := by decide +kernel
theorem dX11_readsAll_126 : decode cX11_readsAll 126 = .ok (.iload 4, 2) := by decide +kernel
theorem dX11_readsAll_128 : decode cX11_readsAll 128 = .ok (.iconst 1, 1) := by decide +kernel
theorem dX11_readsAll_129 : decode cX11_readsAll 129 = .ok (.aload_n 0, 1) := by decide +kernel
theorem dX11_readsAll_130 : decode cX11_readsAll 130 = .ok (.iload_n 2, 1) := by decide +kernel
theorem dX11_readsAll_131 : decode cX11_readsAll 131 = .ok (.iload 4, 2) := by decide +kernel
theorem dX11_readsAll_133 : decode cX11_readsAll 133 = .ok (.iadd, 1) := by decide +kernel
theorem dX11_readsAll_134 : decode cX11_readsAll 134 = .ok (.invokevirtual 140, 3) := by decide +kernel
theorem dX11_readsAll_137 : decode cX11_readsAll 137 = .ok (.bipush 32, 2) := by decide +kernel
theorem dX11_readsAll_139 : decode cX11_readsAll 139 = .ok (.irem, 1) := by decide +kernel
theorem dX11_readsAll_140 : decode cX11_readsAll 140 = .ok (.iadd, 1) := by decide +kernel
theorem dX11_readsAll_141 : decode cX11_readsAll 141 = .ok (.iadd, 1) := by decide +kernel
theorem dX11_readsAll_142 : decode cX11_readsAll 142 = .ok (.istore 4, 2) := by decide +kernel
theorem dX11_readsAll_144 : decode cX11_readsAll 144 = .ok (.goto (-43), 3) := by decide +kernel
theorem dX11_readsAll_147 : decode cX11_readsAll 147 = .ok (.iload_n 3, 1) := by decide +kernel
theorem dX11_readsAll_148 : decode cX11_readsAll 148 = .ok (.ifCond .ne 6, 3) := by decide +kernel
theorem dX11_readsAll_151 : decode cX11_readsAll 151 = .ok (.goto 41, 3) := by decide +kernel
theorem dX11_readsAll_154 : decode cX11_readsAll 154 = .ok (.iload_n 3, 1) := by decide +kernel
theorem dX11_readsAll_155 : decode cX11_readsAll 155 = .ok (.istore 4, 2) := by decide +kernel
theorem dX11_readsAll_157 : decode cX11_readsAll 157 = .ok (.iload 4, 2) := by decide +kernel
theorem dX11_readsAll_159 : decode cX11_readsAll 159 = .ok (.bipush 18, 2) := by decide +kernel
theorem dX11_readsAll_161 : decode cX11_readsAll 161 = .ok (.iadd, 1) := by decide +kernel
theorem dX11_readsAll_162 : decode cX11_readsAll 162 = .ok (.bipush 127, 2) := by decide +kernel
theorem dX11_readsAll_164 : decode cX11_readsAll 164 = .ok (.if_icmp .gt 28, 3) := by decide +kernel
theorem dX11_readsAll_167 : decode cX11_readsAll 167 = .ok (.aload_n 0, 1) := by decide +kernel
theorem dX11_readsAll_168 : decode cX11_readsAll 168 = .ok (.iload_n 2, 1) := by decide +kernel
theorem dX11_readsAll_169 : decode cX11_readsAll 169 = .ok (.iload 4, 2) := by decide +kernel
theorem dX11_readsAll_171 : decode cX11_readsAll 171 = .ok (.iadd, 1) := by decide +kernel
theorem dX11_readsAll_172 : decode cX11_readsAll 172 = .ok (.invokevirtual 167, 3) := by decide +kernel
theorem dX11_readsAll_175 : decode cX11_readsAll 175 = .ok (.ifCond .eq 17, 3) := by decide +kernel
theorem dX11_readsAll_178 : decode cX11_readsAll 178 = .ok (.aload_n 0, 1) := by decide +kernel
theorem dX11_readsAll_179 : decode cX11_readsAll 179 = .ok (.iload_n 2, 1) := by decide +kernel
theorem dX11_readsAll_180 : decode cX11_readsAll 180 = .ok (.iload 4, 2) := by decide +kernel
theorem dX11_readsAll_182 : decode cX11_readsAll 182 = .ok (.iadd, 1) := by decide +kernel
theorem dX11_readsAll_183 : decode cX11_readsAll 183 = .ok (.invokevirtual 170, 3) := by decide +kernel
theorem dX11_readsAll_186 : decode cX11_readsAll 186 = .ok (.iinc 4 18, 3) := by decide +kernel
theorem dX11_readsAll_189 : decode cX11_readsAll 189 = .ok (.goto (-32), 3) := by decide +kernel
theorem dX11_readsAll_192 : decode cX11_readsAll 192 = .ok (.iinc 1 1, 3) := by decide +kernel
theorem dX11_readsAll_195 : decode cX11_readsAll 195 = .ok (.goto (-119), 3) := by decide +kernel
theorem dX11_readsAll_198 : decode cX11_readsAll 198 = .ok (.return_, 1) := by decide +kernel
theorem dX11_hertzOf_0 : decode cX11_hertzOf 0 = .ok (.ldc2_w 182, 3) := by decide +kernel
theorem dX11_hertzOf_3 : decode cX11_hertzOf 3 = .ok (.iload_n 0, 1) := by decide +kernel
theorem dX11_hertzOf_4 : decode cX11_hertzOf 4 = .ok (.i2l, 1) := by decide +kernel
theorem dX11_hertzOf_5 : decode cX11_hertzOf 5 = .ok (.lmul, 1) := by decide +kernel
theorem dX11_hertzOf_6 : decode cX11_hertzOf 6 = .ok (.iload_n 1, 1) := by decide +kernel
theorem dX11_hertzOf_7 : decode cX11_hertzOf 7 = .ok (.i2l, 1) := by decide +kernel
theorem dX11_hertzOf_8 : decode cX11_hertzOf 8 = .ok (.ladd, 1) := by decide +kernel
theorem dX11_hertzOf_9 : decode cX11_hertzOf 9 = .ok (.ldc2_w 184, 3) := by decide +kernel
theorem dX11_hertzOf_12 : decode cX11_hertzOf 12 = .ok (.iload_n 1, 1) := by decide +kernel
theorem dX11_hertzOf_13 : decode cX11_hertzOf 13 = .ok (.i2l, 1) := by decide +kernel
theorem dX11_hertzOf_14 : decode cX11_hertzOf 14 = .ok (.lmul, 1) := by decide +kernel
theorem dX11_hertzOf_15 : decode cX11_hertzOf 15 = .ok (.ldiv, 1) := by decide +kernel
theorem dX11_hertzOf_16 : decode cX11_hertzOf 16 = .ok (.l2i, 1) := by decide +kernel
theorem dX11_hertzOf_17 : decode cX11_hertzOf 17 = .ok (.ireturn, 1) := by decide +kernel
theorem dX11_ofMode_0 : decode cX11_ofMode 0 = .ok (.aload_n 0, 1) := by decide +kernel
theorem dX11_ofMode_1 : decode cX11_ofMode 1 = .ok (.getfield 38, 3) := by decide +kernel
theorem dX11_ofMode_4 : decode cX11_ofMode 4 = .ok (.bipush 12, 2) := by decide +kernel
theorem dX11_ofMode_6 : decode cX11_ofMode 6 = .ok (.aload_n 0, 1) := by decide +kernel
theorem dX11_ofMode_7 : decode cX11_ofMode 7 = .ok (.getfield 41, 3) := by decide +kernel
theorem dX11_ofMode_10 : decode cX11_ofMode 10 = .ok (.iload_n 1, 1) := by decide +kernel
theorem dX11_ofMode_11 : decode cX11_ofMode 11 = .ok (.iaload, 1) := by decide +kernel
theorem dX11_ofMode_12 : decode cX11_ofMode 12 = .ok (.imul, 1) := by decide +kernel
theorem dX11_ofMode_13 : decode cX11_ofMode 13 = .ok (.iload_n 2, 1) := by decide +kernel
theorem dX11_ofMode_14 : decode cX11_ofMode 14 = .ok (.iadd, 1) := by decide +kernel
theorem dX11_ofMode_15 : decode cX11_ofMode 15 = .ok (.iaload, 1) := by decide +kernel
theorem dX11_ofMode_16 : decode cX11_ofMode 16 = .ok (.ireturn, 1) := by decide +kernel
theorem dX11_isOut_0 : decode cX11_isOut 0 = .ok (.aload_n 0, 1) := by decide +kernel
theorem dX11_isOut_1 : decode cX11_isOut 1 = .ok (.getfield 154, 3) := by decide +kernel
theorem dX11_isOut_4 : decode cX11_isOut 4 = .ok (.ifCond .ne 5, 3) := by decide +kernel
theorem dX11_isOut_7 : decode cX11_isOut 7 = .ok (.iconst 0, 1) := by decide +kernel
theorem dX11_isOut_8 : decode cX11_isOut 8 = .ok (.ireturn, 1) := by decide +kernel
theorem dX11_isOut_9 : decode cX11_isOut 9 = .ok (.iload_n 1, 1) := by decide +kernel
theorem dX11_isOut_10 : decode cX11_isOut 10 = .ok (.i2l, 1) := by decide +kernel
theorem dX11_isOut_11 : decode cX11_isOut 11 = .ok (.aload_n 0, 1) := by decide +kernel
theorem dX11_isOut_12 : decode cX11_isOut 12 = .ok (.getfield 32, 3) := by decide +kernel
theorem dX11_isOut_15 : decode cX11_isOut 15 = .ok (.iconst 0, 1) := by decide +kernel
theorem dX11_isOut_16 : decode cX11_isOut 16 = .ok (.iaload, 1) := by decide +kernel
theorem dX11_isOut_17 : decode cX11_isOut 17 = .ok (.i2l, 1) := by decide +kernel
theorem dX11_isOut_18 : decode cX11_isOut 18 = .ok (.aload_n 0, 1) := by decide +kernel
theorem dX11_isOut_19 : decode cX11_isOut 19 = .ok (.getfield 32, 3) := by decide +kernel
theorem dX11_isOut_22 : decode cX11_isOut 22 = .ok (.iconst 1, 1) := by decide +kernel
theorem dX11_isOut_23 : decode cX11_isOut 23 = .ok (.iaload, 1) := by decide +kernel
theorem dX11_isOut_24 : decode cX11_isOut 24 = .ok (.i2l, 1) := by decide +kernel
theorem dX11_isOut_25 : decode cX11_isOut 25 = .ok (.invokestatic 107, 3) := by decide +kernel
theorem dX11_isOut_28 : decode cX11_isOut 28 = .ok (.ifCond .eq 37, 3) := by decide +kernel
theorem dX11_isOut_31 : decode cX11_isOut 31 = .ok (.iload_n 2, 1) := by decide +kernel
theorem dX11_isOut_32 : decode cX11_isOut 32 = .ok (.iload_n 3, 1) := by decide +kernel
theorem dX11_isOut_33 : decode cX11_isOut 33 = .ok (.idiv, 1) := by decide +kernel
theorem dX11_isOut_34 : decode cX11_isOut 34 = .ok (.i2l, 1) := by decide +kernel
theorem dX11_isOut_35 : decode cX11_isOut 35 = .ok (.aload_n 0, 1) := by decide +kernel
theorem dX11_isOut_36 : decode cX11_isOut 36 = .ok (.getfield 32, 3) := by decide +kernel
theorem dX11_isOut_39 : decode cX11_isOut 39 = .ok (.iconst 2, 1) := by decide +kernel
theorem dX11_isOut_40 : decode cX11_isOut 40 = .ok (.iaload, 1) := by decide +kernel
theorem dX11_isOut_41 : decode cX11_isOut 41 = .ok (.i2l, 1) := by decide +kernel
theorem dX11_isOut_42 : decode cX11_isOut 42 = .ok (.aload_n 0, 1) := by decide +kernel
theorem dX11_isOut_43 : decode cX11_isOut 43 = .ok (.getfield 32, 3) := by decide +kernel
theorem dX11_isOut_46 : decode cX11_isOut 46 = .ok (.iconst 3, 1) := by decide +kernel
theorem dX11_isOut_47 : decode cX11_isOut 47 = .ok (.iaload, 1) := by decide +kernel
theorem dX11_isOut_48 : decode cX11_isOut 48 = .ok (.i2l, 1) := by decide +kernel
theorem dX11_isOut_49 : decode cX11_isOut 49 = .ok (.invokestatic 107, 3) := by decide +kernel
theorem dX11_isOut_52 : decode cX11_isOut 52 = .ok (.ifCond .eq 13, 3) := by decide +kernel
theorem dX11_isOut_55 : decode cX11_isOut 55 = .ok (.iload_n 2, 1) := by decide +kernel
theorem dX11_isOut_56 : decode cX11_isOut 56 = .ok (.aload_n 0, 1) := by decide +kernel
theorem dX11_isOut_57 : decode cX11_isOut 57 = .ok (.getfield 32, 3) := by decide +kernel
theorem dX11_isOut_60 : decode cX11_isOut 60 = .ok (.iconst 4, 1) := by decide +kernel
theorem dX11_isOut_61 : decode cX11_isOut 61 = .ok (.iaload, 1) := by decide +kernel
theorem dX11_isOut_62 : decode cX11_isOut 62 = .ok (.if_icmp .le 7, 3) := by decide +kernel
theorem dX11_isOut_65 : decode cX11_isOut 65 = .ok (.iconst 1, 1) := by decide +kernel
theorem dX11_isOut_66 : decode cX11_isOut 66 = .ok (.goto 4, 3) := by decide +kernel
theorem dX11_isOut_69 : decode cX11_isOut 69 = .ok (.iconst 0, 1) := by decide +kernel
theorem dX11_isOut_70 : decode cX11_isOut 70 = .ok (.ireturn, 1) := by decide +kernel
theorem dX11_isFound_0 : decode cX11_isFound 0 = .ok (.iconst 0, 1) := by decide +kernel
theorem dX11_isFound_1 : decode cX11_isFound 1 = .ok (.istore 4, 2) := by decide +kernel
theorem dX11_isFound_3 : decode cX11_isFound 3 = .ok (.iload 4, 2) := by decide +kernel
theorem dX11_isFound_5 : decode cX11_isFound 5 = .ok (.aload_n 0, 1) := by decide +kernel
theorem dX11_isFound_6 : decode cX11_isFound 6 = .ok (.getfield 134, 3) := by decide +kernel
theorem dX11_isFound_9 : decode cX11_isFound 9 = .ok (.if_icmp .ge 57, 3) := by decide +kernel
theorem dX11_isFound_12 : decode cX11_isFound 12 = .ok (.aload_n 0, 1) := by decide +kernel
theorem dX11_isFound_13 : decode cX11_isFound 13 = .ok (.getfield 38, 3) := by decide +kernel
theorem dX11_isFound_16 : decode cX11_isFound 16 = .ok (.bipush 12, 2) := by decide +kernel
theorem dX11_isFound_18 : decode cX11_isFound 18 = .ok (.iload 4, 2) := by decide +kernel
theorem dX11_isFound_20 : decode cX11_isFound 20 = .ok (.imul, 1) := by decide +kernel
theorem dX11_isFound_21 : decode cX11_isFound 21 = .ok (.iaload, 1) := by decide +kernel
theorem dX11_isFound_22 : decode cX11_isFound 22 = .ok (.iload_n 1, 1) := by decide +kernel
theorem dX11_isFound_23 : decode cX11_isFound 23 = .ok (.if_icmp .ne 37, 3) := by decide +kernel
theorem dX11_isFound_26 : decode cX11_isFound 26 = .ok (.aload_n 0, 1) := by decide +kernel
theorem dX11_isFound_27 : decode cX11_isFound 27 = .ok (.getfield 38, 3) := by decide +kernel
theorem dX11_isFound_30 : decode cX11_isFound 30 = .ok (.bipush 12, 2) := by decide +kernel
theorem dX11_isFound_32 : decode cX11_isFound 32 = .ok (.iload 4, 2) := by decide +kernel
theorem dX11_isFound_34 : decode cX11_isFound 34 = .ok (.imul, 1) := by decide +kernel
theorem dX11_isFound_35 : decode cX11_isFound 35 = .ok (.iconst 1, 1) := by decide +kernel
theorem dX11_isFound_36 : decode cX11_isFound 36 = .ok (.iadd, 1) := by decide +kernel
theorem dX11_isFound_37 : decode cX11_isFound 37 = .ok (.iaload, 1) := by decide +kernel
theorem dX11_isFound_38 : decode cX11_isFound 38 = .ok (.iload_n 2, 1) := by decide +kernel
theorem dX11_isFound_39 : decode cX11_isFound 39 = .ok (.if_icmp .ne 21, 3) := by decide +kernel
theorem dX11_isFound_42 : decode cX11_isFound 42 = .ok (.aload_n 0, 1) := by decide +kernel
theorem dX11_isFound_43 : decode cX11_isFound 43 = .ok (.getfield 38, 3) := by decide +kernel
theorem dX11_isFound_46 : decode cX11_isFound 46 = .ok (.bipush 12, 2) := by decide +kernel
theorem dX11_isFound_48 : decode cX11_isFound 48 = .ok (.iload 4, 2) := by decide +kernel
theorem dX11_isFound_50 : decode cX11_isFound 50 = .ok (.imul, 1) := by decide +kernel
theorem dX11_isFound_51 : decode cX11_isFound 51 = .ok (.iconst 2, 1) := by decide +kernel
theorem dX11_isFound_52 : decode cX11_isFound 52 = .ok (.iadd, 1) := by decide +kernel
theorem dX11_isFound_53 : decode cX11_isFound 53 = .ok (.iaload, 1) := by decide +kernel
theorem dX11_isFound_54 : decode cX11_isFound 54 = .ok (.iload_n 3, 1) := by decide +kernel
theorem dX11_isFound_55 : decode cX11_isFound 55 = .ok (.if_icmp .ne 5, 3) := by decide +kernel
theorem dX11_isFound_58 : decode cX11_isFound 58 = .ok (.iconst 1, 1) := by decide +kernel
theorem dX11_isFound_59 : decode cX11_isFound 59 = .ok (.ireturn, 1) := by decide +kernel
theorem dX11_isFound_60 : decode cX11_isFound 60 = .ok (.iinc 4 1, 3) := by decide +kernel
theorem dX11_isFound_63 : decode cX11_isFound 63 = .ok (.goto (-60), 3) := by decide +kernel
theorem dX11_isFound_66 : decode cX11_isFound 66 = .ok (.iconst 0, 1) := by decide +kernel
theorem dX11_isFound_67 : decode cX11_isFound 67 = .ok (.ireturn, 1) := by decide +kernel
theorem dX11_offers_0 : decode cX11_offers 0 = .ok (.iload_n 3, 1) := by decide +kernel
theorem dX11_offers_1 : decode cX11_offers 1 = .ok (.iload 4, 2) := by decide +kernel
theorem dX11_offers_3 : decode cX11_offers 3 = .ok (.iload 5, 2) := by decide +kernel
theorem dX11_offers_5 : decode cX11_offers 5 = .ok (.imul, 1) := by decide +kernel
theorem dX11_offers_6 : decode cX11_offers 6 = .ok (.invokestatic 186, 3) := by decide +kernel
theorem dX11_offers_9 : decode cX11_offers 9 = .ok (.istore 7, 2) := by decide +kernel
theorem dX11_offers_11 : decode cX11_offers 11 = .ok (.aload_n 0, 1) := by decide +kernel
theorem dX11_offers_12 : decode cX11_offers 12 = .ok (.iload 7, 2) := by decide +kernel
theorem dX11_offers_14 : decode cX11_offers 14 = .ok (.iload_n 3, 1) := by decide +kernel
theorem dX11_offers_15 : decode cX11_offers 15 = .ok (.iload 4, 2) := by decide +kernel
theorem dX11_offers_17 : decode cX11_offers 17 = .ok (.invokevirtual 190, 3) := by decide +kernel
theorem dX11_offers_20 : decode cX11_offers 20 = .ok (.ifCond .eq 7, 3) := by decide +kernel
theorem dX11_offers_23 : decode cX11_offers 23 = .ok (.iconst 3, 1) := by decide +kernel
theorem dX11_offers_24 : decode cX11_offers 24 = .ok (.goto 52, 3) := by decide +kernel
theorem dX11_offers_27 : decode cX11_offers 27 = .ok (.aload_n 0, 1) := by decide +kernel
theorem dX11_offers_28 : decode cX11_offers 28 = .ok (.getfield 164, 3) := by decide +kernel
theorem dX11_offers_31 : decode cX11_offers 31 = .ok (.ifCond .le 15, 3) := by decide +kernel
theorem dX11_offers_34 : decode cX11_offers 34 = .ok (.iload_n 3, 1) := by decide +kernel
theorem dX11_offers_35 : decode cX11_offers 35 = .ok (.aload_n 0, 1) := by decide +kernel
theorem dX11_offers_36 : decode cX11_offers 36 = .ok (.getfield 164, 3) := by decide +kernel
theorem dX11_offers_39 : decode cX11_offers 39 = .ok (.if_icmp .le 7, 3) := by decide +kernel
theorem dX11_offers_42 : decode cX11_offers 42 = .ok (.iconst 4, 1) := by decide +kernel
theorem dX11_offers_43 : decode cX11_offers 43 = .ok (.goto 33, 3) := by decide +kernel
theorem dX11_offers_46 : decode cX11_offers 46 = .ok (.aload_n 0, 1) := by decide +kernel
theorem dX11_offers_47 : decode cX11_offers 47 = .ok (.iload_n 1, 1) := by decide +kernel
theorem dX11_offers_48 : decode cX11_offers 48 = .ok (.iload_n 2, 1) := by decide +kernel
theorem dX11_offers_49 : decode cX11_offers 49 = .ok (.iload 7, 2) := by decide +kernel
theorem dX11_offers_51 : decode cX11_offers 51 = .ok (.invokevirtual 194, 3) := by decide +kernel
theorem dX11_offers_54 : decode cX11_offers 54 = .ok (.ifCond .eq 7, 3) := by decide +kernel
theorem dX11_offers_57 : decode cX11_offers 57 = .ok (.iconst 5, 1) := by decide +kernel
theorem dX11_offers_58 : decode cX11_offers 58 = .ok (.goto 18, 3) := by decide +kernel
theorem dX11_offers_61 : decode cX11_offers 61 = .ok (.aload_n 0, 1) := by decide +kernel
theorem dX11_offers_62 : decode cX11_offers 62 = .ok (.getfield 134, 3) := by decide +kernel
theorem dX11_offers_65 : decode cX11_offers 65 = .ok (.bipush 40, 2) := by decide +kernel
theorem dX11_offers_67 : decode cX11_offers 67 = .ok (.if_icmp .ne 8, 3) := by decide +kernel
theorem dX11_offers_70 : decode cX11_offers 70 = .ok (.bipush 6, 2) := by decide +kernel
theorem dX11_offers_72 : decode cX11_offers 72 = .ok (.goto 4, 3) := by decide +kernel
theorem dX11_offers_75 : decode cX11_offers 75 = .ok (.iconst (-1), 1) := by decide +kernel
theorem dX11_offers_76 : decode cX11_offers 76 = .ok (.istore 8, 2) := by decide +kernel
theorem dX11_offers_78 : decode cX11_offers 78 = .ok (.iload 8, 2) := by decide +kernel
theorem dX11_offers_80 : decode cX11_offers 80 = .ok (.iconst (-1), 1) := by decide +kernel
theorem dX11_offers_81 : decode cX11_offers 81 = .ok (.if_icmp .eq 16, 3) := by decide +kernel
theorem dX11_offers_84 : decode cX11_offers 84 = .ok (.aload_n 0, 1) := by decide +kernel
theorem dX11_offers_85 : decode cX11_offers 85 = .ok (.getfield 44, 3) := by decide +kernel
theorem dX11_offers_88 : decode cX11_offers 88 = .ok (.iload 8, 2) := by decide +kernel
theorem dX11_offers_90 : decode cX11_offers 90 = .ok (.dup2, 1) := by decide +kernel
theorem dX11_offers_91 : decode cX11_offers 91 = .ok (.iaload, 1) := by decide +kernel
theorem dX11_offers_92 : decode cX11_offers 92 = .ok (.iconst 1, 1) := by decide +kernel
theorem dX11_offers_93 : decode cX11_offers 93 = .ok (.iadd, 1) := by decide +kernel
theorem dX11_offers_94 : decode cX11_offers 94 = .ok (.iastore, 1) := by decide +kernel
theorem dX11_offers_95 : decode cX11_offers 95 = .ok (.iconst 0, 1) := by decide +kernel
theorem dX11_offers_96 : decode cX11_offers 96 = .ok (.ireturn, 1) := by decide +kernel
theorem dX11_offers_97 : decode cX11_offers 97 = .ok (.bipush 12, 2) := by decide +kernel
theorem dX11_offers_99 : decode cX11_offers 99 = .ok (.aload_n 0, 1) := by decide +kernel
theorem dX11_offers_100 : decode cX11_offers 100 = .ok (.getfield 134, 3) := by decide +kernel
theorem dX11_offers_103 : decode cX11_offers 103 = .ok (.imul, 1) := by decide +kernel
theorem dX11_offers_104 : decode cX11_offers 104 = .ok (.istore 9, 2) := by decide +kernel
theorem dX11_offers_106 : decode cX11_offers 106 = .ok (.aload_n 0, 1) := by decide +kernel
theorem dX11_offers_107 : decode cX11_offers 107 = .ok (.getfield 38, 3) := by decide +kernel
theorem dX11_offers_110 : decode cX11_offers 110 = .ok (.iload 9, 2) := by decide +kernel
theorem dX11_offers_112 : decode cX11_offers 112 = .ok (.iload_n 1, 1) := by decide +kernel
theorem dX11_offers_113 : decode cX11_offers 113 = .ok (.iastore, 1) := by decide +kernel
theorem dX11_offers_114 : decode cX11_offers 114 = .ok (.aload_n 0, 1) := by decide +kernel
theorem dX11_offers_115 : decode cX11_offers 115 = .ok (.getfield 38, 3) := by decide +kernel
theorem dX11_offers_118 : decode cX11_offers 118 = .ok (.iload 9, 2) := by decide +kernel
theorem dX11_offers_120 : decode cX11_offers 120 = .ok (.iconst 1, 1) := by decide +kernel
theorem dX11_offers_121 : decode cX11_offers 121 = .ok (.iadd, 1) := by decide +kernel
theorem dX11_offers_122 : decode cX11_offers 122 = .ok (.iload_n 2, 1) := by decide +kernel
theorem dX11_offers_123 : decode cX11_offers 123 = .ok (.iastore, 1) := by decide +kernel
theorem dX11_offers_124 : decode cX11_offers 124 = .ok (.aload_n 0, 1) := by decide +kernel
theorem dX11_offers_125 : decode cX11_offers 125 = .ok (.getfield 38, 3) := by decide +kernel
theorem dX11_offers_128 : decode cX11_offers 128 = .ok (.iload 9, 2) := by decide +kernel
theorem dX11_offers_130 : decode cX11_offers 130 = .ok (.iconst 2, 1) := by decide +kernel
theorem dX11_offers_131 : decode cX11_offers 131 = .ok (.iadd, 1) := by decide +kernel
theorem dX11_offers_132 : decode cX11_offers 132 = .ok (.iload 7, 2) := by decide +kernel
theorem dX11_offers_134 : decode cX11_offers 134 = .ok (.iastore, 1) := by decide +kernel
theorem dX11_offers_135 : decode cX11_offers 135 = .ok (.aload_n 0, 1) := by decide +kernel
theorem dX11_offers_136 : decode cX11_offers 136 = .ok (.getfield 38, 3) := by decide +kernel
theorem dX11_offers_139 : decode cX11_offers 139 = .ok (.iload 9, 2) := by decide +kernel
theorem dX11_offers_141 : decode cX11_offers 141 = .ok (.iconst 3, 1) := by decide +kernel
theorem dX11_offers_142 : decode cX11_offers 142 = .ok (.iadd, 1) := by decide +kernel
theorem dX11_offers_143 : decode cX11_offers 143 = .ok (.iload_n 3, 1) := by decide +kernel
theorem dX11_offers_144 : decode cX11_offers 144 = .ok (.iastore, 1) := by decide +kernel
theorem dX11_offers_145 : decode cX11_offers 145 = .ok (.aload_n 0, 1) := by decide +kernel
theorem dX11_offers_146 : decode cX11_offers 146 = .ok (.getfield 38, 3) := by decide +kernel
theorem dX11_offers_149 : decode cX11_offers 149 = .ok (.iload 9, 2) := by decide +kernel
theorem dX11_offers_151 : decode cX11_offers 151 = .ok (.iconst 4, 1) := by decide +kernel
theorem dX11_offers_152 : decode cX11_offers 152 = .ok (.iadd, 1) := by decide +kernel
theorem dX11_offers_153 : decode cX11_offers 153 = .ok (.iload 4, 2) := by decide +kernel
theorem dX11_offers_155 : decode cX11_offers 155 = .ok (.iastore, 1) := by decide +kernel
theorem dX11_offers_156 : decode cX11_offers 156 = .ok (.aload_n 0, 1) := by decide +kernel
theorem dX11_offers_157 : decode cX11_offers 157 = .ok (.getfield 38, 3) := by decide +kernel
theorem dX11_offers_160 : decode cX11_offers 160 = .ok (.iload 9, 2) := by decide +kernel
theorem dX11_offers_162 : decode cX11_offers 162 = .ok (.iconst 4, 1) := by decide +kernel
theorem dX11_offers_163 : decode cX11_offers 163 = .ok (.iadd, 1) := by decide +kernel
theorem dX11_offers_164 : decode cX11_offers 164 = .ok (.iconst 1, 1) := by decide +kernel
theorem dX11_offers_165 : decode cX11_offers 165 = .ok (.iadd, 1) := by decide +kernel
theorem dX11_offers_166 : decode cX11_offers 166 = .ok (.iload 5, 2) := by decide +kernel
theorem dX11_offers_168 : decode cX11_offers 168 = .ok (.iastore, 1) := by decide +kernel
theorem dX11_offers_169 : decode cX11_offers 169 = .ok (.aload_n 0, 1) := by decide +kernel
theorem dX11_offers_170 : decode cX11_offers 170 = .ok (.getfield 38, 3) := by decide +kernel
theorem dX11_offers_173 : decode cX11_offers 173 = .ok (.iload 9, 2) := by decide +kernel
theorem dX11_offers_175 : decode cX11_offers 175 = .ok (.bipush 6, 2) := by decide +kernel
theorem dX11_offers_177 : decode cX11_offers 177 = .ok (.iadd, 1) := by decide +kernel
theorem dX11_offers_178 : decode cX11_offers 178 = .ok (.iload 6, 2) := by decide +kernel
theorem dX11_offers_180 : decode cX11_offers 180 = .ok (.iastore, 1) := by decide +kernel
theorem dX11_offers_181 : decode cX11_offers 181 = .ok (.bipush 7, 2) := by decide +kernel
theorem dX11_offers_183 : decode cX11_offers 183 = .ok (.istore 10, 2) := by decide +kernel
theorem dX11_offers_185 : decode cX11_offers 185 = .ok (.iload 10, 2) := by decide +kernel
theorem dX11_offers_187 : decode cX11_offers 187 = .ok (.bipush 12, 2) := by decide +kernel
theorem dX11_offers_189 : decode cX11_offers 189 = .ok (.if_icmp .ge 20, 3) := by decide +kernel
theorem dX11_offers_192 : decode cX11_offers 192 = .ok (.aload_n 0, 1) := by decide +kernel
theorem dX11_offers_193 : decode cX11_offers 193 = .ok (.getfield 38, 3) := by decide +kernel
theorem dX11_offers_196 : decode cX11_offers 196 = .ok (.iload 9, 2) := by decide +kernel
theorem dX11_offers_198 : decode cX11_offers 198 = .ok (.iload 10, 2) := by decide +kernel
theorem dX11_offers_200 : decode cX11_offers 200 = .ok (.iadd, 1) := by decide +kernel
theorem dX11_offers_201 : decode cX11_offers 201 = .ok (.iconst 0, 1) := by decide +kernel
theorem dX11_offers_202 : decode cX11_offers 202 = .ok (.iastore, 1) := by decide +kernel
theorem dX11_offers_203 : decode cX11_offers 203 = .ok (.iinc 10 1, 3) := by decide +kernel
theorem dX11_offers_206 : decode cX11_offers 206 = .ok (.goto (-21), 3) := by decide +kernel
theorem dX11_offers_209 : decode cX11_offers 209 = .ok (.aload_n 0, 1) := by decide +kernel
theorem dX11_offers_210 : decode cX11_offers 210 = .ok (.dup, 1) := by decide +kernel
theorem dX11_offers_211 : decode cX11_offers 211 = .ok (.getfield 134, 3) := by decide +kernel
theorem dX11_offers_214 : decode cX11_offers 214 = .ok (.iconst 1, 1) := by decide +kernel
theorem dX11_offers_215 : decode cX11_offers 215 = .ok (.iadd, 1) := by decide +kernel
theorem dX11_offers_216 : decode cX11_offers 216 = .ok (.putfield 134, 3) := by decide +kernel
theorem dX11_offers_219 : decode cX11_offers 219 = .ok (.iconst 1, 1) := by decide +kernel
theorem dX11_offers_220 : decode cX11_offers 220 = .ok (.ireturn, 1) := by decide +kernel
theorem dX11_laysFronts_0 : decode cX11_laysFronts 0 = .ok (.bipush 12, 2) := by decide +kernel
theorem dX11_laysFronts_2 : decode cX11_laysFronts 2 = .ok (.aload_n 0, 1) := by decide +kernel
theorem dX11_laysFronts_3 : decode cX11_laysFronts 3 = .ok (.getfield 134, 3) := by decide +kernel
theorem dX11_laysFronts_6 : decode cX11_laysFronts 6 = .ok (.iconst 1, 1) := by decide +kernel
theorem dX11_laysFronts_7 : decode cX11_laysFronts 7 = .ok (.isub, 1) := by decide +kernel
theorem dX11_laysFronts_8 : decode cX11_laysFronts 8 = .ok (.imul, 1) := by decide +kernel
theorem dX11_laysFronts_9 : decode cX11_laysFronts 9 = .ok (.bipush 8, 2) := by decide +kernel
theorem dX11_laysFronts_11 : decode cX11_laysFronts 11 = .ok (.iadd, 1) := by decide +kernel
theorem dX11_laysFronts_12 : decode cX11_laysFronts 12 = .ok (.istore 5, 2) := by decide +kernel
theorem dX11_laysFronts_14 : decode cX11_laysFronts 14 = .ok (.aload_n 0, 1) := by decide +kernel
theorem dX11_laysFronts_15 : decode cX11_laysFronts 15 = .ok (.getfield 38, 3) := by decide +kernel
theorem dX11_laysFronts_18 : decode cX11_laysFronts 18 = .ok (.iload 5, 2) := by decide +kernel
theorem dX11_laysFronts_20 : decode cX11_laysFronts 20 = .ok (.iload_n 1, 1) := by decide +kernel
theorem dX11_laysFronts_21 : decode cX11_laysFronts 21 = .ok (.iastore, 1) := by decide +kernel
theorem dX11_laysFronts_22 : decode cX11_laysFronts 22 = .ok (.aload_n 0, 1) := by decide +kernel
theorem dX11_laysFronts_23 : decode cX11_laysFronts 23 = .ok (.getfield 38, 3) := by decide +kernel
theorem dX11_laysFronts_26 : decode cX11_laysFronts 26 = .ok (.iload 5, 2) := by decide +kernel
theorem dX11_laysFronts_28 : decode cX11_laysFronts 28 = .ok (.iconst 1, 1) := by decide +kernel
theorem dX11_laysFronts_29 : decode cX11_laysFronts 29 = .ok (.iadd, 1) := by decide +kernel
theorem dX11_laysFronts_30 : decode cX11_laysFronts 30 = .ok (.iload_n 2, 1) := by decide +kernel
theorem dX11_laysFronts_31 : decode cX11_laysFronts 31 = .ok (.iastore, 1) := by decide +kernel
theorem dX11_laysFronts_32 : decode cX11_laysFronts 32 = .ok (.aload_n 0, 1) := by decide +kernel
theorem dX11_laysFronts_33 : decode cX11_laysFronts 33 = .ok (.getfield 38, 3) := by decide +kernel
theorem dX11_laysFronts_36 : decode cX11_laysFronts 36 = .ok (.iload 5, 2) := by decide +kernel
theorem dX11_laysFronts_38 : decode cX11_laysFronts 38 = .ok (.iconst 2, 1) := by decide +kernel
theorem dX11_laysFronts_39 : decode cX11_laysFronts 39 = .ok (.iadd, 1) := by decide +kernel
theorem dX11_laysFronts_40 : decode cX11_laysFronts 40 = .ok (.iload_n 3, 1) := by decide +kernel
theorem dX11_laysFronts_41 : decode cX11_laysFronts 41 = .ok (.iastore, 1) := by decide +kernel
theorem dX11_laysFronts_42 : decode cX11_laysFronts 42 = .ok (.aload_n 0, 1) := by decide +kernel
theorem dX11_laysFronts_43 : decode cX11_laysFronts 43 = .ok (.getfield 38, 3) := by decide +kernel
theorem dX11_laysFronts_46 : decode cX11_laysFronts 46 = .ok (.iload 5, 2) := by decide +kernel
theorem dX11_laysFronts_48 : decode cX11_laysFronts 48 = .ok (.iconst 3, 1) := by decide +kernel
theorem dX11_laysFronts_49 : decode cX11_laysFronts 49 = .ok (.iadd, 1) := by decide +kernel
theorem dX11_laysFronts_50 : decode cX11_laysFronts 50 = .ok (.iload 4, 2) := by decide +kernel
theorem dX11_laysFronts_52 : decode cX11_laysFronts 52 = .ok (.iastore, 1) := by decide +kernel
theorem dX11_laysFronts_53 : decode cX11_laysFronts 53 = .ok (.return_, 1) := by decide +kernel
theorem dX11_offersDetailed_0 : decode cX11_offersDetailed 0 = .ok (.bipush 11, 2) := by decide +kernel
theorem dX11_offersDetailed_2 : decode cX11_offersDetailed 2 = .ok (.iload_n 1, 1) := by decide +kernel
theorem dX11_offersDetailed_3 : decode cX11_offersDetailed 3 = .ok (.imul, 1) := by decide +kernel
theorem dX11_offersDetailed_4 : decode cX11_offersDetailed 4 = .ok (.istore_n 2, 1) := by decide +kernel
theorem dX11_offersDetailed_5 : decode cX11_offersDetailed 5 = .ok (.aload_n 0, 1) := by decide +kernel
theorem dX11_offersDetailed_6 : decode cX11_offersDetailed 6 = .ok (.getfield 26, 3) := by decide +kernel
theorem dX11_offersDetailed_9 : decode cX11_offersDetailed 9 = .ok (.iload_n 2, 1) := by decide +kernel
theorem dX11_offersDetailed_10 : decode cX11_offersDetailed 10 = .ok (.bipush 10, 2) := by decide +kernel
theorem dX11_offersDetailed_12 : decode cX11_offersDetailed 12 = .ok (.iadd, 1) := by decide +kernel
theorem dX11_offersDetailed_13 : decode cX11_offersDetailed 13 = .ok (.iaload, 1) := by decide +kernel
theorem dX11_offersDetailed_14 : decode cX11_offersDetailed 14 = .ok (.iconst 1, 1) := by decide +kernel
theorem dX11_offersDetailed_15 : decode cX11_offersDetailed 15 = .ok (.if_icmp .ne 16, 3) := by decide +kernel
theorem dX11_offersDetailed_18 : decode cX11_offersDetailed 18 = .ok (.aload_n 0, 1) := by decide +kernel
theorem dX11_offersDetailed_19 : decode cX11_offersDetailed 19 = .ok (.getfield 44, 3) := by decide +kernel
theorem dX11_offersDetailed_22 : decode cX11_offersDetailed 22 = .ok (.iconst 0, 1) := by decide +kernel
theorem dX11_offersDetailed_23 : decode cX11_offersDetailed 23 = .ok (.dup2, 1) := by decide +kernel
theorem dX11_offersDetailed_24 : decode cX11_offersDetailed 24 = .ok (.iaload, 1) := by decide +kernel
theorem dX11_offersDetailed_25 : decode cX11_offersDetailed 25 = .ok (.iconst 1, 1) := by decide +kernel
theorem dX11_offersDetailed_26 : decode cX11_offersDetailed 26 = .ok (.iadd, 1) := by decide +kernel
theorem dX11_offersDetailed_27 : decode cX11_offersDetailed 27 = .ok (.iastore, 1) := by decide +kernel
theorem dX11_offersDetailed_28 : decode cX11_offersDetailed 28 = .ok (.goto 190, 3) := by decide +kernel
theorem dX11_offersDetailed_31 : decode cX11_offersDetailed 31 = .ok (.aload_n 0, 1) := by decide +kernel
theorem dX11_offersDetailed_32 : decode cX11_offersDetailed 32 = .ok (.getfield 26, 3) := by decide +kernel
theorem dX11_offersDetailed_35 : decode cX11_offersDetailed 35 = .ok (.iload_n 2, 1) := by decide +kernel
theorem dX11_offersDetailed_36 : decode cX11_offersDetailed 36 = .ok (.bipush 9, 2) := by decide +kernel
theorem dX11_offersDetailed_38 : decode cX11_offersDetailed 38 = .ok (.iadd, 1) := by decide +kernel
theorem dX11_offersDetailed_39 : decode cX11_offersDetailed 39 = .ok (.iaload, 1) := by decide +kernel
theorem dX11_offersDetailed_40 : decode cX11_offersDetailed 40 = .ok (.iconst 1, 1) := by decide +kernel
theorem dX11_offersDetailed_41 : decode cX11_offersDetailed 41 = .ok (.if_icmp .ne 16, 3) := by decide +kernel
theorem dX11_offersDetailed_44 : decode cX11_offersDetailed 44 = .ok (.aload_n 0, 1) := by decide +kernel
theorem dX11_offersDetailed_45 : decode cX11_offersDetailed 45 = .ok (.getfield 44, 3) := by decide +kernel
theorem dX11_offersDetailed_48 : decode cX11_offersDetailed 48 = .ok (.iconst 2, 1) := by decide +kernel
theorem dX11_offersDetailed_49 : decode cX11_offersDetailed 49 = .ok (.dup2, 1) := by decide +kernel
theorem dX11_offersDetailed_50 : decode cX11_offersDetailed 50 = .ok (.iaload, 1) := by decide +kernel
theorem dX11_offersDetailed_51 : decode cX11_offersDetailed 51 = .ok (.iconst 1, 1) := by decide +kernel
theorem dX11_offersDetailed_52 : decode cX11_offersDetailed 52 = .ok (.iadd, 1) := by decide +kernel
theorem dX11_offersDetailed_53 : decode cX11_offersDetailed 53 = .ok (.iastore, 1) := by decide +kernel
theorem dX11_offersDetailed_54 : decode cX11_offersDetailed 54 = .ok (.goto 164, 3) := by decide +kernel
theorem dX11_offersDetailed_57 : decode cX11_offersDetailed 57 = .ok (.aload_n 0, 1) := by decide +kernel
theorem dX11_offersDetailed_58 : decode cX11_offersDetailed 58 = .ok (.aload_n 0, 1) := by decide +kernel
theorem dX11_offersDetailed_59 : decode cX11_offersDetailed 59 = .ok (.getfield 26, 3) := by decide +kernel
theorem dX11_offersDetailed_62 : decode cX11_offersDetailed 62 = .ok (.iload_n 2, 1) := by decide +kernel
theorem dX11_offersDetailed_63 : decode cX11_offersDetailed 63 = .ok (.iconst 1, 1) := by decide +kernel
theorem dX11_offersDetailed_64 : decode cX11_offersDetailed 64 = .ok (.iadd, 1) := by decide +kernel
theorem dX11_offersDetailed_65 : decode cX11_offersDetailed 65 = .ok (.iaload, 1) := by decide +kernel
theorem dX11_offersDetailed_66 : decode cX11_offersDetailed 66 = .ok (.aload_n 0, 1) := by decide +kernel
theorem dX11_offersDetailed_67 : decode cX11_offersDetailed 67 = .ok (.getfield 26, 3) := by decide +kernel
theorem dX11_offersDetailed_70 : decode cX11_offersDetailed 70 = .ok (.iload_n 2, 1) := by decide +kernel
theorem dX11_offersDetailed_71 : decode cX11_offersDetailed 71 = .ok (.iconst 5, 1) := by decide +kernel
theorem dX11_offersDetailed_72 : decode cX11_offersDetailed 72 = .ok (.iadd, 1) := by decide +kernel
theorem dX11_offersDetailed_73 : decode cX11_offersDetailed 73 = .ok (.iaload, 1) := by decide +kernel
theorem dX11_offersDetailed_74 : decode cX11_offersDetailed 74 = .ok (.aload_n 0, 1) := by decide +kernel
theorem dX11_offersDetailed_75 : decode cX11_offersDetailed 75 = .ok (.getfield 26, 3) := by decide +kernel
theorem dX11_offersDetailed_78 : decode cX11_offersDetailed 78 = .ok (.iload_n 2, 1) := by decide +kernel
theorem dX11_offersDetailed_79 : decode cX11_offersDetailed 79 = .ok (.iaload, 1) := by decide +kernel
theorem dX11_offersDetailed_80 : decode cX11_offersDetailed 80 = .ok (.aload_n 0, 1) := by decide +kernel
theorem dX11_offersDetailed_81 : decode cX11_offersDetailed 81 = .ok (.getfield 26, 3) := by decide +kernel
theorem dX11_offersDetailed_84 : decode cX11_offersDetailed 84 = .ok (.iload_n 2, 1) := by decide +kernel
theorem dX11_offersDetailed_85 : decode cX11_offersDetailed 85 = .ok (.iconst 1, 1) := by decide +kernel
theorem dX11_offersDetailed_86 : decode cX11_offersDetailed 86 = .ok (.iadd, 1) := by decide +kernel
theorem dX11_offersDetailed_87 : decode cX11_offersDetailed 87 = .ok (.iaload, 1) := by decide +kernel
theorem dX11_offersDetailed_88 : decode cX11_offersDetailed 88 = .ok (.aload_n 0, 1) := by decide +kernel
theorem dX11_offersDetailed_89 : decode cX11_offersDetailed 89 = .ok (.getfield 26, 3) := by decide +kernel
theorem dX11_offersDetailed_92 : decode cX11_offersDetailed 92 = .ok (.iload_n 2, 1) := by decide +kernel
theorem dX11_offersDetailed_93 : decode cX11_offersDetailed 93 = .ok (.iconst 1, 1) := by decide +kernel
theorem dX11_offersDetailed_94 : decode cX11_offersDetailed 94 = .ok (.iadd, 1) := by decide +kernel
theorem dX11_offersDetailed_95 : decode cX11_offersDetailed 95 = .ok (.iconst 1, 1) := by decide +kernel
theorem dX11_offersDetailed_96 : decode cX11_offersDetailed 96 = .ok (.iadd, 1) := by decide +kernel
theorem dX11_offersDetailed_97 : decode cX11_offersDetailed 97 = .ok (.iaload, 1) := by decide +kernel
theorem dX11_offersDetailed_98 : decode cX11_offersDetailed 98 = .ok (.iadd, 1) := by decide +kernel
theorem dX11_offersDetailed_99 : decode cX11_offersDetailed 99 = .ok (.aload_n 0, 1) := by decide +kernel
theorem dX11_offersDetailed_100 : decode cX11_offersDetailed 100 = .ok (.getfield 26, 3) := by decide +kernel
theorem dX11_offersDetailed_103 : decode cX11_offersDetailed 103 = .ok (.iload_n 2, 1) := by decide +kernel
theorem dX11_offersDetailed_104 : decode cX11_offersDetailed 104 = .ok (.iconst 5, 1) := by decide +kernel
theorem dX11_offersDetailed_105 : decode cX11_offersDetailed 105 = .ok (.iadd, 1) := by decide +kernel
theorem dX11_offersDetailed_106 : decode cX11_offersDetailed 106 = .ok (.iaload, 1) := by decide +kernel
theorem dX11_offersDetailed_107 : decode cX11_offersDetailed 107 = .ok (.aload_n 0, 1) := by decide +kernel
theorem dX11_offersDetailed_108 : decode cX11_offersDetailed 108 = .ok (.getfield 26, 3) := by decide +kernel
theorem dX11_offersDetailed_111 : decode cX11_offersDetailed 111 = .ok (.iload_n 2, 1) := by decide +kernel
theorem dX11_offersDetailed_112 : decode cX11_offersDetailed 112 = .ok (.iconst 5, 1) := by decide +kernel
theorem dX11_offersDetailed_113 : decode cX11_offersDetailed 113 = .ok (.iadd, 1) := by decide +kernel
theorem dX11_offersDetailed_114 : decode cX11_offersDetailed 114 = .ok (.iconst 1, 1) := by decide +kernel
theorem dX11_offersDetailed_115 : decode cX11_offersDetailed 115 = .ok (.iadd, 1) := by decide +kernel
theorem dX11_offersDetailed_116 : decode cX11_offersDetailed 116 = .ok (.iaload, 1) := by decide +kernel
theorem dX11_offersDetailed_117 : decode cX11_offersDetailed 117 = .ok (.iadd, 1) := by decide +kernel
theorem dX11_offersDetailed_118 : decode cX11_offersDetailed 118 = .ok (.iload_n 1, 1) := by decide +kernel
theorem dX11_offersDetailed_119 : decode cX11_offersDetailed 119 = .ok (.aload_n 0, 1) := by decide +kernel
theorem dX11_offersDetailed_120 : decode cX11_offersDetailed 120 = .ok (.getfield 176, 3) := by decide +kernel
theorem dX11_offersDetailed_123 : decode cX11_offersDetailed 123 = .ok (.if_icmp .ge 7, 3) := by decide +kernel
theorem dX11_offersDetailed_126 : decode cX11_offersDetailed 126 = .ok (.iconst 0, 1) := by decide +kernel
theorem dX11_offersDetailed_127 : decode cX11_offersDetailed 127 = .ok (.goto 4, 3) := by decide +kernel
theorem dX11_offersDetailed_130 : decode cX11_offersDetailed 130 = .ok (.iconst 1, 1) := by decide +kernel
theorem dX11_offersDetailed_131 : decode cX11_offersDetailed 131 = .ok (.invokevirtual 197, 3) := by decide +kernel
theorem dX11_offersDetailed_134 : decode cX11_offersDetailed 134 = .ok (.istore_n 3, 1) := by decide +kernel
theorem dX11_offersDetailed_135 : decode cX11_offersDetailed 135 = .ok (.iload_n 3, 1) := by decide +kernel
theorem dX11_offersDetailed_136 : decode cX11_offersDetailed 136 = .ok (.ifCond .eq 47, 3) := by decide +kernel
theorem dX11_offersDetailed_139 : decode cX11_offersDetailed 139 = .ok (.aload_n 0, 1) := by decide +kernel
theorem dX11_offersDetailed_140 : decode cX11_offersDetailed 140 = .ok (.aload_n 0, 1) := by decide +kernel
theorem dX11_offersDetailed_141 : decode cX11_offersDetailed 141 = .ok (.getfield 26, 3) := by decide +kernel
theorem dX11_offersDetailed_144 : decode cX11_offersDetailed 144 = .ok (.iload_n 2, 1) := by decide +kernel
theorem dX11_offersDetailed_145 : decode cX11_offersDetailed 145 = .ok (.iconst 1, 1) := by decide +kernel
theorem dX11_offersDetailed_146 : decode cX11_offersDetailed 146 = .ok (.iadd, 1) := by decide +kernel
theorem dX11_offersDetailed_147 : decode cX11_offersDetailed 147 = .ok (.iconst 2, 1) := by decide +kernel
theorem dX11_offersDetailed_148 : decode cX11_offersDetailed 148 = .ok (.iadd, 1) := by decide +kernel
theorem dX11_offersDetailed_149 : decode cX11_offersDetailed 149 = .ok (.iaload, 1) := by decide +kernel
theorem dX11_offersDetailed_150 : decode cX11_offersDetailed 150 = .ok (.aload_n 0, 1) := by decide +kernel
theorem dX11_offersDetailed_151 : decode cX11_offersDetailed 151 = .ok (.getfield 26, 3) := by decide +kernel
theorem dX11_offersDetailed_154 : decode cX11_offersDetailed 154 = .ok (.iload_n 2, 1) := by decide +kernel
theorem dX11_offersDetailed_155 : decode cX11_offersDetailed 155 = .ok (.iconst 1, 1) := by decide +kernel
theorem dX11_offersDetailed_156 : decode cX11_offersDetailed 156 = .ok (.iadd, 1) := by decide +kernel
theorem dX11_offersDetailed_157 : decode cX11_offersDetailed 157 = .ok (.iconst 3, 1) := by decide +kernel
theorem dX11_offersDetailed_158 : decode cX11_offersDetailed 158 = .ok (.iadd, 1) := by decide +kernel
theorem dX11_offersDetailed_159 : decode cX11_offersDetailed 159 = .ok (.iaload, 1) := by decide +kernel
theorem dX11_offersDetailed_160 : decode cX11_offersDetailed 160 = .ok (.aload_n 0, 1) := by decide +kernel
theorem dX11_offersDetailed_161 : decode cX11_offersDetailed 161 = .ok (.getfield 26, 3) := by decide +kernel
theorem dX11_offersDetailed_164 : decode cX11_offersDetailed 164 = .ok (.iload_n 2, 1) := by decide +kernel
theorem dX11_offersDetailed_165 : decode cX11_offersDetailed 165 = .ok (.iconst 5, 1) := by decide +kernel
theorem dX11_offersDetailed_166 : decode cX11_offersDetailed 166 = .ok (.iadd, 1) := by decide +kernel
theorem dX11_offersDetailed_167 : decode cX11_offersDetailed 167 = .ok (.iconst 2, 1) := by decide +kernel
theorem dX11_offersDetailed_168 : decode cX11_offersDetailed 168 = .ok (.iadd, 1) := by decide +kernel
theorem dX11_offersDetailed_169 : decode cX11_offersDetailed 169 = .ok (.iaload, 1) := by decide +kernel
theorem dX11_offersDetailed_170 : decode cX11_offersDetailed 170 = .ok (.aload_n 0, 1) := by decide +kernel
theorem dX11_offersDetailed_171 : decode cX11_offersDetailed 171 = .ok (.getfield 26, 3) := by decide +kernel
theorem dX11_offersDetailed_174 : decode cX11_offersDetailed 174 = .ok (.iload_n 2, 1) := by decide +kernel
theorem dX11_offersDetailed_175 : decode cX11_offersDetailed 175 = .ok (.iconst 5, 1) := by decide +kernel
theorem dX11_offersDetailed_176 : decode cX11_offersDetailed 176 = .ok (.iadd, 1) := by decide +kernel
theorem dX11_offersDetailed_177 : decode cX11_offersDetailed 177 = .ok (.iconst 3, 1) := by decide +kernel
theorem dX11_offersDetailed_178 : decode cX11_offersDetailed 178 = .ok (.iadd, 1) := by decide +kernel
theorem dX11_offersDetailed_179 : decode cX11_offersDetailed 179 = .ok (.iaload, 1) := by decide +kernel
theorem dX11_offersDetailed_180 : decode cX11_offersDetailed 180 = .ok (.invokevirtual 201, 3) := by decide +kernel
theorem dX11_offersDetailed_183 : decode cX11_offersDetailed 183 = .ok (.iload_n 3, 1) := by decide +kernel
theorem dX11_offersDetailed_184 : decode cX11_offersDetailed 184 = .ok (.ifCond .eq 34, 3) := by decide +kernel
theorem dX11_offersDetailed_187 : decode cX11_offersDetailed 187 = .ok (.iload_n 1, 1) := by decide +kernel
theorem dX11_offersDetailed_188 : decode cX11_offersDetailed 188 = .ok (.ifCond .ne 30, 3) := by decide +kernel
theorem dX11_offersDetailed_191 : decode cX11_offersDetailed 191 = .ok (.aload_n 0, 1) := by decide +kernel
theorem dX11_offersDetailed_192 : decode cX11_offersDetailed 192 = .ok (.bipush 54, 2) := by decide +kernel
theorem dX11_offersDetailed_194 : decode cX11_offersDetailed 194 = .ok (.invokevirtual 167, 3) := by decide +kernel
theorem dX11_offersDetailed_197 : decode cX11_offersDetailed 197 = .ok (.ifCond .eq 21, 3) := by decide +kernel
theorem dX11_offersDetailed_200 : decode cX11_offersDetailed 200 = .ok (.aload_n 0, 1) := by decide +kernel
theorem dX11_offersDetailed_201 : decode cX11_offersDetailed 201 = .ok (.getfield 38, 3) := by decide +kernel
theorem dX11_offersDetailed_204 : decode cX11_offersDetailed 204 = .ok (.bipush 12, 2) := by decide +kernel
theorem dX11_offersDetailed_206 : decode cX11_offersDetailed 206 = .ok (.aload_n 0, 1) := by decide +kernel
theorem dX11_offersDetailed_207 : decode cX11_offersDetailed 207 = .ok (.getfield 134, 3) := by decide +kernel
theorem dX11_offersDetailed_210 : decode cX11_offersDetailed 210 = .ok (.iconst 1, 1) := by decide +kernel
theorem dX11_offersDetailed_211 : decode cX11_offersDetailed 211 = .ok (.isub, 1) := by decide +kernel
theorem dX11_offersDetailed_212 : decode cX11_offersDetailed 212 = .ok (.imul, 1) := by decide +kernel
theorem dX11_offersDetailed_213 : decode cX11_offersDetailed 213 = .ok (.bipush 7, 2) := by decide +kernel
theorem dX11_offersDetailed_215 : decode cX11_offersDetailed 215 = .ok (.iadd, 1) := by decide +kernel
theorem dX11_offersDetailed_216 : decode cX11_offersDetailed 216 = .ok (.iconst 1, 1) := by decide +kernel
theorem dX11_offersDetailed_217 : decode cX11_offersDetailed 217 = .ok (.iastore, 1) := by decide +kernel
theorem dX11_offersDetailed_218 : decode cX11_offersDetailed 218 = .ok (.return_, 1) := by decide +kernel
theorem dX11_offersCode_0 : decode cX11_offersCode 0 = .ok (.iconst 0, 1) := by decide +kernel
theorem dX11_offersCode_1 : decode cX11_offersCode 1 = .ok (.istore_n 2, 1) := by decide +kernel
theorem dX11_offersCode_2 : decode cX11_offersCode 2 = .ok (.iload_n 2, 1) := by decide +kernel
theorem dX11_offersCode_3 : decode cX11_offersCode 3 = .ok (.aload_n 0, 1) := by decide +kernel
theorem dX11_offersCode_4 : decode cX11_offersCode 4 = .ok (.getfield 51, 3) := by decide +kernel
theorem dX11_offersCode_7 : decode cX11_offersCode 7 = .ok (.arraylength, 1) := by decide +kernel
theorem dX11_offersCode_8 : decode cX11_offersCode 8 = .ok (.if_icmp .ge 84, 3) := by decide +kernel
theorem dX11_offersCode_11 : decode cX11_offersCode 11 = .ok (.iload_n 1, 1) := by decide +kernel
theorem dX11_offersCode_12 : decode cX11_offersCode 12 = .ok (.i2l, 1) := by decide +kernel
theorem dX11_offersCode_13 : decode cX11_offersCode 13 = .ok (.aload_n 0, 1) := by decide +kernel
theorem dX11_offersCode_14 : decode cX11_offersCode 14 = .ok (.getfield 51, 3) := by decide +kernel
theorem dX11_offersCode_17 : decode cX11_offersCode 17 = .ok (.iload_n 2, 1) := by decide +kernel
theorem dX11_offersCode_18 : decode cX11_offersCode 18 = .ok (.iaload, 1) := by decide +kernel
theorem dX11_offersCode_19 : decode cX11_offersCode 19 = .ok (.i2l, 1) := by decide +kernel
theorem dX11_offersCode_20 : decode cX11_offersCode 20 = .ok (.aload_n 0, 1) := by decide +kernel
theorem dX11_offersCode_21 : decode cX11_offersCode 21 = .ok (.getfield 51, 3) := by decide +kernel
theorem dX11_offersCode_24 : decode cX11_offersCode 24 = .ok (.iload_n 2, 1) := by decide +kernel
theorem dX11_offersCode_25 : decode cX11_offersCode 25 = .ok (.iconst 1, 1) := by decide +kernel
theorem dX11_offersCode_26 : decode cX11_offersCode 26 = .ok (.iadd, 1) := by decide +kernel
theorem dX11_offersCode_27 : decode cX11_offersCode 27 = .ok (.iaload, 1) := by decide +kernel
theorem dX11_offersCode_28 : decode cX11_offersCode 28 = .ok (.i2l, 1) := by decide +kernel
theorem dX11_offersCode_29 : decode cX11_offersCode 29 = .ok (.invokestatic 107, 3) := by decide +kernel
theorem dX11_offersCode_32 : decode cX11_offersCode 32 = .ok (.ifCond .ne 6, 3) := by decide +kernel
theorem dX11_offersCode_35 : decode cX11_offersCode 35 = .ok (.goto 51, 3) := by decide +kernel
theorem dX11_offersCode_38 : decode cX11_offersCode 38 = .ok (.aload_n 0, 1) := by decide +kernel
theorem dX11_offersCode_39 : decode cX11_offersCode 39 = .ok (.aload_n 0, 1) := by decide +kernel
theorem dX11_offersCode_40 : decode cX11_offersCode 40 = .ok (.getfield 51, 3) := by decide +kernel
theorem dX11_offersCode_43 : decode cX11_offersCode 43 = .ok (.iload_n 2, 1) := by decide +kernel
theorem dX11_offersCode_44 : decode cX11_offersCode 44 = .ok (.iconst 2, 1) := by decide +kernel
theorem dX11_offersCode_45 : decode cX11_offersCode 45 = .ok (.iadd, 1) := by decide +kernel
theorem dX11_offersCode_46 : decode cX11_offersCode 46 = .ok (.iaload, 1) := by decide +kernel
theorem dX11_offersCode_47 : decode cX11_offersCode 47 = .ok (.aload_n 0, 1) := by decide +kernel
theorem dX11_offersCode_48 : decode cX11_offersCode 48 = .ok (.getfield 51, 3) := by decide +kernel
theorem dX11_offersCode_51 : decode cX11_offersCode 51 = .ok (.iload_n 2, 1) := by decide +kernel
theorem dX11_offersCode_52 : decode cX11_offersCode 52 = .ok (.iconst 3, 1) := by decide +kernel
theorem dX11_offersCode_53 : decode cX11_offersCode 53 = .ok (.iadd, 1) := by decide +kernel
theorem dX11_offersCode_54 : decode cX11_offersCode 54 = .ok (.iaload, 1) := by decide +kernel
theorem dX11_offersCode_55 : decode cX11_offersCode 55 = .ok (.aload_n 0, 1) := by decide +kernel
theorem dX11_offersCode_56 : decode cX11_offersCode 56 = .ok (.getfield 51, 3) := by decide +kernel
theorem dX11_offersCode_59 : decode cX11_offersCode 59 = .ok (.iload_n 2, 1) := by decide +kernel
theorem dX11_offersCode_60 : decode cX11_offersCode 60 = .ok (.bipush 6, 2) := by decide +kernel
theorem dX11_offersCode_62 : decode cX11_offersCode 62 = .ok (.iadd, 1) := by decide +kernel
theorem dX11_offersCode_63 : decode cX11_offersCode 63 = .ok (.iaload, 1) := by decide +kernel
theorem dX11_offersCode_64 : decode cX11_offersCode 64 = .ok (.aload_n 0, 1) := by decide +kernel
theorem dX11_offersCode_65 : decode cX11_offersCode 65 = .ok (.getfield 51, 3) := by decide +kernel
theorem dX11_offersCode_68 : decode cX11_offersCode 68 = .ok (.iload_n 2, 1) := by decide +kernel
theorem dX11_offersCode_69 : decode cX11_offersCode 69 = .ok (.iconst 4, 1) := by decide +kernel
theorem dX11_offersCode_70 : decode cX11_offersCode 70 = .ok (.iadd, 1) := by decide +kernel
theorem dX11_offersCode_71 : decode cX11_offersCode 71 = .ok (.iaload, 1) := by decide +kernel
theorem dX11_offersCode_72 : decode cX11_offersCode 72 = .ok (.aload_n 0, 1) := by decide +kernel
theorem dX11_offersCode_73 : decode cX11_offersCode 73 = .ok (.getfield 51, 3) := by decide +kernel
theorem dX11_offersCode_76 : decode cX11_offersCode 76 = .ok (.iload_n 2, 1) := by decide +kernel
theorem dX11_offersCode_77 : decode cX11_offersCode 77 = .ok (.iconst 5, 1) := by decide +kernel
theorem dX11_offersCode_78 : decode cX11_offersCode 78 = .ok (.iadd, 1) := by decide +kernel
theorem dX11_offersCode_79 : decode cX11_offersCode 79 = .ok (.iaload, 1) := by decide +kernel
theorem dX11_offersCode_80 : decode cX11_offersCode 80 = .ok (.iconst 2, 1) := by decide +kernel
theorem dX11_offersCode_81 : decode cX11_offersCode 81 = .ok (.invokevirtual 197, 3) := by decide +kernel
theorem dX11_offersCode_84 : decode cX11_offersCode 84 = .ok (.istore_n 3, 1) := by decide +kernel
theorem dX11_offersCode_85 : decode cX11_offersCode 85 = .ok (.return_, 1) := by decide +kernel
theorem dX11_offersCode_86 : decode cX11_offersCode 86 = .ok (.iinc 2 7, 3) := by decide +kernel
theorem dX11_offersCode_89 : decode cX11_offersCode 89 = .ok (.goto (-87), 3) := by decide +kernel
theorem dX11_offersCode_92 : decode cX11_offersCode 92 = .ok (.aload_n 0, 1) := by decide +kernel
theorem dX11_offersCode_93 : decode cX11_offersCode 93 = .ok (.getfield 44, 3) := by decide +kernel
theorem dX11_offersCode_96 : decode cX11_offersCode 96 = .ok (.iconst 1, 1) := by decide +kernel
theorem dX11_offersCode_97 : decode cX11_offersCode 97 = .ok (.dup2, 1) := by decide +kernel
theorem dX11_offersCode_98 : decode cX11_offersCode 98 = .ok (.iaload, 1) := by decide +kernel
theorem dX11_offersCode_99 : decode cX11_offersCode 99 = .ok (.iconst 1, 1) := by decide +kernel
theorem dX11_offersCode_100 : decode cX11_offersCode 100 = .ok (.iadd, 1) := by decide +kernel
theorem dX11_offersCode_101 : decode cX11_offersCode 101 = .ok (.iastore, 1) := by decide +kernel
theorem dX11_offersCode_102 : decode cX11_offersCode 102 = .ok (.return_, 1) := by decide +kernel
theorem dX11_offersPlain_0 : decode cX11_offersPlain 0 = .ok (.aload_n 0, 1) := by decide +kernel
theorem dX11_offersPlain_1 : decode cX11_offersPlain 1 = .ok (.iconst 0, 1) := by decide +kernel
theorem dX11_offersPlain_2 : decode cX11_offersPlain 2 = .ok (.iload_n 1, 1) := by decide +kernel
theorem dX11_offersPlain_3 : decode cX11_offersPlain 3 = .ok (.iload_n 2, 1) := by decide +kernel
theorem dX11_offersPlain_4 : decode cX11_offersPlain 4 = .ok (.iload_n 3, 1) := by decide +kernel
theorem dX11_offersPlain_5 : decode cX11_offersPlain 5 = .ok (.invokevirtual 205, 3) := by decide +kernel
theorem dX11_offersPlain_8 : decode cX11_offersPlain 8 = .ok (.aload_n 0, 1) := by decide +kernel
theorem dX11_offersPlain_9 : decode cX11_offersPlain 9 = .ok (.aload_n 0, 1) := by decide +kernel
theorem dX11_offersPlain_10 : decode cX11_offersPlain 10 = .ok (.getfield 63, 3) := by decide +kernel
theorem dX11_offersPlain_13 : decode cX11_offersPlain 13 = .ok (.iconst 0, 1) := by decide +kernel
theorem dX11_offersPlain_14 : decode cX11_offersPlain 14 = .ok (.iaload, 1) := by decide +kernel
theorem dX11_offersPlain_15 : decode cX11_offersPlain 15 = .ok (.aload_n 0, 1) := by decide +kernel
theorem dX11_offersPlain_16 : decode cX11_offersPlain 16 = .ok (.getfield 63, 3) := by decide +kernel
theorem dX11_offersPlain_19 : decode cX11_offersPlain 19 = .ok (.iconst 4, 1) := by decide +kernel
theorem dX11_offersPlain_20 : decode cX11_offersPlain 20 = .ok (.iaload, 1) := by decide +kernel
theorem dX11_offersPlain_21 : decode cX11_offersPlain 21 = .ok (.aload_n 0, 1) := by decide +kernel
theorem dX11_offersPlain_22 : decode cX11_offersPlain 22 = .ok (.getfield 63, 3) := by decide +kernel
theorem dX11_offersPlain_25 : decode cX11_offersPlain 25 = .ok (.bipush 8, 2) := by decide +kernel
theorem dX11_offersPlain_27 : decode cX11_offersPlain 27 = .ok (.iaload, 1) := by decide +kernel
theorem dX11_offersPlain_28 : decode cX11_offersPlain 28 = .ok (.aload_n 0, 1) := by decide +kernel
theorem dX11_offersPlain_29 : decode cX11_offersPlain 29 = .ok (.getfield 63, 3) := by decide +kernel
theorem dX11_offersPlain_32 : decode cX11_offersPlain 32 = .ok (.iconst 0, 1) := by decide +kernel
theorem dX11_offersPlain_33 : decode cX11_offersPlain 33 = .ok (.iaload, 1) := by decide +kernel
theorem dX11_offersPlain_34 : decode cX11_offersPlain 34 = .ok (.aload_n 0, 1) := by decide +kernel
theorem dX11_offersPlain_35 : decode cX11_offersPlain 35 = .ok (.getfield 63, 3) := by decide +kernel
theorem dX11_offersPlain_38 : decode cX11_offersPlain 38 = .ok (.iconst 1, 1) := by decide +kernel
theorem dX11_offersPlain_39 : decode cX11_offersPlain 39 = .ok (.iaload, 1) := by decide +kernel
theorem dX11_offersPlain_40 : decode cX11_offersPlain 40 = .ok (.iadd, 1) := by decide +kernel
theorem dX11_offersPlain_41 : decode cX11_offersPlain 41 = .ok (.aload_n 0, 1) := by decide +kernel
theorem dX11_offersPlain_42 : decode cX11_offersPlain 42 = .ok (.getfield 63, 3) := by decide +kernel
theorem dX11_offersPlain_45 : decode cX11_offersPlain 45 = .ok (.iconst 4, 1) := by decide +kernel
theorem dX11_offersPlain_46 : decode cX11_offersPlain 46 = .ok (.iaload, 1) := by decide +kernel
theorem dX11_offersPlain_47 : decode cX11_offersPlain 47 = .ok (.aload_n 0, 1) := by decide +kernel
theorem dX11_offersPlain_48 : decode cX11_offersPlain 48 = .ok (.getfield 63, 3) := by decide +kernel
theorem dX11_offersPlain_51 : decode cX11_offersPlain 51 = .ok (.iconst 5, 1) := by decide +kernel
theorem dX11_offersPlain_52 : decode cX11_offersPlain 52 = .ok (.iaload, 1) := by decide +kernel
theorem dX11_offersPlain_53 : decode cX11_offersPlain 53 = .ok (.iadd, 1) := by decide +kernel
theorem dX11_offersPlain_54 : decode cX11_offersPlain 54 = .ok (.iload 4, 2) := by decide +kernel
theorem dX11_offersPlain_56 : decode cX11_offersPlain 56 = .ok (.invokevirtual 197, 3) := by decide +kernel
theorem dX11_offersPlain_59 : decode cX11_offersPlain 59 = .ok (.ifCond .eq 33, 3) := by decide +kernel
theorem dX11_offersPlain_62 : decode cX11_offersPlain 62 = .ok (.aload_n 0, 1) := by decide +kernel
theorem dX11_offersPlain_63 : decode cX11_offersPlain 63 = .ok (.aload_n 0, 1) := by decide +kernel
theorem dX11_offersPlain_64 : decode cX11_offersPlain 64 = .ok (.getfield 63, 3) := by decide +kernel
theorem dX11_offersPlain_67 : decode cX11_offersPlain 67 = .ok (.iconst 2, 1) := by decide +kernel
theorem dX11_offersPlain_68 : decode cX11_offersPlain 68 = .ok (.iaload, 1) := by decide +kernel
theorem dX11_offersPlain_69 : decode cX11_offersPlain 69 = .ok (.aload_n 0, 1) := by decide +kernel
theorem dX11_offersPlain_70 : decode cX11_offersPlain 70 = .ok (.getfield 63, 3) := by decide +kernel
theorem dX11_offersPlain_73 : decode cX11_offersPlain 73 = .ok (.iconst 3, 1) := by decide +kernel
theorem dX11_offersPlain_74 : decode cX11_offersPlain 74 = .ok (.iaload, 1) := by decide +kernel
theorem dX11_offersPlain_75 : decode cX11_offersPlain 75 = .ok (.aload_n 0, 1) := by decide +kernel
theorem dX11_offersPlain_76 : decode cX11_offersPlain 76 = .ok (.getfield 63, 3) := by decide +kernel
theorem dX11_offersPlain_79 : decode cX11_offersPlain 79 = .ok (.bipush 6, 2) := by decide +kernel
theorem dX11_offersPlain_81 : decode cX11_offersPlain 81 = .ok (.iaload, 1) := by decide +kernel
theorem dX11_offersPlain_82 : decode cX11_offersPlain 82 = .ok (.aload_n 0, 1) := by decide +kernel
theorem dX11_offersPlain_83 : decode cX11_offersPlain 83 = .ok (.getfield 63, 3) := by decide +kernel
theorem dX11_offersPlain_86 : decode cX11_offersPlain 86 = .ok (.bipush 7, 2) := by decide +kernel
theorem dX11_offersPlain_88 : decode cX11_offersPlain 88 = .ok (.iaload, 1) := by decide +kernel
theorem dX11_offersPlain_89 : decode cX11_offersPlain 89 = .ok (.invokevirtual 201, 3) := by decide +kernel
theorem dX11_offersPlain_92 : decode cX11_offersPlain 92 = .ok (.return_, 1) := by decide +kernel
theorem dX11_reads_0 : decode cX11_reads 0 = .ok (.aload_n 0, 1) := by decide +kernel
theorem dX11_reads_1 : decode cX11_reads 1 = .ok (.invokevirtual 208, 3) := by decide +kernel
theorem dX11_reads_4 : decode cX11_reads 4 = .ok (.aload_n 0, 1) := by decide +kernel
theorem dX11_reads_5 : decode cX11_reads 5 = .ok (.iconst 0, 1) := by decide +kernel
theorem dX11_reads_6 : decode cX11_reads 6 = .ok (.putfield 134, 3) := by decide +kernel
theorem dX11_reads_9 : decode cX11_reads 9 = .ok (.iconst 0, 1) := by decide +kernel
theorem dX11_reads_10 : decode cX11_reads 10 = .ok (.istore_n 1, 1) := by decide +kernel
theorem dX11_reads_11 : decode cX11_reads 11 = .ok (.iload_n 1, 1) := by decide +kernel
theorem dX11_reads_12 : decode cX11_reads 12 = .ok (.bipush 7, 2) := by decide +kernel
theorem dX11_reads_14 : decode cX11_reads 14 = .ok (.if_icmp .ge 16, 3) := by decide +kernel
theorem dX11_reads_17 : decode cX11_reads 17 = .ok (.aload_n 0, 1) := by decide +kernel
theorem dX11_reads_18 : decode cX11_reads 18 = .ok (.getfield 44, 3) := by decide +kernel
theorem dX11_reads_21 : decode cX11_reads 21 = .ok (.iload_n 1, 1) := by decide +kernel
theorem dX11_reads_22 : decode cX11_reads 22 = .ok (.iconst 0, 1) := by decide +kernel
theorem dX11_reads_23 : decode cX11_reads 23 = .ok (.iastore, 1) := by decide +kernel
theorem dX11_reads_24 : decode cX11_reads 24 = .ok (.iinc 1 1, 3) := by decide +kernel
theorem dX11_reads_27 : decode cX11_reads 27 = .ok (.goto (-16), 3) := by decide +kernel
theorem dX11_reads_30 : decode cX11_reads 30 = .ok (.iconst 0, 1) := by decide +kernel
theorem dX11_reads_31 : decode cX11_reads 31 = .ok (.istore_n 1, 1) := by decide +kernel
theorem dX11_reads_32 : decode cX11_reads 32 = .ok (.iload_n 1, 1) := by decide +kernel
theorem dX11_reads_33 : decode cX11_reads 33 = .ok (.aload_n 0, 1) := by decide +kernel
theorem dX11_reads_34 : decode cX11_reads 34 = .ok (.getfield 137, 3) := by decide +kernel
theorem dX11_reads_37 : decode cX11_reads 37 = .ok (.if_icmp .ge 14, 3) := by decide +kernel
theorem dX11_reads_40 : decode cX11_reads 40 = .ok (.aload_n 0, 1) := by decide +kernel
theorem dX11_reads_41 : decode cX11_reads 41 = .ok (.iload_n 1, 1) := by decide +kernel
theorem dX11_reads_42 : decode cX11_reads 42 = .ok (.invokevirtual 211, 3) := by decide +kernel
theorem dX11_reads_45 : decode cX11_reads 45 = .ok (.iinc 1 1, 3) := by decide +kernel
theorem dX11_reads_48 : decode cX11_reads 48 = .ok (.goto (-16), 3) := by decide +kernel
theorem dX11_reads_51 : decode cX11_reads 51 = .ok (.iconst 0, 1) := by decide +kernel
theorem dX11_reads_52 : decode cX11_reads 52 = .ok (.istore_n 1, 1) := by decide +kernel
theorem dX11_reads_53 : decode cX11_reads 53 = .ok (.iload_n 1, 1) := by decide +kernel
theorem dX11_reads_54 : decode cX11_reads 54 = .ok (.aload_n 0, 1) := by decide +kernel
theorem dX11_reads_55 : decode cX11_reads 55 = .ok (.getfield 161, 3) := by decide +kernel
theorem dX11_reads_58 : decode cX11_reads 58 = .ok (.if_icmp .ge 19, 3) := by decide +kernel
theorem dX11_reads_61 : decode cX11_reads 61 = .ok (.aload_n 0, 1) := by decide +kernel
theorem dX11_reads_62 : decode cX11_reads 62 = .ok (.aload_n 0, 1) := by decide +kernel
theorem dX11_reads_63 : decode cX11_reads 63 = .ok (.getfield 35, 3) := by decide +kernel
theorem dX11_reads_66 : decode cX11_reads 66 = .ok (.iload_n 1, 1) := by decide +kernel
theorem dX11_reads_67 : decode cX11_reads 67 = .ok (.iaload, 1) := by decide +kernel
theorem dX11_reads_68 : decode cX11_reads 68 = .ok (.invokevirtual 214, 3) := by decide +kernel
theorem dX11_reads_71 : decode cX11_reads 71 = .ok (.iinc 1 1, 3) := by decide +kernel
theorem dX11_reads_74 : decode cX11_reads 74 = .ok (.goto (-21), 3) := by decide +kernel
theorem dX11_reads_77 : decode cX11_reads 77 = .ok (.bipush 38, 2) := by decide +kernel
theorem dX11_reads_79 : decode cX11_reads 79 = .ok (.istore_n 1, 1) := by decide +kernel
theorem dX11_reads_80 : decode cX11_reads 80 = .ok (.iload_n 1, 1) := by decide +kernel
theorem dX11_reads_81 : decode cX11_reads 81 = .ok (.bipush 54, 2) := by decide +kernel
theorem dX11_reads_83 : decode cX11_reads 83 = .ok (.if_icmp .ge 133, 3) := by decide +kernel
theorem dX11_reads_86 : decode cX11_reads 86 = .ok (.aload_n 0, 1) := by decide +kernel
theorem dX11_reads_87 : decode cX11_reads 87 = .ok (.iload_n 1, 1) := by decide +kernel
theorem dX11_reads_88 : decode cX11_reads 88 = .ok (.invokevirtual 140, 3) := by decide +kernel
theorem dX11_reads_91 : decode cX11_reads 91 = .ok (.ifCond .eq 119, 3) := by decide +kernel
theorem dX11_reads_94 : decode cX11_reads 94 = .ok (.aload_n 0, 1) := by decide +kernel
theorem dX11_reads_95 : decode cX11_reads 95 = .ok (.iload_n 1, 1) := by decide +kernel
theorem dX11_reads_96 : decode cX11_reads 96 = .ok (.invokevirtual 140, 3) := by decide +kernel
theorem dX11_reads_99 : decode cX11_reads 99 = .ok (.iconst 1, 1) := by decide +kernel
theorem dX11_reads_100 : decode cX11_reads 100 = .ok (.if_icmp .ne 17, 3) := by decide +kernel
theorem dX11_reads_103 : decode cX11_reads 103 = .ok (.aload_n 0, 1) := by decide +kernel
theorem dX11_reads_104 : decode cX11_reads 104 = .ok (.iload_n 1, 1) := by decide +kernel
theorem dX11_reads_105 : decode cX11_reads 105 = .ok (.iconst 1, 1) := by decide +kernel
theorem dX11_reads_106 : decode cX11_reads 106 = .ok (.iadd, 1) := by decide +kernel
theorem dX11_reads_107 : decode cX11_reads 107 = .ok (.invokevirtual 140, 3) := by decide +kernel
theorem dX11_reads_110 : decode cX11_reads 110 = .ok (.iconst 1, 1) := by decide +kernel
theorem dX11_reads_111 : decode cX11_reads 111 = .ok (.if_icmp .ne 6, 3) := by decide +kernel
theorem dX11_reads_114 : decode cX11_reads 114 = .ok (.goto 96, 3) := by decide +kernel
theorem dX11_reads_117 : decode cX11_reads 117 = .ok (.bipush 8, 2) := by decide +kernel
theorem dX11_reads_119 : decode cX11_reads 119 = .ok (.aload_n 0, 1) := by decide +kernel
theorem dX11_reads_120 : decode cX11_reads 120 = .ok (.iload_n 1, 1) := by decide +kernel
theorem dX11_reads_121 : decode cX11_reads 121 = .ok (.invokevirtual 140, 3) := by decide +kernel
theorem dX11_reads_124 : decode cX11_reads 124 = .ok (.bipush 31, 2) := by decide +kernel
theorem dX11_reads_126 : decode cX11_reads 126 = .ok (.iadd, 1) := by decide +kernel
theorem dX11_reads_127 : decode cX11_reads 127 = .ok (.imul, 1) := by decide +kernel
theorem dX11_reads_128 : decode cX11_reads 128 = .ok (.istore_n 2, 1) := by decide +kernel
theorem dX11_reads_129 : decode cX11_reads 129 = .ok (.aload_n 0, 1) := by decide +kernel
theorem dX11_reads_130 : decode cX11_reads 130 = .ok (.iload_n 1, 1) := by decide +kernel
theorem dX11_reads_131 : decode cX11_reads 131 = .ok (.iconst 1, 1) := by decide +kernel
theorem dX11_reads_132 : decode cX11_reads 132 = .ok (.iadd, 1) := by decide +kernel
theorem dX11_reads_133 : decode cX11_reads 133 = .ok (.invokevirtual 140, 3) := by decide +kernel
theorem dX11_reads_136 : decode cX11_reads 136 = .ok (.bipush 64, 2) := by decide +kernel
theorem dX11_reads_138 : decode cX11_reads 138 = .ok (.idiv, 1) := by decide +kernel
theorem dX11_reads_139 : decode cX11_reads 139 = .ok (.istore_n 3, 1) := by decide +kernel
theorem dX11_reads_140 : decode cX11_reads 140 = .ok (.iload_n 3, 1) := by decide +kernel
theorem dX11_reads_141 : decode cX11_reads 141 = .ok (.ifCond .ne 13, 3) := by decide +kernel
theorem dX11_reads_144 : decode cX11_reads 144 = .ok (.iload_n 2, 1) := by decide +kernel
theorem dX11_reads_145 : decode cX11_reads 145 = .ok (.bipush 10, 2) := by decide +kernel
theorem dX11_reads_147 : decode cX11_reads 147 = .ok (.imul, 1) := by decide +kernel
theorem dX11_reads_148 : decode cX11_reads 148 = .ok (.bipush 16, 2) := by decide +kernel
theorem dX11_reads_150 : decode cX11_reads 150 = .ok (.idiv, 1) := by decide +kernel
theorem dX11_reads_151 : decode cX11_reads 151 = .ok (.goto 36, 3) := by decide +kernel
theorem dX11_reads_154 : decode cX11_reads 154 = .ok (.iload_n 3, 1) := by decide +kernel
theorem dX11_reads_155 : decode cX11_reads 155 = .ok (.iconst 1, 1) := by decide +kernel
theorem dX11_reads_156 : decode cX11_reads 156 = .ok (.if_icmp .ne 11, 3) := by decide +kernel
theorem dX11_reads_159 : decode cX11_reads 159 = .ok (.iload_n 2, 1) := by decide +kernel
theorem dX11_reads_160 : decode cX11_reads 160 = .ok (.iconst 3, 1) := by decide +kernel
theorem dX11_reads_161 : decode cX11_reads 161 = .ok (.imul, 1) := by decide +kernel
theorem dX11_reads_162 : decode cX11_reads 162 = .ok (.iconst 4, 1) := by decide +kernel
theorem dX11_reads_163 : decode cX11_reads 163 = .ok (.idiv, 1) := by decide +kernel
theorem dX11_reads_164 : decode cX11_reads 164 = .ok (.goto 23, 3) := by decide +kernel
theorem dX11_reads_167 : decode cX11_reads 167 = .ok (.iload_n 3, 1) := by decide +kernel
theorem dX11_reads_168 : decode cX11_reads 168 = .ok (.iconst 2, 1) := by decide +kernel
theorem dX11_reads_169 : decode cX11_reads 169 = .ok (.if_icmp .ne 11, 3) := by decide +kernel
theorem dX11_reads_172 : decode cX11_reads 172 = .ok (.iload_n 2, 1) := by decide +kernel
theorem dX11_reads_173 : decode cX11_reads 173 = .ok (.iconst 4, 1) := by decide +kernel
theorem dX11_reads_174 : decode cX11_reads 174 = .ok (.imul, 1) := by decide +kernel
theorem dX11_reads_175 : decode cX11_reads 175 = .ok (.iconst 5, 1) := by decide +kernel
theorem dX11_reads_176 : decode cX11_reads 176 = .ok (.idiv, 1) := by decide +kernel
theorem dX11_reads_177 : decode cX11_reads 177 = .ok (.goto 10, 3) := by decide +kernel
theorem dX11_reads_180 : decode cX11_reads 180 = .ok (.iload_n 2, 1) := by decide +kernel
theorem dX11_reads_181 : decode cX11_reads 181 = .ok (.bipush 9, 2) := by decide +kernel
theorem dX11_reads_183 : decode cX11_reads 183 = .ok (.imul, 1) := by decide +kernel
theorem dX11_reads_184 : decode cX11_reads 184 = .ok (.bipush 16, 2) := by decide +kernel
theorem dX11_reads_186 : decode cX11_reads 186 = .ok (.idiv, 1) := by decide +kernel
theorem dX11_reads_187 : decode cX11_reads 187 = .ok (.istore 4, 2) := by decide +kernel
theorem dX11_reads_189 : decode cX11_reads 189 = .ok (.aload_n 0, 1) := by decide +kernel
theorem dX11_reads_190 : decode cX11_reads 190 = .ok (.iload_n 2, 1) := by decide +kernel
theorem dX11_reads_191 : decode cX11_reads 191 = .ok (.iload 4, 2) := by decide +kernel
theorem dX11_reads_193 : decode cX11_reads 193 = .ok (.bipush 60, 2) := by decide +kernel
theorem dX11_reads_195 : decode cX11_reads 195 = .ok (.aload_n 0, 1) := by decide +kernel
theorem dX11_reads_196 : decode cX11_reads 196 = .ok (.iload_n 1, 1) := by decide +kernel
theorem dX11_reads_197 : decode cX11_reads 197 = .ok (.iconst 1, 1) := by decide +kernel
theorem dX11_reads_198 : decode cX11_reads 198 = .ok (.iadd, 1) := by decide +kernel
theorem dX11_reads_199 : decode cX11_reads 199 = .ok (.invokevirtual 140, 3) := by decide +kernel
theorem dX11_reads_202 : decode cX11_reads 202 = .ok (.bipush 64, 2) := by decide +kernel
theorem dX11_reads_204 : decode cX11_reads 204 = .ok (.irem, 1) := by decide +kernel
theorem dX11_reads_205 : decode cX11_reads 205 = .ok (.iadd, 1) := by decide +kernel
theorem dX11_reads_206 : decode cX11_reads 206 = .ok (.iconst 3, 1) := by decide +kernel
theorem dX11_reads_207 : decode cX11_reads 207 = .ok (.invokevirtual 217, 3) := by decide +kernel
theorem dX11_reads_210 : decode cX11_reads 210 = .ok (.iinc 1 2, 3) := by decide +kernel
theorem dX11_reads_213 : decode cX11_reads 213 = .ok (.goto (-133), 3) := by decide +kernel
theorem dX11_reads_216 : decode cX11_reads 216 = .ok (.iconst 0, 1) := by decide +kernel
theorem dX11_reads_217 : decode cX11_reads 217 = .ok (.istore_n 1, 1) := by decide +kernel
theorem dX11_reads_218 : decode cX11_reads 218 = .ok (.iload_n 1, 1) := by decide +kernel
theorem dX11_reads_219 : decode cX11_reads 219 = .ok (.aload_n 0, 1) := by decide +kernel
theorem dX11_reads_220 : decode cX11_reads 220 = .ok (.getfield 54, 3) := by decide +kernel
theorem dX11_reads_223 : decode cX11_reads 223 = .ok (.arraylength, 1) := by decide +kernel
theorem dX11_reads_224 : decode cX11_reads 224 = .ok (.if_icmp .ge 62, 3) := by decide +kernel
theorem dX11_reads_227 : decode cX11_reads 227 = .ok (.aload_n 0, 1) := by decide +kernel
theorem dX11_reads_228 : decode cX11_reads 228 = .ok (.aload_n 0, 1) := by decide +kernel
theorem dX11_reads_229 : decode cX11_reads 229 = .ok (.getfield 54, 3) := by decide +kernel
theorem dX11_reads_232 : decode cX11_reads 232 = .ok (.iload_n 1, 1) := by decide +kernel
theorem dX11_reads_233 : decode cX11_reads 233 = .ok (.iaload, 1) := by decide +kernel
theorem dX11_reads_234 : decode cX11_reads 234 = .ok (.invokevirtual 140, 3) := by decide +kernel
theorem dX11_reads_237 : decode cX11_reads 237 = .ok (.aload_n 0, 1) := by decide +kernel
theorem dX11_reads_238 : decode cX11_reads 238 = .ok (.getfield 54, 3) := by decide +kernel
theorem dX11_reads_241 : decode cX11_reads 241 = .ok (.iload_n 1, 1) := by decide +kernel
theorem dX11_reads_242 : decode cX11_reads 242 = .ok (.iconst 1, 1) := by decide +kernel
theorem dX11_reads_243 : decode cX11_reads 243 = .ok (.iadd, 1) := by decide +kernel
theorem dX11_reads_244 : decode cX11_reads 244 = .ok (.iaload, 1) := by decide +kernel
theorem dX11_reads_245 : decode cX11_reads 245 = .ok (.invokestatic 220, 3) := by decide +kernel
theorem dX11_reads_248 : decode cX11_reads 248 = .ok (.ifCond .eq 32, 3) := by decide +kernel
theorem dX11_reads_251 : decode cX11_reads 251 = .ok (.aload_n 0, 1) := by decide +kernel
theorem dX11_reads_252 : decode cX11_reads 252 = .ok (.aload_n 0, 1) := by decide +kernel
theorem dX11_reads_253 : decode cX11_reads 253 = .ok (.getfield 54, 3) := by decide +kernel
theorem dX11_reads_256 : decode cX11_reads 256 = .ok (.iload_n 1, 1) := by decide +kernel
theorem dX11_reads_257 : decode cX11_reads 257 = .ok (.iconst 2, 1) := by decide +kernel
theorem dX11_reads_258 : decode cX11_reads 258 = .ok (.iadd, 1) := by decide +kernel
theorem dX11_reads_259 : decode cX11_reads 259 = .ok (.iaload, 1) := by decide +kernel
theorem dX11_reads_260 : decode cX11_reads 260 = .ok (.aload_n 0, 1) := by decide +kernel
theorem dX11_reads_261 : decode cX11_reads 261 = .ok (.getfield 54, 3) := by decide +kernel
theorem dX11_reads_264 : decode cX11_reads 264 = .ok (.iload_n 1, 1) := by decide +kernel
theorem dX11_reads_265 : decode cX11_reads 265 = .ok (.iconst 3, 1) := by decide +kernel
theorem dX11_reads_266 : decode cX11_reads 266 = .ok (.iadd, 1) := by decide +kernel
theorem dX11_reads_267 : decode cX11_reads 267 = .ok (.iaload, 1) := by decide +kernel
theorem dX11_reads_268 : decode cX11_reads 268 = .ok (.aload_n 0, 1) := by decide +kernel
theorem dX11_reads_269 : decode cX11_reads 269 = .ok (.getfield 54, 3) := by decide +kernel
theorem dX11_reads_272 : decode cX11_reads 272 = .ok (.iload_n 1, 1) := by decide +kernel
theorem dX11_reads_273 : decode cX11_reads 273 = .ok (.iconst 4, 1) := by decide +kernel
theorem dX11_reads_274 : decode cX11_reads 274 = .ok (.iadd, 1) := by decide +kernel
theorem dX11_reads_275 : decode cX11_reads 275 = .ok (.iaload, 1) := by decide +kernel
theorem dX11_reads_276 : decode cX11_reads 276 = .ok (.iconst 4, 1) := by decide +kernel
theorem dX11_reads_277 : decode cX11_reads 277 = .ok (.invokevirtual 217, 3) := by decide +kernel
theorem dX11_reads_280 : decode cX11_reads 280 = .ok (.iinc 1 5, 3) := by decide +kernel
theorem dX11_reads_283 : decode cX11_reads 283 = .ok (.goto (-65), 3) := by decide +kernel
theorem dX11_reads_286 : decode cX11_reads 286 = .ok (.iconst 0, 1) := by decide +kernel
theorem dX11_reads_287 : decode cX11_reads 287 = .ok (.istore_n 1, 1) := by decide +kernel
theorem dX11_reads_288 : decode cX11_reads 288 = .ok (.iload_n 1, 1) := by decide +kernel
theorem dX11_reads_289 : decode cX11_reads 289 = .ok (.aload_n 0, 1) := by decide +kernel
theorem dX11_reads_290 : decode cX11_reads 290 = .ok (.getfield 134, 3) := by decide +kernel
theorem dX11_reads_293 : decode cX11_reads 293 = .ok (.if_icmp .ge 58, 3) := by decide +kernel
theorem dX11_reads_296 : decode cX11_reads 296 = .ok (.iload_n 1, 1) := by decide +kernel
theorem dX11_reads_297 : decode cX11_reads 297 = .ok (.istore_n 2, 1) := by decide +kernel
theorem dX11_reads_298 : decode cX11_reads 298 = .ok (.iload_n 2, 1) := by decide +kernel
theorem dX11_reads_299 : decode cX11_reads 299 = .ok (.ifCond .le 39, 3) := by decide +kernel
theorem dX11_reads_302 : decode cX11_reads 302 = .ok (.aload_n 0, 1) := by decide +kernel
theorem dX11_reads_303 : decode cX11_reads 303 = .ok (.iload_n 1, 1) := by decide +kernel
theorem dX11_reads_304 : decode cX11_reads 304 = .ok (.aload_n 0, 1) := by decide +kernel
theorem dX11_reads_305 : decode cX11_reads 305 = .ok (.getfield 41, 3) := by decide +kernel
theorem dX11_reads_308 : decode cX11_reads 308 = .ok (.iload_n 2, 1) := by decide +kernel
theorem dX11_reads_309 : decode cX11_reads 309 = .ok (.iconst 1, 1) := by decide +kernel
theorem dX11_reads_310 : decode cX11_reads 310 = .ok (.isub, 1) := by decide +kernel
theorem dX11_reads_311 : decode cX11_reads 311 = .ok (.iaload, 1) := by decide +kernel
theorem dX11_reads_312 : decode cX11_reads 312 = .ok (.invokevirtual 224, 3) := by decide +kernel
theorem dX11_reads_315 : decode cX11_reads 315 = .ok (.ifCond .eq 23, 3) := by decide +kernel
theorem dX11_reads_318 : decode cX11_reads 318 = .ok (.aload_n 0, 1) := by decide +kernel
theorem dX11_reads_319 : decode cX11_reads 319 = .ok (.getfield 41, 3) := by decide +kernel
theorem dX11_reads_322 : decode cX11_reads 322 = .ok (.iload_n 2, 1) := by decide +kernel
theorem dX11_reads_323 : decode cX11_reads 323 = .ok (.aload_n 0, 1) := by decide +kernel
theorem dX11_reads_324 : decode cX11_reads 324 = .ok (.getfield 41, 3) := by decide +kernel
theorem dX11_reads_327 : decode cX11_reads 327 = .ok (.iload_n 2, 1) := by decide +kernel
theorem dX11_reads_328 : decode cX11_reads 328 = .ok (.iconst 1, 1) := by decide +kernel
theorem dX11_reads_329 : decode cX11_reads 329 = .ok (.isub, 1) := by decide +kernel
theorem dX11_reads_330 : decode cX11_reads 330 = .ok (.iaload, 1) := by decide +kernel
theorem dX11_reads_331 : decode cX11_reads 331 = .ok (.iastore, 1) := by decide +kernel
theorem dX11_reads_332 : decode cX11_reads 332 = .ok (.iinc 2 (-1), 3) := by decide +kernel
theorem dX11_reads_335 : decode cX11_reads 335 = .ok (.goto (-37), 3) := by decide +kernel
theorem dX11_reads_338 : decode cX11_reads 338 = .ok (.aload_n 0, 1) := by decide +kernel
theorem dX11_reads_339 : decode cX11_reads 339 = .ok (.getfield 41, 3) := by decide +kernel
theorem dX11_reads_342 : decode cX11_reads 342 = .ok (.iload_n 2, 1) := by decide +kernel
theorem dX11_reads_343 : decode cX11_reads 343 = .ok (.iload_n 1, 1) := by decide +kernel
theorem dX11_reads_344 : decode cX11_reads 344 = .ok (.iastore, 1) := by decide +kernel
theorem dX11_reads_345 : decode cX11_reads 345 = .ok (.iinc 1 1, 3) := by decide +kernel
theorem dX11_reads_348 : decode cX11_reads 348 = .ok (.goto (-60), 3) := by decide +kernel
theorem dX11_reads_351 : decode cX11_reads 351 = .ok (.return_, 1) := by decide +kernel
theorem dX11_isAhead_0 : decode cX11_isAhead 0 = .ok (.bipush 12, 2) := by decide +kernel
theorem dX11_isAhead_2 : decode cX11_isAhead 2 = .ok (.iload_n 1, 1) := by decide +kernel
theorem dX11_isAhead_3 : decode cX11_isAhead 3 = .ok (.imul, 1) := by decide +kernel
theorem dX11_isAhead_4 : decode cX11_isAhead 4 = .ok (.istore_n 3, 1) := by decide +kernel
theorem dX11_isAhead_5 : decode cX11_isAhead 5 = .ok (.bipush 12, 2) := by decide +kernel
theorem dX11_isAhead_7 : decode cX11_isAhead 7 = .ok (.iload_n 2, 1) := by decide +kernel
theorem dX11_isAhead_8 : decode cX11_isAhead 8 = .ok (.imul, 1) := by decide +kernel
theorem dX11_isAhead_9 : decode cX11_isAhead 9 = .ok (.istore 4, 2) := by decide +kernel
theorem dX11_isAhead_11 : decode cX11_isAhead 11 = .ok (.aload_n 0, 1) := by decide +kernel
theorem dX11_isAhead_12 : decode cX11_isAhead 12 = .ok (.getfield 38, 3) := by decide +kernel
theorem dX11_isAhead_15 : decode cX11_isAhead 15 = .ok (.iload_n 3, 1) := by decide +kernel
theorem dX11_isAhead_16 : decode cX11_isAhead 16 = .ok (.bipush 7, 2) := by decide +kernel
theorem dX11_isAhead_18 : decode cX11_isAhead 18 = .ok (.iadd, 1) := by decide +kernel
theorem dX11_isAhead_19 : decode cX11_isAhead 19 = .ok (.iaload, 1) := by decide +kernel
theorem dX11_isAhead_20 : decode cX11_isAhead 20 = .ok (.aload_n 0, 1) := by decide +kernel
theorem dX11_isAhead_21 : decode cX11_isAhead 21 = .ok (.getfield 38, 3) := by decide +kernel
theorem dX11_isAhead_24 : decode cX11_isAhead 24 = .ok (.iload 4, 2) := by decide +kernel
theorem dX11_isAhead_26 : decode cX11_isAhead 26 = .ok (.bipush 7, 2) := by decide +kernel
theorem dX11_isAhead_28 : decode cX11_isAhead 28 = .ok (.iadd, 1) := by decide +kernel
theorem dX11_isAhead_29 : decode cX11_isAhead 29 = .ok (.iaload, 1) := by decide +kernel
theorem dX11_isAhead_30 : decode cX11_isAhead 30 = .ok (.if_icmp .eq 22, 3) := by decide +kernel
theorem dX11_isAhead_33 : decode cX11_isAhead 33 = .ok (.aload_n 0, 1) := by decide +kernel
theorem dX11_isAhead_34 : decode cX11_isAhead 34 = .ok (.getfield 38, 3) := by decide +kernel
theorem dX11_isAhead_37 : decode cX11_isAhead 37 = .ok (.iload_n 3, 1) := by decide +kernel
theorem dX11_isAhead_38 : decode cX11_isAhead 38 = .ok (.bipush 7, 2) := by decide +kernel
theorem dX11_isAhead_40 : decode cX11_isAhead 40 = .ok (.iadd, 1) := by decide +kernel
theorem dX11_isAhead_41 : decode cX11_isAhead 41 = .ok (.iaload, 1) := by decide +kernel
theorem dX11_isAhead_42 : decode cX11_isAhead 42 = .ok (.iconst 1, 1) := by decide +kernel
theorem dX11_isAhead_43 : decode cX11_isAhead 43 = .ok (.if_icmp .ne 7, 3) := by decide +kernel
theorem dX11_isAhead_46 : decode cX11_isAhead 46 = .ok (.iconst 1, 1) := by decide +kernel
theorem dX11_isAhead_47 : decode cX11_isAhead 47 = .ok (.goto 4, 3) := by decide +kernel
theorem dX11_isAhead_50 : decode cX11_isAhead 50 = .ok (.iconst 0, 1) := by decide +kernel
theorem dX11_isAhead_51 : decode cX11_isAhead 51 = .ok (.ireturn, 1) := by decide +kernel
theorem dX11_isAhead_52 : decode cX11_isAhead 52 = .ok (.aload_n 0, 1) := by decide +kernel
theorem dX11_isAhead_53 : decode cX11_isAhead 53 = .ok (.getfield 38, 3) := by decide +kernel
theorem dX11_isAhead_56 : decode cX11_isAhead 56 = .ok (.iload_n 3, 1) := by decide +kernel
theorem dX11_isAhead_57 : decode cX11_isAhead 57 = .ok (.iaload, 1) := by decide +kernel
theorem dX11_isAhead_58 : decode cX11_isAhead 58 = .ok (.aload_n 0, 1) := by decide +kernel
theorem dX11_isAhead_59 : decode cX11_isAhead 59 = .ok (.getfield 38, 3) := by decide +kernel
theorem dX11_isAhead_62 : decode cX11_isAhead 62 = .ok (.iload_n 3, 1) := by decide +kernel
theorem dX11_isAhead_63 : decode cX11_isAhead 63 = .ok (.iconst 1, 1) := by decide +kernel
theorem dX11_isAhead_64 : decode cX11_isAhead 64 = .ok (.iadd, 1) := by decide +kernel
theorem dX11_isAhead_65 : decode cX11_isAhead 65 = .ok (.iaload, 1) := by decide +kernel
theorem dX11_isAhead_66 : decode cX11_isAhead 66 = .ok (.imul, 1) := by decide +kernel
theorem dX11_isAhead_67 : decode cX11_isAhead 67 = .ok (.aload_n 0, 1) := by decide +kernel
theorem dX11_isAhead_68 : decode cX11_isAhead 68 = .ok (.getfield 38, 3) := by decide +kernel
theorem dX11_isAhead_71 : decode cX11_isAhead 71 = .ok (.iload 4, 2) := by decide +kernel
theorem dX11_isAhead_73 : decode cX11_isAhead 73 = .ok (.iaload, 1) := by decide +kernel
theorem dX11_isAhead_74 : decode cX11_isAhead 74 = .ok (.aload_n 0, 1) := by decide +kernel
theorem dX11_isAhead_75 : decode cX11_isAhead 75 = .ok (.getfield 38, 3) := by decide +kernel
theorem dX11_isAhead_78 : decode cX11_isAhead 78 = .ok (.iload 4, 2) := by decide +kernel
theorem dX11_isAhead_80 : decode cX11_isAhead 80 = .ok (.iconst 1, 1) := by decide +kernel
theorem dX11_isAhead_81 : decode cX11_isAhead 81 = .ok (.iadd, 1) := by decide +kernel
theorem dX11_isAhead_82 : decode cX11_isAhead 82 = .ok (.iaload, 1) := by decide +kernel
theorem dX11_isAhead_83 : decode cX11_isAhead 83 = .ok (.imul, 1) := by decide +kernel
theorem dX11_isAhead_84 : decode cX11_isAhead 84 = .ok (.isub, 1) := by decide +kernel
theorem dX11_isAhead_85 : decode cX11_isAhead 85 = .ok (.istore 5, 2) := by decide +kernel
theorem dX11_isAhead_87 : decode cX11_isAhead 87 = .ok (.iload 5, 2) := by decide +kernel
theorem dX11_isAhead_89 : decode cX11_isAhead 89 = .ok (.ifCond .eq 16, 3) := by decide +kernel
theorem dX11_isAhead_92 : decode cX11_isAhead 92 = .ok (.iload 5, 2) := by decide +kernel
theorem dX11_isAhead_94 : decode cX11_isAhead 94 = .ok (.ifCond .le 7, 3) := by decide +kernel
theorem dX11_isAhead_97 : decode cX11_isAhead 97 = .ok (.iconst 1, 1) := by decide +kernel
theorem dX11_isAhead_98 : decode cX11_isAhead 98 = .ok (.goto 32, 3) := by decide +kernel
theorem dX11_isAhead_101 : decode cX11_isAhead 101 = .ok (.iconst 0, 1) := by decide +kernel
theorem dX11_isAhead_102 : decode cX11_isAhead 102 = .ok (.goto 28, 3) := by decide +kernel
theorem dX11_isAhead_105 : decode cX11_isAhead 105 = .ok (.aload_n 0, 1) := by decide +kernel
theorem dX11_isAhead_106 : decode cX11_isAhead 106 = .ok (.getfield 38, 3) := by decide +kernel
theorem dX11_isAhead_109 : decode cX11_isAhead 109 = .ok (.iload_n 3, 1) := by decide +kernel
theorem dX11_isAhead_110 : decode cX11_isAhead 110 = .ok (.iconst 2, 1) := by decide +kernel
theorem dX11_isAhead_111 : decode cX11_isAhead 111 = .ok (.iadd, 1) := by decide +kernel
theorem dX11_isAhead_112 : decode cX11_isAhead 112 = .ok (.iaload, 1) := by decide +kernel
theorem dX11_isAhead_113 : decode cX11_isAhead 113 = .ok (.aload_n 0, 1) := by decide +kernel
theorem dX11_isAhead_114 : decode cX11_isAhead 114 = .ok (.getfield 38, 3) := by decide +kernel
theorem dX11_isAhead_117 : decode cX11_isAhead 117 = .ok (.iload 4, 2) := by decide +kernel
theorem dX11_isAhead_119 : decode cX11_isAhead 119 = .ok (.iconst 2, 1) := by decide +kernel
theorem dX11_isAhead_120 : decode cX11_isAhead 120 = .ok (.iadd, 1) := by decide +kernel
theorem dX11_isAhead_121 : decode cX11_isAhead 121 = .ok (.iaload, 1) := by decide +kernel
theorem dX11_isAhead_122 : decode cX11_isAhead 122 = .ok (.if_icmp .le 7, 3) := by decide +kernel
theorem dX11_isAhead_125 : decode cX11_isAhead 125 = .ok (.iconst 1, 1) := by decide +kernel
theorem dX11_isAhead_126 : decode cX11_isAhead 126 = .ok (.goto 4, 3) := by decide +kernel
theorem dX11_isAhead_129 : decode cX11_isAhead 129 = .ok (.iconst 0, 1) := by decide +kernel
theorem dX11_isAhead_130 : decode cX11_isAhead 130 = .ok (.ireturn, 1) := by decide +kernel
theorem dX11_told_0 : decode cX11_told 0 = .ok (.aload_n 0, 1) := by decide +kernel
theorem dX11_told_1 : decode cX11_told 1 = .ok (.iconst 0, 1) := by decide +kernel
theorem dX11_told_2 : decode cX11_told 2 = .ok (.putfield 1, 3) := by decide +kernel
theorem dX11_told_5 : decode cX11_told 5 = .ok (.iload_n 1, 1) := by decide +kernel
theorem dX11_told_6 : decode cX11_told 6 = .ok (.i2l, 1) := by decide +kernel
theorem dX11_told_7 : decode cX11_told 7 = .ok (.lconst 0, 1) := by decide +kernel
theorem dX11_told_8 : decode cX11_told 8 = .ok (.ldc2_w 227, 3) := by decide +kernel
theorem dX11_told_11 : decode cX11_told 11 = .ok (.invokestatic 107, 3) := by decide +kernel
theorem dX11_told_14 : decode cX11_told 14 = .ok (.ifCond .ne 20, 3) := by decide +kernel
theorem dX11_told_17 : decode cX11_told 17 = .ok (.iload_n 1, 1) := by decide +kernel
theorem dX11_told_18 : decode cX11_told 18 = .ok (.i2l, 1) := by decide +kernel
theorem dX11_told_19 : decode cX11_told 19 = .ok (.ldc2_w 229, 3) := by decide +kernel
theorem dX11_told_22 : decode cX11_told 22 = .ok (.ldc2_w 231, 3) := by decide +kernel
theorem dX11_told_25 : decode cX11_told 25 = .ok (.invokestatic 107, 3) := by decide +kernel
theorem dX11_told_28 : decode cX11_told 28 = .ok (.ifCond .ne 6, 3) := by decide +kernel
theorem dX11_told_31 : decode cX11_told 31 = .ok (.bipush (-2), 2) := by decide +kernel
theorem dX11_told_33 : decode cX11_told 33 = .ok (.ireturn, 1) := by decide +kernel
theorem dX11_told_34 : decode cX11_told 34 = .ok (.aload_n 0, 1) := by decide +kernel
theorem dX11_told_35 : decode cX11_told 35 = .ok (.getfield 128, 3) := by decide +kernel
theorem dX11_told_38 : decode cX11_told 38 = .ok (.ifCond .ne 6, 3) := by decide +kernel
theorem dX11_told_41 : decode cX11_told 41 = .ok (.bipush (-5), 2) := by decide +kernel
theorem dX11_told_43 : decode cX11_told 43 = .ok (.ireturn, 1) := by decide +kernel
theorem dX11_told_44 : decode cX11_told 44 = .ok (.iload_n 1, 1) := by decide +kernel
theorem dX11_told_45 : decode cX11_told 45 = .ok (.bipush 20, 2) := by decide +kernel
theorem dX11_told_47 : decode cX11_told 47 = .ok (.if_icmp .lt 13, 3) := by decide +kernel
theorem dX11_told_50 : decode cX11_told 50 = .ok (.aload_n 0, 1) := by decide +kernel
theorem dX11_told_51 : decode cX11_told 51 = .ok (.getfield 44, 3) := by decide +kernel
theorem dX11_told_54 : decode cX11_told 54 = .ok (.iload_n 1, 1) := by decide +kernel
theorem dX11_told_55 : decode cX11_told 55 = .ok (.bipush 20, 2) := by decide +kernel
theorem dX11_told_57 : decode cX11_told 57 = .ok (.isub, 1) := by decide +kernel
theorem dX11_told_58 : decode cX11_told 58 = .ok (.iaload, 1) := by decide +kernel
theorem dX11_told_59 : decode cX11_told 59 = .ok (.ireturn, 1) := by decide +kernel
theorem dX11_told_60 : decode cX11_told 60 = .ok (.iload_n 1, 1) := by decide +kernel
theorem dX11_told_61 : decode cX11_told 61 = .ok (.i2l, 1) := by decide +kernel
theorem dX11_told_62 : decode cX11_told 62 = .ok (.ldc2_w 233, 3) := by decide +kernel
theorem dX11_told_65 : decode cX11_told 65 = .ok (.ldc2_w 235, 3) := by decide +kernel
theorem dX11_told_68 : decode cX11_told 68 = .ok (.invokestatic 107, 3) := by decide +kernel
theorem dX11_told_71 : decode cX11_told 71 = .ok (.ifCond .eq 24, 3) := by decide +kernel
theorem dX11_told_74 : decode cX11_told 74 = .ok (.aload_n 0, 1) := by decide +kernel
theorem dX11_told_75 : decode cX11_told 75 = .ok (.getfield 154, 3) := by decide +kernel
theorem dX11_told_78 : decode cX11_told 78 = .ok (.ifCond .eq 15, 3) := by decide +kernel
theorem dX11_told_81 : decode cX11_told 81 = .ok (.aload_n 0, 1) := by decide +kernel
theorem dX11_told_82 : decode cX11_told 82 = .ok (.getfield 32, 3) := by decide +kernel
theorem dX11_told_85 : decode cX11_told 85 = .ok (.iload_n 1, 1) := by decide +kernel
theorem dX11_told_86 : decode cX11_told 86 = .ok (.bipush 9, 2) := by decide +kernel
theorem dX11_told_88 : decode cX11_told 88 = .ok (.isub, 1) := by decide +kernel
theorem dX11_told_89 : decode cX11_told 89 = .ok (.iaload, 1) := by decide +kernel
theorem dX11_told_90 : decode cX11_told 90 = .ok (.goto 4, 3) := by decide +kernel
theorem dX11_told_93 : decode cX11_told 93 = .ok (.iconst (-1), 1) := by decide +kernel
theorem dX11_told_94 : decode cX11_told 94 = .ok (.ireturn, 1) := by decide +kernel
theorem dX11_told_95 : decode cX11_told 95 = .ok (.sipush 256, 3) := by decide +kernel
theorem dX11_told_98 : decode cX11_told 98 = .ok (.aload_n 0, 1) := by decide +kernel
theorem dX11_told_99 : decode cX11_told 99 = .ok (.bipush 8, 2) := by decide +kernel
theorem dX11_told_101 : decode cX11_told 101 = .ok (.invokevirtual 140, 3) := by decide +kernel
theorem dX11_told_104 : decode cX11_told 104 = .ok (.imul, 1) := by decide +kernel
theorem dX11_told_105 : decode cX11_told 105 = .ok (.aload_n 0, 1) := by decide +kernel
theorem dX11_told_106 : decode cX11_told 106 = .ok (.bipush 9, 2) := by decide +kernel
theorem dX11_told_108 : decode cX11_told 108 = .ok (.invokevirtual 140, 3) := by decide +kernel
theorem dX11_told_111 : decode cX11_told 111 = .ok (.iadd, 1) := by decide +kernel
theorem dX11_told_112 : decode cX11_told 112 = .ok (.istore_n 2, 1) := by decide +kernel
theorem dX11_told_113 : decode cX11_told 113 = .ok (.iload_n 1, 1) := by decide +kernel
theorem dX11_told_114 : decode cX11_told 114 = .ok (.tableswitch 155 0 15 #[78, 90, 101, 109, 116, 123, 130, 135, 140, 155, 155, 155, 155, 155, 145, 150], 78) := by decide +kernel
theorem dX11_told_192 : decode cX11_told 192 = .ok (.bipush 64, 2) := by decide +kernel
theorem dX11_told_194 : decode cX11_told 194 = .ok (.iload_n 2, 1) := by decide +kernel
theorem dX11_told_195 : decode cX11_told 195 = .ok (.sipush 1024, 3) := by decide +kernel
theorem dX11_told_198 : decode cX11_told 198 = .ok (.idiv, 1) := by decide +kernel
theorem dX11_told_199 : decode cX11_told 199 = .ok (.bipush 32, 2) := by decide +kernel
theorem dX11_told_201 : decode cX11_told 201 = .ok (.irem, 1) := by decide +kernel
theorem dX11_told_202 : decode cX11_told 202 = .ok (.iadd, 1) := by decide +kernel
theorem dX11_told_203 : decode cX11_told 203 = .ok (.ireturn, 1) := by decide +kernel
theorem dX11_told_204 : decode cX11_told 204 = .ok (.bipush 64, 2) := by decide +kernel
theorem dX11_told_206 : decode cX11_told 206 = .ok (.iload_n 2, 1) := by decide +kernel
theorem dX11_told_207 : decode cX11_told 207 = .ok (.bipush 32, 2) := by decide +kernel
theorem dX11_told_209 : decode cX11_told 209 = .ok (.idiv, 1) := by decide +kernel
theorem dX11_told_210 : decode cX11_told 210 = .ok (.bipush 32, 2) := by decide +kernel
theorem dX11_told_212 : decode cX11_told 212 = .ok (.irem, 1) := by decide +kernel
theorem dX11_told_213 : decode cX11_told 213 = .ok (.iadd, 1) := by decide +kernel
theorem dX11_told_214 : decode cX11_told 214 = .ok (.ireturn, 1) := by decide +kernel
theorem dX11_told_215 : decode cX11_told 215 = .ok (.bipush 64, 2) := by decide +kernel
theorem dX11_told_217 : decode cX11_told 217 = .ok (.iload_n 2, 1) := by decide +kernel
theorem dX11_told_218 : decode cX11_told 218 = .ok (.bipush 32, 2) := by decide +kernel
theorem dX11_told_220 : decode cX11_told 220 = .ok (.irem, 1) := by decide +kernel
theorem dX11_told_221 : decode cX11_told 221 = .ok (.iadd, 1) := by decide +kernel
theorem dX11_told_222 : decode cX11_told 222 = .ok (.ireturn, 1) := by decide +kernel
theorem dX11_told_223 : decode cX11_told 223 = .ok (.aload_n 0, 1) := by decide +kernel
theorem dX11_told_224 : decode cX11_told 224 = .ok (.bipush 21, 2) := by decide +kernel
theorem dX11_told_226 : decode cX11_told 226 = .ok (.invokevirtual 140, 3) := by decide +kernel
theorem dX11_told_229 : decode cX11_told 229 = .ok (.ireturn, 1) := by decide +kernel
theorem dX11_told_230 : decode cX11_told 230 = .ok (.aload_n 0, 1) := by decide +kernel
theorem dX11_told_231 : decode cX11_told 231 = .ok (.bipush 22, 2) := by decide +kernel
theorem dX11_told_233 : decode cX11_told 233 = .ok (.invokevirtual 140, 3) := by decide +kernel
theorem dX11_told_236 : decode cX11_told 236 = .ok (.ireturn, 1) := by decide +kernel
theorem dX11_told_237 : decode cX11_told 237 = .ok (.aload_n 0, 1) := by decide +kernel
theorem dX11_told_238 : decode cX11_told 238 = .ok (.getfield 128, 3) := by decide +kernel
theorem dX11_told_241 : decode cX11_told 241 = .ok (.iconst 1, 1) := by decide +kernel
theorem dX11_told_242 : decode cX11_told 242 = .ok (.isub, 1) := by decide +kernel
theorem dX11_told_243 : decode cX11_told 243 = .ok (.ireturn, 1) := by decide +kernel
theorem dX11_told_244 : decode cX11_told 244 = .ok (.aload_n 0, 1) := by decide +kernel
theorem dX11_told_245 : decode cX11_told 245 = .ok (.getfield 137, 3) := by decide +kernel
theorem dX11_told_248 : decode cX11_told 248 = .ok (.ireturn, 1) := by decide +kernel
theorem dX11_told_249 : decode cX11_told 249 = .ok (.aload_n 0, 1) := by decide +kernel
theorem dX11_told_250 : decode cX11_told 250 = .ok (.getfield 158, 3) := by decide +kernel
theorem dX11_told_253 : decode cX11_told 253 = .ok (.ireturn, 1) := by decide +kernel
theorem dX11_told_254 : decode cX11_told 254 = .ok (.aload_n 0, 1) := by decide +kernel
theorem dX11_told_255 : decode cX11_told 255 = .ok (.getfield 161, 3) := by decide +kernel
theorem dX11_told_258 : decode cX11_told 258 = .ok (.ireturn, 1) := by decide +kernel
theorem dX11_told_259 : decode cX11_told 259 = .ok (.aload_n 0, 1) := by decide +kernel
theorem dX11_told_260 : decode cX11_told 260 = .ok (.getfield 164, 3) := by decide +kernel
theorem dX11_told_263 : decode cX11_told 263 = .ok (.ireturn, 1) := by decide +kernel
theorem dX11_told_264 : decode cX11_told 264 = .ok (.aload_n 0, 1) := by decide +kernel
theorem dX11_told_265 : decode cX11_told 265 = .ok (.getfield 147, 3) := by decide +kernel
theorem dX11_told_268 : decode cX11_told 268 = .ok (.ireturn, 1) := by decide +kernel
theorem dX11_told_269 : decode cX11_told 269 = .ok (.aload_n 0, 1) := by decide +kernel
theorem dX11_told_270 : decode cX11_told 270 = .ok (.getfield 134, 3) := by decide +kernel
theorem dX11_told_273 : decode cX11_told 273 = .ok (.ireturn, 1) := by decide +kernel
theorem dX11_name_0 : decode cX11_name 0 = .ok (.aload_n 0, 1) := by decide +kernel
theorem dX11_name_1 : decode cX11_name 1 = .ok (.iconst 0, 1) := by decide +kernel
theorem dX11_name_2 : decode cX11_name 2 = .ok (.putfield 1, 3) := by decide +kernel
theorem dX11_name_5 : decode cX11_name 5 = .ok (.iload_n 1, 1) := by decide +kernel
theorem dX11_name_6 : decode cX11_name 6 = .ok (.ifCond .ge 6, 3) := by decide +kernel
theorem dX11_name_9 : decode cX11_name 9 = .ok (.bipush (-3), 2) := by decide +kernel
theorem dX11_name_11 : decode cX11_name 11 = .ok (.ireturn, 1) := by decide +kernel
theorem dX11_name_12 : decode cX11_name 12 = .ok (.iload_n 1, 1) := by decide +kernel
theorem dX11_name_13 : decode cX11_name 13 = .ok (.aload_n 0, 1) := by decide +kernel
theorem dX11_name_14 : decode cX11_name 14 = .ok (.getfield 147, 3) := by decide +kernel
theorem dX11_name_17 : decode cX11_name 17 = .ok (.if_icmp .ge 12, 3) := by decide +kernel
theorem dX11_name_20 : decode cX11_name 20 = .ok (.aload_n 0, 1) := by decide +kernel
theorem dX11_name_21 : decode cX11_name 21 = .ok (.getfield 29, 3) := by decide +kernel
theorem dX11_name_24 : decode cX11_name 24 = .ok (.iload_n 1, 1) := by decide +kernel
theorem dX11_name_25 : decode cX11_name 25 = .ok (.iaload, 1) := by decide +kernel
theorem dX11_name_26 : decode cX11_name 26 = .ok (.goto 4, 3) := by decide +kernel
theorem dX11_name_29 : decode cX11_name 29 = .ok (.iconst (-1), 1) := by decide +kernel
theorem dX11_name_30 : decode cX11_name 30 = .ok (.ireturn, 1) := by decide +kernel
theorem dX11_detailed_0 : decode cX11_detailed 0 = .ok (.aload_n 0, 1) := by decide +kernel
theorem dX11_detailed_1 : decode cX11_detailed 1 = .ok (.iconst 0, 1) := by decide +kernel
theorem dX11_detailed_2 : decode cX11_detailed 2 = .ok (.putfield 1, 3) := by decide +kernel
theorem dX11_detailed_5 : decode cX11_detailed 5 = .ok (.iload_n 1, 1) := by decide +kernel
theorem dX11_detailed_6 : decode cX11_detailed 6 = .ok (.i2l, 1) := by decide +kernel
theorem dX11_detailed_7 : decode cX11_detailed 7 = .ok (.lconst 0, 1) := by decide +kernel
theorem dX11_detailed_8 : decode cX11_detailed 8 = .ok (.aload_n 0, 1) := by decide +kernel
theorem dX11_detailed_9 : decode cX11_detailed 9 = .ok (.getfield 137, 3) := by decide +kernel
theorem dX11_detailed_12 : decode cX11_detailed 12 = .ok (.iconst 1, 1) := by decide +kernel
theorem dX11_detailed_13 : decode cX11_detailed 13 = .ok (.isub, 1) := by decide +kernel
theorem dX11_detailed_14 : decode cX11_detailed 14 = .ok (.i2l, 1) := by decide +kernel
theorem dX11_detailed_15 : decode cX11_detailed 15 = .ok (.invokestatic 107, 3) := by decide +kernel
theorem dX11_detailed_18 : decode cX11_detailed 18 = .ok (.ifCond .eq 29, 3) := by decide +kernel
theorem dX11_detailed_21 : decode cX11_detailed 21 = .ok (.iload_n 2, 1) := by decide +kernel
theorem dX11_detailed_22 : decode cX11_detailed 22 = .ok (.i2l, 1) := by decide +kernel
theorem dX11_detailed_23 : decode cX11_detailed 23 = .ok (.lconst 0, 1) := by decide +kernel
theorem dX11_detailed_24 : decode cX11_detailed 24 = .ok (.ldc2_w 237, 3) := by decide +kernel
theorem dX11_detailed_27 : decode cX11_detailed 27 = .ok (.invokestatic 107, 3) := by decide +kernel
theorem dX11_detailed_30 : decode cX11_detailed 30 = .ok (.ifCond .eq 17, 3) := by decide +kernel
theorem dX11_detailed_33 : decode cX11_detailed 33 = .ok (.aload_n 0, 1) := by decide +kernel
theorem dX11_detailed_34 : decode cX11_detailed 34 = .ok (.getfield 26, 3) := by decide +kernel
theorem dX11_detailed_37 : decode cX11_detailed 37 = .ok (.bipush 11, 2) := by decide +kernel
theorem dX11_detailed_39 : decode cX11_detailed 39 = .ok (.iload_n 1, 1) := by decide +kernel
theorem dX11_detailed_40 : decode cX11_detailed 40 = .ok (.imul, 1) := by decide +kernel
theorem dX11_detailed_41 : decode cX11_detailed 41 = .ok (.iload_n 2, 1) := by decide +kernel
theorem dX11_detailed_42 : decode cX11_detailed 42 = .ok (.iadd, 1) := by decide +kernel
theorem dX11_detailed_43 : decode cX11_detailed 43 = .ok (.iaload, 1) := by decide +kernel
theorem dX11_detailed_44 : decode cX11_detailed 44 = .ok (.goto 5, 3) := by decide +kernel
theorem dX11_detailed_47 : decode cX11_detailed 47 = .ok (.bipush (-2), 2) := by decide +kernel
theorem dX11_detailed_49 : decode cX11_detailed 49 = .ok (.ireturn, 1) := by decide +kernel
theorem dX11_isMode_0 : decode cX11_isMode 0 = .ok (.iload_n 1, 1) := by decide +kernel
theorem dX11_isMode_1 : decode cX11_isMode 1 = .ok (.i2l, 1) := by decide +kernel
theorem dX11_isMode_2 : decode cX11_isMode 2 = .ok (.lconst 0, 1) := by decide +kernel
theorem dX11_isMode_3 : decode cX11_isMode 3 = .ok (.aload_n 0, 1) := by decide +kernel
theorem dX11_isMode_4 : decode cX11_isMode 4 = .ok (.getfield 134, 3) := by decide +kernel
theorem dX11_isMode_7 : decode cX11_isMode 7 = .ok (.iconst 1, 1) := by decide +kernel
theorem dX11_isMode_8 : decode cX11_isMode 8 = .ok (.isub, 1) := by decide +kernel
theorem dX11_isMode_9 : decode cX11_isMode 9 = .ok (.i2l, 1) := by decide +kernel
theorem dX11_isMode_10 : decode cX11_isMode 10 = .ok (.invokestatic 107, 3) := by decide +kernel
theorem dX11_isMode_13 : decode cX11_isMode 13 = .ok (.ireturn, 1) := by decide +kernel
theorem dX11_mode_0 : decode cX11_mode 0 = .ok (.aload_n 0, 1) := by decide +kernel
theorem dX11_mode_1 : decode cX11_mode 1 = .ok (.iconst 0, 1) := by decide +kernel
theorem dX11_mode_2 : decode cX11_mode 2 = .ok (.putfield 1, 3) := by decide +kernel
theorem dX11_mode_5 : decode cX11_mode 5 = .ok (.aload_n 0, 1) := by decide +kernel
theorem dX11_mode_6 : decode cX11_mode 6 = .ok (.iload_n 1, 1) := by decide +kernel
theorem dX11_mode_7 : decode cX11_mode 7 = .ok (.invokevirtual 239, 3) := by decide +kernel
theorem dX11_mode_10 : decode cX11_mode 10 = .ok (.ifCond .eq 15, 3) := by decide +kernel
theorem dX11_mode_13 : decode cX11_mode 13 = .ok (.iload_n 2, 1) := by decide +kernel
theorem dX11_mode_14 : decode cX11_mode 14 = .ok (.i2l, 1) := by decide +kernel
theorem dX11_mode_15 : decode cX11_mode 15 = .ok (.lconst 0, 1) := by decide +kernel
theorem dX11_mode_16 : decode cX11_mode 16 = .ok (.ldc2_w 242, 3) := by decide +kernel
theorem dX11_mode_19 : decode cX11_mode 19 = .ok (.invokestatic 107, 3) := by decide +kernel
theorem dX11_mode_22 : decode cX11_mode 22 = .ok (.ifCond .ne 6, 3) := by decide +kernel
theorem dX11_mode_25 : decode cX11_mode 25 = .ok (.bipush (-2), 2) := by decide +kernel
theorem dX11_mode_27 : decode cX11_mode 27 = .ok (.ireturn, 1) := by decide +kernel
theorem dX11_mode_28 : decode cX11_mode 28 = .ok (.iload_n 2, 1) := by decide +kernel
theorem dX11_mode_29 : decode cX11_mode 29 = .ok (.bipush 8, 2) := by decide +kernel
theorem dX11_mode_31 : decode cX11_mode 31 = .ok (.if_icmp .ge 12, 3) := by decide +kernel
theorem dX11_mode_34 : decode cX11_mode 34 = .ok (.aload_n 0, 1) := by decide +kernel
theorem dX11_mode_35 : decode cX11_mode 35 = .ok (.iload_n 1, 1) := by decide +kernel
theorem dX11_mode_36 : decode cX11_mode 36 = .ok (.iload_n 2, 1) := by decide +kernel
theorem dX11_mode_37 : decode cX11_mode 37 = .ok (.invokevirtual 244, 3) := by decide +kernel
theorem dX11_mode_40 : decode cX11_mode 40 = .ok (.goto 25, 3) := by decide +kernel
theorem dX11_mode_43 : decode cX11_mode 43 = .ok (.aload_n 0, 1) := by decide +kernel
theorem dX11_mode_44 : decode cX11_mode 44 = .ok (.iload_n 1, 1) := by decide +kernel
theorem dX11_mode_45 : decode cX11_mode 45 = .ok (.iconst 3, 1) := by decide +kernel
theorem dX11_mode_46 : decode cX11_mode 46 = .ok (.invokevirtual 244, 3) := by decide +kernel
theorem dX11_mode_49 : decode cX11_mode 49 = .ok (.aload_n 0, 1) := by decide +kernel
theorem dX11_mode_50 : decode cX11_mode 50 = .ok (.iload_n 1, 1) := by decide +kernel
theorem dX11_mode_51 : decode cX11_mode 51 = .ok (.iconst 4, 1) := by decide +kernel
theorem dX11_mode_52 : decode cX11_mode 52 = .ok (.invokevirtual 244, 3) := by decide +kernel
theorem dX11_mode_55 : decode cX11_mode 55 = .ok (.aload_n 0, 1) := by decide +kernel
theorem dX11_mode_56 : decode cX11_mode 56 = .ok (.iload_n 1, 1) := by decide +kernel
theorem dX11_mode_57 : decode cX11_mode 57 = .ok (.iconst 5, 1) := by decide +kernel
theorem dX11_mode_58 : decode cX11_mode 58 = .ok (.invokevirtual 244, 3) := by decide +kernel
theorem dX11_mode_61 : decode cX11_mode 61 = .ok (.imul, 1) := by decide +kernel
theorem dX11_mode_62 : decode cX11_mode 62 = .ok (.invokestatic 247, 3) := by decide +kernel
theorem dX11_mode_65 : decode cX11_mode 65 = .ok (.ireturn, 1) := by decide +kernel
theorem dX11_thousandths_0 : decode cX11_thousandths 0 = .ok (.ldc2_w 250, 3) := by decide +kernel
theorem dX11_thousandths_3 : decode cX11_thousandths 3 = .ok (.iload_n 0, 1) := by decide +kernel
theorem dX11_thousandths_4 : decode cX11_thousandths 4 = .ok (.i2l, 1) := by decide +kernel
theorem dX11_thousandths_5 : decode cX11_thousandths 5 = .ok (.lmul, 1) := by decide +kernel
theorem dX11_thousandths_6 : decode cX11_thousandths 6 = .ok (.iload_n 1, 1) := by decide +kernel
theorem dX11_thousandths_7 : decode cX11_thousandths 7 = .ok (.i2l, 1) := by decide +kernel
theorem dX11_thousandths_8 : decode cX11_thousandths 8 = .ok (.ldiv, 1) := by decide +kernel
theorem dX11_thousandths_9 : decode cX11_thousandths 9 = .ok (.lstore_n 2, 1) := by decide +kernel
theorem dX11_thousandths_10 : decode cX11_thousandths 10 = .ok (.lload_n 2, 1) := by decide +kernel
theorem dX11_thousandths_11 : decode cX11_thousandths 11 = .ok (.ldc2_w 254, 3) := by decide +kernel
theorem dX11_thousandths_14 : decode cX11_thousandths 14 = .ok (.lcmp, 1) := by decide +kernel
theorem dX11_thousandths_15 : decode cX11_thousandths 15 = .ok (.ifCond .le 9, 3) := by decide +kernel
theorem dX11_thousandths_18 : decode cX11_thousandths 18 = .ok (.ldc_w 256, 3) := by decide +kernel
theorem dX11_thousandths_21 : decode cX11_thousandths 21 = .ok (.goto 5, 3) := by decide +kernel
theorem dX11_thousandths_24 : decode cX11_thousandths 24 = .ok (.lload_n 2, 1) := by decide +kernel
theorem dX11_thousandths_25 : decode cX11_thousandths 25 = .ok (.l2i, 1) := by decide +kernel
theorem dX11_thousandths_26 : decode cX11_thousandths 26 = .ok (.ireturn, 1) := by decide +kernel
theorem dX11_laysMode_0 : decode cX11_laysMode 0 = .ok (.aload_n 0, 1) := by decide +kernel
theorem dX11_laysMode_1 : decode cX11_laysMode 1 = .ok (.getfield 63, 3) := by decide +kernel
theorem dX11_laysMode_4 : decode cX11_laysMode 4 = .ok (.iconst 0, 1) := by decide +kernel
theorem dX11_laysMode_5 : decode cX11_laysMode 5 = .ok (.aload_n 0, 1) := by decide +kernel
theorem dX11_laysMode_6 : decode cX11_laysMode 6 = .ok (.iload_n 1, 1) := by decide +kernel
theorem dX11_laysMode_7 : decode cX11_laysMode 7 = .ok (.iconst 0, 1) := by decide +kernel
theorem dX11_laysMode_8 : decode cX11_laysMode 8 = .ok (.invokevirtual 244, 3) := by decide +kernel
theorem dX11_laysMode_11 : decode cX11_laysMode 11 = .ok (.iastore, 1) := by decide +kernel
theorem dX11_laysMode_12 : decode cX11_laysMode 12 = .ok (.aload_n 0, 1) := by decide +kernel
theorem dX11_laysMode_13 : decode cX11_laysMode 13 = .ok (.getfield 63, 3) := by decide +kernel
theorem dX11_laysMode_16 : decode cX11_laysMode 16 = .ok (.iconst 1, 1) := by decide +kernel
theorem dX11_laysMode_17 : decode cX11_laysMode 17 = .ok (.aload_n 0, 1) := by decide +kernel
theorem dX11_laysMode_18 : decode cX11_laysMode 18 = .ok (.iload_n 1, 1) := by decide +kernel
theorem dX11_laysMode_19 : decode cX11_laysMode 19 = .ok (.iconst 4, 1) := by decide +kernel
theorem dX11_laysMode_20 : decode cX11_laysMode 20 = .ok (.invokevirtual 244, 3) := by decide +kernel
theorem dX11_laysMode_23 : decode cX11_laysMode 23 = .ok (.aload_n 0, 1) := by decide +kernel
theorem dX11_laysMode_24 : decode cX11_laysMode 24 = .ok (.getfield 63, 3) := by decide +kernel
theorem dX11_laysMode_27 : decode cX11_laysMode 27 = .ok (.iconst 0, 1) := by decide +kernel
theorem dX11_laysMode_28 : decode cX11_laysMode 28 = .ok (.iaload, 1) := by decide +kernel
theorem dX11_laysMode_29 : decode cX11_laysMode 29 = .ok (.isub, 1) := by decide +kernel
theorem dX11_laysMode_30 : decode cX11_laysMode 30 = .ok (.iastore, 1) := by decide +kernel
theorem dX11_laysMode_31 : decode cX11_laysMode 31 = .ok (.aload_n 0, 1) := by decide +kernel
theorem dX11_laysMode_32 : decode cX11_laysMode 32 = .ok (.getfield 63, 3) := by decide +kernel
theorem dX11_laysMode_35 : decode cX11_laysMode 35 = .ok (.iconst 4, 1) := by decide +kernel
theorem dX11_laysMode_36 : decode cX11_laysMode 36 = .ok (.aload_n 0, 1) := by decide +kernel
theorem dX11_laysMode_37 : decode cX11_laysMode 37 = .ok (.iload_n 1, 1) := by decide +kernel
theorem dX11_laysMode_38 : decode cX11_laysMode 38 = .ok (.iconst 1, 1) := by decide +kernel
theorem dX11_laysMode_39 : decode cX11_laysMode 39 = .ok (.invokevirtual 244, 3) := by decide +kernel
theorem dX11_laysMode_42 : decode cX11_laysMode 42 = .ok (.iastore, 1) := by decide +kernel
theorem dX11_laysMode_43 : decode cX11_laysMode 43 = .ok (.aload_n 0, 1) := by decide +kernel
theorem dX11_laysMode_44 : decode cX11_laysMode 44 = .ok (.getfield 63, 3) := by decide +kernel
theorem dX11_laysMode_47 : decode cX11_laysMode 47 = .ok (.iconst 5, 1) := by decide +kernel
theorem dX11_laysMode_48 : decode cX11_laysMode 48 = .ok (.aload_n 0, 1) := by decide +kernel
theorem dX11_laysMode_49 : decode cX11_laysMode 49 = .ok (.iload_n 1, 1) := by decide +kernel
theorem dX11_laysMode_50 : decode cX11_laysMode 50 = .ok (.iconst 5, 1) := by decide +kernel
theorem dX11_laysMode_51 : decode cX11_laysMode 51 = .ok (.invokevirtual 244, 3) := by decide +kernel
theorem dX11_laysMode_54 : decode cX11_laysMode 54 = .ok (.aload_n 0, 1) := by decide +kernel
theorem dX11_laysMode_55 : decode cX11_laysMode 55 = .ok (.getfield 63, 3) := by decide +kernel
theorem dX11_laysMode_58 : decode cX11_laysMode 58 = .ok (.iconst 4, 1) := by decide +kernel
theorem dX11_laysMode_59 : decode cX11_laysMode 59 = .ok (.iaload, 1) := by decide +kernel
theorem dX11_laysMode_60 : decode cX11_laysMode 60 = .ok (.isub, 1) := by decide +kernel
theorem dX11_laysMode_61 : decode cX11_laysMode 61 = .ok (.iastore, 1) := by decide +kernel
theorem dX11_laysMode_62 : decode cX11_laysMode 62 = .ok (.aload_n 0, 1) := by decide +kernel
theorem dX11_laysMode_63 : decode cX11_laysMode 63 = .ok (.getfield 63, 3) := by decide +kernel
theorem dX11_laysMode_66 : decode cX11_laysMode 66 = .ok (.iconst 2, 1) := by decide +kernel
theorem dX11_laysMode_67 : decode cX11_laysMode 67 = .ok (.aload_n 0, 1) := by decide +kernel
theorem dX11_laysMode_68 : decode cX11_laysMode 68 = .ok (.iload_n 1, 1) := by decide +kernel
theorem dX11_laysMode_69 : decode cX11_laysMode 69 = .ok (.bipush 8, 2) := by decide +kernel
theorem dX11_laysMode_71 : decode cX11_laysMode 71 = .ok (.invokevirtual 244, 3) := by decide +kernel
theorem dX11_laysMode_74 : decode cX11_laysMode 74 = .ok (.iastore, 1) := by decide +kernel
theorem dX11_laysMode_75 : decode cX11_laysMode 75 = .ok (.aload_n 0, 1) := by decide +kernel
theorem dX11_laysMode_76 : decode cX11_laysMode 76 = .ok (.getfield 63, 3) := by decide +kernel
theorem dX11_laysMode_79 : decode cX11_laysMode 79 = .ok (.iconst 3, 1) := by decide +kernel
theorem dX11_laysMode_80 : decode cX11_laysMode 80 = .ok (.aload_n 0, 1) := by decide +kernel
theorem dX11_laysMode_81 : decode cX11_laysMode 81 = .ok (.iload_n 1, 1) := by decide +kernel
theorem dX11_laysMode_82 : decode cX11_laysMode 82 = .ok (.bipush 9, 2) := by decide +kernel
theorem dX11_laysMode_84 : decode cX11_laysMode 84 = .ok (.invokevirtual 244, 3) := by decide +kernel
theorem dX11_laysMode_87 : decode cX11_laysMode 87 = .ok (.iastore, 1) := by decide +kernel
theorem dX11_laysMode_88 : decode cX11_laysMode 88 = .ok (.aload_n 0, 1) := by decide +kernel
theorem dX11_laysMode_89 : decode cX11_laysMode 89 = .ok (.getfield 63, 3) := by decide +kernel
theorem dX11_laysMode_92 : decode cX11_laysMode 92 = .ok (.bipush 6, 2) := by decide +kernel
theorem dX11_laysMode_94 : decode cX11_laysMode 94 = .ok (.aload_n 0, 1) := by decide +kernel
theorem dX11_laysMode_95 : decode cX11_laysMode 95 = .ok (.iload_n 1, 1) := by decide +kernel
theorem dX11_laysMode_96 : decode cX11_laysMode 96 = .ok (.bipush 10, 2) := by decide +kernel
theorem dX11_laysMode_98 : decode cX11_laysMode 98 = .ok (.invokevirtual 244, 3) := by decide +kernel
theorem dX11_laysMode_101 : decode cX11_laysMode 101 = .ok (.iastore, 1) := by decide +kernel
theorem dX11_laysMode_102 : decode cX11_laysMode 102 = .ok (.aload_n 0, 1) := by decide +kernel
theorem dX11_laysMode_103 : decode cX11_laysMode 103 = .ok (.getfield 63, 3) := by decide +kernel
theorem dX11_laysMode_106 : decode cX11_laysMode 106 = .ok (.bipush 7, 2) := by decide +kernel
theorem dX11_laysMode_108 : decode cX11_laysMode 108 = .ok (.aload_n 0, 1) := by decide +kernel
theorem dX11_laysMode_109 : decode cX11_laysMode 109 = .ok (.iload_n 1, 1) := by decide +kernel
theorem dX11_laysMode_110 : decode cX11_laysMode 110 = .ok (.bipush 11, 2) := by decide +kernel
theorem dX11_laysMode_112 : decode cX11_laysMode 112 = .ok (.invokevirtual 244, 3) := by decide +kernel
theorem dX11_laysMode_115 : decode cX11_laysMode 115 = .ok (.iastore, 1) := by decide +kernel
theorem dX11_laysMode_116 : decode cX11_laysMode 116 = .ok (.aload_n 0, 1) := by decide +kernel
theorem dX11_laysMode_117 : decode cX11_laysMode 117 = .ok (.getfield 63, 3) := by decide +kernel
theorem dX11_laysMode_120 : decode cX11_laysMode 120 = .ok (.bipush 8, 2) := by decide +kernel
theorem dX11_laysMode_122 : decode cX11_laysMode 122 = .ok (.aload_n 0, 1) := by decide +kernel
theorem dX11_laysMode_123 : decode cX11_laysMode 123 = .ok (.iload_n 1, 1) := by decide +kernel
theorem dX11_laysMode_124 : decode cX11_laysMode 124 = .ok (.iconst 3, 1) := by decide +kernel
theorem dX11_laysMode_125 : decode cX11_laysMode 125 = .ok (.invokevirtual 244, 3) := by decide +kernel
theorem dX11_laysMode_128 : decode cX11_laysMode 128 = .ok (.iastore, 1) := by decide +kernel
theorem dX11_laysMode_129 : decode cX11_laysMode 129 = .ok (.return_, 1) := by decide +kernel
theorem dX11_forgesName_0 : decode cX11_forgesName 0 = .ok (.aload_n 0, 1) := by decide +kernel
theorem dX11_forgesName_1 : decode cX11_forgesName 1 = .ok (.getfield 57, 3) := by decide +kernel
theorem dX11_forgesName_4 : decode cX11_forgesName 4 = .ok (.iload_n 1, 1) := by decide +kernel
theorem dX11_forgesName_5 : decode cX11_forgesName 5 = .ok (.iconst 3, 1) := by decide +kernel
theorem dX11_forgesName_6 : decode cX11_forgesName 6 = .ok (.iadd, 1) := by decide +kernel
theorem dX11_forgesName_7 : decode cX11_forgesName 7 = .ok (.sipush 252, 3) := by decide +kernel
theorem dX11_forgesName_10 : decode cX11_forgesName 10 = .ok (.iastore, 1) := by decide +kernel
theorem dX11_forgesName_11 : decode cX11_forgesName 11 = .ok (.iconst 0, 1) := by decide +kernel
theorem dX11_forgesName_12 : decode cX11_forgesName 12 = .ok (.istore_n 2, 1) := by decide +kernel
theorem dX11_forgesName_13 : decode cX11_forgesName 13 = .ok (.iload_n 2, 1) := by decide +kernel
theorem dX11_forgesName_14 : decode cX11_forgesName 14 = .ok (.bipush 13, 2) := by decide +kernel
theorem dX11_forgesName_16 : decode cX11_forgesName 16 = .ok (.if_icmp .ge 51, 3) := by decide +kernel
theorem dX11_forgesName_19 : decode cX11_forgesName 19 = .ok (.aload_n 0, 1) := by decide +kernel
theorem dX11_forgesName_20 : decode cX11_forgesName 20 = .ok (.getfield 57, 3) := by decide +kernel
theorem dX11_forgesName_23 : decode cX11_forgesName 23 = .ok (.iload_n 1, 1) := by decide +kernel
theorem dX11_forgesName_24 : decode cX11_forgesName 24 = .ok (.iconst 5, 1) := by decide +kernel
theorem dX11_forgesName_25 : decode cX11_forgesName 25 = .ok (.iadd, 1) := by decide +kernel
theorem dX11_forgesName_26 : decode cX11_forgesName 26 = .ok (.iload_n 2, 1) := by decide +kernel
theorem dX11_forgesName_27 : decode cX11_forgesName 27 = .ok (.iadd, 1) := by decide +kernel
theorem dX11_forgesName_28 : decode cX11_forgesName 28 = .ok (.iload_n 2, 1) := by decide +kernel
theorem dX11_forgesName_29 : decode cX11_forgesName 29 = .ok (.aload_n 0, 1) := by decide +kernel
theorem dX11_forgesName_30 : decode cX11_forgesName 30 = .ok (.getfield 147, 3) := by decide +kernel
theorem dX11_forgesName_33 : decode cX11_forgesName 33 = .ok (.if_icmp .ge 12, 3) := by decide +kernel
theorem dX11_forgesName_36 : decode cX11_forgesName 36 = .ok (.aload_n 0, 1) := by decide +kernel
theorem dX11_forgesName_37 : decode cX11_forgesName 37 = .ok (.getfield 29, 3) := by decide +kernel
theorem dX11_forgesName_40 : decode cX11_forgesName 40 = .ok (.iload_n 2, 1) := by decide +kernel
theorem dX11_forgesName_41 : decode cX11_forgesName 41 = .ok (.iaload, 1) := by decide +kernel
theorem dX11_forgesName_42 : decode cX11_forgesName 42 = .ok (.goto 18, 3) := by decide +kernel
theorem dX11_forgesName_45 : decode cX11_forgesName 45 = .ok (.iload_n 2, 1) := by decide +kernel
theorem dX11_forgesName_46 : decode cX11_forgesName 46 = .ok (.aload_n 0, 1) := by decide +kernel
theorem dX11_forgesName_47 : decode cX11_forgesName 47 = .ok (.getfield 147, 3) := by decide +kernel
theorem dX11_forgesName_50 : decode cX11_forgesName 50 = .ok (.if_icmp .ne 8, 3) := by decide +kernel
theorem dX11_forgesName_53 : decode cX11_forgesName 53 = .ok (.bipush 10, 2) := by decide +kernel
theorem dX11_forgesName_55 : decode cX11_forgesName 55 = .ok (.goto 5, 3) := by decide +kernel
theorem dX11_forgesName_58 : decode cX11_forgesName 58 = .ok (.bipush 32, 2) := by decide +kernel
theorem dX11_forgesName_60 : decode cX11_forgesName 60 = .ok (.iastore, 1) := by decide +kernel
theorem dX11_forgesName_61 : decode cX11_forgesName 61 = .ok (.iinc 2 1, 3) := by decide +kernel
theorem dX11_forgesName_64 : decode cX11_forgesName 64 = .ok (.goto (-51), 3) := by decide +kernel
theorem dX11_forgesName_67 : decode cX11_forgesName 67 = .ok (.return_, 1) := by decide +kernel
theorem dX11_forgesRange_0 : decode cX11_forgesRange 0 = .ok (.aload_n 0, 1) := by decide +kernel
theorem dX11_forgesRange_1 : decode cX11_forgesRange 1 = .ok (.getfield 57, 3) := by decide +kernel
theorem dX11_forgesRange_4 : decode cX11_forgesRange 4 = .ok (.iload_n 1, 1) := by decide +kernel
theorem dX11_forgesRange_5 : decode cX11_forgesRange 5 = .ok (.iconst 3, 1) := by decide +kernel
theorem dX11_forgesRange_6 : decode cX11_forgesRange 6 = .ok (.iadd, 1) := by decide +kernel
theorem dX11_forgesRange_7 : decode cX11_forgesRange 7 = .ok (.sipush 253, 3) := by decide +kernel
theorem dX11_forgesRange_10 : decode cX11_forgesRange 10 = .ok (.iastore, 1) := by decide +kernel
theorem dX11_forgesRange_11 : decode cX11_forgesRange 11 = .ok (.iconst 0, 1) := by decide +kernel
theorem dX11_forgesRange_12 : decode cX11_forgesRange 12 = .ok (.istore_n 2, 1) := by decide +kernel
theorem dX11_forgesRange_13 : decode cX11_forgesRange 13 = .ok (.iload_n 2, 1) := by decide +kernel
theorem dX11_forgesRange_14 : decode cX11_forgesRange 14 = .ok (.iconst 4, 1) := by decide +kernel
theorem dX11_forgesRange_15 : decode cX11_forgesRange 15 = .ok (.if_icmp .ge 25, 3) := by decide +kernel
theorem dX11_forgesRange_18 : decode cX11_forgesRange 18 = .ok (.aload_n 0, 1) := by decide +kernel
theorem dX11_forgesRange_19 : decode cX11_forgesRange 19 = .ok (.getfield 57, 3) := by decide +kernel
theorem dX11_forgesRange_22 : decode cX11_forgesRange 22 = .ok (.iload_n 1, 1) := by decide +kernel
theorem dX11_forgesRange_23 : decode cX11_forgesRange 23 = .ok (.iconst 5, 1) := by decide +kernel
theorem dX11_forgesRange_24 : decode cX11_forgesRange 24 = .ok (.iadd, 1) := by decide +kernel
theorem dX11_forgesRange_25 : decode cX11_forgesRange 25 = .ok (.iload_n 2, 1) := by decide +kernel
theorem dX11_forgesRange_26 : decode cX11_forgesRange 26 = .ok (.iadd, 1) := by decide +kernel
theorem dX11_forgesRange_27 : decode cX11_forgesRange 27 = .ok (.aload_n 0, 1) := by decide +kernel
theorem dX11_forgesRange_28 : decode cX11_forgesRange 28 = .ok (.getfield 32, 3) := by decide +kernel
theorem dX11_forgesRange_31 : decode cX11_forgesRange 31 = .ok (.iload_n 2, 1) := by decide +kernel
theorem dX11_forgesRange_32 : decode cX11_forgesRange 32 = .ok (.iaload, 1) := by decide +kernel
theorem dX11_forgesRange_33 : decode cX11_forgesRange 33 = .ok (.iastore, 1) := by decide +kernel
theorem dX11_forgesRange_34 : decode cX11_forgesRange 34 = .ok (.iinc 2 1, 3) := by decide +kernel
theorem dX11_forgesRange_37 : decode cX11_forgesRange 37 = .ok (.goto (-24), 3) := by decide +kernel
theorem dX11_forgesRange_40 : decode cX11_forgesRange 40 = .ok (.aload_n 0, 1) := by decide +kernel
theorem dX11_forgesRange_41 : decode cX11_forgesRange 41 = .ok (.getfield 57, 3) := by decide +kernel
theorem dX11_forgesRange_44 : decode cX11_forgesRange 44 = .ok (.iload_n 1, 1) := by decide +kernel
theorem dX11_forgesRange_45 : decode cX11_forgesRange 45 = .ok (.bipush 9, 2) := by decide +kernel
theorem dX11_forgesRange_47 : decode cX11_forgesRange 47 = .ok (.iadd, 1) := by decide +kernel
theorem dX11_forgesRange_48 : decode cX11_forgesRange 48 = .ok (.aload_n 0, 1) := by decide +kernel
theorem dX11_forgesRange_49 : decode cX11_forgesRange 49 = .ok (.getfield 32, 3) := by decide +kernel
theorem dX11_forgesRange_52 : decode cX11_forgesRange 52 = .ok (.iconst 4, 1) := by decide +kernel
theorem dX11_forgesRange_53 : decode cX11_forgesRange 53 = .ok (.iaload, 1) := by decide +kernel
theorem dX11_forgesRange_54 : decode cX11_forgesRange 54 = .ok (.sipush 10000, 3) := by decide +kernel
theorem dX11_forgesRange_57 : decode cX11_forgesRange 57 = .ok (.idiv, 1) := by decide +kernel
theorem dX11_forgesRange_58 : decode cX11_forgesRange 58 = .ok (.iastore, 1) := by decide +kernel
theorem dX11_forgesRange_59 : decode cX11_forgesRange 59 = .ok (.return_, 1) := by decide +kernel
theorem dX11_forges_0 : decode cX11_forges 0 = .ok (.iconst 0, 1) := by decide +kernel
theorem dX11_forges_1 : decode cX11_forges 1 = .ok (.istore_n 1, 1) := by decide +kernel
theorem dX11_forges_2 : decode cX11_forges 2 = .ok (.iload_n 1, 1) := by decide +kernel
theorem dX11_forges_3 : decode cX11_forges 3 = .ok (.sipush 128, 3) := by decide +kernel
theorem dX11_forges_6 : decode cX11_forges 6 = .ok (.if_icmp .ge 32, 3) := by decide +kernel
theorem dX11_forges_9 : decode cX11_forges 9 = .ok (.aload_n 0, 1) := by decide +kernel
theorem dX11_forges_10 : decode cX11_forges 10 = .ok (.getfield 57, 3) := by decide +kernel
theorem dX11_forges_13 : decode cX11_forges 13 = .ok (.iload_n 1, 1) := by decide +kernel
theorem dX11_forges_14 : decode cX11_forges 14 = .ok (.iload_n 1, 1) := by decide +kernel
theorem dX11_forges_15 : decode cX11_forges 15 = .ok (.ifCond .le 15, 3) := by decide +kernel
theorem dX11_forges_18 : decode cX11_forges 18 = .ok (.iload_n 1, 1) := by decide +kernel
theorem dX11_forges_19 : decode cX11_forges 19 = .ok (.bipush 7, 2) := by decide +kernel
theorem dX11_forges_21 : decode cX11_forges 21 = .ok (.if_icmp .ge 9, 3) := by decide +kernel
theorem dX11_forges_24 : decode cX11_forges 24 = .ok (.sipush 255, 3) := by decide +kernel
theorem dX11_forges_27 : decode cX11_forges 27 = .ok (.goto 4, 3) := by decide +kernel
theorem dX11_forges_30 : decode cX11_forges 30 = .ok (.iconst 0, 1) := by decide +kernel
theorem dX11_forges_31 : decode cX11_forges 31 = .ok (.iastore, 1) := by decide +kernel
theorem dX11_forges_32 : decode cX11_forges 32 = .ok (.iinc 1 1, 3) := by decide +kernel
theorem dX11_forges_35 : decode cX11_forges 35 = .ok (.goto (-33), 3) := by decide +kernel
theorem dX11_forges_38 : decode cX11_forges 38 = .ok (.aload_n 0, 1) := by decide +kernel
theorem dX11_forges_39 : decode cX11_forges 39 = .ok (.getfield 57, 3) := by decide +kernel
theorem dX11_forges_42 : decode cX11_forges 42 = .ok (.bipush 8, 2) := by decide +kernel
theorem dX11_forges_44 : decode cX11_forges 44 = .ok (.aload_n 0, 1) := by decide +kernel
theorem dX11_forges_45 : decode cX11_forges 45 = .ok (.bipush 8, 2) := by decide +kernel
theorem dX11_forges_47 : decode cX11_forges 47 = .ok (.invokevirtual 140, 3) := by decide +kernel
theorem dX11_forges_50 : decode cX11_forges 50 = .ok (.iastore, 1) := by decide +kernel
theorem dX11_forges_51 : decode cX11_forges 51 = .ok (.aload_n 0, 1) := by decide +kernel
theorem dX11_forges_52 : decode cX11_forges 52 = .ok (.getfield 57, 3) := by decide +kernel
theorem dX11_forges_55 : decode cX11_forges 55 = .ok (.bipush 9, 2) := by decide +kernel
theorem dX11_forges_57 : decode cX11_forges 57 = .ok (.aload_n 0, 1) := by decide +kernel
theorem dX11_forges_58 : decode cX11_forges 58 = .ok (.bipush 9, 2) := by decide +kernel
theorem dX11_forges_60 : decode cX11_forges 60 = .ok (.invokevirtual 140, 3) := by decide +kernel
theorem dX11_forges_63 : decode cX11_forges 63 = .ok (.iastore, 1) := by decide +kernel
theorem dX11_forges_64 : decode cX11_forges 64 = .ok (.aload_n 0, 1) := by decide +kernel
theorem dX11_forges_65 : decode cX11_forges 65 = .ok (.getfield 57, 3) := by decide +kernel
theorem dX11_forges_68 : decode cX11_forges 68 = .ok (.bipush 18, 2) := by decide +kernel
theorem dX11_forges_70 : decode cX11_forges 70 = .ok (.iconst 1, 1) := by decide +kernel
theorem dX11_forges_71 : decode cX11_forges 71 = .ok (.iastore, 1) := by decide +kernel
theorem dX11_forges_72 : decode cX11_forges 72 = .ok (.aload_n 0, 1) := by decide +kernel
theorem dX11_forges_73 : decode cX11_forges 73 = .ok (.getfield 57, 3) := by decide +kernel
theorem dX11_forges_76 : decode cX11_forges 76 = .ok (.bipush 21, 2) := by decide +kernel
theorem dX11_forges_78 : decode cX11_forges 78 = .ok (.aload_n 0, 1) := by decide +kernel
theorem dX11_forges_79 : decode cX11_forges 79 = .ok (.bipush 21, 2) := by decide +kernel
theorem dX11_forges_81 : decode cX11_forges 81 = .ok (.invokevirtual 140, 3) := by decide +kernel
theorem dX11_forges_84 : decode cX11_forges 84 = .ok (.iastore, 1) := by decide +kernel
theorem dX11_forges_85 : decode cX11_forges 85 = .ok (.aload_n 0, 1) := by decide +kernel
theorem dX11_forges_86 : decode cX11_forges 86 = .ok (.getfield 57, 3) := by decide +kernel
theorem dX11_forges_89 : decode cX11_forges 89 = .ok (.bipush 22, 2) := by decide +kernel
theorem dX11_forges_91 : decode cX11_forges 91 = .ok (.aload_n 0, 1) := by decide +kernel
theorem dX11_forges_92 : decode cX11_forges 92 = .ok (.bipush 22, 2) := by decide +kernel
theorem dX11_forges_94 : decode cX11_forges 94 = .ok (.invokevirtual 140, 3) := by decide +kernel
theorem dX11_forges_97 : decode cX11_forges 97 = .ok (.iastore, 1) := by decide +kernel
theorem dX11_forges_98 : decode cX11_forges 98 = .ok (.iconst 0, 1) := by decide +kernel
theorem dX11_forges_99 : decode cX11_forges 99 = .ok (.istore_n 1, 1) := by decide +kernel
theorem dX11_forges_100 : decode cX11_forges 100 = .ok (.iload_n 1, 1) := by decide +kernel
theorem dX11_forges_101 : decode cX11_forges 101 = .ok (.iconst 4, 1) := by decide +kernel
theorem dX11_forges_102 : decode cX11_forges 102 = .ok (.if_icmp .ge 114, 3) := by decide +kernel
theorem dX11_forges_105 : decode cX11_forges 105 = .ok (.bipush 54, 2) := by decide +kernel
theorem dX11_forges_107 : decode cX11_forges 107 = .ok (.bipush 18, 2) := by decide +kernel
theorem dX11_forges_109 : decode cX11_forges 109 = .ok (.iload_n 1, 1) := by decide +kernel
theorem dX11_forges_110 : decode cX11_forges 110 = .ok (.imul, 1) := by decide +kernel
theorem dX11_forges_111 : decode cX11_forges 111 = .ok (.iadd, 1) := by decide +kernel
theorem dX11_forges_112 : decode cX11_forges 112 = .ok (.istore_n 2, 1) := by decide +kernel
theorem dX11_forges_113 : decode cX11_forges 113 = .ok (.iload_n 1, 1) := by decide +kernel
theorem dX11_forges_114 : decode cX11_forges 114 = .ok (.aload_n 0, 1) := by decide +kernel
theorem dX11_forges_115 : decode cX11_forges 115 = .ok (.getfield 134, 3) := by decide +kernel
theorem dX11_forges_118 : decode cX11_forges 118 = .ok (.if_icmp .ge 47, 3) := by decide +kernel
theorem dX11_forges_121 : decode cX11_forges 121 = .ok (.aload_n 0, 1) := by decide +kernel
theorem dX11_forges_122 : decode cX11_forges 122 = .ok (.iload_n 1, 1) := by decide +kernel
theorem dX11_forges_123 : decode cX11_forges 123 = .ok (.invokevirtual 257, 3) := by decide +kernel
theorem dX11_forges_126 : decode cX11_forges 126 = .ok (.aload_n 0, 1) := by decide +kernel
theorem dX11_forges_127 : decode cX11_forges 127 = .ok (.invokevirtual 260, 3) := by decide +kernel
theorem dX11_forges_130 : decode cX11_forges 130 = .ok (.ifCond .ne 5, 3) := by decide +kernel
theorem dX11_forges_133 : decode cX11_forges 133 = .ok (.iconst 0, 1) := by decide +kernel
theorem dX11_forges_134 : decode cX11_forges 134 = .ok (.ireturn, 1) := by decide +kernel
theorem dX11_forges_135 : decode cX11_forges 135 = .ok (.iconst 0, 1) := by decide +kernel
theorem dX11_forges_136 : decode cX11_forges 136 = .ok (.istore_n 3, 1) := by decide +kernel
theorem dX11_forges_137 : decode cX11_forges 137 = .ok (.iload_n 3, 1) := by decide +kernel
theorem dX11_forges_138 : decode cX11_forges 138 = .ok (.bipush 18, 2) := by decide +kernel
theorem dX11_forges_140 : decode cX11_forges 140 = .ok (.if_icmp .ge 22, 3) := by decide +kernel
theorem dX11_forges_143 : decode cX11_forges 143 = .ok (.aload_n 0, 1) := by decide +kernel
theorem dX11_forges_144 : decode cX11_forges 144 = .ok (.getfield 57, 3) := by decide +kernel
theorem dX11_forges_147 : decode cX11_forges 147 = .ok (.iload_n 2, 1) := by decide +kernel
theorem dX11_forges_148 : decode cX11_forges 148 = .ok (.iload_n 3, 1) := by decide +kernel
theorem dX11_forges_149 : decode cX11_forges 149 = .ok (.iadd, 1) := by decide +kernel
theorem dX11_forges_150 : decode cX11_forges 150 = .ok (.aload_n 0, 1) := by decide +kernel
theorem dX11_forges_151 : decode cX11_forges 151 = .ok (.iload_n 3, 1) := by decide +kernel
theorem dX11_forges_152 : decode cX11_forges 152 = .ok (.invokevirtual 264, 3) := by decide +kernel
theorem dX11_forges_155 : decode cX11_forges 155 = .ok (.iastore, 1) := by decide +kernel
theorem dX11_forges_156 : decode cX11_forges 156 = .ok (.iinc 3 1, 3) := by decide +kernel
theorem dX11_forges_159 : decode cX11_forges 159 = .ok (.goto (-22), 3) := by decide +kernel
theorem dX11_forges_162 : decode cX11_forges 162 = .ok (.goto 48, 3) := by decide +kernel
theorem dX11_forges_165 : decode cX11_forges 165 = .ok (.iload_n 1, 1) := by decide +kernel
theorem dX11_forges_166 : decode cX11_forges 166 = .ok (.aload_n 0, 1) := by decide +kernel
theorem dX11_forges_167 : decode cX11_forges 167 = .ok (.getfield 134, 3) := by decide +kernel
theorem dX11_forges_170 : decode cX11_forges 170 = .ok (.if_icmp .ne 18, 3) := by decide +kernel
theorem dX11_forges_173 : decode cX11_forges 173 = .ok (.aload_n 0, 1) := by decide +kernel
theorem dX11_forges_174 : decode cX11_forges 174 = .ok (.getfield 147, 3) := by decide +kernel
theorem dX11_forges_177 : decode cX11_forges 177 = .ok (.ifCond .le 33, 3) := by decide +kernel
theorem dX11_forges_180 : decode cX11_forges 180 = .ok (.aload_n 0, 1) := by decide +kernel
theorem dX11_forges_181 : decode cX11_forges 181 = .ok (.iload_n 2, 1) := by decide +kernel
theorem dX11_forges_182 : decode cX11_forges 182 = .ok (.invokevirtual 267, 3) := by decide +kernel
theorem dX11_forges_185 : decode cX11_forges 185 = .ok (.goto 25, 3) := by decide +kernel
theorem dX11_forges_188 : decode cX11_forges 188 = .ok (.iload_n 1, 1) := by decide +kernel
theorem dX11_forges_189 : decode cX11_forges 189 = .ok (.aload_n 0, 1) := by decide +kernel
theorem dX11_forges_190 : decode cX11_forges 190 = .ok (.getfield 134, 3) := by decide +kernel
theorem dX11_forges_193 : decode cX11_forges 193 = .ok (.iconst 1, 1) := by decide +kernel
theorem dX11_forges_194 : decode cX11_forges 194 = .ok (.iadd, 1) := by decide +kernel
theorem dX11_forges_195 : decode cX11_forges 195 = .ok (.if_icmp .ne 15, 3) := by decide +kernel
theorem dX11_forges_198 : decode cX11_forges 198 = .ok (.aload_n 0, 1) := by decide +kernel
theorem dX11_forges_199 : decode cX11_forges 199 = .ok (.getfield 154, 3) := by decide +kernel
theorem dX11_forges_202 : decode cX11_forges 202 = .ok (.ifCond .eq 8, 3) := by decide +kernel
theorem dX11_forges_205 : decode cX11_forges 205 = .ok (.aload_n 0, 1) := by decide +kernel
theorem dX11_forges_206 : decode cX11_forges 206 = .ok (.iload_n 2, 1) := by decide +kernel
theorem dX11_forges_207 : decode cX11_forges 207 = .ok (.invokevirtual 270, 3) := by decide +kernel
theorem dX11_forges_210 : decode cX11_forges 210 = .ok (.iinc 1 1, 3) := by decide +kernel
theorem dX11_forges_213 : decode cX11_forges 213 = .ok (.goto (-113), 3) := by decide +kernel
theorem dX11_forges_216 : decode cX11_forges 216 = .ok (.iconst 0, 1) := by decide +kernel
theorem dX11_forges_217 : decode cX11_forges 217 = .ok (.istore_n 1, 1) := by decide +kernel
theorem dX11_forges_218 : decode cX11_forges 218 = .ok (.iconst 0, 1) := by decide +kernel
theorem dX11_forges_219 : decode cX11_forges 219 = .ok (.istore_n 2, 1) := by decide +kernel
theorem dX11_forges_220 : decode cX11_forges 220 = .ok (.iload_n 2, 1) := by decide +kernel
theorem dX11_forges_221 : decode cX11_forges 221 = .ok (.bipush 127, 2) := by decide +kernel
theorem dX11_forges_223 : decode cX11_forges 223 = .ok (.if_icmp .ge 18, 3) := by decide +kernel
theorem dX11_forges_226 : decode cX11_forges 226 = .ok (.iload_n 1, 1) := by decide +kernel
theorem dX11_forges_227 : decode cX11_forges 227 = .ok (.aload_n 0, 1) := by decide +kernel
theorem dX11_forges_228 : decode cX11_forges 228 = .ok (.getfield 57, 3) := by decide +kernel
theorem dX11_forges_231 : decode cX11_forges 231 = .ok (.iload_n 2, 1) := by decide +kernel
theorem dX11_forges_232 : decode cX11_forges 232 = .ok (.iaload, 1) := by decide +kernel
theorem dX11_forges_233 : decode cX11_forges 233 = .ok (.iadd, 1) := by decide +kernel
theorem dX11_forges_234 : decode cX11_forges 234 = .ok (.istore_n 1, 1) := by decide +kernel
theorem dX11_forges_235 : decode cX11_forges 235 = .ok (.iinc 2 1, 3) := by decide +kernel
theorem dX11_forges_238 : decode cX11_forges 238 = .ok (.goto (-18), 3) := by decide +kernel
theorem dX11_forges_241 : decode cX11_forges 241 = .ok (.aload_n 0, 1) := by decide +kernel
theorem dX11_forges_242 : decode cX11_forges 242 = .ok (.getfield 57, 3) := by decide +kernel
theorem dX11_forges_245 : decode cX11_forges 245 = .ok (.bipush 127, 2) := by decide +kernel
theorem dX11_forges_247 : decode cX11_forges 247 = .ok (.sipush 256, 3) := by decide +kernel
theorem dX11_forges_250 : decode cX11_forges 250 = .ok (.iload_n 1, 1) := by decide +kernel
theorem dX11_forges_251 : decode cX11_forges 251 = .ok (.sipush 256, 3) := by decide +kernel
theorem dX11_forges_254 : decode cX11_forges 254 = .ok (.irem, 1) := by decide +kernel
theorem dX11_forges_255 : decode cX11_forges 255 = .ok (.isub, 1) := by decide +kernel
theorem dX11_forges_256 : decode cX11_forges 256 = .ok (.sipush 256, 3) := by decide +kernel
theorem dX11_forges_259 : decode cX11_forges 259 = .ok (.irem, 1) := by decide +kernel
theorem dX11_forges_260 : decode cX11_forges 260 = .ok (.iastore, 1) := by decide +kernel
theorem dX11_forges_261 : decode cX11_forges 261 = .ok (.iconst 1, 1) := by decide +kernel
theorem dX11_forges_262 : decode cX11_forges 262 = .ok (.ireturn, 1) := by decide +kernel
theorem dX11_forged_0 : decode cX11_forged 0 = .ok (.aload_n 0, 1) := by decide +kernel
theorem dX11_forged_1 : decode cX11_forged 1 = .ok (.iconst 0, 1) := by decide +kernel
theorem dX11_forged_2 : decode cX11_forged 2 = .ok (.putfield 1, 3) := by decide +kernel
theorem dX11_forged_5 : decode cX11_forged 5 = .ok (.iload_n 1, 1) := by decide +kernel
theorem dX11_forged_6 : decode cX11_forged 6 = .ok (.i2l, 1) := by decide +kernel
theorem dX11_forged_7 : decode cX11_forged 7 = .ok (.lconst 0, 1) := by decide +kernel
theorem dX11_forged_8 : decode cX11_forged 8 = .ok (.ldc2_w 123, 3) := by decide +kernel
theorem dX11_forged_11 : decode cX11_forged 11 = .ok (.invokestatic 107, 3) := by decide +kernel
theorem dX11_forged_14 : decode cX11_forged 14 = .ok (.ifCond .ne 6, 3) := by decide +kernel
theorem dX11_forged_17 : decode cX11_forged 17 = .ok (.bipush (-2), 2) := by decide +kernel
theorem dX11_forged_19 : decode cX11_forged 19 = .ok (.ireturn, 1) := by decide +kernel
theorem dX11_forged_20 : decode cX11_forged 20 = .ok (.aload_n 0, 1) := by decide +kernel
theorem dX11_forged_21 : decode cX11_forged 21 = .ok (.getfield 128, 3) := by decide +kernel
theorem dX11_forged_24 : decode cX11_forged 24 = .ok (.ifCond .ne 6, 3) := by decide +kernel
theorem dX11_forged_27 : decode cX11_forged 27 = .ok (.bipush (-5), 2) := by decide +kernel
theorem dX11_forged_29 : decode cX11_forged 29 = .ok (.ireturn, 1) := by decide +kernel
theorem dX11_forged_30 : decode cX11_forged 30 = .ok (.aload_n 0, 1) := by decide +kernel
theorem dX11_forged_31 : decode cX11_forged 31 = .ok (.invokevirtual 273, 3) := by decide +kernel
theorem dX11_forged_34 : decode cX11_forged 34 = .ok (.ifCond .eq 12, 3) := by decide +kernel
theorem dX11_forged_37 : decode cX11_forged 37 = .ok (.aload_n 0, 1) := by decide +kernel
theorem dX11_forged_38 : decode cX11_forged 38 = .ok (.getfield 57, 3) := by decide +kernel
theorem dX11_forged_41 : decode cX11_forged 41 = .ok (.iload_n 1, 1) := by decide +kernel
theorem dX11_forged_42 : decode cX11_forged 42 = .ok (.iaload, 1) := by decide +kernel
theorem dX11_forged_43 : decode cX11_forged 43 = .ok (.goto 4, 3) := by decide +kernel
theorem dX11_forged_46 : decode cX11_forged 46 = .ok (.iconst (-1), 1) := by decide +kernel
theorem dX11_forged_47 : decode cX11_forged 47 = .ok (.ireturn, 1) := by decide +kernel
theorem dX11_calls_0 : decode cX11_calls 0 = .ok (.aload_n 0, 1) := by decide +kernel
theorem dX11_calls_1 : decode cX11_calls 1 = .ok (.getfield 60, 3) := by decide +kernel
theorem dX11_calls_4 : decode cX11_calls 4 = .ok (.aload_n 0, 1) := by decide +kernel
theorem dX11_calls_5 : decode cX11_calls 5 = .ok (.getfield 276, 3) := by decide +kernel
theorem dX11_calls_8 : decode cX11_calls 8 = .ok (.iload_n 1, 1) := by decide +kernel
theorem dX11_calls_9 : decode cX11_calls 9 = .ok (.iastore, 1) := by decide +kernel
theorem dX11_calls_10 : decode cX11_calls 10 = .ok (.aload_n 0, 1) := by decide +kernel
theorem dX11_calls_11 : decode cX11_calls 11 = .ok (.dup, 1) := by decide +kernel
theorem dX11_calls_12 : decode cX11_calls 12 = .ok (.getfield 276, 3) := by decide +kernel
theorem dX11_calls_15 : decode cX11_calls 15 = .ok (.iconst 1, 1) := by decide +kernel
theorem dX11_calls_16 : decode cX11_calls 16 = .ok (.iadd, 1) := by decide +kernel
theorem dX11_calls_17 : decode cX11_calls 17 = .ok (.putfield 276, 3) := by decide +kernel
theorem dX11_calls_20 : decode cX11_calls 20 = .ok (.return_, 1) := by decide +kernel
theorem dX11_callsNumber_0 : decode cX11_callsNumber 0 = .ok (.iconst 1, 1) := by decide +kernel
theorem dX11_callsNumber_1 : decode cX11_callsNumber 1 = .ok (.istore_n 2, 1) := by decide +kernel
theorem dX11_callsNumber_2 : decode cX11_callsNumber 2 = .ok (.iload_n 1, 1) := by decide +kernel
theorem dX11_callsNumber_3 : decode cX11_callsNumber 3 = .ok (.iload_n 2, 1) := by decide +kernel
theorem dX11_callsNumber_4 : decode cX11_callsNumber 4 = .ok (.idiv, 1) := by decide +kernel
theorem dX11_callsNumber_5 : decode cX11_callsNumber 5 = .ok (.bipush 9, 2) := by decide +kernel
theorem dX11_callsNumber_7 : decode cX11_callsNumber 7 = .ok (.if_icmp .le 11, 3) := by decide +kernel
theorem dX11_callsNumber_10 : decode cX11_callsNumber 10 = .ok (.iload_n 2, 1) := by decide +kernel
theorem dX11_callsNumber_11 : decode cX11_callsNumber 11 = .ok (.bipush 10, 2) := by decide +kernel
theorem dX11_callsNumber_13 : decode cX11_callsNumber 13 = .ok (.imul, 1) := by decide +kernel
theorem dX11_callsNumber_14 : decode cX11_callsNumber 14 = .ok (.istore_n 2, 1) := by decide +kernel
theorem dX11_callsNumber_15 : decode cX11_callsNumber 15 = .ok (.goto (-13), 3) := by decide +kernel
theorem dX11_callsNumber_18 : decode cX11_callsNumber 18 = .ok (.iload_n 2, 1) := by decide +kernel
theorem dX11_callsNumber_19 : decode cX11_callsNumber 19 = .ok (.ifCond .le 24, 3) := by decide +kernel
theorem dX11_callsNumber_22 : decode cX11_callsNumber 22 = .ok (.aload_n 0, 1) := by decide +kernel
theorem dX11_callsNumber_23 : decode cX11_callsNumber 23 = .ok (.bipush 48, 2) := by decide +kernel
theorem dX11_callsNumber_25 : decode cX11_callsNumber 25 = .ok (.iload_n 1, 1) := by decide +kernel
theorem dX11_callsNumber_26 : decode cX11_callsNumber 26 = .ok (.iload_n 2, 1) := by decide +kernel
theorem dX11_callsNumber_27 : decode cX11_callsNumber 27 = .ok (.idiv, 1) := by decide +kernel
theorem dX11_callsNumber_28 : decode cX11_callsNumber 28 = .ok (.bipush 10, 2) := by decide +kernel
theorem dX11_callsNumber_30 : decode cX11_callsNumber 30 = .ok (.irem, 1) := by decide +kernel
theorem dX11_callsNumber_31 : decode cX11_callsNumber 31 = .ok (.iadd, 1) := by decide +kernel
theorem dX11_callsNumber_32 : decode cX11_callsNumber 32 = .ok (.invokevirtual 279, 3) := by decide +kernel
theorem dX11_callsNumber_35 : decode cX11_callsNumber 35 = .ok (.iload_n 2, 1) := by decide +kernel
theorem dX11_callsNumber_36 : decode cX11_callsNumber 36 = .ok (.bipush 10, 2) := by decide +kernel
theorem dX11_callsNumber_38 : decode cX11_callsNumber 38 = .ok (.idiv, 1) := by decide +kernel
theorem dX11_callsNumber_39 : decode cX11_callsNumber 39 = .ok (.istore_n 2, 1) := by decide +kernel
theorem dX11_callsNumber_40 : decode cX11_callsNumber 40 = .ok (.goto (-22), 3) := by decide +kernel
theorem dX11_callsNumber_43 : decode cX11_callsNumber 43 = .ok (.return_, 1) := by decide +kernel
theorem dX11_called_0 : decode cX11_called 0 = .ok (.aload_n 0, 1) := by decide +kernel
theorem dX11_called_1 : decode cX11_called 1 = .ok (.iconst 0, 1) := by decide +kernel
theorem dX11_called_2 : decode cX11_called 2 = .ok (.putfield 1, 3) := by decide +kernel
theorem dX11_called_5 : decode cX11_called 5 = .ok (.aload_n 0, 1) := by decide +kernel
theorem dX11_called_6 : decode cX11_called 6 = .ok (.iload_n 1, 1) := by decide +kernel
theorem dX11_called_7 : decode cX11_called 7 = .ok (.invokevirtual 239, 3) := by decide +kernel
theorem dX11_called_10 : decode cX11_called 10 = .ok (.ifCond .ne 6, 3) := by decide +kernel
theorem dX11_called_13 : decode cX11_called 13 = .ok (.bipush (-2), 2) := by decide +kernel
theorem dX11_called_15 : decode cX11_called 15 = .ok (.ireturn, 1) := by decide +kernel
theorem dX11_called_16 : decode cX11_called 16 = .ok (.iload_n 2, 1) := by decide +kernel
theorem dX11_called_17 : decode cX11_called 17 = .ok (.ifCond .ge 6, 3) := by decide +kernel
theorem dX11_called_20 : decode cX11_called 20 = .ok (.bipush (-3), 2) := by decide +kernel
theorem dX11_called_22 : decode cX11_called 22 = .ok (.ireturn, 1) := by decide +kernel
theorem dX11_called_23 : decode cX11_called 23 = .ok (.aload_n 0, 1) := by decide +kernel
theorem dX11_called_24 : decode cX11_called 24 = .ok (.iconst 0, 1) := by decide +kernel
theorem dX11_called_25 : decode cX11_called 25 = .ok (.putfield 276, 3) := by decide +kernel
theorem dX11_called_28 : decode cX11_called 28 = .ok (.aload_n 0, 1) := by decide +kernel
theorem dX11_called_29 : decode cX11_called 29 = .ok (.aload_n 0, 1) := by decide +kernel
theorem dX11_called_30 : decode cX11_called 30 = .ok (.iload_n 1, 1) := by decide +kernel
theorem dX11_called_31 : decode cX11_called 31 = .ok (.iconst 0, 1) := by decide +kernel
theorem dX11_called_32 : decode cX11_called 32 = .ok (.invokevirtual 244, 3) := by decide +kernel
theorem dX11_called_35 : decode cX11_called 35 = .ok (.invokevirtual 282, 3) := by decide +kernel
theorem dX11_called_38 : decode cX11_called 38 = .ok (.aload_n 0, 1) := by decide +kernel
theorem dX11_called_39 : decode cX11_called 39 = .ok (.bipush 120, 2) := by decide +kernel
theorem dX11_called_41 : decode cX11_called 41 = .ok (.invokevirtual 279, 3) := by decide +kernel
theorem dX11_called_44 : decode cX11_called 44 = .ok (.aload_n 0, 1) := by decide +kernel
theorem dX11_called_45 : decode cX11_called 45 = .ok (.aload_n 0, 1) := by decide +kernel
theorem dX11_called_46 : decode cX11_called 46 = .ok (.iload_n 1, 1) := by decide +kernel
theorem dX11_called_47 : decode cX11_called 47 = .ok (.iconst 1, 1) := by decide +kernel
theorem dX11_called_48 : decode cX11_called 48 = .ok (.invokevirtual 244, 3) := by decide +kernel
theorem dX11_called_51 : decode cX11_called 51 = .ok (.invokevirtual 282, 3) := by decide +kernel
theorem dX11_called_54 : decode cX11_called 54 = .ok (.aload_n 0, 1) := by decide +kernel
theorem dX11_called_55 : decode cX11_called 55 = .ok (.bipush 64, 2) := by decide +kernel
theorem dX11_called_57 : decode cX11_called 57 = .ok (.invokevirtual 279, 3) := by decide +kernel
theorem dX11_called_60 : decode cX11_called 60 = .ok (.aload_n 0, 1) := by decide +kernel
theorem dX11_called_61 : decode cX11_called 61 = .ok (.aload_n 0, 1) := by decide +kernel
theorem dX11_called_62 : decode cX11_called 62 = .ok (.iload_n 1, 1) := by decide +kernel
theorem dX11_called_63 : decode cX11_called 63 = .ok (.iconst 2, 1) := by decide +kernel
theorem dX11_called_64 : decode cX11_called 64 = .ok (.invokevirtual 244, 3) := by decide +kernel
theorem dX11_called_67 : decode cX11_called 67 = .ok (.invokevirtual 282, 3) := by decide +kernel
theorem dX11_called_70 : decode cX11_called 70 = .ok (.aload_n 0, 1) := by decide +kernel
theorem dX11_called_71 : decode cX11_called 71 = .ok (.iload_n 1, 1) := by decide +kernel
theorem dX11_called_72 : decode cX11_called 72 = .ok (.bipush 7, 2) := by decide +kernel
theorem dX11_called_74 : decode cX11_called 74 = .ok (.invokevirtual 244, 3) := by decide +kernel
theorem dX11_called_77 : decode cX11_called 77 = .ok (.iconst 1, 1) := by decide +kernel
theorem dX11_called_78 : decode cX11_called 78 = .ok (.if_icmp .ne 9, 3) := by decide +kernel
theorem dX11_called_81 : decode cX11_called 81 = .ok (.aload_n 0, 1) := by decide +kernel
theorem dX11_called_82 : decode cX11_called 82 = .ok (.bipush 33, 2) := by decide +kernel
theorem dX11_called_84 : decode cX11_called 84 = .ok (.invokevirtual 279, 3) := by decide +kernel
theorem dX11_called_87 : decode cX11_called 87 = .ok (.iload_n 2, 1) := by decide +kernel
theorem dX11_called_88 : decode cX11_called 88 = .ok (.aload_n 0, 1) := by decide +kernel
theorem dX11_called_89 : decode cX11_called 89 = .ok (.getfield 276, 3) := by decide +kernel
theorem dX11_called_92 : decode cX11_called 92 = .ok (.if_icmp .ge 12, 3) := by decide +kernel
theorem dX11_called_95 : decode cX11_called 95 = .ok (.aload_n 0, 1) := by decide +kernel
theorem dX11_called_96 : decode cX11_called 96 = .ok (.getfield 60, 3) := by decide +kernel
theorem dX11_called_99 : decode cX11_called 99 = .ok (.iload_n 2, 1) := by decide +kernel
theorem dX11_called_100 : decode cX11_called 100 = .ok (.iaload, 1) := by decide +kernel
theorem dX11_called_101 : decode cX11_called 101 = .ok (.goto 4, 3) := by decide +kernel
theorem dX11_called_104 : decode cX11_called 104 = .ok (.iconst (-1), 1) := by decide +kernel
theorem dX11_called_105 : decode cX11_called 105 = .ok (.ireturn, 1) := by decide +kernel
theorem dX11_find_0 : decode cX11_find 0 = .ok (.aload_n 0, 1) := by decide +kernel
theorem dX11_find_1 : decode cX11_find 1 = .ok (.iconst 0, 1) := by decide +kernel
theorem dX11_find_2 : decode cX11_find 2 = .ok (.putfield 1, 3) := by decide +kernel
theorem dX11_find_5 : decode cX11_find 5 = .ok (.iconst 0, 1) := by decide +kernel
theorem dX11_find_6 : decode cX11_find 6 = .ok (.istore 4, 2) := by decide +kernel
theorem dX11_find_8 : decode cX11_find 8 = .ok (.iload 4, 2) := by decide +kernel
theorem dX11_find_10 : decode cX11_find 10 = .ok (.aload_n 0, 1) := by decide +kernel
theorem dX11_find_11 : decode cX11_find 11 = .ok (.getfield 134, 3) := by decide +kernel
theorem dX11_find_14 : decode cX11_find 14 = .ok (.if_icmp .ge 45, 3) := by decide +kernel
theorem dX11_find_17 : decode cX11_find 17 = .ok (.aload_n 0, 1) := by decide +kernel
theorem dX11_find_18 : decode cX11_find 18 = .ok (.iload 4, 2) := by decide +kernel
theorem dX11_find_20 : decode cX11_find 20 = .ok (.iconst 0, 1) := by decide +kernel
theorem dX11_find_21 : decode cX11_find 21 = .ok (.invokevirtual 244, 3) := by decide +kernel
theorem dX11_find_24 : decode cX11_find 24 = .ok (.iload_n 1, 1) := by decide +kernel
theorem dX11_find_25 : decode cX11_find 25 = .ok (.if_icmp .ne 28, 3) := by decide +kernel
theorem dX11_find_28 : decode cX11_find 28 = .ok (.aload_n 0, 1) := by decide +kernel
theorem dX11_find_29 : decode cX11_find 29 = .ok (.iload 4, 2) := by decide +kernel
theorem dX11_find_31 : decode cX11_find 31 = .ok (.iconst 1, 1) := by decide +kernel
theorem dX11_find_32 : decode cX11_find 32 = .ok (.invokevirtual 244, 3) := by decide +kernel
theorem dX11_find_35 : decode cX11_find 35 = .ok (.iload_n 2, 1) := by decide +kernel
theorem dX11_find_36 : decode cX11_find 36 = .ok (.if_icmp .ne 17, 3) := by decide +kernel
theorem dX11_find_39 : decode cX11_find 39 = .ok (.aload_n 0, 1) := by decide +kernel
theorem dX11_find_40 : decode cX11_find 40 = .ok (.iload 4, 2) := by decide +kernel
theorem dX11_find_42 : decode cX11_find 42 = .ok (.iconst 2, 1) := by decide +kernel
theorem dX11_find_43 : decode cX11_find 43 = .ok (.invokevirtual 244, 3) := by decide +kernel
theorem dX11_find_46 : decode cX11_find 46 = .ok (.iload_n 3, 1) := by decide +kernel
theorem dX11_find_47 : decode cX11_find 47 = .ok (.if_icmp .ne 6, 3) := by decide +kernel
theorem dX11_find_50 : decode cX11_find 50 = .ok (.iload 4, 2) := by decide +kernel
theorem dX11_find_52 : decode cX11_find 52 = .ok (.ireturn, 1) := by decide +kernel
theorem dX11_find_53 : decode cX11_find 53 = .ok (.iinc 4 1, 3) := by decide +kernel
theorem dX11_find_56 : decode cX11_find 56 = .ok (.goto (-48), 3) := by decide +kernel
theorem dX11_find_59 : decode cX11_find 59 = .ok (.iconst (-1), 1) := by decide +kernel
theorem dX11_find_60 : decode cX11_find 60 = .ok (.ireturn, 1) := by decide +kernel
theorem dX11_syncOf_0 : decode cX11_syncOf 0 = .ok (.iload_n 0, 1) := by decide +kernel
theorem dX11_syncOf_1 : decode cX11_syncOf 1 = .ok (.iload_n 1, 1) := by decide +kernel
theorem dX11_syncOf_2 : decode cX11_syncOf 2 = .ok (.iconst 4, 1) := by decide +kernel
theorem dX11_syncOf_3 : decode cX11_syncOf 3 = .ok (.imul, 1) := by decide +kernel
theorem dX11_syncOf_4 : decode cX11_syncOf 4 = .ok (.bipush 24, 2) := by decide +kernel
theorem dX11_syncOf_6 : decode cX11_syncOf 6 = .ok (.idiv, 1) := by decide +kernel
theorem dX11_syncOf_7 : decode cX11_syncOf 7 = .ok (.bipush 8, 2) := by decide +kernel
theorem dX11_syncOf_9 : decode cX11_syncOf 9 = .ok (.imul, 1) := by decide +kernel
theorem dX11_syncOf_10 : decode cX11_syncOf 10 = .ok (.if_icmp .ne 5, 3) := by decide +kernel
theorem dX11_syncOf_13 : decode cX11_syncOf 13 = .ok (.iconst 4, 1) := by decide +kernel
theorem dX11_syncOf_14 : decode cX11_syncOf 14 = .ok (.ireturn, 1) := by decide +kernel
theorem dX11_syncOf_15 : decode cX11_syncOf 15 = .ok (.iload_n 0, 1) := by decide +kernel
theorem dX11_syncOf_16 : decode cX11_syncOf 16 = .ok (.iload_n 1, 1) := by decide +kernel
theorem dX11_syncOf_17 : decode cX11_syncOf 17 = .ok (.bipush 16, 2) := by decide +kernel
theorem dX11_syncOf_19 : decode cX11_syncOf 19 = .ok (.imul, 1) := by decide +kernel
theorem dX11_syncOf_20 : decode cX11_syncOf 20 = .ok (.bipush 72, 2) := by decide +kernel
theorem dX11_syncOf_22 : decode cX11_syncOf 22 = .ok (.idiv, 1) := by decide +kernel
theorem dX11_syncOf_23 : decode cX11_syncOf 23 = .ok (.bipush 8, 2) := by decide +kernel
theorem dX11_syncOf_25 : decode cX11_syncOf 25 = .ok (.imul, 1) := by decide +kernel
theorem dX11_syncOf_26 : decode cX11_syncOf 26 = .ok (.if_icmp .ne 5, 3) := by decide +kernel
theorem dX11_syncOf_29 : decode cX11_syncOf 29 = .ok (.iconst 5, 1) := by decide +kernel
theorem dX11_syncOf_30 : decode cX11_syncOf 30 = .ok (.ireturn, 1) := by decide +kernel
theorem dX11_syncOf_31 : decode cX11_syncOf 31 = .ok (.iload_n 0, 1) := by decide +kernel
theorem dX11_syncOf_32 : decode cX11_syncOf 32 = .ok (.iload_n 1, 1) := by decide +kernel
theorem dX11_syncOf_33 : decode cX11_syncOf 33 = .ok (.bipush 16, 2) := by decide +kernel
theorem dX11_syncOf_35 : decode cX11_syncOf 35 = .ok (.imul, 1) := by decide +kernel
theorem dX11_syncOf_36 : decode cX11_syncOf 36 = .ok (.bipush 80, 2) := by decide +kernel
theorem dX11_syncOf_38 : decode cX11_syncOf 38 = .ok (.idiv, 1) := by decide +kernel
theorem dX11_syncOf_39 : decode cX11_syncOf 39 = .ok (.bipush 8, 2) := by decide +kernel
theorem dX11_syncOf_41 : decode cX11_syncOf 41 = .ok (.imul, 1) := by decide +kernel
theorem dX11_syncOf_42 : decode cX11_syncOf 42 = .ok (.if_icmp .ne 6, 3) := by decide +kernel
theorem dX11_syncOf_45 : decode cX11_syncOf 45 = .ok (.bipush 6, 2) := by decide +kernel
theorem dX11_syncOf_47 : decode cX11_syncOf 47 = .ok (.ireturn, 1) := by decide +kernel
theorem dX11_syncOf_48 : decode cX11_syncOf 48 = .ok (.iload_n 0, 1) := by decide +kernel
theorem dX11_syncOf_49 : decode cX11_syncOf 49 = .ok (.iload_n 1, 1) := by decide +kernel
theorem dX11_syncOf_50 : decode cX11_syncOf 50 = .ok (.iconst 5, 1) := by decide +kernel
theorem dX11_syncOf_51 : decode cX11_syncOf 51 = .ok (.imul, 1) := by decide +kernel
theorem dX11_syncOf_52 : decode cX11_syncOf 52 = .ok (.bipush 32, 2) := by decide +kernel
theorem dX11_syncOf_54 : decode cX11_syncOf 54 = .ok (.idiv, 1) := by decide +kernel
theorem dX11_syncOf_55 : decode cX11_syncOf 55 = .ok (.bipush 8, 2) := by decide +kernel
theorem dX11_syncOf_57 : decode cX11_syncOf 57 = .ok (.imul, 1) := by decide +kernel
theorem dX11_syncOf_58 : decode cX11_syncOf 58 = .ok (.if_icmp .eq 17, 3) := by decide +kernel
theorem dX11_syncOf_61 : decode cX11_syncOf 61 = .ok (.iload_n 0, 1) := by decide +kernel
theorem dX11_syncOf_62 : decode cX11_syncOf 62 = .ok (.iload_n 1, 1) := by decide +kernel
theorem dX11_syncOf_63 : decode cX11_syncOf 63 = .ok (.bipush 15, 2) := by decide +kernel
theorem dX11_syncOf_65 : decode cX11_syncOf 65 = .ok (.imul, 1) := by decide +kernel
theorem dX11_syncOf_66 : decode cX11_syncOf 66 = .ok (.bipush 72, 2) := by decide +kernel
theorem dX11_syncOf_68 : decode cX11_syncOf 68 = .ok (.idiv, 1) := by decide +kernel
theorem dX11_syncOf_69 : decode cX11_syncOf 69 = .ok (.bipush 8, 2) := by decide +kernel
theorem dX11_syncOf_71 : decode cX11_syncOf 71 = .ok (.imul, 1) := by decide +kernel
theorem dX11_syncOf_72 : decode cX11_syncOf 72 = .ok (.if_icmp .ne 8, 3) := by decide +kernel
theorem dX11_syncOf_75 : decode cX11_syncOf 75 = .ok (.bipush 7, 2) := by decide +kernel
theorem dX11_syncOf_77 : decode cX11_syncOf 77 = .ok (.goto 5, 3) := by decide +kernel
theorem dX11_syncOf_80 : decode cX11_syncOf 80 = .ok (.bipush 10, 2) := by decide +kernel
theorem dX11_syncOf_82 : decode cX11_syncOf 82 = .ok (.ireturn, 1) := by decide +kernel
theorem dX11_works_0 : decode cX11_works 0 = .ok (.sipush 460, 3) := by decide +kernel
theorem dX11_works_3 : decode cX11_works 3 = .ok (.iload_n 3, 1) := by decide +kernel
theorem dX11_works_4 : decode cX11_works 4 = .ok (.imul, 1) := by decide +kernel
theorem dX11_works_5 : decode cX11_works 5 = .ok (.iload 4, 2) := by decide +kernel
theorem dX11_works_7 : decode cX11_works 7 = .ok (.imul, 1) := by decide +kernel
theorem dX11_works_8 : decode cX11_works 8 = .ok (.ldc_w 285, 3) := by decide +kernel
theorem dX11_works_11 : decode cX11_works 11 = .ok (.sipush 460, 3) := by decide +kernel
theorem dX11_works_14 : decode cX11_works 14 = .ok (.iload 4, 2) := by decide +kernel
theorem dX11_works_16 : decode cX11_works 16 = .ok (.imul, 1) := by decide +kernel
theorem dX11_works_17 : decode cX11_works 17 = .ok (.isub, 1) := by decide +kernel
theorem dX11_works_18 : decode cX11_works 18 = .ok (.idiv, 1) := by decide +kernel
theorem dX11_works_19 : decode cX11_works 19 = .ok (.iconst 1, 1) := by decide +kernel
theorem dX11_works_20 : decode cX11_works 20 = .ok (.iadd, 1) := by decide +kernel
theorem dX11_works_21 : decode cX11_works 21 = .ok (.istore 5, 2) := by decide +kernel
theorem dX11_works_23 : decode cX11_works 23 = .ok (.iload_n 1, 1) := by decide +kernel
theorem dX11_works_24 : decode cX11_works 24 = .ok (.ifCond .ne 7, 3) := by decide +kernel
theorem dX11_works_27 : decode cX11_works 27 = .ok (.iconst 1, 1) := by decide +kernel
theorem dX11_works_28 : decode cX11_works 28 = .ok (.goto 4, 3) := by decide +kernel
theorem dX11_works_31 : decode cX11_works 31 = .ok (.iconst 0, 1) := by decide +kernel
theorem dX11_works_32 : decode cX11_works 32 = .ok (.istore 6, 2) := by decide +kernel
theorem dX11_works_34 : decode cX11_works 34 = .ok (.aload_n 0, 1) := by decide +kernel
theorem dX11_works_35 : decode cX11_works 35 = .ok (.getfield 63, 3) := by decide +kernel
theorem dX11_works_38 : decode cX11_works 38 = .ok (.iconst 0, 1) := by decide +kernel
theorem dX11_works_39 : decode cX11_works 39 = .ok (.iload 6, 2) := by decide +kernel
theorem dX11_works_41 : decode cX11_works 41 = .ok (.ifCond .eq 13, 3) := by decide +kernel
theorem dX11_works_44 : decode cX11_works 44 = .ok (.iload_n 2, 1) := by decide +kernel
theorem dX11_works_45 : decode cX11_works 45 = .ok (.bipush 8, 2) := by decide +kernel
theorem dX11_works_47 : decode cX11_works 47 = .ok (.idiv, 1) := by decide +kernel
theorem dX11_works_48 : decode cX11_works 48 = .ok (.bipush 8, 2) := by decide +kernel
theorem dX11_works_50 : decode cX11_works 50 = .ok (.imul, 1) := by decide +kernel
theorem dX11_works_51 : decode cX11_works 51 = .ok (.goto 4, 3) := by decide +kernel
theorem dX11_works_54 : decode cX11_works 54 = .ok (.iload_n 2, 1) := by decide +kernel
theorem dX11_works_55 : decode cX11_works 55 = .ok (.iastore, 1) := by decide +kernel
theorem dX11_works_56 : decode cX11_works 56 = .ok (.aload_n 0, 1) := by decide +kernel
theorem dX11_works_57 : decode cX11_works 57 = .ok (.getfield 63, 3) := by decide +kernel
theorem dX11_works_60 : decode cX11_works 60 = .ok (.iconst 1, 1) := by decide +kernel
theorem dX11_works_61 : decode cX11_works 61 = .ok (.iload 6, 2) := by decide +kernel
theorem dX11_works_63 : decode cX11_works 63 = .ok (.ifCond .eq 9, 3) := by decide +kernel
theorem dX11_works_66 : decode cX11_works 66 = .ok (.sipush 160, 3) := by decide +kernel
theorem dX11_works_69 : decode cX11_works 69 = .ok (.goto 5, 3) := by decide +kernel
theorem dX11_works_72 : decode cX11_works 72 = .ok (.bipush 80, 2) := by decide +kernel
theorem dX11_works_74 : decode cX11_works 74 = .ok (.iastore, 1) := by decide +kernel
theorem dX11_works_75 : decode cX11_works 75 = .ok (.aload_n 0, 1) := by decide +kernel
theorem dX11_works_76 : decode cX11_works 76 = .ok (.getfield 63, 3) := by decide +kernel
theorem dX11_works_79 : decode cX11_works 79 = .ok (.iconst 2, 1) := by decide +kernel
theorem dX11_works_80 : decode cX11_works 80 = .ok (.iload 6, 2) := by decide +kernel
theorem dX11_works_82 : decode cX11_works 82 = .ok (.ifCond .eq 8, 3) := by decide +kernel
theorem dX11_works_85 : decode cX11_works 85 = .ok (.bipush 48, 2) := by decide +kernel
theorem dX11_works_87 : decode cX11_works 87 = .ok (.goto 5, 3) := by decide +kernel
theorem dX11_works_90 : decode cX11_works 90 = .ok (.bipush 8, 2) := by decide +kernel
theorem dX11_works_92 : decode cX11_works 92 = .ok (.iastore, 1) := by decide +kernel
theorem dX11_works_93 : decode cX11_works 93 = .ok (.aload_n 0, 1) := by decide +kernel
theorem dX11_works_94 : decode cX11_works 94 = .ok (.getfield 63, 3) := by decide +kernel
theorem dX11_works_97 : decode cX11_works 97 = .ok (.iconst 3, 1) := by decide +kernel
theorem dX11_works_98 : decode cX11_works 98 = .ok (.bipush 32, 2) := by decide +kernel
theorem dX11_works_100 : decode cX11_works 100 = .ok (.iastore, 1) := by decide +kernel
theorem dX11_works_101 : decode cX11_works 101 = .ok (.aload_n 0, 1) := by decide +kernel
theorem dX11_works_102 : decode cX11_works 102 = .ok (.getfield 63, 3) := by decide +kernel
theorem dX11_works_105 : decode cX11_works 105 = .ok (.iconst 4, 1) := by decide +kernel
theorem dX11_works_106 : decode cX11_works 106 = .ok (.iload_n 3, 1) := by decide +kernel
theorem dX11_works_107 : decode cX11_works 107 = .ok (.iastore, 1) := by decide +kernel
theorem dX11_works_108 : decode cX11_works 108 = .ok (.aload_n 0, 1) := by decide +kernel
theorem dX11_works_109 : decode cX11_works 109 = .ok (.getfield 63, 3) := by decide +kernel
theorem dX11_works_112 : decode cX11_works 112 = .ok (.bipush 7, 2) := by decide +kernel
theorem dX11_works_114 : decode cX11_works 114 = .ok (.iload 6, 2) := by decide +kernel
theorem dX11_works_116 : decode cX11_works 116 = .ok (.ifCond .eq 16, 3) := by decide +kernel
theorem dX11_works_119 : decode cX11_works 119 = .ok (.aload_n 0, 1) := by decide +kernel
theorem dX11_works_120 : decode cX11_works 120 = .ok (.getfield 63, 3) := by decide +kernel
theorem dX11_works_123 : decode cX11_works 123 = .ok (.iconst 0, 1) := by decide +kernel
theorem dX11_works_124 : decode cX11_works 124 = .ok (.iaload, 1) := by decide +kernel
theorem dX11_works_125 : decode cX11_works 125 = .ok (.iload_n 3, 1) := by decide +kernel
theorem dX11_works_126 : decode cX11_works 126 = .ok (.invokestatic 286, 3) := by decide +kernel
theorem dX11_works_129 : decode cX11_works 129 = .ok (.goto 5, 3) := by decide +kernel
theorem dX11_works_132 : decode cX11_works 132 = .ok (.bipush 8, 2) := by decide +kernel
theorem dX11_works_134 : decode cX11_works 134 = .ok (.iastore, 1) := by decide +kernel
theorem dX11_works_135 : decode cX11_works 135 = .ok (.aload_n 0, 1) := by decide +kernel
theorem dX11_works_136 : decode cX11_works 136 = .ok (.getfield 63, 3) := by decide +kernel
theorem dX11_works_139 : decode cX11_works 139 = .ok (.iconst 5, 1) := by decide +kernel
theorem dX11_works_140 : decode cX11_works 140 = .ok (.iload 5, 2) := by decide +kernel
theorem dX11_works_142 : decode cX11_works 142 = .ok (.iload 6, 2) := by decide +kernel
theorem dX11_works_144 : decode cX11_works 144 = .ok (.ifCond .eq 16, 3) := by decide +kernel
theorem dX11_works_147 : decode cX11_works 147 = .ok (.aload_n 0, 1) := by decide +kernel
theorem dX11_works_148 : decode cX11_works 148 = .ok (.getfield 63, 3) := by decide +kernel
theorem dX11_works_151 : decode cX11_works 151 = .ok (.bipush 7, 2) := by decide +kernel
theorem dX11_works_153 : decode cX11_works 153 = .ok (.iaload, 1) := by decide +kernel
theorem dX11_works_154 : decode cX11_works 154 = .ok (.bipush 9, 2) := by decide +kernel
theorem dX11_works_156 : decode cX11_works 156 = .ok (.iadd, 1) := by decide +kernel
theorem dX11_works_157 : decode cX11_works 157 = .ok (.goto 5, 3) := by decide +kernel
theorem dX11_works_160 : decode cX11_works 160 = .ok (.bipush 15, 2) := by decide +kernel
theorem dX11_works_162 : decode cX11_works 162 = .ok (.invokestatic 289, 3) := by decide +kernel
theorem dX11_works_165 : decode cX11_works 165 = .ok (.iastore, 1) := by decide +kernel
theorem dX11_works_166 : decode cX11_works 166 = .ok (.aload_n 0, 1) := by decide +kernel
theorem dX11_works_167 : decode cX11_works 167 = .ok (.getfield 63, 3) := by decide +kernel
theorem dX11_works_170 : decode cX11_works 170 = .ok (.bipush 6, 2) := by decide +kernel
theorem dX11_works_172 : decode cX11_works 172 = .ok (.iload 6, 2) := by decide +kernel
theorem dX11_works_174 : decode cX11_works 174 = .ok (.ifCond .eq 7, 3) := by decide +kernel
theorem dX11_works_177 : decode cX11_works 177 = .ok (.iconst 3, 1) := by decide +kernel
theorem dX11_works_178 : decode cX11_works 178 = .ok (.goto 12, 3) := by decide +kernel
theorem dX11_works_181 : decode cX11_works 181 = .ok (.aload_n 0, 1) := by decide +kernel
theorem dX11_works_182 : decode cX11_works 182 = .ok (.getfield 63, 3) := by decide +kernel
theorem dX11_works_185 : decode cX11_works 185 = .ok (.iconst 5, 1) := by decide +kernel
theorem dX11_works_186 : decode cX11_works 186 = .ok (.iaload, 1) := by decide +kernel
theorem dX11_works_187 : decode cX11_works 187 = .ok (.bipush 14, 2) := by decide +kernel
theorem dX11_works_189 : decode cX11_works 189 = .ok (.isub, 1) := by decide +kernel
theorem dX11_works_190 : decode cX11_works 190 = .ok (.iastore, 1) := by decide +kernel
theorem dX11_works_191 : decode cX11_works 191 = .ok (.iload 4, 2) := by decide +kernel
theorem dX11_works_193 : decode cX11_works 193 = .ok (.i2l, 1) := by decide +kernel
theorem dX11_works_194 : decode cX11_works 194 = .ok (.aload_n 0, 1) := by decide +kernel
theorem dX11_works_195 : decode cX11_works 195 = .ok (.getfield 63, 3) := by decide +kernel
theorem dX11_works_198 : decode cX11_works 198 = .ok (.iconst 0, 1) := by decide +kernel
theorem dX11_works_199 : decode cX11_works 199 = .ok (.iaload, 1) := by decide +kernel
theorem dX11_works_200 : decode cX11_works 200 = .ok (.aload_n 0, 1) := by decide +kernel
theorem dX11_works_201 : decode cX11_works 201 = .ok (.getfield 63, 3) := by decide +kernel
theorem dX11_works_204 : decode cX11_works 204 = .ok (.iconst 1, 1) := by decide +kernel
theorem dX11_works_205 : decode cX11_works 205 = .ok (.iaload, 1) := by decide +kernel
theorem dX11_works_206 : decode cX11_works 206 = .ok (.iadd, 1) := by decide +kernel
theorem dX11_works_207 : decode cX11_works 207 = .ok (.i2l, 1) := by decide +kernel
theorem dX11_works_208 : decode cX11_works 208 = .ok (.lmul, 1) := by decide +kernel
theorem dX11_works_209 : decode cX11_works 209 = .ok (.aload_n 0, 1) := by decide +kernel
theorem dX11_works_210 : decode cX11_works 210 = .ok (.getfield 63, 3) := by decide +kernel
theorem dX11_works_213 : decode cX11_works 213 = .ok (.iconst 4, 1) := by decide +kernel
theorem dX11_works_214 : decode cX11_works 214 = .ok (.iaload, 1) := by decide +kernel
theorem dX11_works_215 : decode cX11_works 215 = .ok (.aload_n 0, 1) := by decide +kernel
theorem dX11_works_216 : decode cX11_works 216 = .ok (.getfield 63, 3) := by decide +kernel
theorem dX11_works_219 : decode cX11_works 219 = .ok (.iconst 5, 1) := by decide +kernel
theorem dX11_works_220 : decode cX11_works 220 = .ok (.iaload, 1) := by decide +kernel
theorem dX11_works_221 : decode cX11_works 221 = .ok (.iadd, 1) := by decide +kernel
theorem dX11_works_222 : decode cX11_works 222 = .ok (.i2l, 1) := by decide +kernel
theorem dX11_works_223 : decode cX11_works 223 = .ok (.lmul, 1) := by decide +kernel
theorem dX11_works_224 : decode cX11_works 224 = .ok (.lstore 7, 2) := by decide +kernel
theorem dX11_works_226 : decode cX11_works 226 = .ok (.aload_n 0, 1) := by decide +kernel
theorem dX11_works_227 : decode cX11_works 227 = .ok (.getfield 63, 3) := by decide +kernel
theorem dX11_works_230 : decode cX11_works 230 = .ok (.bipush 8, 2) := by decide +kernel
theorem dX11_works_232 : decode cX11_works 232 = .ok (.iload 6, 2) := by decide +kernel
theorem dX11_works_234 : decode cX11_works 234 = .ok (.ifCond .eq 17, 3) := by decide +kernel
theorem dX11_works_237 : decode cX11_works 237 = .ok (.lload 7, 2) := by decide +kernel
theorem dX11_works_239 : decode cX11_works 239 = .ok (.ldc2_w 292, 3) := by decide +kernel
theorem dX11_works_242 : decode cX11_works 242 = .ok (.ldiv, 1) := by decide +kernel
theorem dX11_works_243 : decode cX11_works 243 = .ok (.l2i, 1) := by decide +kernel
theorem dX11_works_244 : decode cX11_works 244 = .ok (.sipush 250, 3) := by decide +kernel
theorem dX11_works_247 : decode cX11_works 247 = .ok (.imul, 1) := by decide +kernel
theorem dX11_works_248 : decode cX11_works 248 = .ok (.goto 10, 3) := by decide +kernel
theorem dX11_works_251 : decode cX11_works 251 = .ok (.lload 7, 2) := by decide +kernel
theorem dX11_works_253 : decode cX11_works 253 = .ok (.ldc2_w 294, 3) := by decide +kernel
theorem dX11_works_256 : decode cX11_works 256 = .ok (.ldiv, 1) := by decide +kernel
theorem dX11_works_257 : decode cX11_works 257 = .ok (.l2i, 1) := by decide +kernel
theorem dX11_works_258 : decode cX11_works 258 = .ok (.iastore, 1) := by decide +kernel
theorem dX11_works_259 : decode cX11_works 259 = .ok (.return_, 1) := by decide +kernel
theorem dX11_refuses_0 : decode cX11_refuses 0 = .ok (.iload_n 0, 1) := by decide +kernel
theorem dX11_refuses_1 : decode cX11_refuses 1 = .ok (.i2l, 1) := by decide +kernel
theorem dX11_refuses_2 : decode cX11_refuses 2 = .ok (.ldc2_w 296, 3) := by decide +kernel
theorem dX11_refuses_5 : decode cX11_refuses 5 = .ok (.ldc2_w 298, 3) := by decide +kernel
theorem dX11_refuses_8 : decode cX11_refuses 8 = .ok (.invokestatic 107, 3) := by decide +kernel
theorem dX11_refuses_11 : decode cX11_refuses 11 = .ok (.ifCond .eq 35, 3) := by decide +kernel
theorem dX11_refuses_14 : decode cX11_refuses 14 = .ok (.iload_n 1, 1) := by decide +kernel
theorem dX11_refuses_15 : decode cX11_refuses 15 = .ok (.i2l, 1) := by decide +kernel
theorem dX11_refuses_16 : decode cX11_refuses 16 = .ok (.ldc2_w 300, 3) := by decide +kernel
theorem dX11_refuses_19 : decode cX11_refuses 19 = .ok (.ldc2_w 298, 3) := by decide +kernel
theorem dX11_refuses_22 : decode cX11_refuses 22 = .ok (.invokestatic 107, 3) := by decide +kernel
theorem dX11_refuses_25 : decode cX11_refuses 25 = .ok (.ifCond .eq 21, 3) := by decide +kernel
theorem dX11_refuses_28 : decode cX11_refuses 28 = .ok (.iload_n 2, 1) := by decide +kernel
theorem dX11_refuses_29 : decode cX11_refuses 29 = .ok (.i2l, 1) := by decide +kernel
theorem dX11_refuses_30 : decode cX11_refuses 30 = .ok (.ldc2_w 229, 3) := by decide +kernel
theorem dX11_refuses_33 : decode cX11_refuses 33 = .ok (.ldc2_w 302, 3) := by decide +kernel
theorem dX11_refuses_36 : decode cX11_refuses 36 = .ok (.invokestatic 107, 3) := by decide +kernel
theorem dX11_refuses_39 : decode cX11_refuses 39 = .ok (.ifCond .eq 7, 3) := by decide +kernel
theorem dX11_refuses_42 : decode cX11_refuses 42 = .ok (.iconst 0, 1) := by decide +kernel
theorem dX11_refuses_43 : decode cX11_refuses 43 = .ok (.goto 5, 3) := by decide +kernel
theorem dX11_refuses_46 : decode cX11_refuses 46 = .ok (.bipush (-3), 2) := by decide +kernel
theorem dX11_refuses_48 : decode cX11_refuses 48 = .ok (.ireturn, 1) := by decide +kernel
theorem dX11_formula_0 : decode cX11_formula 0 = .ok (.aload_n 0, 1) := by decide +kernel
theorem dX11_formula_1 : decode cX11_formula 1 = .ok (.iconst 0, 1) := by decide +kernel
theorem dX11_formula_2 : decode cX11_formula 2 = .ok (.putfield 1, 3) := by decide +kernel
theorem dX11_formula_5 : decode cX11_formula 5 = .ok (.iload_n 1, 1) := by decide +kernel
theorem dX11_formula_6 : decode cX11_formula 6 = .ok (.i2l, 1) := by decide +kernel
theorem dX11_formula_7 : decode cX11_formula 7 = .ok (.lconst 0, 1) := by decide +kernel
theorem dX11_formula_8 : decode cX11_formula 8 = .ok (.lconst 1, 1) := by decide +kernel
theorem dX11_formula_9 : decode cX11_formula 9 = .ok (.invokestatic 107, 3) := by decide +kernel
theorem dX11_formula_12 : decode cX11_formula 12 = .ok (.ifCond .eq 16, 3) := by decide +kernel
theorem dX11_formula_15 : decode cX11_formula 15 = .ok (.iload 5, 2) := by decide +kernel
theorem dX11_formula_17 : decode cX11_formula 17 = .ok (.i2l, 1) := by decide +kernel
theorem dX11_formula_18 : decode cX11_formula 18 = .ok (.lconst 0, 1) := by decide +kernel
theorem dX11_formula_19 : decode cX11_formula 19 = .ok (.ldc2_w 233, 3) := by decide +kernel
theorem dX11_formula_22 : decode cX11_formula 22 = .ok (.invokestatic 107, 3) := by decide +kernel
theorem dX11_formula_25 : decode cX11_formula 25 = .ok (.ifCond .ne 6, 3) := by decide +kernel
theorem dX11_formula_28 : decode cX11_formula 28 = .ok (.bipush (-2), 2) := by decide +kernel
theorem dX11_formula_30 : decode cX11_formula 30 = .ok (.ireturn, 1) := by decide +kernel
theorem dX11_formula_31 : decode cX11_formula 31 = .ok (.iload_n 2, 1) := by decide +kernel
theorem dX11_formula_32 : decode cX11_formula 32 = .ok (.iload_n 3, 1) := by decide +kernel
theorem dX11_formula_33 : decode cX11_formula 33 = .ok (.iload 4, 2) := by decide +kernel
theorem dX11_formula_35 : decode cX11_formula 35 = .ok (.invokestatic 304, 3) := by decide +kernel
theorem dX11_formula_38 : decode cX11_formula 38 = .ok (.ifCond .eq 6, 3) := by decide +kernel
theorem dX11_formula_41 : decode cX11_formula 41 = .ok (.bipush (-3), 2) := by decide +kernel
theorem dX11_formula_43 : decode cX11_formula 43 = .ok (.ireturn, 1) := by decide +kernel
theorem dX11_formula_44 : decode cX11_formula 44 = .ok (.aload_n 0, 1) := by decide +kernel
theorem dX11_formula_45 : decode cX11_formula 45 = .ok (.iload_n 1, 1) := by decide +kernel
theorem dX11_formula_46 : decode cX11_formula 46 = .ok (.iload_n 2, 1) := by decide +kernel
theorem dX11_formula_47 : decode cX11_formula 47 = .ok (.iload_n 3, 1) := by decide +kernel
theorem dX11_formula_48 : decode cX11_formula 48 = .ok (.iload 4, 2) := by decide +kernel
theorem dX11_formula_50 : decode cX11_formula 50 = .ok (.invokevirtual 205, 3) := by decide +kernel
theorem dX11_formula_53 : decode cX11_formula 53 = .ok (.iload 5, 2) := by decide +kernel
theorem dX11_formula_55 : decode cX11_formula 55 = .ok (.bipush 9, 2) := by decide +kernel
theorem dX11_formula_57 : decode cX11_formula 57 = .ok (.if_icmp .ge 13, 3) := by decide +kernel
theorem dX11_formula_60 : decode cX11_formula 60 = .ok (.aload_n 0, 1) := by decide +kernel
theorem dX11_formula_61 : decode cX11_formula 61 = .ok (.getfield 63, 3) := by decide +kernel
theorem dX11_formula_64 : decode cX11_formula 64 = .ok (.iload 5, 2) := by decide +kernel
theorem dX11_formula_66 : decode cX11_formula 66 = .ok (.iaload, 1) := by decide +kernel
theorem dX11_formula_67 : decode cX11_formula 67 = .ok (.goto 40, 3) := by decide +kernel
theorem dX11_formula_70 : decode cX11_formula 70 = .ok (.aload_n 0, 1) := by decide +kernel
theorem dX11_formula_71 : decode cX11_formula 71 = .ok (.getfield 63, 3) := by decide +kernel
theorem dX11_formula_74 : decode cX11_formula 74 = .ok (.bipush 8, 2) := by decide +kernel
theorem dX11_formula_76 : decode cX11_formula 76 = .ok (.iaload, 1) := by decide +kernel
theorem dX11_formula_77 : decode cX11_formula 77 = .ok (.aload_n 0, 1) := by decide +kernel
theorem dX11_formula_78 : decode cX11_formula 78 = .ok (.getfield 63, 3) := by decide +kernel
theorem dX11_formula_81 : decode cX11_formula 81 = .ok (.iconst 0, 1) := by decide +kernel
theorem dX11_formula_82 : decode cX11_formula 82 = .ok (.iaload, 1) := by decide +kernel
theorem dX11_formula_83 : decode cX11_formula 83 = .ok (.aload_n 0, 1) := by decide +kernel
theorem dX11_formula_84 : decode cX11_formula 84 = .ok (.getfield 63, 3) := by decide +kernel
theorem dX11_formula_87 : decode cX11_formula 87 = .ok (.iconst 1, 1) := by decide +kernel
theorem dX11_formula_88 : decode cX11_formula 88 = .ok (.iaload, 1) := by decide +kernel
theorem dX11_formula_89 : decode cX11_formula 89 = .ok (.iadd, 1) := by decide +kernel
theorem dX11_formula_90 : decode cX11_formula 90 = .ok (.aload_n 0, 1) := by decide +kernel
theorem dX11_formula_91 : decode cX11_formula 91 = .ok (.getfield 63, 3) := by decide +kernel
theorem dX11_formula_94 : decode cX11_formula 94 = .ok (.iconst 4, 1) := by decide +kernel
theorem dX11_formula_95 : decode cX11_formula 95 = .ok (.iaload, 1) := by decide +kernel
theorem dX11_formula_96 : decode cX11_formula 96 = .ok (.aload_n 0, 1) := by decide +kernel
theorem dX11_formula_97 : decode cX11_formula 97 = .ok (.getfield 63, 3) := by decide +kernel
theorem dX11_formula_100 : decode cX11_formula 100 = .ok (.iconst 5, 1) := by decide +kernel
theorem dX11_formula_101 : decode cX11_formula 101 = .ok (.iaload, 1) := by decide +kernel
theorem dX11_formula_102 : decode cX11_formula 102 = .ok (.iadd, 1) := by decide +kernel
theorem dX11_formula_103 : decode cX11_formula 103 = .ok (.imul, 1) := by decide +kernel
theorem dX11_formula_104 : decode cX11_formula 104 = .ok (.invokestatic 247, 3) := by decide +kernel
theorem dX11_formula_107 : decode cX11_formula 107 = .ok (.ireturn, 1) := by decide +kernel
theorem dX11_hasRoom_0 : decode cX11_hasRoom 0 = .ok (.aload_n 0, 1) := by decide +kernel
theorem dX11_hasRoom_1 : decode cX11_hasRoom 1 = .ok (.getfield 63, 3) := by decide +kernel
theorem dX11_hasRoom_4 : decode cX11_hasRoom 4 = .ok (.bipush 8, 2) := by decide +kernel
theorem dX11_hasRoom_6 : decode cX11_hasRoom 6 = .ok (.iaload, 1) := by decide +kernel
theorem dX11_hasRoom_7 : decode cX11_hasRoom 7 = .ok (.ldc_w 308, 3) := by decide +kernel
theorem dX11_hasRoom_10 : decode cX11_hasRoom 10 = .ok (.if_icmp .gt 103, 3) := by decide +kernel
theorem dX11_hasRoom_13 : decode cX11_hasRoom 13 = .ok (.aload_n 0, 1) := by decide +kernel
theorem dX11_hasRoom_14 : decode cX11_hasRoom 14 = .ok (.getfield 63, 3) := by decide +kernel
theorem dX11_hasRoom_17 : decode cX11_hasRoom 17 = .ok (.iconst 0, 1) := by decide +kernel
theorem dX11_hasRoom_18 : decode cX11_hasRoom 18 = .ok (.iaload, 1) := by decide +kernel
theorem dX11_hasRoom_19 : decode cX11_hasRoom 19 = .ok (.sipush 4095, 3) := by decide +kernel
theorem dX11_hasRoom_22 : decode cX11_hasRoom 22 = .ok (.if_icmp .gt 91, 3) := by decide +kernel
theorem dX11_hasRoom_25 : decode cX11_hasRoom 25 = .ok (.aload_n 0, 1) := by decide +kernel
theorem dX11_hasRoom_26 : decode cX11_hasRoom 26 = .ok (.getfield 63, 3) := by decide +kernel
theorem dX11_hasRoom_29 : decode cX11_hasRoom 29 = .ok (.iconst 4, 1) := by decide +kernel
theorem dX11_hasRoom_30 : decode cX11_hasRoom 30 = .ok (.iaload, 1) := by decide +kernel
theorem dX11_hasRoom_31 : decode cX11_hasRoom 31 = .ok (.sipush 4095, 3) := by decide +kernel
theorem dX11_hasRoom_34 : decode cX11_hasRoom 34 = .ok (.if_icmp .gt 79, 3) := by decide +kernel
theorem dX11_hasRoom_37 : decode cX11_hasRoom 37 = .ok (.aload_n 0, 1) := by decide +kernel
theorem dX11_hasRoom_38 : decode cX11_hasRoom 38 = .ok (.getfield 63, 3) := by decide +kernel
theorem dX11_hasRoom_41 : decode cX11_hasRoom 41 = .ok (.iconst 1, 1) := by decide +kernel
theorem dX11_hasRoom_42 : decode cX11_hasRoom 42 = .ok (.iaload, 1) := by decide +kernel
theorem dX11_hasRoom_43 : decode cX11_hasRoom 43 = .ok (.sipush 4095, 3) := by decide +kernel
theorem dX11_hasRoom_46 : decode cX11_hasRoom 46 = .ok (.if_icmp .gt 67, 3) := by decide +kernel
theorem dX11_hasRoom_49 : decode cX11_hasRoom 49 = .ok (.aload_n 0, 1) := by decide +kernel
theorem dX11_hasRoom_50 : decode cX11_hasRoom 50 = .ok (.getfield 63, 3) := by decide +kernel
theorem dX11_hasRoom_53 : decode cX11_hasRoom 53 = .ok (.iconst 5, 1) := by decide +kernel
theorem dX11_hasRoom_54 : decode cX11_hasRoom 54 = .ok (.iaload, 1) := by decide +kernel
theorem dX11_hasRoom_55 : decode cX11_hasRoom 55 = .ok (.sipush 4095, 3) := by decide +kernel
theorem dX11_hasRoom_58 : decode cX11_hasRoom 58 = .ok (.if_icmp .gt 55, 3) := by decide +kernel
theorem dX11_hasRoom_61 : decode cX11_hasRoom 61 = .ok (.aload_n 0, 1) := by decide +kernel
theorem dX11_hasRoom_62 : decode cX11_hasRoom 62 = .ok (.getfield 63, 3) := by decide +kernel
theorem dX11_hasRoom_65 : decode cX11_hasRoom 65 = .ok (.iconst 2, 1) := by decide +kernel
theorem dX11_hasRoom_66 : decode cX11_hasRoom 66 = .ok (.iaload, 1) := by decide +kernel
theorem dX11_hasRoom_67 : decode cX11_hasRoom 67 = .ok (.sipush 1023, 3) := by decide +kernel
theorem dX11_hasRoom_70 : decode cX11_hasRoom 70 = .ok (.if_icmp .gt 43, 3) := by decide +kernel
theorem dX11_hasRoom_73 : decode cX11_hasRoom 73 = .ok (.aload_n 0, 1) := by decide +kernel
theorem dX11_hasRoom_74 : decode cX11_hasRoom 74 = .ok (.getfield 63, 3) := by decide +kernel
theorem dX11_hasRoom_77 : decode cX11_hasRoom 77 = .ok (.iconst 3, 1) := by decide +kernel
theorem dX11_hasRoom_78 : decode cX11_hasRoom 78 = .ok (.iaload, 1) := by decide +kernel
theorem dX11_hasRoom_79 : decode cX11_hasRoom 79 = .ok (.sipush 1023, 3) := by decide +kernel
theorem dX11_hasRoom_82 : decode cX11_hasRoom 82 = .ok (.if_icmp .gt 31, 3) := by decide +kernel
theorem dX11_hasRoom_85 : decode cX11_hasRoom 85 = .ok (.aload_n 0, 1) := by decide +kernel
theorem dX11_hasRoom_86 : decode cX11_hasRoom 86 = .ok (.getfield 63, 3) := by decide +kernel
theorem dX11_hasRoom_89 : decode cX11_hasRoom 89 = .ok (.bipush 6, 2) := by decide +kernel
theorem dX11_hasRoom_91 : decode cX11_hasRoom 91 = .ok (.iaload, 1) := by decide +kernel
theorem dX11_hasRoom_92 : decode cX11_hasRoom 92 = .ok (.bipush 63, 2) := by decide +kernel
theorem dX11_hasRoom_94 : decode cX11_hasRoom 94 = .ok (.if_icmp .gt 19, 3) := by decide +kernel
theorem dX11_hasRoom_97 : decode cX11_hasRoom 97 = .ok (.aload_n 0, 1) := by decide +kernel
theorem dX11_hasRoom_98 : decode cX11_hasRoom 98 = .ok (.getfield 63, 3) := by decide +kernel
theorem dX11_hasRoom_101 : decode cX11_hasRoom 101 = .ok (.bipush 7, 2) := by decide +kernel
theorem dX11_hasRoom_103 : decode cX11_hasRoom 103 = .ok (.iaload, 1) := by decide +kernel
theorem dX11_hasRoom_104 : decode cX11_hasRoom 104 = .ok (.bipush 63, 2) := by decide +kernel
theorem dX11_hasRoom_106 : decode cX11_hasRoom 106 = .ok (.if_icmp .gt 7, 3) := by decide +kernel
theorem dX11_hasRoom_109 : decode cX11_hasRoom 109 = .ok (.iconst 1, 1) := by decide +kernel
theorem dX11_hasRoom_110 : decode cX11_hasRoom 110 = .ok (.goto 4, 3) := by decide +kernel
theorem dX11_hasRoom_113 : decode cX11_hasRoom 113 = .ok (.iconst 0, 1) := by decide +kernel
theorem dX11_hasRoom_114 : decode cX11_hasRoom 114 = .ok (.ireturn, 1) := by decide +kernel
theorem dX11_descriptorByte_0 : decode cX11_descriptorByte 0 = .ok (.iload_n 1, 1) := by decide +kernel
theorem dX11_descriptorByte_1 : decode cX11_descriptorByte 1 = .ok (.tableswitch 283 0 11 #[63, 78, 90, 101, 112, 137, 148, 159, 184, 195, 206, 231], 63) := by decide +kernel
theorem dX11_descriptorByte_64 : decode cX11_descriptorByte 64 = .ok (.aload_n 0, 1) := by decide +kernel
theorem dX11_descriptorByte_65 : decode cX11_descriptorByte 65 = .ok (.getfield 63, 3) := by decide +kernel
theorem dX11_descriptorByte_68 : decode cX11_descriptorByte 68 = .ok (.bipush 8, 2) := by decide +kernel
theorem dX11_descriptorByte_70 : decode cX11_descriptorByte 70 = .ok (.iaload, 1) := by decide +kernel
theorem dX11_descriptorByte_71 : decode cX11_descriptorByte 71 = .ok (.bipush 10, 2) := by decide +kernel
theorem dX11_descriptorByte_73 : decode cX11_descriptorByte 73 = .ok (.idiv, 1) := by decide +kernel
theorem dX11_descriptorByte_74 : decode cX11_descriptorByte 74 = .ok (.sipush 256, 3) := by decide +kernel
theorem dX11_descriptorByte_77 : decode cX11_descriptorByte 77 = .ok (.irem, 1) := by decide +kernel
theorem dX11_descriptorByte_78 : decode cX11_descriptorByte 78 = .ok (.ireturn, 1) := by decide +kernel
theorem dX11_descriptorByte_79 : decode cX11_descriptorByte 79 = .ok (.aload_n 0, 1) := by decide +kernel
theorem dX11_descriptorByte_80 : decode cX11_descriptorByte 80 = .ok (.getfield 63, 3) := by decide +kernel
theorem dX11_descriptorByte_83 : decode cX11_descriptorByte 83 = .ok (.bipush 8, 2) := by decide +kernel
theorem dX11_descriptorByte_85 : decode cX11_descriptorByte 85 = .ok (.iaload, 1) := by decide +kernel
theorem dX11_descriptorByte_86 : decode cX11_descriptorByte 86 = .ok (.sipush 2560, 3) := by decide +kernel
theorem dX11_descriptorByte_89 : decode cX11_descriptorByte 89 = .ok (.idiv, 1) := by decide +kernel
theorem dX11_descriptorByte_90 : decode cX11_descriptorByte 90 = .ok (.ireturn, 1) := by decide +kernel
theorem dX11_descriptorByte_91 : decode cX11_descriptorByte 91 = .ok (.aload_n 0, 1) := by decide +kernel
theorem dX11_descriptorByte_92 : decode cX11_descriptorByte 92 = .ok (.getfield 63, 3) := by decide +kernel
theorem dX11_descriptorByte_95 : decode cX11_descriptorByte 95 = .ok (.iconst 0, 1) := by decide +kernel
theorem dX11_descriptorByte_96 : decode cX11_descriptorByte 96 = .ok (.iaload, 1) := by decide +kernel
theorem dX11_descriptorByte_97 : decode cX11_descriptorByte 97 = .ok (.sipush 256, 3) := by decide +kernel
theorem dX11_descriptorByte_100 : decode cX11_descriptorByte 100 = .ok (.irem, 1) := by decide +kernel
theorem dX11_descriptorByte_101 : decode cX11_descriptorByte 101 = .ok (.ireturn, 1) := by decide +kernel
theorem dX11_descriptorByte_102 : decode cX11_descriptorByte 102 = .ok (.aload_n 0, 1) := by decide +kernel
theorem dX11_descriptorByte_103 : decode cX11_descriptorByte 103 = .ok (.getfield 63, 3) := by decide +kernel
theorem dX11_descriptorByte_106 : decode cX11_descriptorByte 106 = .ok (.iconst 1, 1) := by decide +kernel
theorem dX11_descriptorByte_107 : decode cX11_descriptorByte 107 = .ok (.iaload, 1) := by decide +kernel
theorem dX11_descriptorByte_108 : decode cX11_descriptorByte 108 = .ok (.sipush 256, 3) := by decide +kernel
theorem dX11_descriptorByte_111 : decode cX11_descriptorByte 111 = .ok (.irem, 1) := by decide +kernel
theorem dX11_descriptorByte_112 : decode cX11_descriptorByte 112 = .ok (.ireturn, 1) := by decide +kernel
theorem dX11_descriptorByte_113 : decode cX11_descriptorByte 113 = .ok (.aload_n 0, 1) := by decide +kernel
theorem dX11_descriptorByte_114 : decode cX11_descriptorByte 114 = .ok (.getfield 63, 3) := by decide +kernel
theorem dX11_descriptorByte_117 : decode cX11_descriptorByte 117 = .ok (.iconst 0, 1) := by decide +kernel
theorem dX11_descriptorByte_118 : decode cX11_descriptorByte 118 = .ok (.iaload, 1) := by decide +kernel
theorem dX11_descriptorByte_119 : decode cX11_descriptorByte 119 = .ok (.sipush 256, 3) := by decide +kernel
theorem dX11_descriptorByte_122 : decode cX11_descriptorByte 122 = .ok (.idiv, 1) := by decide +kernel
theorem dX11_descriptorByte_123 : decode cX11_descriptorByte 123 = .ok (.bipush 16, 2) := by decide +kernel
theorem dX11_descriptorByte_125 : decode cX11_descriptorByte 125 = .ok (.imul, 1) := by decide +kernel
theorem dX11_descriptorByte_126 : decode cX11_descriptorByte 126 = .ok (.aload_n 0, 1) := by decide +kernel
theorem dX11_descriptorByte_127 : decode cX11_descriptorByte 127 = .ok (.getfield 63, 3) := by decide +kernel
theorem dX11_descriptorByte_130 : decode cX11_descriptorByte 130 = .ok (.iconst 1, 1) := by decide +kernel
theorem dX11_descriptorByte_131 : decode cX11_descriptorByte 131 = .ok (.iaload, 1) := by decide +kernel
theorem dX11_descriptorByte_132 : decode cX11_descriptorByte 132 = .ok (.sipush 256, 3) := by decide +kernel
theorem dX11_descriptorByte_135 : decode cX11_descriptorByte 135 = .ok (.idiv, 1) := by decide +kernel
theorem dX11_descriptorByte_136 : decode cX11_descriptorByte 136 = .ok (.iadd, 1) := by decide +kernel
theorem dX11_descriptorByte_137 : decode cX11_descriptorByte 137 = .ok (.ireturn, 1) := by decide +kernel
theorem dX11_descriptorByte_138 : decode cX11_descriptorByte 138 = .ok (.aload_n 0, 1) := by decide +kernel
theorem dX11_descriptorByte_139 : decode cX11_descriptorByte 139 = .ok (.getfield 63, 3) := by decide +kernel
theorem dX11_descriptorByte_142 : decode cX11_descriptorByte 142 = .ok (.iconst 4, 1) := by decide +kernel
theorem dX11_descriptorByte_143 : decode cX11_descriptorByte 143 = .ok (.iaload, 1) := by decide +kernel
theorem dX11_descriptorByte_144 : decode cX11_descriptorByte 144 = .ok (.sipush 256, 3) := by decide +kernel
theorem dX11_descriptorByte_147 : decode cX11_descriptorByte 147 = .ok (.irem, 1) := by decide +kernel
theorem dX11_descriptorByte_148 : decode cX11_descriptorByte 148 = .ok (.ireturn, 1) := by decide +kernel
theorem dX11_descriptorByte_149 : decode cX11_descriptorByte 149 = .ok (.aload_n 0, 1) := by decide +kernel
theorem dX11_descriptorByte_150 : decode cX11_descriptorByte 150 = .ok (.getfield 63, 3) := by decide +kernel
theorem dX11_descriptorByte_153 : decode cX11_descriptorByte 153 = .ok (.iconst 5, 1) := by decide +kernel
theorem dX11_descriptorByte_154 : decode cX11_descriptorByte 154 = .ok (.iaload, 1) := by decide +kernel
theorem dX11_descriptorByte_155 : decode cX11_descriptorByte 155 = .ok (.sipush 256, 3) := by decide +kernel
theorem dX11_descriptorByte_158 : decode cX11_descriptorByte 158 = .ok (.irem, 1) := by decide +kernel
theorem dX11_descriptorByte_159 : decode cX11_descriptorByte 159 = .ok (.ireturn, 1) := by decide +kernel
theorem dX11_descriptorByte_160 : decode cX11_descriptorByte 160 = .ok (.aload_n 0, 1) := by decide +kernel
theorem dX11_descriptorByte_161 : decode cX11_descriptorByte 161 = .ok (.getfield 63, 3) := by decide +kernel
theorem dX11_descriptorByte_164 : decode cX11_descriptorByte 164 = .ok (.iconst 4, 1) := by decide +kernel
theorem dX11_descriptorByte_165 : decode cX11_descriptorByte 165 = .ok (.iaload, 1) := by decide +kernel
theorem dX11_descriptorByte_166 : decode cX11_descriptorByte 166 = .ok (.sipush 256, 3) := by decide +kernel
theorem dX11_descriptorByte_169 : decode cX11_descriptorByte 169 = .ok (.idiv, 1) := by decide +kernel
theorem dX11_descriptorByte_170 : decode cX11_descriptorByte 170 = .ok (.bipush 16, 2) := by decide +kernel
theorem dX11_descriptorByte_172 : decode cX11_descriptorByte 172 = .ok (.imul, 1) := by decide +kernel
theorem dX11_descriptorByte_173 : decode cX11_descriptorByte 173 = .ok (.aload_n 0, 1) := by decide +kernel
theorem dX11_descriptorByte_174 : decode cX11_descriptorByte 174 = .ok (.getfield 63, 3) := by decide +kernel
theorem dX11_descriptorByte_177 : decode cX11_descriptorByte 177 = .ok (.iconst 5, 1) := by decide +kernel
theorem dX11_descriptorByte_178 : decode cX11_descriptorByte 178 = .ok (.iaload, 1) := by decide +kernel
theorem dX11_descriptorByte_179 : decode cX11_descriptorByte 179 = .ok (.sipush 256, 3) := by decide +kernel
theorem dX11_descriptorByte_182 : decode cX11_descriptorByte 182 = .ok (.idiv, 1) := by decide +kernel
theorem dX11_descriptorByte_183 : decode cX11_descriptorByte 183 = .ok (.iadd, 1) := by decide +kernel
theorem dX11_descriptorByte_184 : decode cX11_descriptorByte 184 = .ok (.ireturn, 1) := by decide +kernel
theorem dX11_descriptorByte_185 : decode cX11_descriptorByte 185 = .ok (.aload_n 0, 1) := by decide +kernel
theorem dX11_descriptorByte_186 : decode cX11_descriptorByte 186 = .ok (.getfield 63, 3) := by decide +kernel
theorem dX11_descriptorByte_189 : decode cX11_descriptorByte 189 = .ok (.iconst 2, 1) := by decide +kernel
theorem dX11_descriptorByte_190 : decode cX11_descriptorByte 190 = .ok (.iaload, 1) := by decide +kernel
theorem dX11_descriptorByte_191 : decode cX11_descriptorByte 191 = .ok (.sipush 256, 3) := by decide +kernel
theorem dX11_descriptorByte_194 : decode cX11_descriptorByte 194 = .ok (.irem, 1) := by decide +kernel
theorem dX11_descriptorByte_195 : decode cX11_descriptorByte 195 = .ok (.ireturn, 1) := by decide +kernel
theorem dX11_descriptorByte_196 : decode cX11_descriptorByte 196 = .ok (.aload_n 0, 1) := by decide +kernel
theorem dX11_descriptorByte_197 : decode cX11_descriptorByte 197 = .ok (.getfield 63, 3) := by decide +kernel
theorem dX11_descriptorByte_200 : decode cX11_descriptorByte 200 = .ok (.iconst 3, 1) := by decide +kernel
theorem dX11_descriptorByte_201 : decode cX11_descriptorByte 201 = .ok (.iaload, 1) := by decide +kernel
theorem dX11_descriptorByte_202 : decode cX11_descriptorByte 202 = .ok (.sipush 256, 3) := by decide +kernel
theorem dX11_descriptorByte_205 : decode cX11_descriptorByte 205 = .ok (.irem, 1) := by decide +kernel
theorem dX11_descriptorByte_206 : decode cX11_descriptorByte 206 = .ok (.ireturn, 1) := by decide +kernel
theorem dX11_descriptorByte_207 : decode cX11_descriptorByte 207 = .ok (.aload_n 0, 1) := by decide +kernel
theorem dX11_descriptorByte_208 : decode cX11_descriptorByte 208 = .ok (.getfield 63, 3) := by decide +kernel
theorem dX11_descriptorByte_211 : decode cX11_descriptorByte 211 = .ok (.bipush 6, 2) := by decide +kernel
theorem dX11_descriptorByte_213 : decode cX11_descriptorByte 213 = .ok (.iaload, 1) := by decide +kernel
theorem dX11_descriptorByte_214 : decode cX11_descriptorByte 214 = .ok (.bipush 16, 2) := by decide +kernel
theorem dX11_descriptorByte_216 : decode cX11_descriptorByte 216 = .ok (.irem, 1) := by decide +kernel
theorem dX11_descriptorByte_217 : decode cX11_descriptorByte 217 = .ok (.bipush 16, 2) := by decide +kernel
theorem dX11_descriptorByte_219 : decode cX11_descriptorByte 219 = .ok (.imul, 1) := by decide +kernel
theorem dX11_descriptorByte_220 : decode cX11_descriptorByte 220 = .ok (.aload_n 0, 1) := by decide +kernel
theorem dX11_descriptorByte_221 : decode cX11_descriptorByte 221 = .ok (.getfield 63, 3) := by decide +kernel
theorem dX11_descriptorByte_224 : decode cX11_descriptorByte 224 = .ok (.bipush 7, 2) := by decide +kernel
theorem dX11_descriptorByte_226 : decode cX11_descriptorByte 226 = .ok (.iaload, 1) := by decide +kernel
theorem dX11_descriptorByte_227 : decode cX11_descriptorByte 227 = .ok (.bipush 16, 2) := by decide +kernel
theorem dX11_descriptorByte_229 : decode cX11_descriptorByte 229 = .ok (.irem, 1) := by decide +kernel
theorem dX11_descriptorByte_230 : decode cX11_descriptorByte 230 = .ok (.iadd, 1) := by decide +kernel
theorem dX11_descriptorByte_231 : decode cX11_descriptorByte 231 = .ok (.ireturn, 1) := by decide +kernel
theorem dX11_descriptorByte_232 : decode cX11_descriptorByte 232 = .ok (.aload_n 0, 1) := by decide +kernel
theorem dX11_descriptorByte_233 : decode cX11_descriptorByte 233 = .ok (.getfield 63, 3) := by decide +kernel
theorem dX11_descriptorByte_236 : decode cX11_descriptorByte 236 = .ok (.iconst 2, 1) := by decide +kernel
theorem dX11_descriptorByte_237 : decode cX11_descriptorByte 237 = .ok (.iaload, 1) := by decide +kernel
theorem dX11_descriptorByte_238 : decode cX11_descriptorByte 238 = .ok (.sipush 256, 3) := by decide +kernel
theorem dX11_descriptorByte_241 : decode cX11_descriptorByte 241 = .ok (.idiv, 1) := by decide +kernel
theorem dX11_descriptorByte_242 : decode cX11_descriptorByte 242 = .ok (.bipush 64, 2) := by decide +kernel
theorem dX11_descriptorByte_244 : decode cX11_descriptorByte 244 = .ok (.imul, 1) := by decide +kernel
theorem dX11_descriptorByte_245 : decode cX11_descriptorByte 245 = .ok (.aload_n 0, 1) := by decide +kernel
theorem dX11_descriptorByte_246 : decode cX11_descriptorByte 246 = .ok (.getfield 63, 3) := by decide +kernel
theorem dX11_descriptorByte_249 : decode cX11_descriptorByte 249 = .ok (.iconst 3, 1) := by decide +kernel
theorem dX11_descriptorByte_250 : decode cX11_descriptorByte 250 = .ok (.iaload, 1) := by decide +kernel
theorem dX11_descriptorByte_251 : decode cX11_descriptorByte 251 = .ok (.sipush 256, 3) := by decide +kernel
theorem dX11_descriptorByte_254 : decode cX11_descriptorByte 254 = .ok (.idiv, 1) := by decide +kernel
theorem dX11_descriptorByte_255 : decode cX11_descriptorByte 255 = .ok (.bipush 16, 2) := by decide +kernel
theorem dX11_descriptorByte_257 : decode cX11_descriptorByte 257 = .ok (.imul, 1) := by decide +kernel
theorem dX11_descriptorByte_258 : decode cX11_descriptorByte 258 = .ok (.iadd, 1) := by decide +kernel
theorem dX11_descriptorByte_259 : decode cX11_descriptorByte 259 = .ok (.aload_n 0, 1) := by decide +kernel
theorem dX11_descriptorByte_260 : decode cX11_descriptorByte 260 = .ok (.getfield 63, 3) := by decide +kernel
theorem dX11_descriptorByte_263 : decode cX11_descriptorByte 263 = .ok (.bipush 6, 2) := by decide +kernel
theorem dX11_descriptorByte_265 : decode cX11_descriptorByte 265 = .ok (.iaload, 1) := by decide +kernel
theorem dX11_descriptorByte_266 : decode cX11_descriptorByte 266 = .ok (.bipush 16, 2) := by decide +kernel
theorem dX11_descriptorByte_268 : decode cX11_descriptorByte 268 = .ok (.idiv, 1) := by decide +kernel
theorem dX11_descriptorByte_269 : decode cX11_descriptorByte 269 = .ok (.iconst 4, 1) := by decide +kernel
theorem dX11_descriptorByte_270 : decode cX11_descriptorByte 270 = .ok (.imul, 1) := by decide +kernel
theorem dX11_descriptorByte_271 : decode cX11_descriptorByte 271 = .ok (.iadd, 1) := by decide +kernel
theorem dX11_descriptorByte_272 : decode cX11_descriptorByte 272 = .ok (.aload_n 0, 1) := by decide +kernel
theorem dX11_descriptorByte_273 : decode cX11_descriptorByte 273 = .ok (.getfield 63, 3) := by decide +kernel
theorem dX11_descriptorByte_276 : decode cX11_descriptorByte 276 = .ok (.bipush 7, 2) := by decide +kernel
theorem dX11_descriptorByte_278 : decode cX11_descriptorByte 278 = .ok (.iaload, 1) := by decide +kernel
theorem dX11_descriptorByte_279 : decode cX11_descriptorByte 279 = .ok (.bipush 16, 2) := by decide +kernel
theorem dX11_descriptorByte_281 : decode cX11_descriptorByte 281 = .ok (.idiv, 1) := by decide +kernel
theorem dX11_descriptorByte_282 : decode cX11_descriptorByte 282 = .ok (.iadd, 1) := by decide +kernel
theorem dX11_descriptorByte_283 : decode cX11_descriptorByte 283 = .ok (.ireturn, 1) := by decide +kernel
theorem dX11_descriptorByte_284 : decode cX11_descriptorByte 284 = .ok (.iconst 0, 1) := by decide +kernel
theorem dX11_descriptorByte_285 : decode cX11_descriptorByte 285 = .ok (.ireturn, 1) := by decide +kernel
theorem dX11_descriptor_0 : decode cX11_descriptor 0 = .ok (.aload_n 0, 1) := by decide +kernel
theorem dX11_descriptor_1 : decode cX11_descriptor 1 = .ok (.iconst 0, 1) := by decide +kernel
theorem dX11_descriptor_2 : decode cX11_descriptor 2 = .ok (.putfield 1, 3) := by decide +kernel
theorem dX11_descriptor_5 : decode cX11_descriptor 5 = .ok (.iload_n 1, 1) := by decide +kernel
theorem dX11_descriptor_6 : decode cX11_descriptor 6 = .ok (.i2l, 1) := by decide +kernel
theorem dX11_descriptor_7 : decode cX11_descriptor 7 = .ok (.lconst 0, 1) := by decide +kernel
theorem dX11_descriptor_8 : decode cX11_descriptor 8 = .ok (.lconst 1, 1) := by decide +kernel
theorem dX11_descriptor_9 : decode cX11_descriptor 9 = .ok (.invokestatic 107, 3) := by decide +kernel
theorem dX11_descriptor_12 : decode cX11_descriptor 12 = .ok (.ifCond .eq 16, 3) := by decide +kernel
theorem dX11_descriptor_15 : decode cX11_descriptor 15 = .ok (.iload 5, 2) := by decide +kernel
theorem dX11_descriptor_17 : decode cX11_descriptor 17 = .ok (.i2l, 1) := by decide +kernel
theorem dX11_descriptor_18 : decode cX11_descriptor 18 = .ok (.lconst 0, 1) := by decide +kernel
theorem dX11_descriptor_19 : decode cX11_descriptor 19 = .ok (.ldc2_w 309, 3) := by decide +kernel
theorem dX11_descriptor_22 : decode cX11_descriptor 22 = .ok (.invokestatic 107, 3) := by decide +kernel
theorem dX11_descriptor_25 : decode cX11_descriptor 25 = .ok (.ifCond .ne 6, 3) := by decide +kernel
theorem dX11_descriptor_28 : decode cX11_descriptor 28 = .ok (.bipush (-2), 2) := by decide +kernel
theorem dX11_descriptor_30 : decode cX11_descriptor 30 = .ok (.ireturn, 1) := by decide +kernel
theorem dX11_descriptor_31 : decode cX11_descriptor 31 = .ok (.iload_n 2, 1) := by decide +kernel
theorem dX11_descriptor_32 : decode cX11_descriptor 32 = .ok (.iload_n 3, 1) := by decide +kernel
theorem dX11_descriptor_33 : decode cX11_descriptor 33 = .ok (.iload 4, 2) := by decide +kernel
theorem dX11_descriptor_35 : decode cX11_descriptor 35 = .ok (.invokestatic 304, 3) := by decide +kernel
theorem dX11_descriptor_38 : decode cX11_descriptor 38 = .ok (.ifCond .eq 6, 3) := by decide +kernel
theorem dX11_descriptor_41 : decode cX11_descriptor 41 = .ok (.bipush (-3), 2) := by decide +kernel
theorem dX11_descriptor_43 : decode cX11_descriptor 43 = .ok (.ireturn, 1) := by decide +kernel
theorem dX11_descriptor_44 : decode cX11_descriptor 44 = .ok (.aload_n 0, 1) := by decide +kernel
theorem dX11_descriptor_45 : decode cX11_descriptor 45 = .ok (.iload_n 1, 1) := by decide +kernel
theorem dX11_descriptor_46 : decode cX11_descriptor 46 = .ok (.iload_n 2, 1) := by decide +kernel
theorem dX11_descriptor_47 : decode cX11_descriptor 47 = .ok (.iload_n 3, 1) := by decide +kernel
theorem dX11_descriptor_48 : decode cX11_descriptor 48 = .ok (.iload 4, 2) := by decide +kernel
theorem dX11_descriptor_50 : decode cX11_descriptor 50 = .ok (.invokevirtual 205, 3) := by decide +kernel
theorem dX11_descriptor_53 : decode cX11_descriptor 53 = .ok (.aload_n 0, 1) := by decide +kernel
theorem dX11_descriptor_54 : decode cX11_descriptor 54 = .ok (.invokevirtual 260, 3) := by decide +kernel
theorem dX11_descriptor_57 : decode cX11_descriptor 57 = .ok (.ifCond .eq 12, 3) := by decide +kernel
theorem dX11_descriptor_60 : decode cX11_descriptor 60 = .ok (.aload_n 0, 1) := by decide +kernel
theorem dX11_descriptor_61 : decode cX11_descriptor 61 = .ok (.iload 5, 2) := by decide +kernel
theorem dX11_descriptor_63 : decode cX11_descriptor 63 = .ok (.invokevirtual 264, 3) := by decide +kernel
theorem dX11_descriptor_66 : decode cX11_descriptor 66 = .ok (.goto 5, 3) := by decide +kernel
theorem dX11_descriptor_69 : decode cX11_descriptor 69 = .ok (.bipush (-5), 2) := by decide +kernel
theorem dX11_descriptor_71 : decode cX11_descriptor 71 = .ok (.ireturn, 1) := by decide +kernel
theorem dX11_isDepth_0 : decode cX11_isDepth 0 = .ok (.iload_n 0, 1) := by decide +kernel
theorem dX11_isDepth_1 : decode cX11_isDepth 1 = .ok (.i2l, 1) := by decide +kernel
theorem dX11_isDepth_2 : decode cX11_isDepth 2 = .ok (.ldc2_w 311, 3) := by decide +kernel
theorem dX11_isDepth_5 : decode cX11_isDepth 5 = .ok (.ldc2_w 313, 3) := by decide +kernel
theorem dX11_isDepth_8 : decode cX11_isDepth 8 = .ok (.invokestatic 107, 3) := by decide +kernel
theorem dX11_isDepth_11 : decode cX11_isDepth 11 = .ok (.ifCond .eq 13, 3) := by decide +kernel
theorem dX11_isDepth_14 : decode cX11_isDepth 14 = .ok (.iload_n 0, 1) := by decide +kernel
theorem dX11_isDepth_15 : decode cX11_isDepth 15 = .ok (.iconst 2, 1) := by decide +kernel
theorem dX11_isDepth_16 : decode cX11_isDepth 16 = .ok (.irem, 1) := by decide +kernel
theorem dX11_isDepth_17 : decode cX11_isDepth 17 = .ok (.ifCond .ne 7, 3) := by decide +kernel
theorem dX11_isDepth_20 : decode cX11_isDepth 20 = .ok (.iconst 1, 1) := by decide +kernel
theorem dX11_isDepth_21 : decode cX11_isDepth 21 = .ok (.goto 4, 3) := by decide +kernel
theorem dX11_isDepth_24 : decode cX11_isDepth 24 = .ok (.iconst 0, 1) := by decide +kernel
theorem dX11_isDepth_25 : decode cX11_isDepth 25 = .ok (.ireturn, 1) := by decide +kernel
theorem dX11_isLink_0 : decode cX11_isLink 0 = .ok (.iload_n 0, 1) := by decide +kernel
theorem dX11_isLink_1 : decode cX11_isLink 1 = .ok (.iconst 1, 1) := by decide +kernel
theorem dX11_isLink_2 : decode cX11_isLink 2 = .ok (.if_icmp .eq 13, 3) := by decide +kernel
theorem dX11_isLink_5 : decode cX11_isLink 5 = .ok (.iload_n 0, 1) := by decide +kernel
theorem dX11_isLink_6 : decode cX11_isLink 6 = .ok (.iconst 2, 1) := by decide +kernel
theorem dX11_isLink_7 : decode cX11_isLink 7 = .ok (.if_icmp .eq 8, 3) := by decide +kernel
theorem dX11_isLink_10 : decode cX11_isLink 10 = .ok (.iload_n 0, 1) := by decide +kernel
theorem dX11_isLink_11 : decode cX11_isLink 11 = .ok (.iconst 4, 1) := by decide +kernel
theorem dX11_isLink_12 : decode cX11_isLink 12 = .ok (.if_icmp .ne 19, 3) := by decide +kernel
theorem dX11_isLink_15 : decode cX11_isLink 15 = .ok (.iload_n 1, 1) := by decide +kernel
theorem dX11_isLink_16 : decode cX11_isLink 16 = .ok (.i2l, 1) := by decide +kernel
theorem dX11_isLink_17 : decode cX11_isLink 17 = .ok (.lconst 0, 1) := by decide +kernel
theorem dX11_isLink_18 : decode cX11_isLink 18 = .ok (.ldc2_w 315, 3) := by decide +kernel
theorem dX11_isLink_21 : decode cX11_isLink 21 = .ok (.invokestatic 107, 3) := by decide +kernel
theorem dX11_isLink_24 : decode cX11_isLink 24 = .ok (.ifCond .eq 7, 3) := by decide +kernel
theorem dX11_isLink_27 : decode cX11_isLink 27 = .ok (.iconst 1, 1) := by decide +kernel
theorem dX11_isLink_28 : decode cX11_isLink 28 = .ok (.goto 4, 3) := by decide +kernel
theorem dX11_isLink_31 : decode cX11_isLink 31 = .ok (.iconst 0, 1) := by decide +kernel
theorem dX11_isLink_32 : decode cX11_isLink 32 = .ok (.ireturn, 1) := by decide +kernel
theorem dX11_roomOf_0 : decode cX11_roomOf 0 = .ok (.iload_n 1, 1) := by decide +kernel
theorem dX11_roomOf_1 : decode cX11_roomOf 1 = .ok (.ifCond .ne 9, 3) := by decide +kernel
theorem dX11_roomOf_4 : decode cX11_roomOf 4 = .ok (.ldc_w 317, 3) := by decide +kernel
theorem dX11_roomOf_7 : decode cX11_roomOf 7 = .ok (.goto 28, 3) := by decide +kernel
theorem dX11_roomOf_10 : decode cX11_roomOf 10 = .ok (.iload_n 1, 1) := by decide +kernel
theorem dX11_roomOf_11 : decode cX11_roomOf 11 = .ok (.iconst 1, 1) := by decide +kernel
theorem dX11_roomOf_12 : decode cX11_roomOf 12 = .ok (.if_icmp .ne 9, 3) := by decide +kernel
theorem dX11_roomOf_15 : decode cX11_roomOf 15 = .ok (.ldc_w 318, 3) := by decide +kernel
theorem dX11_roomOf_18 : decode cX11_roomOf 18 = .ok (.goto 17, 3) := by decide +kernel
theorem dX11_roomOf_21 : decode cX11_roomOf 21 = .ok (.iload_n 1, 1) := by decide +kernel
theorem dX11_roomOf_22 : decode cX11_roomOf 22 = .ok (.iconst 2, 1) := by decide +kernel
theorem dX11_roomOf_23 : decode cX11_roomOf 23 = .ok (.if_icmp .ne 9, 3) := by decide +kernel
theorem dX11_roomOf_26 : decode cX11_roomOf 26 = .ok (.ldc_w 319, 3) := by decide +kernel
theorem dX11_roomOf_29 : decode cX11_roomOf 29 = .ok (.goto 6, 3) := by decide +kernel
theorem dX11_roomOf_32 : decode cX11_roomOf 32 = .ok (.ldc_w 320, 3) := by decide +kernel
theorem dX11_roomOf_35 : decode cX11_roomOf 35 = .ok (.istore_n 2, 1) := by decide +kernel
theorem dX11_roomOf_36 : decode cX11_roomOf 36 = .ok (.bipush 8, 2) := by decide +kernel
theorem dX11_roomOf_38 : decode cX11_roomOf 38 = .ok (.iload_n 0, 1) := by decide +kernel
theorem dX11_roomOf_39 : decode cX11_roomOf 39 = .ok (.imul, 1) := by decide +kernel
theorem dX11_roomOf_40 : decode cX11_roomOf 40 = .ok (.iload_n 2, 1) := by decide +kernel
theorem dX11_roomOf_41 : decode cX11_roomOf 41 = .ok (.imul, 1) := by decide +kernel
theorem dX11_roomOf_42 : decode cX11_roomOf 42 = .ok (.ireturn, 1) := by decide +kernel
theorem dX11_needOf_0 : decode cX11_needOf 0 = .ok (.iconst 3, 1) := by decide +kernel
theorem dX11_needOf_1 : decode cX11_needOf 1 = .ok (.iload_n 2, 1) := by decide +kernel
theorem dX11_needOf_2 : decode cX11_needOf 2 = .ok (.imul, 1) := by decide +kernel
theorem dX11_needOf_3 : decode cX11_needOf 3 = .ok (.aload_n 0, 1) := by decide +kernel
theorem dX11_needOf_4 : decode cX11_needOf 4 = .ok (.iload_n 1, 1) := by decide +kernel
theorem dX11_needOf_5 : decode cX11_needOf 5 = .ok (.iconst 3, 1) := by decide +kernel
theorem dX11_needOf_6 : decode cX11_needOf 6 = .ok (.invokevirtual 244, 3) := by decide +kernel
theorem dX11_needOf_9 : decode cX11_needOf 9 = .ok (.imul, 1) := by decide +kernel
theorem dX11_needOf_10 : decode cX11_needOf 10 = .ok (.ireturn, 1) := by decide +kernel
theorem dX11_wish_0 : decode cX11_wish 0 = .ok (.aload_n 0, 1) := by decide +kernel
theorem dX11_wish_1 : decode cX11_wish 1 = .ok (.iconst 0, 1) := by decide +kernel
theorem dX11_wish_2 : decode cX11_wish 2 = .ok (.putfield 1, 3) := by decide +kernel
theorem dX11_wish_5 : decode cX11_wish 5 = .ok (.iload_n 1, 1) := by decide +kernel
theorem dX11_wish_6 : decode cX11_wish 6 = .ok (.invokestatic 321, 3) := by decide +kernel
theorem dX11_wish_9 : decode cX11_wish 9 = .ok (.ifCond .ne 6, 3) := by decide +kernel
theorem dX11_wish_12 : decode cX11_wish 12 = .ok (.bipush (-3), 2) := by decide +kernel
theorem dX11_wish_14 : decode cX11_wish 14 = .ok (.ireturn, 1) := by decide +kernel
theorem dX11_wish_15 : decode cX11_wish 15 = .ok (.aload_n 0, 1) := by decide +kernel
theorem dX11_wish_16 : decode cX11_wish 16 = .ok (.getfield 66, 3) := by decide +kernel
theorem dX11_wish_19 : decode cX11_wish 19 = .ok (.istore_n 2, 1) := by decide +kernel
theorem dX11_wish_20 : decode cX11_wish 20 = .ok (.aload_n 0, 1) := by decide +kernel
theorem dX11_wish_21 : decode cX11_wish 21 = .ok (.iload_n 1, 1) := by decide +kernel
theorem dX11_wish_22 : decode cX11_wish 22 = .ok (.putfield 66, 3) := by decide +kernel
theorem dX11_wish_25 : decode cX11_wish 25 = .ok (.iload_n 2, 1) := by decide +kernel
theorem dX11_wish_26 : decode cX11_wish 26 = .ok (.ireturn, 1) := by decide +kernel
theorem dX11_room_0 : decode cX11_room 0 = .ok (.aload_n 0, 1) := by decide +kernel
theorem dX11_room_1 : decode cX11_room 1 = .ok (.iconst 0, 1) := by decide +kernel
theorem dX11_room_2 : decode cX11_room 2 = .ok (.putfield 1, 3) := by decide +kernel
theorem dX11_room_5 : decode cX11_room 5 = .ok (.iload_n 1, 1) := by decide +kernel
theorem dX11_room_6 : decode cX11_room 6 = .ok (.iload_n 2, 1) := by decide +kernel
theorem dX11_room_7 : decode cX11_room 7 = .ok (.invokestatic 324, 3) := by decide +kernel
theorem dX11_room_10 : decode cX11_room 10 = .ok (.ifCond .eq 11, 3) := by decide +kernel
theorem dX11_room_13 : decode cX11_room 13 = .ok (.iload_n 1, 1) := by decide +kernel
theorem dX11_room_14 : decode cX11_room 14 = .ok (.iload_n 2, 1) := by decide +kernel
theorem dX11_room_15 : decode cX11_room 15 = .ok (.invokestatic 327, 3) := by decide +kernel
theorem dX11_room_18 : decode cX11_room 18 = .ok (.goto 5, 3) := by decide +kernel
theorem dX11_room_21 : decode cX11_room 21 = .ok (.bipush (-3), 2) := by decide +kernel
theorem dX11_room_23 : decode cX11_room 23 = .ok (.ireturn, 1) := by decide +kernel
theorem dX11_need_0 : decode cX11_need 0 = .ok (.aload_n 0, 1) := by decide +kernel
theorem dX11_need_1 : decode cX11_need 1 = .ok (.iconst 0, 1) := by decide +kernel
theorem dX11_need_2 : decode cX11_need 2 = .ok (.putfield 1, 3) := by decide +kernel
theorem dX11_need_5 : decode cX11_need 5 = .ok (.aload_n 0, 1) := by decide +kernel
theorem dX11_need_6 : decode cX11_need 6 = .ok (.iload_n 1, 1) := by decide +kernel
theorem dX11_need_7 : decode cX11_need 7 = .ok (.invokevirtual 239, 3) := by decide +kernel
theorem dX11_need_10 : decode cX11_need 10 = .ok (.ifCond .ne 6, 3) := by decide +kernel
theorem dX11_need_13 : decode cX11_need 13 = .ok (.bipush (-2), 2) := by decide +kernel
theorem dX11_need_15 : decode cX11_need 15 = .ok (.ireturn, 1) := by decide +kernel
theorem dX11_need_16 : decode cX11_need 16 = .ok (.iload_n 2, 1) := by decide +kernel
theorem dX11_need_17 : decode cX11_need 17 = .ok (.invokestatic 321, 3) := by decide +kernel
theorem dX11_need_20 : decode cX11_need 20 = .ok (.ifCond .eq 12, 3) := by decide +kernel
theorem dX11_need_23 : decode cX11_need 23 = .ok (.aload_n 0, 1) := by decide +kernel
theorem dX11_need_24 : decode cX11_need 24 = .ok (.iload_n 1, 1) := by decide +kernel
theorem dX11_need_25 : decode cX11_need 25 = .ok (.iload_n 2, 1) := by decide +kernel
theorem dX11_need_26 : decode cX11_need 26 = .ok (.invokevirtual 330, 3) := by decide +kernel
theorem dX11_need_29 : decode cX11_need 29 = .ok (.goto 5, 3) := by decide +kernel
theorem dX11_need_32 : decode cX11_need 32 = .ok (.bipush (-3), 2) := by decide +kernel
theorem dX11_need_34 : decode cX11_need 34 = .ok (.ireturn, 1) := by decide +kernel
theorem dX11_laysBest_0 : decode cX11_laysBest 0 = .ok (.aload_n 0, 1) := by decide +kernel
theorem dX11_laysBest_1 : decode cX11_laysBest 1 = .ok (.iconst (-1), 1) := by decide +kernel
theorem dX11_laysBest_2 : decode cX11_laysBest 2 = .ok (.putfield 333, 3) := by decide +kernel
theorem dX11_laysBest_5 : decode cX11_laysBest 5 = .ok (.aload_n 0, 1) := by decide +kernel
theorem dX11_laysBest_6 : decode cX11_laysBest 6 = .ok (.iconst (-1), 1) := by decide +kernel
theorem dX11_laysBest_7 : decode cX11_laysBest 7 = .ok (.putfield 336, 3) := by decide +kernel
theorem dX11_laysBest_10 : decode cX11_laysBest 10 = .ok (.iconst 0, 1) := by decide +kernel
theorem dX11_laysBest_11 : decode cX11_laysBest 11 = .ok (.istore_n 2, 1) := by decide +kernel
theorem dX11_laysBest_12 : decode cX11_laysBest 12 = .ok (.iload_n 2, 1) := by decide +kernel
theorem dX11_laysBest_13 : decode cX11_laysBest 13 = .ok (.aload_n 0, 1) := by decide +kernel
theorem dX11_laysBest_14 : decode cX11_laysBest 14 = .ok (.getfield 134, 3) := by decide +kernel
theorem dX11_laysBest_17 : decode cX11_laysBest 17 = .ok (.if_icmp .ge 65, 3) := by decide +kernel
theorem dX11_laysBest_20 : decode cX11_laysBest 20 = .ok (.aload_n 0, 1) := by decide +kernel
theorem dX11_laysBest_21 : decode cX11_laysBest 21 = .ok (.getfield 333, 3) := by decide +kernel
theorem dX11_laysBest_24 : decode cX11_laysBest 24 = .ok (.iconst (-1), 1) := by decide +kernel
theorem dX11_laysBest_25 : decode cX11_laysBest 25 = .ok (.if_icmp .ne 57, 3) := by decide +kernel
theorem dX11_laysBest_28 : decode cX11_laysBest 28 = .ok (.aload_n 0, 1) := by decide +kernel
theorem dX11_laysBest_29 : decode cX11_laysBest 29 = .ok (.getfield 66, 3) := by decide +kernel
theorem dX11_laysBest_32 : decode cX11_laysBest 32 = .ok (.istore_n 3, 1) := by decide +kernel
theorem dX11_laysBest_33 : decode cX11_laysBest 33 = .ok (.iload_n 3, 1) := by decide +kernel
theorem dX11_laysBest_34 : decode cX11_laysBest 34 = .ok (.bipush 6, 2) := by decide +kernel
theorem dX11_laysBest_36 : decode cX11_laysBest 36 = .ok (.if_icmp .lt 40, 3) := by decide +kernel
theorem dX11_laysBest_39 : decode cX11_laysBest 39 = .ok (.aload_n 0, 1) := by decide +kernel
theorem dX11_laysBest_40 : decode cX11_laysBest 40 = .ok (.getfield 333, 3) := by decide +kernel
theorem dX11_laysBest_43 : decode cX11_laysBest 43 = .ok (.iconst (-1), 1) := by decide +kernel
theorem dX11_laysBest_44 : decode cX11_laysBest 44 = .ok (.if_icmp .ne 32, 3) := by decide +kernel
theorem dX11_laysBest_47 : decode cX11_laysBest 47 = .ok (.aload_n 0, 1) := by decide +kernel
theorem dX11_laysBest_48 : decode cX11_laysBest 48 = .ok (.iload_n 2, 1) := by decide +kernel
theorem dX11_laysBest_49 : decode cX11_laysBest 49 = .ok (.iload_n 3, 1) := by decide +kernel
theorem dX11_laysBest_50 : decode cX11_laysBest 50 = .ok (.invokevirtual 330, 3) := by decide +kernel
theorem dX11_laysBest_53 : decode cX11_laysBest 53 = .ok (.iload_n 1, 1) := by decide +kernel
theorem dX11_laysBest_54 : decode cX11_laysBest 54 = .ok (.if_icmp .le 6, 3) := by decide +kernel
theorem dX11_laysBest_57 : decode cX11_laysBest 57 = .ok (.goto 13, 3) := by decide +kernel
theorem dX11_laysBest_60 : decode cX11_laysBest 60 = .ok (.aload_n 0, 1) := by decide +kernel
theorem dX11_laysBest_61 : decode cX11_laysBest 61 = .ok (.iload_n 2, 1) := by decide +kernel
theorem dX11_laysBest_62 : decode cX11_laysBest 62 = .ok (.putfield 333, 3) := by decide +kernel
theorem dX11_laysBest_65 : decode cX11_laysBest 65 = .ok (.aload_n 0, 1) := by decide +kernel
theorem dX11_laysBest_66 : decode cX11_laysBest 66 = .ok (.iload_n 3, 1) := by decide +kernel
theorem dX11_laysBest_67 : decode cX11_laysBest 67 = .ok (.putfield 336, 3) := by decide +kernel
theorem dX11_laysBest_70 : decode cX11_laysBest 70 = .ok (.iinc 3 (-2), 3) := by decide +kernel
theorem dX11_laysBest_73 : decode cX11_laysBest 73 = .ok (.goto (-40), 3) := by decide +kernel
theorem dX11_laysBest_76 : decode cX11_laysBest 76 = .ok (.iinc 2 1, 3) := by decide +kernel
theorem dX11_laysBest_79 : decode cX11_laysBest 79 = .ok (.goto (-67), 3) := by decide +kernel
theorem dX11_laysBest_82 : decode cX11_laysBest 82 = .ok (.return_, 1) := by decide +kernel
theorem dX11_best_0 : decode cX11_best 0 = .ok (.aload_n 0, 1) := by decide +kernel
theorem dX11_best_1 : decode cX11_best 1 = .ok (.iconst 0, 1) := by decide +kernel
theorem dX11_best_2 : decode cX11_best 2 = .ok (.putfield 1, 3) := by decide +kernel
theorem dX11_best_5 : decode cX11_best 5 = .ok (.iload_n 3, 1) := by decide +kernel
theorem dX11_best_6 : decode cX11_best 6 = .ok (.i2l, 1) := by decide +kernel
theorem dX11_best_7 : decode cX11_best 7 = .ok (.lconst 0, 1) := by decide +kernel
theorem dX11_best_8 : decode cX11_best 8 = .ok (.lconst 1, 1) := by decide +kernel
theorem dX11_best_9 : decode cX11_best 9 = .ok (.invokestatic 107, 3) := by decide +kernel
theorem dX11_best_12 : decode cX11_best 12 = .ok (.ifCond .ne 6, 3) := by decide +kernel
theorem dX11_best_15 : decode cX11_best 15 = .ok (.bipush (-2), 2) := by decide +kernel
theorem dX11_best_17 : decode cX11_best 17 = .ok (.ireturn, 1) := by decide +kernel
theorem dX11_best_18 : decode cX11_best 18 = .ok (.iload_n 1, 1) := by decide +kernel
theorem dX11_best_19 : decode cX11_best 19 = .ok (.iload_n 2, 1) := by decide +kernel
theorem dX11_best_20 : decode cX11_best 20 = .ok (.invokestatic 324, 3) := by decide +kernel
theorem dX11_best_23 : decode cX11_best 23 = .ok (.ifCond .ne 6, 3) := by decide +kernel
theorem dX11_best_26 : decode cX11_best 26 = .ok (.bipush (-3), 2) := by decide +kernel
theorem dX11_best_28 : decode cX11_best 28 = .ok (.ireturn, 1) := by decide +kernel
theorem dX11_best_29 : decode cX11_best 29 = .ok (.aload_n 0, 1) := by decide +kernel
theorem dX11_best_30 : decode cX11_best 30 = .ok (.iload_n 1, 1) := by decide +kernel
theorem dX11_best_31 : decode cX11_best 31 = .ok (.iload_n 2, 1) := by decide +kernel
theorem dX11_best_32 : decode cX11_best 32 = .ok (.invokestatic 327, 3) := by decide +kernel
theorem dX11_best_35 : decode cX11_best 35 = .ok (.invokevirtual 339, 3) := by decide +kernel
theorem dX11_best_38 : decode cX11_best 38 = .ok (.iload_n 3, 1) := by decide +kernel
theorem dX11_best_39 : decode cX11_best 39 = .ok (.ifCond .ne 10, 3) := by decide +kernel
theorem dX11_best_42 : decode cX11_best 42 = .ok (.aload_n 0, 1) := by decide +kernel
theorem dX11_best_43 : decode cX11_best 43 = .ok (.getfield 333, 3) := by decide +kernel
theorem dX11_best_46 : decode cX11_best 46 = .ok (.goto 7, 3) := by decide +kernel
theorem dX11_best_49 : decode cX11_best 49 = .ok (.aload_n 0, 1) := by decide +kernel
theorem dX11_best_50 : decode cX11_best 50 = .ok (.getfield 336, 3) := by decide +kernel
theorem dX11_best_53 : decode cX11_best 53 = .ok (.ireturn, 1) := by decide +kernel
theorem dX11_cheapest_0 : decode cX11_cheapest 0 = .ok (.aload_n 0, 1) := by decide +kernel
theorem dX11_cheapest_1 : decode cX11_cheapest 1 = .ok (.iconst 0, 1) := by decide +kernel
theorem dX11_cheapest_2 : decode cX11_cheapest 2 = .ok (.putfield 1, 3) := by decide +kernel
theorem dX11_cheapest_5 : decode cX11_cheapest 5 = .ok (.aload_n 0, 1) := by decide +kernel
theorem dX11_cheapest_6 : decode cX11_cheapest 6 = .ok (.iload_n 1, 1) := by decide +kernel
theorem dX11_cheapest_7 : decode cX11_cheapest 7 = .ok (.invokevirtual 239, 3) := by decide +kernel
theorem dX11_cheapest_10 : decode cX11_cheapest 10 = .ok (.ifCond .ne 6, 3) := by decide +kernel
theorem dX11_cheapest_13 : decode cX11_cheapest 13 = .ok (.bipush (-2), 2) := by decide +kernel
theorem dX11_cheapest_15 : decode cX11_cheapest 15 = .ok (.ireturn, 1) := by decide +kernel
theorem dX11_cheapest_16 : decode cX11_cheapest 16 = .ok (.iload_n 2, 1) := by decide +kernel
theorem dX11_cheapest_17 : decode cX11_cheapest 17 = .ok (.invokestatic 321, 3) := by decide +kernel
theorem dX11_cheapest_20 : decode cX11_cheapest 20 = .ok (.ifCond .ne 6, 3) := by decide +kernel
theorem dX11_cheapest_23 : decode cX11_cheapest 23 = .ok (.bipush (-3), 2) := by decide +kernel
theorem dX11_cheapest_25 : decode cX11_cheapest 25 = .ok (.ireturn, 1) := by decide +kernel
theorem dX11_cheapest_26 : decode cX11_cheapest 26 = .ok (.iconst (-1), 1) := by decide +kernel
theorem dX11_cheapest_27 : decode cX11_cheapest 27 = .ok (.istore_n 3, 1) := by decide +kernel
theorem dX11_cheapest_28 : decode cX11_cheapest 28 = .ok (.iconst 0, 1) := by decide +kernel
theorem dX11_cheapest_29 : decode cX11_cheapest 29 = .ok (.istore 4, 2) := by decide +kernel
theorem dX11_cheapest_31 : decode cX11_cheapest 31 = .ok (.iconst 1, 1) := by decide +kernel
theorem dX11_cheapest_32 : decode cX11_cheapest 32 = .ok (.istore 5, 2) := by decide +kernel
theorem dX11_cheapest_34 : decode cX11_cheapest 34 = .ok (.iload 5, 2) := by decide +kernel
theorem dX11_cheapest_36 : decode cX11_cheapest 36 = .ok (.iconst 4, 1) := by decide +kernel
theorem dX11_cheapest_37 : decode cX11_cheapest 37 = .ok (.if_icmp .gt 75, 3) := by decide +kernel
theorem dX11_cheapest_40 : decode cX11_cheapest 40 = .ok (.iconst 0, 1) := by decide +kernel
theorem dX11_cheapest_41 : decode cX11_cheapest 41 = .ok (.istore 6, 2) := by decide +kernel
theorem dX11_cheapest_43 : decode cX11_cheapest 43 = .ok (.iload 6, 2) := by decide +kernel
theorem dX11_cheapest_45 : decode cX11_cheapest 45 = .ok (.iconst 4, 1) := by decide +kernel
theorem dX11_cheapest_46 : decode cX11_cheapest 46 = .ok (.if_icmp .ge 57, 3) := by decide +kernel
theorem dX11_cheapest_49 : decode cX11_cheapest 49 = .ok (.iload 5, 2) := by decide +kernel
theorem dX11_cheapest_51 : decode cX11_cheapest 51 = .ok (.iload 6, 2) := by decide +kernel
theorem dX11_cheapest_53 : decode cX11_cheapest 53 = .ok (.invokestatic 327, 3) := by decide +kernel
theorem dX11_cheapest_56 : decode cX11_cheapest 56 = .ok (.istore 7, 2) := by decide +kernel
theorem dX11_cheapest_58 : decode cX11_cheapest 58 = .ok (.iload 7, 2) := by decide +kernel
theorem dX11_cheapest_60 : decode cX11_cheapest 60 = .ok (.aload_n 0, 1) := by decide +kernel
theorem dX11_cheapest_61 : decode cX11_cheapest 61 = .ok (.iload_n 1, 1) := by decide +kernel
theorem dX11_cheapest_62 : decode cX11_cheapest 62 = .ok (.iload_n 2, 1) := by decide +kernel
theorem dX11_cheapest_63 : decode cX11_cheapest 63 = .ok (.invokevirtual 330, 3) := by decide +kernel
theorem dX11_cheapest_66 : decode cX11_cheapest 66 = .ok (.if_icmp .lt 31, 3) := by decide +kernel
theorem dX11_cheapest_69 : decode cX11_cheapest 69 = .ok (.iload_n 3, 1) := by decide +kernel
theorem dX11_cheapest_70 : decode cX11_cheapest 70 = .ok (.iconst (-1), 1) := by decide +kernel
theorem dX11_cheapest_71 : decode cX11_cheapest 71 = .ok (.if_icmp .eq 13, 3) := by decide +kernel
theorem dX11_cheapest_74 : decode cX11_cheapest 74 = .ok (.iload 7, 2) := by decide +kernel
theorem dX11_cheapest_76 : decode cX11_cheapest 76 = .ok (.iload 4, 2) := by decide +kernel
theorem dX11_cheapest_78 : decode cX11_cheapest 78 = .ok (.if_icmp .lt 6, 3) := by decide +kernel
theorem dX11_cheapest_81 : decode cX11_cheapest 81 = .ok (.goto 16, 3) := by decide +kernel
theorem dX11_cheapest_84 : decode cX11_cheapest 84 = .ok (.bipush 10, 2) := by decide +kernel
theorem dX11_cheapest_86 : decode cX11_cheapest 86 = .ok (.iload 5, 2) := by decide +kernel
theorem dX11_cheapest_88 : decode cX11_cheapest 88 = .ok (.imul, 1) := by decide +kernel
theorem dX11_cheapest_89 : decode cX11_cheapest 89 = .ok (.iload 6, 2) := by decide +kernel
theorem dX11_cheapest_91 : decode cX11_cheapest 91 = .ok (.iadd, 1) := by decide +kernel
theorem dX11_cheapest_92 : decode cX11_cheapest 92 = .ok (.istore_n 3, 1) := by decide +kernel
theorem dX11_cheapest_93 : decode cX11_cheapest 93 = .ok (.iload 7, 2) := by decide +kernel
theorem dX11_cheapest_95 : decode cX11_cheapest 95 = .ok (.istore 4, 2) := by decide +kernel
theorem dX11_cheapest_97 : decode cX11_cheapest 97 = .ok (.iinc 6 1, 3) := by decide +kernel
theorem dX11_cheapest_100 : decode cX11_cheapest 100 = .ok (.goto (-57), 3) := by decide +kernel
theorem dX11_cheapest_103 : decode cX11_cheapest 103 = .ok (.iload 5, 2) := by decide +kernel
theorem dX11_cheapest_105 : decode cX11_cheapest 105 = .ok (.iconst 2, 1) := by decide +kernel
theorem dX11_cheapest_106 : decode cX11_cheapest 106 = .ok (.imul, 1) := by decide +kernel
theorem dX11_cheapest_107 : decode cX11_cheapest 107 = .ok (.istore 5, 2) := by decide +kernel
theorem dX11_cheapest_109 : decode cX11_cheapest 109 = .ok (.goto (-75), 3) := by decide +kernel
theorem dX11_cheapest_112 : decode cX11_cheapest 112 = .ok (.iload_n 3, 1) := by decide +kernel
theorem dX11_cheapest_113 : decode cX11_cheapest 113 = .ok (.ireturn, 1) := by decide +kernel
theorem dX11_fastest_0 : decode cX11_fastest 0 = .ok (.aload_n 0, 1) := by decide +kernel
theorem dX11_fastest_1 : decode cX11_fastest 1 = .ok (.iconst 0, 1) := by decide +kernel
theorem dX11_fastest_2 : decode cX11_fastest 2 = .ok (.putfield 1, 3) := by decide +kernel
theorem dX11_fastest_5 : decode cX11_fastest 5 = .ok (.iload_n 1, 1) := by decide +kernel
theorem dX11_fastest_6 : decode cX11_fastest 6 = .ok (.i2l, 1) := by decide +kernel
theorem dX11_fastest_7 : decode cX11_fastest 7 = .ok (.lconst 0, 1) := by decide +kernel
theorem dX11_fastest_8 : decode cX11_fastest 8 = .ok (.lconst 1, 1) := by decide +kernel
theorem dX11_fastest_9 : decode cX11_fastest 9 = .ok (.invokestatic 107, 3) := by decide +kernel
theorem dX11_fastest_12 : decode cX11_fastest 12 = .ok (.ifCond .ne 6, 3) := by decide +kernel
theorem dX11_fastest_15 : decode cX11_fastest 15 = .ok (.bipush (-2), 2) := by decide +kernel
theorem dX11_fastest_17 : decode cX11_fastest 17 = .ok (.ireturn, 1) := by decide +kernel
theorem dX11_fastest_18 : decode cX11_fastest 18 = .ok (.iload_n 2, 1) := by decide +kernel
theorem dX11_fastest_19 : decode cX11_fastest 19 = .ok (.iload_n 3, 1) := by decide +kernel
theorem dX11_fastest_20 : decode cX11_fastest 20 = .ok (.bipush 20, 2) := by decide +kernel
theorem dX11_fastest_22 : decode cX11_fastest 22 = .ok (.invokestatic 304, 3) := by decide +kernel
theorem dX11_fastest_25 : decode cX11_fastest 25 = .ok (.ifCond .ne 21, 3) := by decide +kernel
theorem dX11_fastest_28 : decode cX11_fastest 28 = .ok (.iload 4, 2) := by decide +kernel
theorem dX11_fastest_30 : decode cX11_fastest 30 = .ok (.iload 5, 2) := by decide +kernel
theorem dX11_fastest_32 : decode cX11_fastest 32 = .ok (.invokestatic 324, 3) := by decide +kernel
theorem dX11_fastest_35 : decode cX11_fastest 35 = .ok (.ifCond .eq 11, 3) := by decide +kernel
theorem dX11_fastest_38 : decode cX11_fastest 38 = .ok (.iload 6, 2) := by decide +kernel
theorem dX11_fastest_40 : decode cX11_fastest 40 = .ok (.invokestatic 321, 3) := by decide +kernel
theorem dX11_fastest_43 : decode cX11_fastest 43 = .ok (.ifCond .ne 6, 3) := by decide +kernel
theorem dX11_fastest_46 : decode cX11_fastest 46 = .ok (.bipush (-3), 2) := by decide +kernel
theorem dX11_fastest_48 : decode cX11_fastest 48 = .ok (.ireturn, 1) := by decide +kernel
theorem dX11_fastest_49 : decode cX11_fastest 49 = .ok (.sipush 240, 3) := by decide +kernel
theorem dX11_fastest_52 : decode cX11_fastest 52 = .ok (.istore 7, 2) := by decide +kernel
theorem dX11_fastest_54 : decode cX11_fastest 54 = .ok (.iload 7, 2) := by decide +kernel
theorem dX11_fastest_56 : decode cX11_fastest 56 = .ok (.bipush 20, 2) := by decide +kernel
theorem dX11_fastest_58 : decode cX11_fastest 58 = .ok (.if_icmp .lt 49, 3) := by decide +kernel
theorem dX11_fastest_61 : decode cX11_fastest 61 = .ok (.aload_n 0, 1) := by decide +kernel
theorem dX11_fastest_62 : decode cX11_fastest 62 = .ok (.iload_n 1, 1) := by decide +kernel
theorem dX11_fastest_63 : decode cX11_fastest 63 = .ok (.iload_n 2, 1) := by decide +kernel
theorem dX11_fastest_64 : decode cX11_fastest 64 = .ok (.iload_n 3, 1) := by decide +kernel
theorem dX11_fastest_65 : decode cX11_fastest 65 = .ok (.iload 7, 2) := by decide +kernel
theorem dX11_fastest_67 : decode cX11_fastest 67 = .ok (.invokevirtual 205, 3) := by decide +kernel
theorem dX11_fastest_70 : decode cX11_fastest 70 = .ok (.ldc2_w 315, 3) := by decide +kernel
theorem dX11_fastest_73 : decode cX11_fastest 73 = .ok (.iload 6, 2) := by decide +kernel
theorem dX11_fastest_75 : decode cX11_fastest 75 = .ok (.i2l, 1) := by decide +kernel
theorem dX11_fastest_76 : decode cX11_fastest 76 = .ok (.lmul, 1) := by decide +kernel
theorem dX11_fastest_77 : decode cX11_fastest 77 = .ok (.aload_n 0, 1) := by decide +kernel
theorem dX11_fastest_78 : decode cX11_fastest 78 = .ok (.getfield 63, 3) := by decide +kernel
theorem dX11_fastest_81 : decode cX11_fastest 81 = .ok (.bipush 8, 2) := by decide +kernel
theorem dX11_fastest_83 : decode cX11_fastest 83 = .ok (.iaload, 1) := by decide +kernel
theorem dX11_fastest_84 : decode cX11_fastest 84 = .ok (.i2l, 1) := by decide +kernel
theorem dX11_fastest_85 : decode cX11_fastest 85 = .ok (.lmul, 1) := by decide +kernel
theorem dX11_fastest_86 : decode cX11_fastest 86 = .ok (.iload 4, 2) := by decide +kernel
theorem dX11_fastest_88 : decode cX11_fastest 88 = .ok (.iload 5, 2) := by decide +kernel
theorem dX11_fastest_90 : decode cX11_fastest 90 = .ok (.invokestatic 327, 3) := by decide +kernel
theorem dX11_fastest_93 : decode cX11_fastest 93 = .ok (.i2l, 1) := by decide +kernel
theorem dX11_fastest_94 : decode cX11_fastest 94 = .ok (.lcmp, 1) := by decide +kernel
theorem dX11_fastest_95 : decode cX11_fastest 95 = .ok (.ifCond .gt 6, 3) := by decide +kernel
theorem dX11_fastest_98 : decode cX11_fastest 98 = .ok (.iload 7, 2) := by decide +kernel
theorem dX11_fastest_100 : decode cX11_fastest 100 = .ok (.ireturn, 1) := by decide +kernel
theorem dX11_fastest_101 : decode cX11_fastest 101 = .ok (.iinc 7 (-1), 3) := by decide +kernel
theorem dX11_fastest_104 : decode cX11_fastest 104 = .ok (.goto (-50), 3) := by decide +kernel
theorem dX11_fastest_107 : decode cX11_fastest 107 = .ok (.iconst (-1), 1) := by decide +kernel
theorem dX11_fastest_108 : decode cX11_fastest 108 = .ok (.ireturn, 1) := by decide +kernel
theorem dX11_isLane_0 : decode cX11_isLane 0 = .ok (.iload_n 0, 1) := by decide +kernel
theorem dX11_isLane_1 : decode cX11_isLane 1 = .ok (.i2l, 1) := by decide +kernel
theorem dX11_isLane_2 : decode cX11_isLane 2 = .ok (.lconst 0, 1) := by decide +kernel
theorem dX11_isLane_3 : decode cX11_isLane 3 = .ok (.ldc2_w 315, 3) := by decide +kernel
theorem dX11_isLane_6 : decode cX11_isLane 6 = .ok (.invokestatic 107, 3) := by decide +kernel
theorem dX11_isLane_9 : decode cX11_isLane 9 = .ok (.ireturn, 1) := by decide +kernel
theorem dX11_ends_0 : decode cX11_ends 0 = .ok (.iconst 0, 1) := by decide +kernel
theorem dX11_ends_1 : decode cX11_ends 1 = .ok (.istore_n 1, 1) := by decide +kernel
theorem dX11_ends_2 : decode cX11_ends 2 = .ok (.iload_n 1, 1) := by decide +kernel
theorem dX11_ends_3 : decode cX11_ends 3 = .ok (.bipush 88, 2) := by decide +kernel
theorem dX11_ends_5 : decode cX11_ends 5 = .ok (.if_icmp .ge 16, 3) := by decide +kernel
theorem dX11_ends_8 : decode cX11_ends 8 = .ok (.aload_n 0, 1) := by decide +kernel
theorem dX11_ends_9 : decode cX11_ends 9 = .ok (.getfield 75, 3) := by decide +kernel
theorem dX11_ends_12 : decode cX11_ends 12 = .ok (.iload_n 1, 1) := by decide +kernel
theorem dX11_ends_13 : decode cX11_ends 13 = .ok (.iconst 0, 1) := by decide +kernel
theorem dX11_ends_14 : decode cX11_ends 14 = .ok (.iastore, 1) := by decide +kernel
theorem dX11_ends_15 : decode cX11_ends 15 = .ok (.iinc 1 1, 3) := by decide +kernel
theorem dX11_ends_18 : decode cX11_ends 18 = .ok (.goto (-16), 3) := by decide +kernel
theorem dX11_ends_21 : decode cX11_ends 21 = .ok (.return_, 1) := by decide +kernel
theorem dX11_lane_0 : decode cX11_lane 0 = .ok (.aload_n 0, 1) := by decide +kernel
theorem dX11_lane_1 : decode cX11_lane 1 = .ok (.iconst 0, 1) := by decide +kernel
theorem dX11_lane_2 : decode cX11_lane 2 = .ok (.putfield 1, 3) := by decide +kernel
theorem dX11_lane_5 : decode cX11_lane 5 = .ok (.iload_n 1, 1) := by decide +kernel
theorem dX11_lane_6 : decode cX11_lane 6 = .ok (.invokestatic 342, 3) := by decide +kernel
theorem dX11_lane_9 : decode cX11_lane 9 = .ok (.ifCond .ne 6, 3) := by decide +kernel
theorem dX11_lane_12 : decode cX11_lane 12 = .ok (.bipush (-2), 2) := by decide +kernel
theorem dX11_lane_14 : decode cX11_lane 14 = .ok (.ireturn, 1) := by decide +kernel
theorem dX11_lane_15 : decode cX11_lane 15 = .ok (.iload_n 2, 1) := by decide +kernel
theorem dX11_lane_16 : decode cX11_lane 16 = .ok (.i2l, 1) := by decide +kernel
theorem dX11_lane_17 : decode cX11_lane 17 = .ok (.lconst 0, 1) := by decide +kernel
theorem dX11_lane_18 : decode cX11_lane 18 = .ok (.ldc2_w 345, 3) := by decide +kernel
theorem dX11_lane_21 : decode cX11_lane 21 = .ok (.invokestatic 107, 3) := by decide +kernel
theorem dX11_lane_24 : decode cX11_lane 24 = .ok (.ifCond .eq 15, 3) := by decide +kernel
theorem dX11_lane_27 : decode cX11_lane 27 = .ok (.iload_n 3, 1) := by decide +kernel
theorem dX11_lane_28 : decode cX11_lane 28 = .ok (.i2l, 1) := by decide +kernel
theorem dX11_lane_29 : decode cX11_lane 29 = .ok (.lconst 0, 1) := by decide +kernel
theorem dX11_lane_30 : decode cX11_lane 30 = .ok (.ldc2_w 313, 3) := by decide +kernel
theorem dX11_lane_33 : decode cX11_lane 33 = .ok (.invokestatic 107, 3) := by decide +kernel
theorem dX11_lane_36 : decode cX11_lane 36 = .ok (.ifCond .ne 6, 3) := by decide +kernel
theorem dX11_lane_39 : decode cX11_lane 39 = .ok (.bipush (-3), 2) := by decide +kernel
theorem dX11_lane_41 : decode cX11_lane 41 = .ok (.ireturn, 1) := by decide +kernel
theorem dX11_lane_42 : decode cX11_lane 42 = .ok (.aload_n 0, 1) := by decide +kernel
theorem dX11_lane_43 : decode cX11_lane 43 = .ok (.getfield 81, 3) := by decide +kernel
theorem dX11_lane_46 : decode cX11_lane 46 = .ok (.iload_n 1, 1) := by decide +kernel
theorem dX11_lane_47 : decode cX11_lane 47 = .ok (.iaload, 1) := by decide +kernel
theorem dX11_lane_48 : decode cX11_lane 48 = .ok (.istore 4, 2) := by decide +kernel
theorem dX11_lane_50 : decode cX11_lane 50 = .ok (.aload_n 0, 1) := by decide +kernel
theorem dX11_lane_51 : decode cX11_lane 51 = .ok (.getfield 81, 3) := by decide +kernel
theorem dX11_lane_54 : decode cX11_lane 54 = .ok (.iload_n 1, 1) := by decide +kernel
theorem dX11_lane_55 : decode cX11_lane 55 = .ok (.iload_n 2, 1) := by decide +kernel
theorem dX11_lane_56 : decode cX11_lane 56 = .ok (.iastore, 1) := by decide +kernel
theorem dX11_lane_57 : decode cX11_lane 57 = .ok (.aload_n 0, 1) := by decide +kernel
theorem dX11_lane_58 : decode cX11_lane 58 = .ok (.getfield 84, 3) := by decide +kernel
theorem dX11_lane_61 : decode cX11_lane 61 = .ok (.iload_n 1, 1) := by decide +kernel
theorem dX11_lane_62 : decode cX11_lane 62 = .ok (.iload_n 3, 1) := by decide +kernel
theorem dX11_lane_63 : decode cX11_lane 63 = .ok (.iastore, 1) := by decide +kernel
theorem dX11_lane_64 : decode cX11_lane 64 = .ok (.aload_n 0, 1) := by decide +kernel
theorem dX11_lane_65 : decode cX11_lane 65 = .ok (.invokevirtual 347, 3) := by decide +kernel
theorem dX11_lane_68 : decode cX11_lane 68 = .ok (.iload 4, 2) := by decide +kernel
theorem dX11_lane_70 : decode cX11_lane 70 = .ok (.ireturn, 1) := by decide +kernel
theorem dX11_wire_0 : decode cX11_wire 0 = .ok (.aload_n 0, 1) := by decide +kernel
theorem dX11_wire_1 : decode cX11_wire 1 = .ok (.iconst 0, 1) := by decide +kernel
theorem dX11_wire_2 : decode cX11_wire 2 = .ok (.putfield 1, 3) := by decide +kernel
theorem dX11_wire_5 : decode cX11_wire 5 = .ok (.iload_n 1, 1) := by decide +kernel
theorem dX11_wire_6 : decode cX11_wire 6 = .ok (.iload_n 2, 1) := by decide +kernel
theorem dX11_wire_7 : decode cX11_wire 7 = .ok (.invokestatic 324, 3) := by decide +kernel
theorem dX11_wire_10 : decode cX11_wire 10 = .ok (.ifCond .ne 6, 3) := by decide +kernel
theorem dX11_wire_13 : decode cX11_wire 13 = .ok (.bipush (-3), 2) := by decide +kernel
theorem dX11_wire_15 : decode cX11_wire 15 = .ok (.ireturn, 1) := by decide +kernel
theorem dX11_wire_16 : decode cX11_wire 16 = .ok (.aload_n 0, 1) := by decide +kernel
theorem dX11_wire_17 : decode cX11_wire 17 = .ok (.iload_n 1, 1) := by decide +kernel
theorem dX11_wire_18 : decode cX11_wire 18 = .ok (.putfield 69, 3) := by decide +kernel
theorem dX11_wire_21 : decode cX11_wire 21 = .ok (.aload_n 0, 1) := by decide +kernel
theorem dX11_wire_22 : decode cX11_wire 22 = .ok (.iload_n 2, 1) := by decide +kernel
theorem dX11_wire_23 : decode cX11_wire 23 = .ok (.putfield 72, 3) := by decide +kernel
theorem dX11_wire_26 : decode cX11_wire 26 = .ok (.aload_n 0, 1) := by decide +kernel
theorem dX11_wire_27 : decode cX11_wire 27 = .ok (.invokevirtual 347, 3) := by decide +kernel
theorem dX11_wire_30 : decode cX11_wire 30 = .ok (.iload_n 1, 1) := by decide +kernel
theorem dX11_wire_31 : decode cX11_wire 31 = .ok (.iload_n 2, 1) := by decide +kernel
theorem dX11_wire_32 : decode cX11_wire 32 = .ok (.invokestatic 327, 3) := by decide +kernel
theorem dX11_wire_35 : decode cX11_wire 35 = .ok (.ireturn, 1) := by decide +kernel
theorem dX11_foots_0 : decode cX11_foots 0 = .ok (.aload_n 0, 1) := by decide +kernel
theorem dX11_foots_1 : decode cX11_foots 1 = .ok (.getfield 75, 3) := by decide +kernel
theorem dX11_foots_4 : decode cX11_foots 4 = .ok (.iconst 0, 1) := by decide +kernel
theorem dX11_foots_5 : decode cX11_foots 5 = .ok (.iconst 1, 1) := by decide +kernel
theorem dX11_foots_6 : decode cX11_foots 6 = .ok (.iastore, 1) := by decide +kernel
theorem dX11_foots_7 : decode cX11_foots 7 = .ok (.aload_n 0, 1) := by decide +kernel
theorem dX11_foots_8 : decode cX11_foots 8 = .ok (.getfield 75, 3) := by decide +kernel
theorem dX11_foots_11 : decode cX11_foots 11 = .ok (.iconst 3, 1) := by decide +kernel
theorem dX11_foots_12 : decode cX11_foots 12 = .ok (.iconst 0, 1) := by decide +kernel
theorem dX11_foots_13 : decode cX11_foots 13 = .ok (.iastore, 1) := by decide +kernel
theorem dX11_foots_14 : decode cX11_foots 14 = .ok (.aload_n 0, 1) := by decide +kernel
theorem dX11_foots_15 : decode cX11_foots 15 = .ok (.getfield 75, 3) := by decide +kernel
theorem dX11_foots_18 : decode cX11_foots 18 = .ok (.iconst 4, 1) := by decide +kernel
theorem dX11_foots_19 : decode cX11_foots 19 = .ok (.iconst 0, 1) := by decide +kernel
theorem dX11_foots_20 : decode cX11_foots 20 = .ok (.iastore, 1) := by decide +kernel
theorem dX11_foots_21 : decode cX11_foots 21 = .ok (.aload_n 0, 1) := by decide +kernel
theorem dX11_foots_22 : decode cX11_foots 22 = .ok (.getfield 75, 3) := by decide +kernel
theorem dX11_foots_25 : decode cX11_foots 25 = .ok (.iconst 5, 1) := by decide +kernel
theorem dX11_foots_26 : decode cX11_foots 26 = .ok (.iconst 0, 1) := by decide +kernel
theorem dX11_foots_27 : decode cX11_foots 27 = .ok (.iastore, 1) := by decide +kernel
theorem dX11_foots_28 : decode cX11_foots 28 = .ok (.bipush 8, 2) := by decide +kernel
theorem dX11_foots_30 : decode cX11_foots 30 = .ok (.istore_n 1, 1) := by decide +kernel
theorem dX11_foots_31 : decode cX11_foots 31 = .ok (.iload_n 1, 1) := by decide +kernel
theorem dX11_foots_32 : decode cX11_foots 32 = .ok (.bipush 24, 2) := by decide +kernel
theorem dX11_foots_34 : decode cX11_foots 34 = .ok (.if_icmp .ge 16, 3) := by decide +kernel
theorem dX11_foots_37 : decode cX11_foots 37 = .ok (.aload_n 0, 1) := by decide +kernel
theorem dX11_foots_38 : decode cX11_foots 38 = .ok (.getfield 75, 3) := by decide +kernel
theorem dX11_foots_41 : decode cX11_foots 41 = .ok (.iload_n 1, 1) := by decide +kernel
theorem dX11_foots_42 : decode cX11_foots 42 = .ok (.iconst 0, 1) := by decide +kernel
theorem dX11_foots_43 : decode cX11_foots 43 = .ok (.iastore, 1) := by decide +kernel
theorem dX11_foots_44 : decode cX11_foots 44 = .ok (.iinc 1 1, 3) := by decide +kernel
theorem dX11_foots_47 : decode cX11_foots 47 = .ok (.goto (-16), 3) := by decide +kernel
theorem dX11_foots_50 : decode cX11_foots 50 = .ok (.return_, 1) := by decide +kernel
theorem dX11_begins_0 : decode cX11_begins 0 = .ok (.aload_n 0, 1) := by decide +kernel
theorem dX11_begins_1 : decode cX11_begins 1 = .ok (.invokevirtual 347, 3) := by decide +kernel
theorem dX11_begins_4 : decode cX11_begins 4 = .ok (.aload_n 0, 1) := by decide +kernel
theorem dX11_begins_5 : decode cX11_begins 5 = .ok (.getfield 75, 3) := by decide +kernel
theorem dX11_begins_8 : decode cX11_begins 8 = .ok (.iconst 1, 1) := by decide +kernel
theorem dX11_begins_9 : decode cX11_begins 9 = .ok (.aload_n 0, 1) := by decide +kernel
theorem dX11_begins_10 : decode cX11_begins 10 = .ok (.getfield 69, 3) := by decide +kernel
theorem dX11_begins_13 : decode cX11_begins 13 = .ok (.iastore, 1) := by decide +kernel
theorem dX11_begins_14 : decode cX11_begins 14 = .ok (.aload_n 0, 1) := by decide +kernel
theorem dX11_begins_15 : decode cX11_begins 15 = .ok (.getfield 75, 3) := by decide +kernel
theorem dX11_begins_18 : decode cX11_begins 18 = .ok (.iconst 2, 1) := by decide +kernel
theorem dX11_begins_19 : decode cX11_begins 19 = .ok (.aload_n 0, 1) := by decide +kernel
theorem dX11_begins_20 : decode cX11_begins 20 = .ok (.getfield 72, 3) := by decide +kernel
theorem dX11_begins_23 : decode cX11_begins 23 = .ok (.iastore, 1) := by decide +kernel
theorem dX11_begins_24 : decode cX11_begins 24 = .ok (.aload_n 0, 1) := by decide +kernel
theorem dX11_begins_25 : decode cX11_begins 25 = .ok (.invokevirtual 350, 3) := by decide +kernel
theorem dX11_begins_28 : decode cX11_begins 28 = .ok (.return_, 1) := by decide +kernel
theorem dX11_begin_0 : decode cX11_begin 0 = .ok (.aload_n 0, 1) := by decide +kernel
theorem dX11_begin_1 : decode cX11_begin 1 = .ok (.iconst 0, 1) := by decide +kernel
theorem dX11_begin_2 : decode cX11_begin 2 = .ok (.putfield 1, 3) := by decide +kernel
theorem dX11_begin_5 : decode cX11_begin 5 = .ok (.aload_n 0, 1) := by decide +kernel
theorem dX11_begin_6 : decode cX11_begin 6 = .ok (.invokevirtual 353, 3) := by decide +kernel
theorem dX11_begin_9 : decode cX11_begin 9 = .ok (.aload_n 0, 1) := by decide +kernel
theorem dX11_begin_10 : decode cX11_begin 10 = .ok (.getfield 69, 3) := by decide +kernel
theorem dX11_begin_13 : decode cX11_begin 13 = .ok (.aload_n 0, 1) := by decide +kernel
theorem dX11_begin_14 : decode cX11_begin 14 = .ok (.getfield 72, 3) := by decide +kernel
theorem dX11_begin_17 : decode cX11_begin 17 = .ok (.invokestatic 327, 3) := by decide +kernel
theorem dX11_begin_20 : decode cX11_begin 20 = .ok (.ireturn, 1) := by decide +kernel
theorem dX11_wantsSwing_0 : decode cX11_wantsSwing 0 = .ok (.iconst 5, 1) := by decide +kernel
theorem dX11_wantsSwing_1 : decode cX11_wantsSwing 1 = .ok (.aload_n 0, 1) := by decide +kernel
theorem dX11_wantsSwing_2 : decode cX11_wantsSwing 2 = .ok (.getfield 75, 3) := by decide +kernel
theorem dX11_wantsSwing_5 : decode cX11_wantsSwing 5 = .ok (.bipush 8, 2) := by decide +kernel
theorem dX11_wantsSwing_7 : decode cX11_wantsSwing 7 = .ok (.iload_n 1, 1) := by decide +kernel
theorem dX11_wantsSwing_8 : decode cX11_wantsSwing 8 = .ok (.iadd, 1) := by decide +kernel
theorem dX11_wantsSwing_9 : decode cX11_wantsSwing 9 = .ok (.iaload, 1) := by decide +kernel
theorem dX11_wantsSwing_10 : decode cX11_wantsSwing 10 = .ok (.imul, 1) := by decide +kernel
theorem dX11_wantsSwing_11 : decode cX11_wantsSwing 11 = .ok (.bipush 14, 2) := by decide +kernel
theorem dX11_wantsSwing_13 : decode cX11_wantsSwing 13 = .ok (.iadd, 1) := by decide +kernel
theorem dX11_wantsSwing_14 : decode cX11_wantsSwing 14 = .ok (.aload_n 0, 1) := by decide +kernel
theorem dX11_wantsSwing_15 : decode cX11_wantsSwing 15 = .ok (.getfield 81, 3) := by decide +kernel
theorem dX11_wantsSwing_18 : decode cX11_wantsSwing 18 = .ok (.iload_n 1, 1) := by decide +kernel
theorem dX11_wantsSwing_19 : decode cX11_wantsSwing 19 = .ok (.iaload, 1) := by decide +kernel
theorem dX11_wantsSwing_20 : decode cX11_wantsSwing 20 = .ok (.iconst 2, 1) := by decide +kernel
theorem dX11_wantsSwing_21 : decode cX11_wantsSwing 21 = .ok (.aload_n 0, 1) := by decide +kernel
theorem dX11_wantsSwing_22 : decode cX11_wantsSwing 22 = .ok (.getfield 75, 3) := by decide +kernel
theorem dX11_wantsSwing_25 : decode cX11_wantsSwing 25 = .ok (.iconst 2, 1) := by decide +kernel
theorem dX11_wantsSwing_26 : decode cX11_wantsSwing 26 = .ok (.iaload, 1) := by decide +kernel
theorem dX11_wantsSwing_27 : decode cX11_wantsSwing 27 = .ok (.imul, 1) := by decide +kernel
theorem dX11_wantsSwing_28 : decode cX11_wantsSwing 28 = .ok (.iadd, 1) := by decide +kernel
theorem dX11_wantsSwing_29 : decode cX11_wantsSwing 29 = .ok (.if_icmp .ge 7, 3) := by decide +kernel
theorem dX11_wantsSwing_32 : decode cX11_wantsSwing 32 = .ok (.iconst 1, 1) := by decide +kernel
theorem dX11_wantsSwing_33 : decode cX11_wantsSwing 33 = .ok (.goto 4, 3) := by decide +kernel
theorem dX11_wantsSwing_36 : decode cX11_wantsSwing 36 = .ok (.iconst 0, 1) := by decide +kernel
theorem dX11_wantsSwing_37 : decode cX11_wantsSwing 37 = .ok (.ireturn, 1) := by decide +kernel
theorem dX11_wantsEmphasis_0 : decode cX11_wantsEmphasis 0 = .ok (.iconst 3, 1) := by decide +kernel
theorem dX11_wantsEmphasis_1 : decode cX11_wantsEmphasis 1 = .ok (.aload_n 0, 1) := by decide +kernel
theorem dX11_wantsEmphasis_2 : decode cX11_wantsEmphasis 2 = .ok (.getfield 75, 3) := by decide +kernel
theorem dX11_wantsEmphasis_5 : decode cX11_wantsEmphasis 5 = .ok (.bipush 12, 2) := by decide +kernel
theorem dX11_wantsEmphasis_7 : decode cX11_wantsEmphasis 7 = .ok (.iload_n 1, 1) := by decide +kernel
theorem dX11_wantsEmphasis_8 : decode cX11_wantsEmphasis 8 = .ok (.iadd, 1) := by decide +kernel
theorem dX11_wantsEmphasis_9 : decode cX11_wantsEmphasis 9 = .ok (.iaload, 1) := by decide +kernel
theorem dX11_wantsEmphasis_10 : decode cX11_wantsEmphasis 10 = .ok (.imul, 1) := by decide +kernel
theorem dX11_wantsEmphasis_11 : decode cX11_wantsEmphasis 11 = .ok (.bipush 8, 2) := by decide +kernel
theorem dX11_wantsEmphasis_13 : decode cX11_wantsEmphasis 13 = .ok (.iadd, 1) := by decide +kernel
theorem dX11_wantsEmphasis_14 : decode cX11_wantsEmphasis 14 = .ok (.aload_n 0, 1) := by decide +kernel
theorem dX11_wantsEmphasis_15 : decode cX11_wantsEmphasis 15 = .ok (.getfield 81, 3) := by decide +kernel
theorem dX11_wantsEmphasis_18 : decode cX11_wantsEmphasis 18 = .ok (.iload_n 1, 1) := by decide +kernel
theorem dX11_wantsEmphasis_19 : decode cX11_wantsEmphasis 19 = .ok (.iaload, 1) := by decide +kernel
theorem dX11_wantsEmphasis_20 : decode cX11_wantsEmphasis 20 = .ok (.iconst 2, 1) := by decide +kernel
theorem dX11_wantsEmphasis_21 : decode cX11_wantsEmphasis 21 = .ok (.idiv, 1) := by decide +kernel
theorem dX11_wantsEmphasis_22 : decode cX11_wantsEmphasis 22 = .ok (.iconst 5, 1) := by decide +kernel
theorem dX11_wantsEmphasis_23 : decode cX11_wantsEmphasis 23 = .ok (.aload_n 0, 1) := by decide +kernel
theorem dX11_wantsEmphasis_24 : decode cX11_wantsEmphasis 24 = .ok (.getfield 75, 3) := by decide +kernel
theorem dX11_wantsEmphasis_27 : decode cX11_wantsEmphasis 27 = .ok (.iconst 2, 1) := by decide +kernel
theorem dX11_wantsEmphasis_28 : decode cX11_wantsEmphasis 28 = .ok (.iaload, 1) := by decide +kernel
theorem dX11_wantsEmphasis_29 : decode cX11_wantsEmphasis 29 = .ok (.imul, 1) := by decide +kernel
theorem dX11_wantsEmphasis_30 : decode cX11_wantsEmphasis 30 = .ok (.iadd, 1) := by decide +kernel
theorem dX11_wantsEmphasis_31 : decode cX11_wantsEmphasis 31 = .ok (.if_icmp .ge 7, 3) := by decide +kernel
theorem dX11_wantsEmphasis_34 : decode cX11_wantsEmphasis 34 = .ok (.iconst 1, 1) := by decide +kernel
theorem dX11_wantsEmphasis_35 : decode cX11_wantsEmphasis 35 = .ok (.goto 4, 3) := by decide +kernel
theorem dX11_wantsEmphasis_38 : decode cX11_wantsEmphasis 38 = .ok (.iconst 0, 1) := by decide +kernel
theorem dX11_wantsEmphasis_39 : decode cX11_wantsEmphasis 39 = .ok (.ireturn, 1) := by decide +kernel
theorem dX11_falls_0 : decode cX11_falls 0 = .ok (.bipush 24, 2) := by decide +kernel
theorem dX11_falls_2 : decode cX11_falls 2 = .ok (.iconst 4, 1) := by decide +kernel
theorem dX11_falls_3 : decode cX11_falls 3 = .ok (.aload_n 0, 1) := by decide +kernel
theorem dX11_falls_4 : decode cX11_falls 4 = .ok (.getfield 75, 3) := by decide +kernel
theorem dX11_falls_7 : decode cX11_falls 7 = .ok (.bipush 7, 2) := by decide +kernel
theorem dX11_falls_9 : decode cX11_falls 9 = .ok (.iaload, 1) := by decide +kernel
theorem dX11_falls_10 : decode cX11_falls 10 = .ok (.imul, 1) := by decide +kernel
theorem dX11_falls_11 : decode cX11_falls 11 = .ok (.iadd, 1) := by decide +kernel
theorem dX11_falls_12 : decode cX11_falls 12 = .ok (.istore_n 2, 1) := by decide +kernel
theorem dX11_falls_13 : decode cX11_falls 13 = .ok (.aload_n 0, 1) := by decide +kernel
theorem dX11_falls_14 : decode cX11_falls 14 = .ok (.iload_n 1, 1) := by decide +kernel
theorem dX11_falls_15 : decode cX11_falls 15 = .ok (.putfield 356, 3) := by decide +kernel
theorem dX11_falls_18 : decode cX11_falls 18 = .ok (.aload_n 0, 1) := by decide +kernel
theorem dX11_falls_19 : decode cX11_falls 19 = .ok (.getfield 75, 3) := by decide +kernel
theorem dX11_falls_22 : decode cX11_falls 22 = .ok (.iload_n 2, 1) := by decide +kernel
theorem dX11_falls_23 : decode cX11_falls 23 = .ok (.iload_n 1, 1) := by decide +kernel
theorem dX11_falls_24 : decode cX11_falls 24 = .ok (.iastore, 1) := by decide +kernel
theorem dX11_falls_25 : decode cX11_falls 25 = .ok (.aload_n 0, 1) := by decide +kernel
theorem dX11_falls_26 : decode cX11_falls 26 = .ok (.getfield 75, 3) := by decide +kernel
theorem dX11_falls_29 : decode cX11_falls 29 = .ok (.iload_n 2, 1) := by decide +kernel
theorem dX11_falls_30 : decode cX11_falls 30 = .ok (.iconst 1, 1) := by decide +kernel
theorem dX11_falls_31 : decode cX11_falls 31 = .ok (.iadd, 1) := by decide +kernel
theorem dX11_falls_32 : decode cX11_falls 32 = .ok (.aload_n 0, 1) := by decide +kernel
theorem dX11_falls_33 : decode cX11_falls 33 = .ok (.getfield 75, 3) := by decide +kernel
theorem dX11_falls_36 : decode cX11_falls 36 = .ok (.iconst 1, 1) := by decide +kernel
theorem dX11_falls_37 : decode cX11_falls 37 = .ok (.iaload, 1) := by decide +kernel
theorem dX11_falls_38 : decode cX11_falls 38 = .ok (.iastore, 1) := by decide +kernel
theorem dX11_falls_39 : decode cX11_falls 39 = .ok (.aload_n 0, 1) := by decide +kernel
theorem dX11_falls_40 : decode cX11_falls 40 = .ok (.getfield 75, 3) := by decide +kernel
theorem dX11_falls_43 : decode cX11_falls 43 = .ok (.iload_n 2, 1) := by decide +kernel
theorem dX11_falls_44 : decode cX11_falls 44 = .ok (.iconst 2, 1) := by decide +kernel
theorem dX11_falls_45 : decode cX11_falls 45 = .ok (.iadd, 1) := by decide +kernel
theorem dX11_falls_46 : decode cX11_falls 46 = .ok (.aload_n 0, 1) := by decide +kernel
theorem dX11_falls_47 : decode cX11_falls 47 = .ok (.getfield 75, 3) := by decide +kernel
theorem dX11_falls_50 : decode cX11_falls 50 = .ok (.iconst 2, 1) := by decide +kernel
theorem dX11_falls_51 : decode cX11_falls 51 = .ok (.iaload, 1) := by decide +kernel
theorem dX11_falls_52 : decode cX11_falls 52 = .ok (.iastore, 1) := by decide +kernel
theorem dX11_falls_53 : decode cX11_falls 53 = .ok (.aload_n 0, 1) := by decide +kernel
theorem dX11_falls_54 : decode cX11_falls 54 = .ok (.getfield 75, 3) := by decide +kernel
theorem dX11_falls_57 : decode cX11_falls 57 = .ok (.iload_n 2, 1) := by decide +kernel
theorem dX11_falls_58 : decode cX11_falls 58 = .ok (.iconst 3, 1) := by decide +kernel
theorem dX11_falls_59 : decode cX11_falls 59 = .ok (.iadd, 1) := by decide +kernel
theorem dX11_falls_60 : decode cX11_falls 60 = .ok (.aload_n 0, 1) := by decide +kernel
theorem dX11_falls_61 : decode cX11_falls 61 = .ok (.getfield 75, 3) := by decide +kernel
theorem dX11_falls_64 : decode cX11_falls 64 = .ok (.iconst 0, 1) := by decide +kernel
theorem dX11_falls_65 : decode cX11_falls 65 = .ok (.iaload, 1) := by decide +kernel
theorem dX11_falls_66 : decode cX11_falls 66 = .ok (.iconst 1, 1) := by decide +kernel
theorem dX11_falls_67 : decode cX11_falls 67 = .ok (.if_icmp .ne 12, 3) := by decide +kernel
theorem dX11_falls_70 : decode cX11_falls 70 = .ok (.aload_n 0, 1) := by decide +kernel
theorem dX11_falls_71 : decode cX11_falls 71 = .ok (.getfield 75, 3) := by decide +kernel
theorem dX11_falls_74 : decode cX11_falls 74 = .ok (.iconst 3, 1) := by decide +kernel
theorem dX11_falls_75 : decode cX11_falls 75 = .ok (.iaload, 1) := by decide +kernel
theorem dX11_falls_76 : decode cX11_falls 76 = .ok (.goto 9, 3) := by decide +kernel
theorem dX11_falls_79 : decode cX11_falls 79 = .ok (.aload_n 0, 1) := by decide +kernel
theorem dX11_falls_80 : decode cX11_falls 80 = .ok (.getfield 75, 3) := by decide +kernel
theorem dX11_falls_83 : decode cX11_falls 83 = .ok (.iconst 5, 1) := by decide +kernel
theorem dX11_falls_84 : decode cX11_falls 84 = .ok (.iaload, 1) := by decide +kernel
theorem dX11_falls_85 : decode cX11_falls 85 = .ok (.iastore, 1) := by decide +kernel
theorem dX11_falls_86 : decode cX11_falls 86 = .ok (.aload_n 0, 1) := by decide +kernel
theorem dX11_falls_87 : decode cX11_falls 87 = .ok (.getfield 75, 3) := by decide +kernel
theorem dX11_falls_90 : decode cX11_falls 90 = .ok (.bipush 7, 2) := by decide +kernel
theorem dX11_falls_92 : decode cX11_falls 92 = .ok (.dup2, 1) := by decide +kernel
theorem dX11_falls_93 : decode cX11_falls 93 = .ok (.iaload, 1) := by decide +kernel
theorem dX11_falls_94 : decode cX11_falls 94 = .ok (.iconst 1, 1) := by decide +kernel
theorem dX11_falls_95 : decode cX11_falls 95 = .ok (.iadd, 1) := by decide +kernel
theorem dX11_falls_96 : decode cX11_falls 96 = .ok (.iastore, 1) := by decide +kernel
theorem dX11_falls_97 : decode cX11_falls 97 = .ok (.aload_n 0, 1) := by decide +kernel
theorem dX11_falls_98 : decode cX11_falls 98 = .ok (.getfield 75, 3) := by decide +kernel
theorem dX11_falls_101 : decode cX11_falls 101 = .ok (.iconst 0, 1) := by decide +kernel
theorem dX11_falls_102 : decode cX11_falls 102 = .ok (.iaload, 1) := by decide +kernel
theorem dX11_falls_103 : decode cX11_falls 103 = .ok (.iconst 1, 1) := by decide +kernel
theorem dX11_falls_104 : decode cX11_falls 104 = .ok (.if_icmp .ne 7, 3) := by decide +kernel
theorem dX11_falls_107 : decode cX11_falls 107 = .ok (.iconst 1, 1) := by decide +kernel
theorem dX11_falls_108 : decode cX11_falls 108 = .ok (.goto 4, 3) := by decide +kernel
theorem dX11_falls_111 : decode cX11_falls 111 = .ok (.iconst 0, 1) := by decide +kernel
theorem dX11_falls_112 : decode cX11_falls 112 = .ok (.istore_n 3, 1) := by decide +kernel
theorem dX11_falls_113 : decode cX11_falls 113 = .ok (.aload_n 0, 1) := by decide +kernel
theorem dX11_falls_114 : decode cX11_falls 114 = .ok (.getfield 75, 3) := by decide +kernel
theorem dX11_falls_117 : decode cX11_falls 117 = .ok (.iconst 1, 1) := by decide +kernel
theorem dX11_falls_118 : decode cX11_falls 118 = .ok (.iaload, 1) := by decide +kernel
theorem dX11_falls_119 : decode cX11_falls 119 = .ok (.iconst 1, 1) := by decide +kernel
theorem dX11_falls_120 : decode cX11_falls 120 = .ok (.if_icmp .ne 24, 3) := by decide +kernel
theorem dX11_falls_123 : decode cX11_falls 123 = .ok (.aload_n 0, 1) := by decide +kernel
theorem dX11_falls_124 : decode cX11_falls 124 = .ok (.getfield 75, 3) := by decide +kernel
theorem dX11_falls_127 : decode cX11_falls 127 = .ok (.iconst 2, 1) := by decide +kernel
theorem dX11_falls_128 : decode cX11_falls 128 = .ok (.iaload, 1) := by decide +kernel
theorem dX11_falls_129 : decode cX11_falls 129 = .ok (.ifCond .ne 15, 3) := by decide +kernel
theorem dX11_falls_132 : decode cX11_falls 132 = .ok (.aload_n 0, 1) := by decide +kernel
theorem dX11_falls_133 : decode cX11_falls 133 = .ok (.invokevirtual 350, 3) := by decide +kernel
theorem dX11_falls_136 : decode cX11_falls 136 = .ok (.aload_n 0, 1) := by decide +kernel
theorem dX11_falls_137 : decode cX11_falls 137 = .ok (.getfield 75, 3) := by decide +kernel
theorem dX11_falls_140 : decode cX11_falls 140 = .ok (.iconst 0, 1) := by decide +kernel
theorem dX11_falls_141 : decode cX11_falls 141 = .ok (.iconst 4, 1) := by decide +kernel
theorem dX11_falls_142 : decode cX11_falls 142 = .ok (.iastore, 1) := by decide +kernel
theorem dX11_falls_143 : decode cX11_falls 143 = .ok (.return_, 1) := by decide +kernel
theorem dX11_falls_144 : decode cX11_falls 144 = .ok (.iload_n 3, 1) := by decide +kernel
theorem dX11_falls_145 : decode cX11_falls 145 = .ok (.ifCond .eq 20, 3) := by decide +kernel
theorem dX11_falls_148 : decode cX11_falls 148 = .ok (.aload_n 0, 1) := by decide +kernel
theorem dX11_falls_149 : decode cX11_falls 149 = .ok (.getfield 75, 3) := by decide +kernel
theorem dX11_falls_152 : decode cX11_falls 152 = .ok (.iconst 2, 1) := by decide +kernel
theorem dX11_falls_153 : decode cX11_falls 153 = .ok (.iaload, 1) := by decide +kernel
theorem dX11_falls_154 : decode cX11_falls 154 = .ok (.ifCond .le 7, 3) := by decide +kernel
theorem dX11_falls_157 : decode cX11_falls 157 = .ok (.iconst 1, 1) := by decide +kernel
theorem dX11_falls_158 : decode cX11_falls 158 = .ok (.goto 22, 3) := by decide +kernel
theorem dX11_falls_161 : decode cX11_falls 161 = .ok (.iconst 0, 1) := by decide +kernel
theorem dX11_falls_162 : decode cX11_falls 162 = .ok (.goto 18, 3) := by decide +kernel
theorem dX11_falls_165 : decode cX11_falls 165 = .ok (.aload_n 0, 1) := by decide +kernel
theorem dX11_falls_166 : decode cX11_falls 166 = .ok (.getfield 75, 3) := by decide +kernel
theorem dX11_falls_169 : decode cX11_falls 169 = .ok (.iconst 1, 1) := by decide +kernel
theorem dX11_falls_170 : decode cX11_falls 170 = .ok (.iaload, 1) := by decide +kernel
theorem dX11_falls_171 : decode cX11_falls 171 = .ok (.iconst 1, 1) := by decide +kernel
theorem dX11_falls_172 : decode cX11_falls 172 = .ok (.if_icmp .ne 7, 3) := by decide +kernel
theorem dX11_falls_175 : decode cX11_falls 175 = .ok (.iconst 1, 1) := by decide +kernel
theorem dX11_falls_176 : decode cX11_falls 176 = .ok (.goto 4, 3) := by decide +kernel
theorem dX11_falls_179 : decode cX11_falls 179 = .ok (.iconst 0, 1) := by decide +kernel
theorem dX11_falls_180 : decode cX11_falls 180 = .ok (.istore 4, 2) := by decide +kernel
theorem dX11_falls_182 : decode cX11_falls 182 = .ok (.iload 4, 2) := by decide +kernel
theorem dX11_falls_184 : decode cX11_falls 184 = .ok (.ifCond .eq 16, 3) := by decide +kernel
theorem dX11_falls_187 : decode cX11_falls 187 = .ok (.aload_n 0, 1) := by decide +kernel
theorem dX11_falls_188 : decode cX11_falls 188 = .ok (.getfield 75, 3) := by decide +kernel
theorem dX11_falls_191 : decode cX11_falls 191 = .ok (.iconst 2, 1) := by decide +kernel
theorem dX11_falls_192 : decode cX11_falls 192 = .ok (.dup2, 1) := by decide +kernel
theorem dX11_falls_193 : decode cX11_falls 193 = .ok (.iaload, 1) := by decide +kernel
theorem dX11_falls_194 : decode cX11_falls 194 = .ok (.iconst 1, 1) := by decide +kernel
theorem dX11_falls_195 : decode cX11_falls 195 = .ok (.isub, 1) := by decide +kernel
theorem dX11_falls_196 : decode cX11_falls 196 = .ok (.iastore, 1) := by decide +kernel
theorem dX11_falls_197 : decode cX11_falls 197 = .ok (.goto 27, 3) := by decide +kernel
theorem dX11_falls_200 : decode cX11_falls 200 = .ok (.aload_n 0, 1) := by decide +kernel
theorem dX11_falls_201 : decode cX11_falls 201 = .ok (.getfield 75, 3) := by decide +kernel
theorem dX11_falls_204 : decode cX11_falls 204 = .ok (.iconst 1, 1) := by decide +kernel
theorem dX11_falls_205 : decode cX11_falls 205 = .ok (.dup2, 1) := by decide +kernel
theorem dX11_falls_206 : decode cX11_falls 206 = .ok (.iaload, 1) := by decide +kernel
theorem dX11_falls_207 : decode cX11_falls 207 = .ok (.iconst 2, 1) := by decide +kernel
theorem dX11_falls_208 : decode cX11_falls 208 = .ok (.idiv, 1) := by decide +kernel
theorem dX11_falls_209 : decode cX11_falls 209 = .ok (.iastore, 1) := by decide +kernel
theorem dX11_falls_210 : decode cX11_falls 210 = .ok (.iload_n 3, 1) := by decide +kernel
theorem dX11_falls_211 : decode cX11_falls 211 = .ok (.ifCond .eq 13, 3) := by decide +kernel
theorem dX11_falls_214 : decode cX11_falls 214 = .ok (.aload_n 0, 1) := by decide +kernel
theorem dX11_falls_215 : decode cX11_falls 215 = .ok (.getfield 75, 3) := by decide +kernel
theorem dX11_falls_218 : decode cX11_falls 218 = .ok (.iconst 2, 1) := by decide +kernel
theorem dX11_falls_219 : decode cX11_falls 219 = .ok (.aload_n 0, 1) := by decide +kernel
theorem dX11_falls_220 : decode cX11_falls 220 = .ok (.getfield 72, 3) := by decide +kernel
theorem dX11_falls_223 : decode cX11_falls 223 = .ok (.iastore, 1) := by decide +kernel
theorem dX11_falls_224 : decode cX11_falls 224 = .ok (.aload_n 0, 1) := by decide +kernel
theorem dX11_falls_225 : decode cX11_falls 225 = .ok (.invokevirtual 350, 3) := by decide +kernel
theorem dX11_falls_228 : decode cX11_falls 228 = .ok (.return_, 1) := by decide +kernel
theorem dX11_triesClock_0 : decode cX11_triesClock 0 = .ok (.aload_n 0, 1) := by decide +kernel
theorem dX11_triesClock_1 : decode cX11_triesClock 1 = .ok (.getfield 75, 3) := by decide +kernel
theorem dX11_triesClock_4 : decode cX11_triesClock 4 = .ok (.iconst 3, 1) := by decide +kernel
theorem dX11_triesClock_5 : decode cX11_triesClock 5 = .ok (.dup2, 1) := by decide +kernel
theorem dX11_triesClock_6 : decode cX11_triesClock 6 = .ok (.iaload, 1) := by decide +kernel
theorem dX11_triesClock_7 : decode cX11_triesClock 7 = .ok (.iconst 1, 1) := by decide +kernel
theorem dX11_triesClock_8 : decode cX11_triesClock 8 = .ok (.iadd, 1) := by decide +kernel
theorem dX11_triesClock_9 : decode cX11_triesClock 9 = .ok (.iastore, 1) := by decide +kernel
theorem dX11_triesClock_10 : decode cX11_triesClock 10 = .ok (.aload_n 0, 1) := by decide +kernel
theorem dX11_triesClock_11 : decode cX11_triesClock 11 = .ok (.getfield 75, 3) := by decide +kernel
theorem dX11_triesClock_14 : decode cX11_triesClock 14 = .ok (.iconst 4, 1) := by decide +kernel
theorem dX11_triesClock_15 : decode cX11_triesClock 15 = .ok (.dup2, 1) := by decide +kernel
theorem dX11_triesClock_16 : decode cX11_triesClock 16 = .ok (.iaload, 1) := by decide +kernel
theorem dX11_triesClock_17 : decode cX11_triesClock 17 = .ok (.iconst 1, 1) := by decide +kernel
theorem dX11_triesClock_18 : decode cX11_triesClock 18 = .ok (.iadd, 1) := by decide +kernel
theorem dX11_triesClock_19 : decode cX11_triesClock 19 = .ok (.iastore, 1) := by decide +kernel
theorem dX11_triesClock_20 : decode cX11_triesClock 20 = .ok (.iconst 1, 1) := by decide +kernel
theorem dX11_triesClock_21 : decode cX11_triesClock 21 = .ok (.istore_n 1, 1) := by decide +kernel
theorem dX11_triesClock_22 : decode cX11_triesClock 22 = .ok (.iconst 0, 1) := by decide +kernel
theorem dX11_triesClock_23 : decode cX11_triesClock 23 = .ok (.istore_n 2, 1) := by decide +kernel
theorem dX11_triesClock_24 : decode cX11_triesClock 24 = .ok (.iconst 0, 1) := by decide +kernel
theorem dX11_triesClock_25 : decode cX11_triesClock 25 = .ok (.istore_n 3, 1) := by decide +kernel
theorem dX11_triesClock_26 : decode cX11_triesClock 26 = .ok (.iload_n 3, 1) := by decide +kernel
theorem dX11_triesClock_27 : decode cX11_triesClock 27 = .ok (.aload_n 0, 1) := by decide +kernel
theorem dX11_triesClock_28 : decode cX11_triesClock 28 = .ok (.getfield 75, 3) := by decide +kernel
theorem dX11_triesClock_31 : decode cX11_triesClock 31 = .ok (.iconst 1, 1) := by decide +kernel
theorem dX11_triesClock_32 : decode cX11_triesClock 32 = .ok (.iaload, 1) := by decide +kernel
theorem dX11_triesClock_33 : decode cX11_triesClock 33 = .ok (.if_icmp .ge 125, 3) := by decide +kernel
theorem dX11_triesClock_36 : decode cX11_triesClock 36 = .ok (.aload_n 0, 1) := by decide +kernel
theorem dX11_triesClock_37 : decode cX11_triesClock 37 = .ok (.iload_n 3, 1) := by decide +kernel
theorem dX11_triesClock_38 : decode cX11_triesClock 38 = .ok (.invokevirtual 359, 3) := by decide +kernel
theorem dX11_triesClock_41 : decode cX11_triesClock 41 = .ok (.ifCond .ne 22, 3) := by decide +kernel
theorem dX11_triesClock_44 : decode cX11_triesClock 44 = .ok (.aload_n 0, 1) := by decide +kernel
theorem dX11_triesClock_45 : decode cX11_triesClock 45 = .ok (.getfield 75, 3) := by decide +kernel
theorem dX11_triesClock_48 : decode cX11_triesClock 48 = .ok (.iconst 3, 1) := by decide +kernel
theorem dX11_triesClock_49 : decode cX11_triesClock 49 = .ok (.iaload, 1) := by decide +kernel
theorem dX11_triesClock_50 : decode cX11_triesClock 50 = .ok (.aload_n 0, 1) := by decide +kernel
theorem dX11_triesClock_51 : decode cX11_triesClock 51 = .ok (.getfield 84, 3) := by decide +kernel
theorem dX11_triesClock_54 : decode cX11_triesClock 54 = .ok (.iload_n 3, 1) := by decide +kernel
theorem dX11_triesClock_55 : decode cX11_triesClock 55 = .ok (.iaload, 1) := by decide +kernel
theorem dX11_triesClock_56 : decode cX11_triesClock 56 = .ok (.if_icmp .le 7, 3) := by decide +kernel
theorem dX11_triesClock_59 : decode cX11_triesClock 59 = .ok (.iconst 1, 1) := by decide +kernel
theorem dX11_triesClock_60 : decode cX11_triesClock 60 = .ok (.goto 4, 3) := by decide +kernel
theorem dX11_triesClock_63 : decode cX11_triesClock 63 = .ok (.iconst 0, 1) := by decide +kernel
theorem dX11_triesClock_64 : decode cX11_triesClock 64 = .ok (.istore 4, 2) := by decide +kernel
theorem dX11_triesClock_66 : decode cX11_triesClock 66 = .ok (.aload_n 0, 1) := by decide +kernel
theorem dX11_triesClock_67 : decode cX11_triesClock 67 = .ok (.getfield 75, 3) := by decide +kernel
theorem dX11_triesClock_70 : decode cX11_triesClock 70 = .ok (.bipush 16, 2) := by decide +kernel
theorem dX11_triesClock_72 : decode cX11_triesClock 72 = .ok (.iload_n 3, 1) := by decide +kernel
theorem dX11_triesClock_73 : decode cX11_triesClock 73 = .ok (.iadd, 1) := by decide +kernel
theorem dX11_triesClock_74 : decode cX11_triesClock 74 = .ok (.iload 4, 2) := by decide +kernel
theorem dX11_triesClock_76 : decode cX11_triesClock 76 = .ok (.ifCond .eq 7, 3) := by decide +kernel
theorem dX11_triesClock_79 : decode cX11_triesClock 79 = .ok (.iconst 1, 1) := by decide +kernel
theorem dX11_triesClock_80 : decode cX11_triesClock 80 = .ok (.goto 4, 3) := by decide +kernel
theorem dX11_triesClock_83 : decode cX11_triesClock 83 = .ok (.iconst 0, 1) := by decide +kernel
theorem dX11_triesClock_84 : decode cX11_triesClock 84 = .ok (.iastore, 1) := by decide +kernel
theorem dX11_triesClock_85 : decode cX11_triesClock 85 = .ok (.aload_n 0, 1) := by decide +kernel
theorem dX11_triesClock_86 : decode cX11_triesClock 86 = .ok (.dup, 1) := by decide +kernel
theorem dX11_triesClock_87 : decode cX11_triesClock 87 = .ok (.getfield 362, 3) := by decide +kernel
theorem dX11_triesClock_90 : decode cX11_triesClock 90 = .ok (.iload 4, 2) := by decide +kernel
theorem dX11_triesClock_92 : decode cX11_triesClock 92 = .ok (.ifCond .eq 9, 3) := by decide +kernel
theorem dX11_triesClock_95 : decode cX11_triesClock 95 = .ok (.iconst 1, 1) := by decide +kernel
theorem dX11_triesClock_96 : decode cX11_triesClock 96 = .ok (.iload_n 3, 1) := by decide +kernel
theorem dX11_triesClock_97 : decode cX11_triesClock 97 = .ok (.ishl, 1) := by decide +kernel
theorem dX11_triesClock_98 : decode cX11_triesClock 98 = .ok (.goto 4, 3) := by decide +kernel
theorem dX11_triesClock_101 : decode cX11_triesClock 101 = .ok (.iconst 0, 1) := by decide +kernel
theorem dX11_triesClock_102 : decode cX11_triesClock 102 = .ok (.ior, 1) := by decide +kernel
theorem dX11_triesClock_103 : decode cX11_triesClock 103 = .ok (.putfield 362, 3) := by decide +kernel
theorem dX11_triesClock_106 : decode cX11_triesClock 106 = .ok (.iload_n 1, 1) := by decide +kernel
theorem dX11_triesClock_107 : decode cX11_triesClock 107 = .ok (.ifCond .eq 12, 3) := by decide +kernel
theorem dX11_triesClock_110 : decode cX11_triesClock 110 = .ok (.iload 4, 2) := by decide +kernel
theorem dX11_triesClock_112 : decode cX11_triesClock 112 = .ok (.ifCond .eq 7, 3) := by decide +kernel
theorem dX11_triesClock_115 : decode cX11_triesClock 115 = .ok (.iconst 1, 1) := by decide +kernel
theorem dX11_triesClock_116 : decode cX11_triesClock 116 = .ok (.goto 4, 3) := by decide +kernel
theorem dX11_triesClock_119 : decode cX11_triesClock 119 = .ok (.iconst 0, 1) := by decide +kernel
theorem dX11_triesClock_120 : decode cX11_triesClock 120 = .ok (.istore_n 1, 1) := by decide +kernel
theorem dX11_triesClock_121 : decode cX11_triesClock 121 = .ok (.iload_n 2, 1) := by decide +kernel
theorem dX11_triesClock_122 : decode cX11_triesClock 122 = .ok (.ifCond .ne 24, 3) := by decide +kernel
theorem dX11_triesClock_125 : decode cX11_triesClock 125 = .ok (.aload_n 0, 1) := by decide +kernel
theorem dX11_triesClock_126 : decode cX11_triesClock 126 = .ok (.iload_n 3, 1) := by decide +kernel
theorem dX11_triesClock_127 : decode cX11_triesClock 127 = .ok (.invokevirtual 359, 3) := by decide +kernel
theorem dX11_triesClock_130 : decode cX11_triesClock 130 = .ok (.ifCond .eq 20, 3) := by decide +kernel
theorem dX11_triesClock_133 : decode cX11_triesClock 133 = .ok (.aload_n 0, 1) := by decide +kernel
theorem dX11_triesClock_134 : decode cX11_triesClock 134 = .ok (.getfield 75, 3) := by decide +kernel
theorem dX11_triesClock_137 : decode cX11_triesClock 137 = .ok (.bipush 8, 2) := by decide +kernel
theorem dX11_triesClock_139 : decode cX11_triesClock 139 = .ok (.iload_n 3, 1) := by decide +kernel
theorem dX11_triesClock_140 : decode cX11_triesClock 140 = .ok (.iadd, 1) := by decide +kernel
theorem dX11_triesClock_141 : decode cX11_triesClock 141 = .ok (.iaload, 1) := by decide +kernel
theorem dX11_triesClock_142 : decode cX11_triesClock 142 = .ok (.iconst 3, 1) := by decide +kernel
theorem dX11_triesClock_143 : decode cX11_triesClock 143 = .ok (.if_icmp .ne 7, 3) := by decide +kernel
theorem dX11_triesClock_146 : decode cX11_triesClock 146 = .ok (.iconst 1, 1) := by decide +kernel
theorem dX11_triesClock_147 : decode cX11_triesClock 147 = .ok (.goto 4, 3) := by decide +kernel
theorem dX11_triesClock_150 : decode cX11_triesClock 150 = .ok (.iconst 0, 1) := by decide +kernel
theorem dX11_triesClock_151 : decode cX11_triesClock 151 = .ok (.istore_n 2, 1) := by decide +kernel
theorem dX11_triesClock_152 : decode cX11_triesClock 152 = .ok (.iinc 3 1, 3) := by decide +kernel
theorem dX11_triesClock_155 : decode cX11_triesClock 155 = .ok (.goto (-129), 3) := by decide +kernel
theorem dX11_triesClock_158 : decode cX11_triesClock 158 = .ok (.iload_n 1, 1) := by decide +kernel
theorem dX11_triesClock_159 : decode cX11_triesClock 159 = .ok (.ifCond .eq 17, 3) := by decide +kernel
theorem dX11_triesClock_162 : decode cX11_triesClock 162 = .ok (.aload_n 0, 1) := by decide +kernel
theorem dX11_triesClock_163 : decode cX11_triesClock 163 = .ok (.getfield 75, 3) := by decide +kernel
theorem dX11_triesClock_166 : decode cX11_triesClock 166 = .ok (.iconst 0, 1) := by decide +kernel
theorem dX11_triesClock_167 : decode cX11_triesClock 167 = .ok (.iconst 2, 1) := by decide +kernel
theorem dX11_triesClock_168 : decode cX11_triesClock 168 = .ok (.iastore, 1) := by decide +kernel
theorem dX11_triesClock_169 : decode cX11_triesClock 169 = .ok (.aload_n 0, 1) := by decide +kernel
theorem dX11_triesClock_170 : decode cX11_triesClock 170 = .ok (.bipush 7, 2) := by decide +kernel
theorem dX11_triesClock_172 : decode cX11_triesClock 172 = .ok (.putfield 356, 3) := by decide +kernel
theorem dX11_triesClock_175 : decode cX11_triesClock 175 = .ok (.return_, 1) := by decide +kernel
theorem dX11_triesClock_176 : decode cX11_triesClock 176 = .ok (.iload_n 2, 1) := by decide +kernel
theorem dX11_triesClock_177 : decode cX11_triesClock 177 = .ok (.ifCond .ne 25, 3) := by decide +kernel
theorem dX11_triesClock_180 : decode cX11_triesClock 180 = .ok (.aload_n 0, 1) := by decide +kernel
theorem dX11_triesClock_181 : decode cX11_triesClock 181 = .ok (.getfield 75, 3) := by decide +kernel
theorem dX11_triesClock_184 : decode cX11_triesClock 184 = .ok (.iconst 3, 1) := by decide +kernel
theorem dX11_triesClock_185 : decode cX11_triesClock 185 = .ok (.iaload, 1) := by decide +kernel
theorem dX11_triesClock_186 : decode cX11_triesClock 186 = .ok (.bipush 10, 2) := by decide +kernel
theorem dX11_triesClock_188 : decode cX11_triesClock 188 = .ok (.if_icmp .eq 14, 3) := by decide +kernel
theorem dX11_triesClock_191 : decode cX11_triesClock 191 = .ok (.aload_n 0, 1) := by decide +kernel
theorem dX11_triesClock_192 : decode cX11_triesClock 192 = .ok (.getfield 75, 3) := by decide +kernel
theorem dX11_triesClock_195 : decode cX11_triesClock 195 = .ok (.iconst 4, 1) := by decide +kernel
theorem dX11_triesClock_196 : decode cX11_triesClock 196 = .ok (.iaload, 1) := by decide +kernel
theorem dX11_triesClock_197 : decode cX11_triesClock 197 = .ok (.bipush 7, 2) := by decide +kernel
theorem dX11_triesClock_199 : decode cX11_triesClock 199 = .ok (.if_icmp .ne 32, 3) := by decide +kernel
theorem dX11_triesClock_202 : decode cX11_triesClock 202 = .ok (.aload_n 0, 1) := by decide +kernel
theorem dX11_triesClock_203 : decode cX11_triesClock 203 = .ok (.iload_n 2, 1) := by decide +kernel
theorem dX11_triesClock_204 : decode cX11_triesClock 204 = .ok (.ifCond .eq 7, 3) := by decide +kernel
theorem dX11_triesClock_207 : decode cX11_triesClock 207 = .ok (.iconst 1, 1) := by decide +kernel
theorem dX11_triesClock_208 : decode cX11_triesClock 208 = .ok (.goto 19, 3) := by decide +kernel
theorem dX11_triesClock_211 : decode cX11_triesClock 211 = .ok (.aload_n 0, 1) := by decide +kernel
theorem dX11_triesClock_212 : decode cX11_triesClock 212 = .ok (.getfield 75, 3) := by decide +kernel
theorem dX11_triesClock_215 : decode cX11_triesClock 215 = .ok (.iconst 3, 1) := by decide +kernel
theorem dX11_triesClock_216 : decode cX11_triesClock 216 = .ok (.iaload, 1) := by decide +kernel
theorem dX11_triesClock_217 : decode cX11_triesClock 217 = .ok (.bipush 10, 2) := by decide +kernel
theorem dX11_triesClock_219 : decode cX11_triesClock 219 = .ok (.if_icmp .ne 7, 3) := by decide +kernel
theorem dX11_triesClock_222 : decode cX11_triesClock 222 = .ok (.iconst 2, 1) := by decide +kernel
theorem dX11_triesClock_223 : decode cX11_triesClock 223 = .ok (.goto 4, 3) := by decide +kernel
theorem dX11_triesClock_226 : decode cX11_triesClock 226 = .ok (.iconst 3, 1) := by decide +kernel
theorem dX11_triesClock_227 : decode cX11_triesClock 227 = .ok (.invokevirtual 365, 3) := by decide +kernel
theorem dX11_triesClock_230 : decode cX11_triesClock 230 = .ok (.return_, 1) := by decide +kernel
theorem dX11_triesClock_231 : decode cX11_triesClock 231 = .ok (.iconst 0, 1) := by decide +kernel
theorem dX11_triesClock_232 : decode cX11_triesClock 232 = .ok (.istore_n 3, 1) := by decide +kernel
theorem dX11_triesClock_233 : decode cX11_triesClock 233 = .ok (.iload_n 3, 1) := by decide +kernel
theorem dX11_triesClock_234 : decode cX11_triesClock 234 = .ok (.aload_n 0, 1) := by decide +kernel
theorem dX11_triesClock_235 : decode cX11_triesClock 235 = .ok (.getfield 75, 3) := by decide +kernel
theorem dX11_triesClock_238 : decode cX11_triesClock 238 = .ok (.iconst 1, 1) := by decide +kernel
theorem dX11_triesClock_239 : decode cX11_triesClock 239 = .ok (.iaload, 1) := by decide +kernel
theorem dX11_triesClock_240 : decode cX11_triesClock 240 = .ok (.if_icmp .ge 40, 3) := by decide +kernel
theorem dX11_triesClock_243 : decode cX11_triesClock 243 = .ok (.aload_n 0, 1) := by decide +kernel
theorem dX11_triesClock_244 : decode cX11_triesClock 244 = .ok (.iload_n 3, 1) := by decide +kernel
theorem dX11_triesClock_245 : decode cX11_triesClock 245 = .ok (.invokevirtual 359, 3) := by decide +kernel
theorem dX11_triesClock_248 : decode cX11_triesClock 248 = .ok (.ifCond .ne 6, 3) := by decide +kernel
theorem dX11_triesClock_251 : decode cX11_triesClock 251 = .ok (.goto 23, 3) := by decide +kernel
theorem dX11_triesClock_254 : decode cX11_triesClock 254 = .ok (.aload_n 0, 1) := by decide +kernel
theorem dX11_triesClock_255 : decode cX11_triesClock 255 = .ok (.getfield 75, 3) := by decide +kernel
theorem dX11_triesClock_258 : decode cX11_triesClock 258 = .ok (.bipush 8, 2) := by decide +kernel
theorem dX11_triesClock_260 : decode cX11_triesClock 260 = .ok (.iload_n 3, 1) := by decide +kernel
theorem dX11_triesClock_261 : decode cX11_triesClock 261 = .ok (.iadd, 1) := by decide +kernel
theorem dX11_triesClock_262 : decode cX11_triesClock 262 = .ok (.dup2, 1) := by decide +kernel
theorem dX11_triesClock_263 : decode cX11_triesClock 263 = .ok (.iaload, 1) := by decide +kernel
theorem dX11_triesClock_264 : decode cX11_triesClock 264 = .ok (.iconst 1, 1) := by decide +kernel
theorem dX11_triesClock_265 : decode cX11_triesClock 265 = .ok (.iadd, 1) := by decide +kernel
theorem dX11_triesClock_266 : decode cX11_triesClock 266 = .ok (.iastore, 1) := by decide +kernel
theorem dX11_triesClock_267 : decode cX11_triesClock 267 = .ok (.aload_n 0, 1) := by decide +kernel
theorem dX11_triesClock_268 : decode cX11_triesClock 268 = .ok (.getfield 75, 3) := by decide +kernel
theorem dX11_triesClock_271 : decode cX11_triesClock 271 = .ok (.iconst 4, 1) := by decide +kernel
theorem dX11_triesClock_272 : decode cX11_triesClock 272 = .ok (.iconst 0, 1) := by decide +kernel
theorem dX11_triesClock_273 : decode cX11_triesClock 273 = .ok (.iastore, 1) := by decide +kernel
theorem dX11_triesClock_274 : decode cX11_triesClock 274 = .ok (.iinc 3 1, 3) := by decide +kernel
theorem dX11_triesClock_277 : decode cX11_triesClock 277 = .ok (.goto (-44), 3) := by decide +kernel
theorem dX11_triesClock_280 : decode cX11_triesClock 280 = .ok (.return_, 1) := by decide +kernel
theorem dX11_triesEven_0 : decode cX11_triesEven 0 = .ok (.aload_n 0, 1) := by decide +kernel
theorem dX11_triesEven_1 : decode cX11_triesEven 1 = .ok (.getfield 75, 3) := by decide +kernel
theorem dX11_triesEven_4 : decode cX11_triesEven 4 = .ok (.iconst 5, 1) := by decide +kernel
theorem dX11_triesEven_5 : decode cX11_triesEven 5 = .ok (.dup2, 1) := by decide +kernel
theorem dX11_triesEven_6 : decode cX11_triesEven 6 = .ok (.iaload, 1) := by decide +kernel
theorem dX11_triesEven_7 : decode cX11_triesEven 7 = .ok (.iconst 1, 1) := by decide +kernel
theorem dX11_triesEven_8 : decode cX11_triesEven 8 = .ok (.iadd, 1) := by decide +kernel
theorem dX11_triesEven_9 : decode cX11_triesEven 9 = .ok (.iastore, 1) := by decide +kernel
theorem dX11_triesEven_10 : decode cX11_triesEven 10 = .ok (.iconst 1, 1) := by decide +kernel
theorem dX11_triesEven_11 : decode cX11_triesEven 11 = .ok (.istore_n 1, 1) := by decide +kernel
theorem dX11_triesEven_12 : decode cX11_triesEven 12 = .ok (.iconst 0, 1) := by decide +kernel
theorem dX11_triesEven_13 : decode cX11_triesEven 13 = .ok (.istore_n 2, 1) := by decide +kernel
theorem dX11_triesEven_14 : decode cX11_triesEven 14 = .ok (.iconst 0, 1) := by decide +kernel
theorem dX11_triesEven_15 : decode cX11_triesEven 15 = .ok (.istore_n 3, 1) := by decide +kernel
theorem dX11_triesEven_16 : decode cX11_triesEven 16 = .ok (.iconst 0, 1) := by decide +kernel
theorem dX11_triesEven_17 : decode cX11_triesEven 17 = .ok (.istore 4, 2) := by decide +kernel
theorem dX11_triesEven_19 : decode cX11_triesEven 19 = .ok (.iload 4, 2) := by decide +kernel
theorem dX11_triesEven_21 : decode cX11_triesEven 21 = .ok (.aload_n 0, 1) := by decide +kernel
theorem dX11_triesEven_22 : decode cX11_triesEven 22 = .ok (.getfield 75, 3) := by decide +kernel
theorem dX11_triesEven_25 : decode cX11_triesEven 25 = .ok (.iconst 1, 1) := by decide +kernel
theorem dX11_triesEven_26 : decode cX11_triesEven 26 = .ok (.iaload, 1) := by decide +kernel
theorem dX11_triesEven_27 : decode cX11_triesEven 27 = .ok (.if_icmp .ge 152, 3) := by decide +kernel
theorem dX11_triesEven_30 : decode cX11_triesEven 30 = .ok (.aload_n 0, 1) := by decide +kernel
theorem dX11_triesEven_31 : decode cX11_triesEven 31 = .ok (.iload 4, 2) := by decide +kernel
theorem dX11_triesEven_33 : decode cX11_triesEven 33 = .ok (.invokevirtual 368, 3) := by decide +kernel
theorem dX11_triesEven_36 : decode cX11_triesEven 36 = .ok (.ifCond .ne 25, 3) := by decide +kernel
theorem dX11_triesEven_39 : decode cX11_triesEven 39 = .ok (.aload_n 0, 1) := by decide +kernel
theorem dX11_triesEven_40 : decode cX11_triesEven 40 = .ok (.getfield 75, 3) := by decide +kernel
theorem dX11_triesEven_43 : decode cX11_triesEven 43 = .ok (.iconst 5, 1) := by decide +kernel
theorem dX11_triesEven_44 : decode cX11_triesEven 44 = .ok (.iaload, 1) := by decide +kernel
theorem dX11_triesEven_45 : decode cX11_triesEven 45 = .ok (.aload_n 0, 1) := by decide +kernel
theorem dX11_triesEven_46 : decode cX11_triesEven 46 = .ok (.getfield 84, 3) := by decide +kernel
theorem dX11_triesEven_49 : decode cX11_triesEven 49 = .ok (.iload 4, 2) := by decide +kernel
theorem dX11_triesEven_51 : decode cX11_triesEven 51 = .ok (.iaload, 1) := by decide +kernel
theorem dX11_triesEven_52 : decode cX11_triesEven 52 = .ok (.iconst 2, 1) := by decide +kernel
theorem dX11_triesEven_53 : decode cX11_triesEven 53 = .ok (.isub, 1) := by decide +kernel
theorem dX11_triesEven_54 : decode cX11_triesEven 54 = .ok (.if_icmp .le 7, 3) := by decide +kernel
theorem dX11_triesEven_57 : decode cX11_triesEven 57 = .ok (.iconst 1, 1) := by decide +kernel
theorem dX11_triesEven_58 : decode cX11_triesEven 58 = .ok (.goto 4, 3) := by decide +kernel
theorem dX11_triesEven_61 : decode cX11_triesEven 61 = .ok (.iconst 0, 1) := by decide +kernel
theorem dX11_triesEven_62 : decode cX11_triesEven 62 = .ok (.istore 5, 2) := by decide +kernel
theorem dX11_triesEven_64 : decode cX11_triesEven 64 = .ok (.aload_n 0, 1) := by decide +kernel
theorem dX11_triesEven_65 : decode cX11_triesEven 65 = .ok (.getfield 75, 3) := by decide +kernel
theorem dX11_triesEven_68 : decode cX11_triesEven 68 = .ok (.bipush 20, 2) := by decide +kernel
theorem dX11_triesEven_70 : decode cX11_triesEven 70 = .ok (.iload 4, 2) := by decide +kernel
theorem dX11_triesEven_72 : decode cX11_triesEven 72 = .ok (.iadd, 1) := by decide +kernel
theorem dX11_triesEven_73 : decode cX11_triesEven 73 = .ok (.iload 5, 2) := by decide +kernel
theorem dX11_triesEven_75 : decode cX11_triesEven 75 = .ok (.ifCond .eq 7, 3) := by decide +kernel
theorem dX11_triesEven_78 : decode cX11_triesEven 78 = .ok (.iconst 1, 1) := by decide +kernel
theorem dX11_triesEven_79 : decode cX11_triesEven 79 = .ok (.goto 4, 3) := by decide +kernel
theorem dX11_triesEven_82 : decode cX11_triesEven 82 = .ok (.iconst 0, 1) := by decide +kernel
theorem dX11_triesEven_83 : decode cX11_triesEven 83 = .ok (.iastore, 1) := by decide +kernel
theorem dX11_triesEven_84 : decode cX11_triesEven 84 = .ok (.aload_n 0, 1) := by decide +kernel
theorem dX11_triesEven_85 : decode cX11_triesEven 85 = .ok (.dup, 1) := by decide +kernel
theorem dX11_triesEven_86 : decode cX11_triesEven 86 = .ok (.getfield 362, 3) := by decide +kernel
theorem dX11_triesEven_89 : decode cX11_triesEven 89 = .ok (.iload 5, 2) := by decide +kernel
theorem dX11_triesEven_91 : decode cX11_triesEven 91 = .ok (.ifCond .eq 10, 3) := by decide +kernel
theorem dX11_triesEven_94 : decode cX11_triesEven 94 = .ok (.iconst 1, 1) := by decide +kernel
theorem dX11_triesEven_95 : decode cX11_triesEven 95 = .ok (.iload 4, 2) := by decide +kernel
theorem dX11_triesEven_97 : decode cX11_triesEven 97 = .ok (.ishl, 1) := by decide +kernel
theorem dX11_triesEven_98 : decode cX11_triesEven 98 = .ok (.goto 4, 3) := by decide +kernel
theorem dX11_triesEven_101 : decode cX11_triesEven 101 = .ok (.iconst 0, 1) := by decide +kernel
theorem dX11_triesEven_102 : decode cX11_triesEven 102 = .ok (.ior, 1) := by decide +kernel
theorem dX11_triesEven_103 : decode cX11_triesEven 103 = .ok (.putfield 362, 3) := by decide +kernel
theorem dX11_triesEven_106 : decode cX11_triesEven 106 = .ok (.iload_n 1, 1) := by decide +kernel
theorem dX11_triesEven_107 : decode cX11_triesEven 107 = .ok (.ifCond .eq 12, 3) := by decide +kernel
theorem dX11_triesEven_110 : decode cX11_triesEven 110 = .ok (.iload 5, 2) := by decide +kernel
theorem dX11_triesEven_112 : decode cX11_triesEven 112 = .ok (.ifCond .eq 7, 3) := by decide +kernel
theorem dX11_triesEven_115 : decode cX11_triesEven 115 = .ok (.iconst 1, 1) := by decide +kernel
theorem dX11_triesEven_116 : decode cX11_triesEven 116 = .ok (.goto 4, 3) := by decide +kernel
theorem dX11_triesEven_119 : decode cX11_triesEven 119 = .ok (.iconst 0, 1) := by decide +kernel
theorem dX11_triesEven_120 : decode cX11_triesEven 120 = .ok (.istore_n 1, 1) := by decide +kernel
theorem dX11_triesEven_121 : decode cX11_triesEven 121 = .ok (.iload_n 2, 1) := by decide +kernel
theorem dX11_triesEven_122 : decode cX11_triesEven 122 = .ok (.ifCond .ne 26, 3) := by decide +kernel
theorem dX11_triesEven_125 : decode cX11_triesEven 125 = .ok (.aload_n 0, 1) := by decide +kernel
theorem dX11_triesEven_126 : decode cX11_triesEven 126 = .ok (.iload 4, 2) := by decide +kernel
theorem dX11_triesEven_128 : decode cX11_triesEven 128 = .ok (.invokevirtual 368, 3) := by decide +kernel
theorem dX11_triesEven_131 : decode cX11_triesEven 131 = .ok (.ifCond .eq 21, 3) := by decide +kernel
theorem dX11_triesEven_134 : decode cX11_triesEven 134 = .ok (.aload_n 0, 1) := by decide +kernel
theorem dX11_triesEven_135 : decode cX11_triesEven 135 = .ok (.getfield 75, 3) := by decide +kernel
theorem dX11_triesEven_138 : decode cX11_triesEven 138 = .ok (.bipush 12, 2) := by decide +kernel
theorem dX11_triesEven_140 : decode cX11_triesEven 140 = .ok (.iload 4, 2) := by decide +kernel
theorem dX11_triesEven_142 : decode cX11_triesEven 142 = .ok (.iadd, 1) := by decide +kernel
theorem dX11_triesEven_143 : decode cX11_triesEven 143 = .ok (.iaload, 1) := by decide +kernel
theorem dX11_triesEven_144 : decode cX11_triesEven 144 = .ok (.iconst 3, 1) := by decide +kernel
theorem dX11_triesEven_145 : decode cX11_triesEven 145 = .ok (.if_icmp .ne 7, 3) := by decide +kernel
theorem dX11_triesEven_148 : decode cX11_triesEven 148 = .ok (.iconst 1, 1) := by decide +kernel
theorem dX11_triesEven_149 : decode cX11_triesEven 149 = .ok (.goto 4, 3) := by decide +kernel
theorem dX11_triesEven_152 : decode cX11_triesEven 152 = .ok (.iconst 0, 1) := by decide +kernel
theorem dX11_triesEven_153 : decode cX11_triesEven 153 = .ok (.istore_n 2, 1) := by decide +kernel
theorem dX11_triesEven_154 : decode cX11_triesEven 154 = .ok (.iload_n 3, 1) := by decide +kernel
theorem dX11_triesEven_155 : decode cX11_triesEven 155 = .ok (.ifCond .ne 12, 3) := by decide +kernel
theorem dX11_triesEven_158 : decode cX11_triesEven 158 = .ok (.aload_n 0, 1) := by decide +kernel
theorem dX11_triesEven_159 : decode cX11_triesEven 159 = .ok (.iload 4, 2) := by decide +kernel
theorem dX11_triesEven_161 : decode cX11_triesEven 161 = .ok (.invokevirtual 359, 3) := by decide +kernel
theorem dX11_triesEven_164 : decode cX11_triesEven 164 = .ok (.ifCond .eq 7, 3) := by decide +kernel
theorem dX11_triesEven_167 : decode cX11_triesEven 167 = .ok (.iconst 1, 1) := by decide +kernel
theorem dX11_triesEven_168 : decode cX11_triesEven 168 = .ok (.goto 4, 3) := by decide +kernel
theorem dX11_triesEven_171 : decode cX11_triesEven 171 = .ok (.iconst 0, 1) := by decide +kernel
theorem dX11_triesEven_172 : decode cX11_triesEven 172 = .ok (.istore_n 3, 1) := by decide +kernel
theorem dX11_triesEven_173 : decode cX11_triesEven 173 = .ok (.iinc 4 1, 3) := by decide +kernel
theorem dX11_triesEven_176 : decode cX11_triesEven 176 = .ok (.goto (-157), 3) := by decide +kernel
theorem dX11_triesEven_179 : decode cX11_triesEven 179 = .ok (.iload_n 3, 1) := by decide +kernel
theorem dX11_triesEven_180 : decode cX11_triesEven 180 = .ok (.ifCond .eq 14, 3) := by decide +kernel
theorem dX11_triesEven_183 : decode cX11_triesEven 183 = .ok (.aload_n 0, 1) := by decide +kernel
theorem dX11_triesEven_184 : decode cX11_triesEven 184 = .ok (.iconst 0, 1) := by decide +kernel
theorem dX11_triesEven_185 : decode cX11_triesEven 185 = .ok (.putfield 362, 3) := by decide +kernel
theorem dX11_triesEven_188 : decode cX11_triesEven 188 = .ok (.aload_n 0, 1) := by decide +kernel
theorem dX11_triesEven_189 : decode cX11_triesEven 189 = .ok (.iconst 4, 1) := by decide +kernel
theorem dX11_triesEven_190 : decode cX11_triesEven 190 = .ok (.invokevirtual 365, 3) := by decide +kernel
theorem dX11_triesEven_193 : decode cX11_triesEven 193 = .ok (.return_, 1) := by decide +kernel
theorem dX11_triesEven_194 : decode cX11_triesEven 194 = .ok (.iload_n 1, 1) := by decide +kernel
theorem dX11_triesEven_195 : decode cX11_triesEven 195 = .ok (.ifCond .eq 17, 3) := by decide +kernel
theorem dX11_triesEven_198 : decode cX11_triesEven 198 = .ok (.aload_n 0, 1) := by decide +kernel
theorem dX11_triesEven_199 : decode cX11_triesEven 199 = .ok (.getfield 75, 3) := by decide +kernel
theorem dX11_triesEven_202 : decode cX11_triesEven 202 = .ok (.iconst 0, 1) := by decide +kernel
theorem dX11_triesEven_203 : decode cX11_triesEven 203 = .ok (.iconst 3, 1) := by decide +kernel
theorem dX11_triesEven_204 : decode cX11_triesEven 204 = .ok (.iastore, 1) := by decide +kernel
theorem dX11_triesEven_205 : decode cX11_triesEven 205 = .ok (.aload_n 0, 1) := by decide +kernel
theorem dX11_triesEven_206 : decode cX11_triesEven 206 = .ok (.bipush 8, 2) := by decide +kernel
theorem dX11_triesEven_208 : decode cX11_triesEven 208 = .ok (.putfield 356, 3) := by decide +kernel
theorem dX11_triesEven_211 : decode cX11_triesEven 211 = .ok (.return_, 1) := by decide +kernel
theorem dX11_triesEven_212 : decode cX11_triesEven 212 = .ok (.aload_n 0, 1) := by decide +kernel
theorem dX11_triesEven_213 : decode cX11_triesEven 213 = .ok (.getfield 75, 3) := by decide +kernel
theorem dX11_triesEven_216 : decode cX11_triesEven 216 = .ok (.iconst 5, 1) := by decide +kernel
theorem dX11_triesEven_217 : decode cX11_triesEven 217 = .ok (.iaload, 1) := by decide +kernel
theorem dX11_triesEven_218 : decode cX11_triesEven 218 = .ok (.bipush 6, 2) := by decide +kernel
theorem dX11_triesEven_220 : decode cX11_triesEven 220 = .ok (.if_icmp .eq 7, 3) := by decide +kernel
theorem dX11_triesEven_223 : decode cX11_triesEven 223 = .ok (.iload_n 2, 1) := by decide +kernel
theorem dX11_triesEven_224 : decode cX11_triesEven 224 = .ok (.ifCond .eq 25, 3) := by decide +kernel
theorem dX11_triesEven_227 : decode cX11_triesEven 227 = .ok (.aload_n 0, 1) := by decide +kernel
theorem dX11_triesEven_228 : decode cX11_triesEven 228 = .ok (.aload_n 0, 1) := by decide +kernel
theorem dX11_triesEven_229 : decode cX11_triesEven 229 = .ok (.getfield 75, 3) := by decide +kernel
theorem dX11_triesEven_232 : decode cX11_triesEven 232 = .ok (.iconst 5, 1) := by decide +kernel
theorem dX11_triesEven_233 : decode cX11_triesEven 233 = .ok (.iaload, 1) := by decide +kernel
theorem dX11_triesEven_234 : decode cX11_triesEven 234 = .ok (.bipush 6, 2) := by decide +kernel
theorem dX11_triesEven_236 : decode cX11_triesEven 236 = .ok (.if_icmp .ne 7, 3) := by decide +kernel
theorem dX11_triesEven_239 : decode cX11_triesEven 239 = .ok (.iconst 5, 1) := by decide +kernel
theorem dX11_triesEven_240 : decode cX11_triesEven 240 = .ok (.goto 5, 3) := by decide +kernel
theorem dX11_triesEven_243 : decode cX11_triesEven 243 = .ok (.bipush 6, 2) := by decide +kernel
theorem dX11_triesEven_245 : decode cX11_triesEven 245 = .ok (.invokevirtual 365, 3) := by decide +kernel
theorem dX11_triesEven_248 : decode cX11_triesEven 248 = .ok (.return_, 1) := by decide +kernel
theorem dX11_triesEven_249 : decode cX11_triesEven 249 = .ok (.iconst 0, 1) := by decide +kernel
theorem dX11_triesEven_250 : decode cX11_triesEven 250 = .ok (.istore 4, 2) := by decide +kernel
theorem dX11_triesEven_252 : decode cX11_triesEven 252 = .ok (.iload 4, 2) := by decide +kernel
theorem dX11_triesEven_254 : decode cX11_triesEven 254 = .ok (.aload_n 0, 1) := by decide +kernel
theorem dX11_triesEven_255 : decode cX11_triesEven 255 = .ok (.getfield 75, 3) := by decide +kernel
theorem dX11_triesEven_258 : decode cX11_triesEven 258 = .ok (.iconst 1, 1) := by decide +kernel
theorem dX11_triesEven_259 : decode cX11_triesEven 259 = .ok (.iaload, 1) := by decide +kernel
theorem dX11_triesEven_260 : decode cX11_triesEven 260 = .ok (.if_icmp .ge 74, 3) := by decide +kernel
theorem dX11_triesEven_263 : decode cX11_triesEven 263 = .ok (.aload_n 0, 1) := by decide +kernel
theorem dX11_triesEven_264 : decode cX11_triesEven 264 = .ok (.iload 4, 2) := by decide +kernel
theorem dX11_triesEven_266 : decode cX11_triesEven 266 = .ok (.invokevirtual 368, 3) := by decide +kernel
theorem dX11_triesEven_269 : decode cX11_triesEven 269 = .ok (.ifCond .ne 6, 3) := by decide +kernel
theorem dX11_triesEven_272 : decode cX11_triesEven 272 = .ok (.goto 56, 3) := by decide +kernel
theorem dX11_triesEven_275 : decode cX11_triesEven 275 = .ok (.aload_n 0, 1) := by decide +kernel
theorem dX11_triesEven_276 : decode cX11_triesEven 276 = .ok (.getfield 75, 3) := by decide +kernel
theorem dX11_triesEven_279 : decode cX11_triesEven 279 = .ok (.bipush 12, 2) := by decide +kernel
theorem dX11_triesEven_281 : decode cX11_triesEven 281 = .ok (.iload 4, 2) := by decide +kernel
theorem dX11_triesEven_283 : decode cX11_triesEven 283 = .ok (.iadd, 1) := by decide +kernel
theorem dX11_triesEven_284 : decode cX11_triesEven 284 = .ok (.dup2, 1) := by decide +kernel
theorem dX11_triesEven_285 : decode cX11_triesEven 285 = .ok (.iaload, 1) := by decide +kernel
theorem dX11_triesEven_286 : decode cX11_triesEven 286 = .ok (.iconst 1, 1) := by decide +kernel
theorem dX11_triesEven_287 : decode cX11_triesEven 287 = .ok (.iadd, 1) := by decide +kernel
theorem dX11_triesEven_288 : decode cX11_triesEven 288 = .ok (.iastore, 1) := by decide +kernel
theorem dX11_triesEven_289 : decode cX11_triesEven 289 = .ok (.aload_n 0, 1) := by decide +kernel
theorem dX11_triesEven_290 : decode cX11_triesEven 290 = .ok (.getfield 75, 3) := by decide +kernel
theorem dX11_triesEven_293 : decode cX11_triesEven 293 = .ok (.bipush 8, 2) := by decide +kernel
theorem dX11_triesEven_295 : decode cX11_triesEven 295 = .ok (.iload 4, 2) := by decide +kernel
theorem dX11_triesEven_297 : decode cX11_triesEven 297 = .ok (.iadd, 1) := by decide +kernel
theorem dX11_triesEven_298 : decode cX11_triesEven 298 = .ok (.iaload, 1) := by decide +kernel
theorem dX11_triesEven_299 : decode cX11_triesEven 299 = .ok (.aload_n 0, 1) := by decide +kernel
theorem dX11_triesEven_300 : decode cX11_triesEven 300 = .ok (.getfield 75, 3) := by decide +kernel
theorem dX11_triesEven_303 : decode cX11_triesEven 303 = .ok (.bipush 12, 2) := by decide +kernel
theorem dX11_triesEven_305 : decode cX11_triesEven 305 = .ok (.iload 4, 2) := by decide +kernel
theorem dX11_triesEven_307 : decode cX11_triesEven 307 = .ok (.iadd, 1) := by decide +kernel
theorem dX11_triesEven_308 : decode cX11_triesEven 308 = .ok (.iaload, 1) := by decide +kernel
theorem dX11_triesEven_309 : decode cX11_triesEven 309 = .ok (.iadd, 1) := by decide +kernel
theorem dX11_triesEven_310 : decode cX11_triesEven 310 = .ok (.iconst 3, 1) := by decide +kernel
theorem dX11_triesEven_311 : decode cX11_triesEven 311 = .ok (.if_icmp .le 17, 3) := by decide +kernel
theorem dX11_triesEven_314 : decode cX11_triesEven 314 = .ok (.aload_n 0, 1) := by decide +kernel
theorem dX11_triesEven_315 : decode cX11_triesEven 315 = .ok (.getfield 75, 3) := by decide +kernel
theorem dX11_triesEven_318 : decode cX11_triesEven 318 = .ok (.bipush 8, 2) := by decide +kernel
theorem dX11_triesEven_320 : decode cX11_triesEven 320 = .ok (.iload 4, 2) := by decide +kernel
theorem dX11_triesEven_322 : decode cX11_triesEven 322 = .ok (.iadd, 1) := by decide +kernel
theorem dX11_triesEven_323 : decode cX11_triesEven 323 = .ok (.dup2, 1) := by decide +kernel
theorem dX11_triesEven_324 : decode cX11_triesEven 324 = .ok (.iaload, 1) := by decide +kernel
theorem dX11_triesEven_325 : decode cX11_triesEven 325 = .ok (.iconst 1, 1) := by decide +kernel
theorem dX11_triesEven_326 : decode cX11_triesEven 326 = .ok (.isub, 1) := by decide +kernel
theorem dX11_triesEven_327 : decode cX11_triesEven 327 = .ok (.iastore, 1) := by decide +kernel
theorem dX11_triesEven_328 : decode cX11_triesEven 328 = .ok (.iinc 4 1, 3) := by decide +kernel
theorem dX11_triesEven_331 : decode cX11_triesEven 331 = .ok (.goto (-79), 3) := by decide +kernel
theorem dX11_triesEven_334 : decode cX11_triesEven 334 = .ok (.return_, 1) := by decide +kernel
theorem dX11_isTraining_0 : decode cX11_isTraining 0 = .ok (.aload_n 0, 1) := by decide +kernel
theorem dX11_isTraining_1 : decode cX11_isTraining 1 = .ok (.getfield 75, 3) := by decide +kernel
theorem dX11_isTraining_4 : decode cX11_isTraining 4 = .ok (.iconst 0, 1) := by decide +kernel
theorem dX11_isTraining_5 : decode cX11_isTraining 5 = .ok (.iaload, 1) := by decide +kernel
theorem dX11_isTraining_6 : decode cX11_isTraining 6 = .ok (.i2l, 1) := by decide +kernel
theorem dX11_isTraining_7 : decode cX11_isTraining 7 = .ok (.lconst 1, 1) := by decide +kernel
theorem dX11_isTraining_8 : decode cX11_isTraining 8 = .ok (.ldc2_w 184, 3) := by decide +kernel
theorem dX11_isTraining_11 : decode cX11_isTraining 11 = .ok (.invokestatic 107, 3) := by decide +kernel
theorem dX11_isTraining_14 : decode cX11_isTraining 14 = .ok (.ireturn, 1) := by decide +kernel
theorem dX11_digits_0 : decode cX11_digits 0 = .ok (.iconst 0, 1) := by decide +kernel
theorem dX11_digits_1 : decode cX11_digits 1 = .ok (.istore_n 2, 1) := by decide +kernel
theorem dX11_digits_2 : decode cX11_digits 2 = .ok (.iconst 0, 1) := by decide +kernel
theorem dX11_digits_3 : decode cX11_digits 3 = .ok (.istore_n 3, 1) := by decide +kernel
theorem dX11_digits_4 : decode cX11_digits 4 = .ok (.iload_n 3, 1) := by decide +kernel
theorem dX11_digits_5 : decode cX11_digits 5 = .ok (.iconst 4, 1) := by decide +kernel
theorem dX11_digits_6 : decode cX11_digits 6 = .ok (.if_icmp .ge 23, 3) := by decide +kernel
theorem dX11_digits_9 : decode cX11_digits 9 = .ok (.bipush 10, 2) := by decide +kernel
theorem dX11_digits_11 : decode cX11_digits 11 = .ok (.iload_n 2, 1) := by decide +kernel
theorem dX11_digits_12 : decode cX11_digits 12 = .ok (.imul, 1) := by decide +kernel
theorem dX11_digits_13 : decode cX11_digits 13 = .ok (.aload_n 0, 1) := by decide +kernel
theorem dX11_digits_14 : decode cX11_digits 14 = .ok (.getfield 75, 3) := by decide +kernel
theorem dX11_digits_17 : decode cX11_digits 17 = .ok (.iload_n 1, 1) := by decide +kernel
theorem dX11_digits_18 : decode cX11_digits 18 = .ok (.iload_n 3, 1) := by decide +kernel
theorem dX11_digits_19 : decode cX11_digits 19 = .ok (.iadd, 1) := by decide +kernel
theorem dX11_digits_20 : decode cX11_digits 20 = .ok (.iaload, 1) := by decide +kernel
theorem dX11_digits_21 : decode cX11_digits 21 = .ok (.iadd, 1) := by decide +kernel
theorem dX11_digits_22 : decode cX11_digits 22 = .ok (.istore_n 2, 1) := by decide +kernel
theorem dX11_digits_23 : decode cX11_digits 23 = .ok (.iinc 3 1, 3) := by decide +kernel
theorem dX11_digits_26 : decode cX11_digits 26 = .ok (.goto (-22), 3) := by decide +kernel
theorem dX11_digits_29 : decode cX11_digits 29 = .ok (.iload_n 2, 1) := by decide +kernel
theorem dX11_digits_30 : decode cX11_digits 30 = .ok (.ireturn, 1) := by decide +kernel
theorem dX11_triesOnce_0 : decode cX11_triesOnce 0 = .ok (.bipush 7, 2) := by decide +kernel
theorem dX11_triesOnce_2 : decode cX11_triesOnce 2 = .ok (.aload_n 0, 1) := by decide +kernel
theorem dX11_triesOnce_3 : decode cX11_triesOnce 3 = .ok (.getfield 75, 3) := by decide +kernel
theorem dX11_triesOnce_6 : decode cX11_triesOnce 6 = .ok (.bipush 6, 2) := by decide +kernel
theorem dX11_triesOnce_8 : decode cX11_triesOnce 8 = .ok (.iaload, 1) := by decide +kernel
theorem dX11_triesOnce_9 : decode cX11_triesOnce 9 = .ok (.imul, 1) := by decide +kernel
theorem dX11_triesOnce_10 : decode cX11_triesOnce 10 = .ok (.istore_n 1, 1) := by decide +kernel
theorem dX11_triesOnce_11 : decode cX11_triesOnce 11 = .ok (.aload_n 0, 1) := by decide +kernel
theorem dX11_triesOnce_12 : decode cX11_triesOnce 12 = .ok (.getfield 371, 3) := by decide +kernel
theorem dX11_triesOnce_15 : decode cX11_triesOnce 15 = .ok (.ifCond .ne 71, 3) := by decide +kernel
theorem dX11_triesOnce_18 : decode cX11_triesOnce 18 = .ok (.aload_n 0, 1) := by decide +kernel
theorem dX11_triesOnce_19 : decode cX11_triesOnce 19 = .ok (.getfield 93, 3) := by decide +kernel
theorem dX11_triesOnce_22 : decode cX11_triesOnce 22 = .ok (.iload_n 1, 1) := by decide +kernel
theorem dX11_triesOnce_23 : decode cX11_triesOnce 23 = .ok (.aload_n 0, 1) := by decide +kernel
theorem dX11_triesOnce_24 : decode cX11_triesOnce 24 = .ok (.getfield 75, 3) := by decide +kernel
theorem dX11_triesOnce_27 : decode cX11_triesOnce 27 = .ok (.iconst 0, 1) := by decide +kernel
theorem dX11_triesOnce_28 : decode cX11_triesOnce 28 = .ok (.iaload, 1) := by decide +kernel
theorem dX11_triesOnce_29 : decode cX11_triesOnce 29 = .ok (.iastore, 1) := by decide +kernel
theorem dX11_triesOnce_30 : decode cX11_triesOnce 30 = .ok (.aload_n 0, 1) := by decide +kernel
theorem dX11_triesOnce_31 : decode cX11_triesOnce 31 = .ok (.getfield 93, 3) := by decide +kernel
theorem dX11_triesOnce_34 : decode cX11_triesOnce 34 = .ok (.iload_n 1, 1) := by decide +kernel
theorem dX11_triesOnce_35 : decode cX11_triesOnce 35 = .ok (.iconst 1, 1) := by decide +kernel
theorem dX11_triesOnce_36 : decode cX11_triesOnce 36 = .ok (.iadd, 1) := by decide +kernel
theorem dX11_triesOnce_37 : decode cX11_triesOnce 37 = .ok (.aload_n 0, 1) := by decide +kernel
theorem dX11_triesOnce_38 : decode cX11_triesOnce 38 = .ok (.getfield 75, 3) := by decide +kernel
theorem dX11_triesOnce_41 : decode cX11_triesOnce 41 = .ok (.iconst 1, 1) := by decide +kernel
theorem dX11_triesOnce_42 : decode cX11_triesOnce 42 = .ok (.iaload, 1) := by decide +kernel
theorem dX11_triesOnce_43 : decode cX11_triesOnce 43 = .ok (.iastore, 1) := by decide +kernel
theorem dX11_triesOnce_44 : decode cX11_triesOnce 44 = .ok (.aload_n 0, 1) := by decide +kernel
theorem dX11_triesOnce_45 : decode cX11_triesOnce 45 = .ok (.getfield 93, 3) := by decide +kernel
theorem dX11_triesOnce_48 : decode cX11_triesOnce 48 = .ok (.iload_n 1, 1) := by decide +kernel
theorem dX11_triesOnce_49 : decode cX11_triesOnce 49 = .ok (.iconst 2, 1) := by decide +kernel
theorem dX11_triesOnce_50 : decode cX11_triesOnce 50 = .ok (.iadd, 1) := by decide +kernel
theorem dX11_triesOnce_51 : decode cX11_triesOnce 51 = .ok (.aload_n 0, 1) := by decide +kernel
theorem dX11_triesOnce_52 : decode cX11_triesOnce 52 = .ok (.getfield 75, 3) := by decide +kernel
theorem dX11_triesOnce_55 : decode cX11_triesOnce 55 = .ok (.iconst 2, 1) := by decide +kernel
theorem dX11_triesOnce_56 : decode cX11_triesOnce 56 = .ok (.iaload, 1) := by decide +kernel
theorem dX11_triesOnce_57 : decode cX11_triesOnce 57 = .ok (.iastore, 1) := by decide +kernel
theorem dX11_triesOnce_58 : decode cX11_triesOnce 58 = .ok (.aload_n 0, 1) := by decide +kernel
theorem dX11_triesOnce_59 : decode cX11_triesOnce 59 = .ok (.getfield 93, 3) := by decide +kernel
theorem dX11_triesOnce_62 : decode cX11_triesOnce 62 = .ok (.iload_n 1, 1) := by decide +kernel
theorem dX11_triesOnce_63 : decode cX11_triesOnce 63 = .ok (.iconst 3, 1) := by decide +kernel
theorem dX11_triesOnce_64 : decode cX11_triesOnce 64 = .ok (.iadd, 1) := by decide +kernel
theorem dX11_triesOnce_65 : decode cX11_triesOnce 65 = .ok (.aload_n 0, 1) := by decide +kernel
theorem dX11_triesOnce_66 : decode cX11_triesOnce 66 = .ok (.bipush 8, 2) := by decide +kernel
theorem dX11_triesOnce_68 : decode cX11_triesOnce 68 = .ok (.invokevirtual 374, 3) := by decide +kernel
theorem dX11_triesOnce_71 : decode cX11_triesOnce 71 = .ok (.iastore, 1) := by decide +kernel
theorem dX11_triesOnce_72 : decode cX11_triesOnce 72 = .ok (.aload_n 0, 1) := by decide +kernel
theorem dX11_triesOnce_73 : decode cX11_triesOnce 73 = .ok (.getfield 93, 3) := by decide +kernel
theorem dX11_triesOnce_76 : decode cX11_triesOnce 76 = .ok (.iload_n 1, 1) := by decide +kernel
theorem dX11_triesOnce_77 : decode cX11_triesOnce 77 = .ok (.iconst 4, 1) := by decide +kernel
theorem dX11_triesOnce_78 : decode cX11_triesOnce 78 = .ok (.iadd, 1) := by decide +kernel
theorem dX11_triesOnce_79 : decode cX11_triesOnce 79 = .ok (.aload_n 0, 1) := by decide +kernel
theorem dX11_triesOnce_80 : decode cX11_triesOnce 80 = .ok (.bipush 12, 2) := by decide +kernel
theorem dX11_triesOnce_82 : decode cX11_triesOnce 82 = .ok (.invokevirtual 374, 3) := by decide +kernel
theorem dX11_triesOnce_85 : decode cX11_triesOnce 85 = .ok (.iastore, 1) := by decide +kernel
theorem dX11_triesOnce_86 : decode cX11_triesOnce 86 = .ok (.aload_n 0, 1) := by decide +kernel
theorem dX11_triesOnce_87 : decode cX11_triesOnce 87 = .ok (.getfield 75, 3) := by decide +kernel
theorem dX11_triesOnce_90 : decode cX11_triesOnce 90 = .ok (.bipush 6, 2) := by decide +kernel
theorem dX11_triesOnce_92 : decode cX11_triesOnce 92 = .ok (.dup2, 1) := by decide +kernel
theorem dX11_triesOnce_93 : decode cX11_triesOnce 93 = .ok (.iaload, 1) := by decide +kernel
theorem dX11_triesOnce_94 : decode cX11_triesOnce 94 = .ok (.iconst 1, 1) := by decide +kernel
theorem dX11_triesOnce_95 : decode cX11_triesOnce 95 = .ok (.iadd, 1) := by decide +kernel
theorem dX11_triesOnce_96 : decode cX11_triesOnce 96 = .ok (.iastore, 1) := by decide +kernel
theorem dX11_triesOnce_97 : decode cX11_triesOnce 97 = .ok (.aload_n 0, 1) := by decide +kernel
theorem dX11_triesOnce_98 : decode cX11_triesOnce 98 = .ok (.iconst 0, 1) := by decide +kernel
theorem dX11_triesOnce_99 : decode cX11_triesOnce 99 = .ok (.putfield 362, 3) := by decide +kernel
theorem dX11_triesOnce_102 : decode cX11_triesOnce 102 = .ok (.aload_n 0, 1) := by decide +kernel
theorem dX11_triesOnce_103 : decode cX11_triesOnce 103 = .ok (.iconst 0, 1) := by decide +kernel
theorem dX11_triesOnce_104 : decode cX11_triesOnce 104 = .ok (.putfield 356, 3) := by decide +kernel
theorem dX11_triesOnce_107 : decode cX11_triesOnce 107 = .ok (.aload_n 0, 1) := by decide +kernel
theorem dX11_triesOnce_108 : decode cX11_triesOnce 108 = .ok (.getfield 75, 3) := by decide +kernel
theorem dX11_triesOnce_111 : decode cX11_triesOnce 111 = .ok (.iconst 0, 1) := by decide +kernel
theorem dX11_triesOnce_112 : decode cX11_triesOnce 112 = .ok (.iaload, 1) := by decide +kernel
theorem dX11_triesOnce_113 : decode cX11_triesOnce 113 = .ok (.iconst 1, 1) := by decide +kernel
theorem dX11_triesOnce_114 : decode cX11_triesOnce 114 = .ok (.if_icmp .ne 10, 3) := by decide +kernel
theorem dX11_triesOnce_117 : decode cX11_triesOnce 117 = .ok (.aload_n 0, 1) := by decide +kernel
theorem dX11_triesOnce_118 : decode cX11_triesOnce 118 = .ok (.invokevirtual 377, 3) := by decide +kernel
theorem dX11_triesOnce_121 : decode cX11_triesOnce 121 = .ok (.goto 7, 3) := by decide +kernel
theorem dX11_triesOnce_124 : decode cX11_triesOnce 124 = .ok (.aload_n 0, 1) := by decide +kernel
theorem dX11_triesOnce_125 : decode cX11_triesOnce 125 = .ok (.invokevirtual 380, 3) := by decide +kernel
theorem dX11_triesOnce_128 : decode cX11_triesOnce 128 = .ok (.aload_n 0, 1) := by decide +kernel
theorem dX11_triesOnce_129 : decode cX11_triesOnce 129 = .ok (.getfield 371, 3) := by decide +kernel
theorem dX11_triesOnce_132 : decode cX11_triesOnce 132 = .ok (.ifCond .eq 4, 3) := by decide +kernel
theorem dX11_triesOnce_135 : decode cX11_triesOnce 135 = .ok (.return_, 1) := by decide +kernel
theorem dX11_triesOnce_136 : decode cX11_triesOnce 136 = .ok (.aload_n 0, 1) := by decide +kernel
theorem dX11_triesOnce_137 : decode cX11_triesOnce 137 = .ok (.getfield 93, 3) := by decide +kernel
theorem dX11_triesOnce_140 : decode cX11_triesOnce 140 = .ok (.iload_n 1, 1) := by decide +kernel
theorem dX11_triesOnce_141 : decode cX11_triesOnce 141 = .ok (.iconst 5, 1) := by decide +kernel
theorem dX11_triesOnce_142 : decode cX11_triesOnce 142 = .ok (.iadd, 1) := by decide +kernel
theorem dX11_triesOnce_143 : decode cX11_triesOnce 143 = .ok (.aload_n 0, 1) := by decide +kernel
theorem dX11_triesOnce_144 : decode cX11_triesOnce 144 = .ok (.getfield 362, 3) := by decide +kernel
theorem dX11_triesOnce_147 : decode cX11_triesOnce 147 = .ok (.iastore, 1) := by decide +kernel
theorem dX11_triesOnce_148 : decode cX11_triesOnce 148 = .ok (.aload_n 0, 1) := by decide +kernel
theorem dX11_triesOnce_149 : decode cX11_triesOnce 149 = .ok (.getfield 93, 3) := by decide +kernel
theorem dX11_triesOnce_152 : decode cX11_triesOnce 152 = .ok (.iload_n 1, 1) := by decide +kernel
theorem dX11_triesOnce_153 : decode cX11_triesOnce 153 = .ok (.bipush 6, 2) := by decide +kernel
theorem dX11_triesOnce_155 : decode cX11_triesOnce 155 = .ok (.iadd, 1) := by decide +kernel
theorem dX11_triesOnce_156 : decode cX11_triesOnce 156 = .ok (.aload_n 0, 1) := by decide +kernel
theorem dX11_triesOnce_157 : decode cX11_triesOnce 157 = .ok (.getfield 356, 3) := by decide +kernel
theorem dX11_triesOnce_160 : decode cX11_triesOnce 160 = .ok (.iastore, 1) := by decide +kernel
theorem dX11_triesOnce_161 : decode cX11_triesOnce 161 = .ok (.return_, 1) := by decide +kernel
theorem dX11_step_0 : decode cX11_step 0 = .ok (.aload_n 0, 1) := by decide +kernel
theorem dX11_step_1 : decode cX11_step 1 = .ok (.iconst 0, 1) := by decide +kernel
theorem dX11_step_2 : decode cX11_step 2 = .ok (.putfield 1, 3) := by decide +kernel
theorem dX11_step_5 : decode cX11_step 5 = .ok (.iload_n 1, 1) := by decide +kernel
theorem dX11_step_6 : decode cX11_step 6 = .ok (.i2l, 1) := by decide +kernel
theorem dX11_step_7 : decode cX11_step 7 = .ok (.lconst 0, 1) := by decide +kernel
theorem dX11_step_8 : decode cX11_step 8 = .ok (.aload_n 0, 1) := by decide +kernel
theorem dX11_step_9 : decode cX11_step 9 = .ok (.getfield 75, 3) := by decide +kernel
theorem dX11_step_12 : decode cX11_step 12 = .ok (.bipush 6, 2) := by decide +kernel
theorem dX11_step_14 : decode cX11_step 14 = .ok (.iaload, 1) := by decide +kernel
theorem dX11_step_15 : decode cX11_step 15 = .ok (.iconst 1, 1) := by decide +kernel
theorem dX11_step_16 : decode cX11_step 16 = .ok (.isub, 1) := by decide +kernel
theorem dX11_step_17 : decode cX11_step 17 = .ok (.i2l, 1) := by decide +kernel
theorem dX11_step_18 : decode cX11_step 18 = .ok (.invokestatic 107, 3) := by decide +kernel
theorem dX11_step_21 : decode cX11_step 21 = .ok (.ifCond .eq 29, 3) := by decide +kernel
theorem dX11_step_24 : decode cX11_step 24 = .ok (.iload_n 2, 1) := by decide +kernel
theorem dX11_step_25 : decode cX11_step 25 = .ok (.i2l, 1) := by decide +kernel
theorem dX11_step_26 : decode cX11_step 26 = .ok (.lconst 0, 1) := by decide +kernel
theorem dX11_step_27 : decode cX11_step 27 = .ok (.ldc2_w 311, 3) := by decide +kernel
theorem dX11_step_30 : decode cX11_step 30 = .ok (.invokestatic 107, 3) := by decide +kernel
theorem dX11_step_33 : decode cX11_step 33 = .ok (.ifCond .eq 17, 3) := by decide +kernel
theorem dX11_step_36 : decode cX11_step 36 = .ok (.aload_n 0, 1) := by decide +kernel
theorem dX11_step_37 : decode cX11_step 37 = .ok (.getfield 93, 3) := by decide +kernel
theorem dX11_step_40 : decode cX11_step 40 = .ok (.bipush 7, 2) := by decide +kernel
theorem dX11_step_42 : decode cX11_step 42 = .ok (.iload_n 1, 1) := by decide +kernel
theorem dX11_step_43 : decode cX11_step 43 = .ok (.imul, 1) := by decide +kernel
theorem dX11_step_44 : decode cX11_step 44 = .ok (.iload_n 2, 1) := by decide +kernel
theorem dX11_step_45 : decode cX11_step 45 = .ok (.iadd, 1) := by decide +kernel
theorem dX11_step_46 : decode cX11_step 46 = .ok (.iaload, 1) := by decide +kernel
theorem dX11_step_47 : decode cX11_step 47 = .ok (.goto 5, 3) := by decide +kernel
theorem dX11_step_50 : decode cX11_step 50 = .ok (.bipush (-2), 2) := by decide +kernel
theorem dX11_step_52 : decode cX11_step 52 = .ok (.ireturn, 1) := by decide +kernel
theorem dX11_tries_0 : decode cX11_tries 0 = .ok (.aload_n 0, 1) := by decide +kernel
theorem dX11_tries_1 : decode cX11_tries 1 = .ok (.iconst 0, 1) := by decide +kernel
theorem dX11_tries_2 : decode cX11_tries 2 = .ok (.putfield 1, 3) := by decide +kernel
theorem dX11_tries_5 : decode cX11_tries 5 = .ok (.iload_n 1, 1) := by decide +kernel
theorem dX11_tries_6 : decode cX11_tries 6 = .ok (.i2l, 1) := by decide +kernel
theorem dX11_tries_7 : decode cX11_tries 7 = .ok (.lconst 1, 1) := by decide +kernel
theorem dX11_tries_8 : decode cX11_tries 8 = .ok (.ldc2_w 383, 3) := by decide +kernel
theorem dX11_tries_11 : decode cX11_tries 11 = .ok (.invokestatic 107, 3) := by decide +kernel
theorem dX11_tries_14 : decode cX11_tries 14 = .ok (.ifCond .ne 6, 3) := by decide +kernel
theorem dX11_tries_17 : decode cX11_tries 17 = .ok (.bipush (-3), 2) := by decide +kernel
theorem dX11_tries_19 : decode cX11_tries 19 = .ok (.ireturn, 1) := by decide +kernel
theorem dX11_tries_20 : decode cX11_tries 20 = .ok (.aload_n 0, 1) := by decide +kernel
theorem dX11_tries_21 : decode cX11_tries 21 = .ok (.invokevirtual 385, 3) := by decide +kernel
theorem dX11_tries_24 : decode cX11_tries 24 = .ok (.ifCond .ne 6, 3) := by decide +kernel
theorem dX11_tries_27 : decode cX11_tries 27 = .ok (.bipush (-5), 2) := by decide +kernel
theorem dX11_tries_29 : decode cX11_tries 29 = .ok (.ireturn, 1) := by decide +kernel
theorem dX11_tries_30 : decode cX11_tries 30 = .ok (.iconst 0, 1) := by decide +kernel
theorem dX11_tries_31 : decode cX11_tries 31 = .ok (.istore_n 2, 1) := by decide +kernel
theorem dX11_tries_32 : decode cX11_tries 32 = .ok (.iload_n 2, 1) := by decide +kernel
theorem dX11_tries_33 : decode cX11_tries 33 = .ok (.iload_n 1, 1) := by decide +kernel
theorem dX11_tries_34 : decode cX11_tries 34 = .ok (.if_icmp .ge 20, 3) := by decide +kernel
theorem dX11_tries_37 : decode cX11_tries 37 = .ok (.aload_n 0, 1) := by decide +kernel
theorem dX11_tries_38 : decode cX11_tries 38 = .ok (.invokevirtual 385, 3) := by decide +kernel
theorem dX11_tries_41 : decode cX11_tries 41 = .ok (.ifCond .eq 13, 3) := by decide +kernel
theorem dX11_tries_44 : decode cX11_tries 44 = .ok (.aload_n 0, 1) := by decide +kernel
theorem dX11_tries_45 : decode cX11_tries 45 = .ok (.invokevirtual 388, 3) := by decide +kernel
theorem dX11_tries_48 : decode cX11_tries 48 = .ok (.iinc 2 1, 3) := by decide +kernel
theorem dX11_tries_51 : decode cX11_tries 51 = .ok (.goto (-19), 3) := by decide +kernel
theorem dX11_tries_54 : decode cX11_tries 54 = .ok (.iload_n 2, 1) := by decide +kernel
theorem dX11_tries_55 : decode cX11_tries 55 = .ok (.ireturn, 1) := by decide +kernel
theorem dX11_mostOf_0 : decode cX11_mostOf 0 = .ok (.iconst 0, 1) := by decide +kernel
theorem dX11_mostOf_1 : decode cX11_mostOf 1 = .ok (.istore_n 2, 1) := by decide +kernel
theorem dX11_mostOf_2 : decode cX11_mostOf 2 = .ok (.iconst 0, 1) := by decide +kernel
theorem dX11_mostOf_3 : decode cX11_mostOf 3 = .ok (.istore_n 3, 1) := by decide +kernel
theorem dX11_mostOf_4 : decode cX11_mostOf 4 = .ok (.iload_n 3, 1) := by decide +kernel
theorem dX11_mostOf_5 : decode cX11_mostOf 5 = .ok (.iconst 4, 1) := by decide +kernel
theorem dX11_mostOf_6 : decode cX11_mostOf 6 = .ok (.if_icmp .ge 22, 3) := by decide +kernel
theorem dX11_mostOf_9 : decode cX11_mostOf 9 = .ok (.iload_n 2, 1) := by decide +kernel
theorem dX11_mostOf_10 : decode cX11_mostOf 10 = .ok (.aload_n 0, 1) := by decide +kernel
theorem dX11_mostOf_11 : decode cX11_mostOf 11 = .ok (.getfield 75, 3) := by decide +kernel
theorem dX11_mostOf_14 : decode cX11_mostOf 14 = .ok (.iload_n 1, 1) := by decide +kernel
theorem dX11_mostOf_15 : decode cX11_mostOf 15 = .ok (.iload_n 3, 1) := by decide +kernel
theorem dX11_mostOf_16 : decode cX11_mostOf 16 = .ok (.iadd, 1) := by decide +kernel
theorem dX11_mostOf_17 : decode cX11_mostOf 17 = .ok (.iaload, 1) := by decide +kernel
theorem dX11_mostOf_18 : decode cX11_mostOf 18 = .ok (.invokestatic 289, 3) := by decide +kernel
theorem dX11_mostOf_21 : decode cX11_mostOf 21 = .ok (.istore_n 2, 1) := by decide +kernel
theorem dX11_mostOf_22 : decode cX11_mostOf 22 = .ok (.iinc 3 1, 3) := by decide +kernel
theorem dX11_mostOf_25 : decode cX11_mostOf 25 = .ok (.goto (-21), 3) := by decide +kernel
theorem dX11_mostOf_28 : decode cX11_mostOf 28 = .ok (.iload_n 2, 1) := by decide +kernel
theorem dX11_mostOf_29 : decode cX11_mostOf 29 = .ok (.ireturn, 1) := by decide +kernel
theorem dX11_state_0 : decode cX11_state 0 = .ok (.aload_n 0, 1) := by decide +kernel
theorem dX11_state_1 : decode cX11_state 1 = .ok (.iconst 0, 1) := by decide +kernel
theorem dX11_state_2 : decode cX11_state 2 = .ok (.putfield 1, 3) := by decide +kernel
theorem dX11_state_5 : decode cX11_state 5 = .ok (.iload_n 1, 1) := by decide +kernel
theorem dX11_state_6 : decode cX11_state 6 = .ok (.tableswitch 137 0 7 #[46, 53, 60, 67, 107, 115, 123, 130], 46) := by decide +kernel
theorem dX11_state_52 : decode cX11_state 52 = .ok (.aload_n 0, 1) := by decide +kernel
theorem dX11_state_53 : decode cX11_state 53 = .ok (.getfield 75, 3) := by decide +kernel
theorem dX11_state_56 : decode cX11_state 56 = .ok (.iconst 0, 1) := by decide +kernel
theorem dX11_state_57 : decode cX11_state 57 = .ok (.iaload, 1) := by decide +kernel
theorem dX11_state_58 : decode cX11_state 58 = .ok (.ireturn, 1) := by decide +kernel
theorem dX11_state_59 : decode cX11_state 59 = .ok (.aload_n 0, 1) := by decide +kernel
theorem dX11_state_60 : decode cX11_state 60 = .ok (.getfield 75, 3) := by decide +kernel
theorem dX11_state_63 : decode cX11_state 63 = .ok (.iconst 1, 1) := by decide +kernel
theorem dX11_state_64 : decode cX11_state 64 = .ok (.iaload, 1) := by decide +kernel
theorem dX11_state_65 : decode cX11_state 65 = .ok (.ireturn, 1) := by decide +kernel
theorem dX11_state_66 : decode cX11_state 66 = .ok (.aload_n 0, 1) := by decide +kernel
theorem dX11_state_67 : decode cX11_state 67 = .ok (.getfield 75, 3) := by decide +kernel
theorem dX11_state_70 : decode cX11_state 70 = .ok (.iconst 2, 1) := by decide +kernel
theorem dX11_state_71 : decode cX11_state 71 = .ok (.iaload, 1) := by decide +kernel
theorem dX11_state_72 : decode cX11_state 72 = .ok (.ireturn, 1) := by decide +kernel
theorem dX11_state_73 : decode cX11_state 73 = .ok (.aload_n 0, 1) := by decide +kernel
theorem dX11_state_74 : decode cX11_state 74 = .ok (.getfield 75, 3) := by decide +kernel
theorem dX11_state_77 : decode cX11_state 77 = .ok (.iconst 0, 1) := by decide +kernel
theorem dX11_state_78 : decode cX11_state 78 = .ok (.iaload, 1) := by decide +kernel
theorem dX11_state_79 : decode cX11_state 79 = .ok (.iconst 1, 1) := by decide +kernel
theorem dX11_state_80 : decode cX11_state 80 = .ok (.if_icmp .ne 12, 3) := by decide +kernel
theorem dX11_state_83 : decode cX11_state 83 = .ok (.aload_n 0, 1) := by decide +kernel
theorem dX11_state_84 : decode cX11_state 84 = .ok (.getfield 75, 3) := by decide +kernel
theorem dX11_state_87 : decode cX11_state 87 = .ok (.iconst 3, 1) := by decide +kernel
theorem dX11_state_88 : decode cX11_state 88 = .ok (.iaload, 1) := by decide +kernel
theorem dX11_state_89 : decode cX11_state 89 = .ok (.goto 23, 3) := by decide +kernel
theorem dX11_state_92 : decode cX11_state 92 = .ok (.aload_n 0, 1) := by decide +kernel
theorem dX11_state_93 : decode cX11_state 93 = .ok (.getfield 75, 3) := by decide +kernel
theorem dX11_state_96 : decode cX11_state 96 = .ok (.iconst 0, 1) := by decide +kernel
theorem dX11_state_97 : decode cX11_state 97 = .ok (.iaload, 1) := by decide +kernel
theorem dX11_state_98 : decode cX11_state 98 = .ok (.iconst 2, 1) := by decide +kernel
theorem dX11_state_99 : decode cX11_state 99 = .ok (.if_icmp .ne 12, 3) := by decide +kernel
theorem dX11_state_102 : decode cX11_state 102 = .ok (.aload_n 0, 1) := by decide +kernel
theorem dX11_state_103 : decode cX11_state 103 = .ok (.getfield 75, 3) := by decide +kernel
theorem dX11_state_106 : decode cX11_state 106 = .ok (.iconst 5, 1) := by decide +kernel
theorem dX11_state_107 : decode cX11_state 107 = .ok (.iaload, 1) := by decide +kernel
theorem dX11_state_108 : decode cX11_state 108 = .ok (.goto 4, 3) := by decide +kernel
theorem dX11_state_111 : decode cX11_state 111 = .ok (.iconst 0, 1) := by decide +kernel
theorem dX11_state_112 : decode cX11_state 112 = .ok (.ireturn, 1) := by decide +kernel
theorem dX11_state_113 : decode cX11_state 113 = .ok (.aload_n 0, 1) := by decide +kernel
theorem dX11_state_114 : decode cX11_state 114 = .ok (.getfield 75, 3) := by decide +kernel
theorem dX11_state_117 : decode cX11_state 117 = .ok (.bipush 6, 2) := by decide +kernel
theorem dX11_state_119 : decode cX11_state 119 = .ok (.iaload, 1) := by decide +kernel
theorem dX11_state_120 : decode cX11_state 120 = .ok (.ireturn, 1) := by decide +kernel
theorem dX11_state_121 : decode cX11_state 121 = .ok (.aload_n 0, 1) := by decide +kernel
theorem dX11_state_122 : decode cX11_state 122 = .ok (.getfield 75, 3) := by decide +kernel
theorem dX11_state_125 : decode cX11_state 125 = .ok (.bipush 7, 2) := by decide +kernel
theorem dX11_state_127 : decode cX11_state 127 = .ok (.iaload, 1) := by decide +kernel
theorem dX11_state_128 : decode cX11_state 128 = .ok (.ireturn, 1) := by decide +kernel
theorem dX11_state_129 : decode cX11_state 129 = .ok (.aload_n 0, 1) := by decide +kernel
theorem dX11_state_130 : decode cX11_state 130 = .ok (.bipush 8, 2) := by decide +kernel
theorem dX11_state_132 : decode cX11_state 132 = .ok (.invokevirtual 391, 3) := by decide +kernel
theorem dX11_state_135 : decode cX11_state 135 = .ok (.ireturn, 1) := by decide +kernel
theorem dX11_state_136 : decode cX11_state 136 = .ok (.aload_n 0, 1) := by decide +kernel
theorem dX11_state_137 : decode cX11_state 137 = .ok (.bipush 12, 2) := by decide +kernel
theorem dX11_state_139 : decode cX11_state 139 = .ok (.invokevirtual 391, 3) := by decide +kernel
theorem dX11_state_142 : decode cX11_state 142 = .ok (.ireturn, 1) := by decide +kernel
theorem dX11_state_143 : decode cX11_state 143 = .ok (.bipush (-2), 2) := by decide +kernel
theorem dX11_state_145 : decode cX11_state 145 = .ok (.ireturn, 1) := by decide +kernel
theorem dX11_level_0 : decode cX11_level 0 = .ok (.aload_n 0, 1) := by decide +kernel
theorem dX11_level_1 : decode cX11_level 1 = .ok (.iconst 0, 1) := by decide +kernel
theorem dX11_level_2 : decode cX11_level 2 = .ok (.putfield 1, 3) := by decide +kernel
theorem dX11_level_5 : decode cX11_level 5 = .ok (.iload_n 1, 1) := by decide +kernel
theorem dX11_level_6 : decode cX11_level 6 = .ok (.invokestatic 342, 3) := by decide +kernel
theorem dX11_level_9 : decode cX11_level 9 = .ok (.ifCond .ne 6, 3) := by decide +kernel
theorem dX11_level_12 : decode cX11_level 12 = .ok (.bipush (-2), 2) := by decide +kernel
theorem dX11_level_14 : decode cX11_level 14 = .ok (.ireturn, 1) := by decide +kernel
theorem dX11_level_15 : decode cX11_level 15 = .ok (.iload_n 2, 1) := by decide +kernel
theorem dX11_level_16 : decode cX11_level 16 = .ok (.tableswitch 94 0 5 #[40, 47, 54, 64, 74, 84], 40) := by decide +kernel
theorem dX11_level_56 : decode cX11_level 56 = .ok (.aload_n 0, 1) := by decide +kernel
theorem dX11_level_57 : decode cX11_level 57 = .ok (.getfield 81, 3) := by decide +kernel
theorem dX11_level_60 : decode cX11_level 60 = .ok (.iload_n 1, 1) := by decide +kernel
theorem dX11_level_61 : decode cX11_level 61 = .ok (.iaload, 1) := by decide +kernel
theorem dX11_level_62 : decode cX11_level 62 = .ok (.ireturn, 1) := by decide +kernel
theorem dX11_level_63 : decode cX11_level 63 = .ok (.aload_n 0, 1) := by decide +kernel
theorem dX11_level_64 : decode cX11_level 64 = .ok (.getfield 84, 3) := by decide +kernel
theorem dX11_level_67 : decode cX11_level 67 = .ok (.iload_n 1, 1) := by decide +kernel
theorem dX11_level_68 : decode cX11_level 68 = .ok (.iaload, 1) := by decide +kernel
theorem dX11_level_69 : decode cX11_level 69 = .ok (.ireturn, 1) := by decide +kernel
theorem dX11_level_70 : decode cX11_level 70 = .ok (.aload_n 0, 1) := by decide +kernel
theorem dX11_level_71 : decode cX11_level 71 = .ok (.getfield 75, 3) := by decide +kernel
theorem dX11_level_74 : decode cX11_level 74 = .ok (.bipush 8, 2) := by decide +kernel
theorem dX11_level_76 : decode cX11_level 76 = .ok (.iload_n 1, 1) := by decide +kernel
theorem dX11_level_77 : decode cX11_level 77 = .ok (.iadd, 1) := by decide +kernel
theorem dX11_level_78 : decode cX11_level 78 = .ok (.iaload, 1) := by decide +kernel
theorem dX11_level_79 : decode cX11_level 79 = .ok (.ireturn, 1) := by decide +kernel
theorem dX11_level_80 : decode cX11_level 80 = .ok (.aload_n 0, 1) := by decide +kernel
theorem dX11_level_81 : decode cX11_level 81 = .ok (.getfield 75, 3) := by decide +kernel
theorem dX11_level_84 : decode cX11_level 84 = .ok (.bipush 12, 2) := by decide +kernel
theorem dX11_level_86 : decode cX11_level 86 = .ok (.iload_n 1, 1) := by decide +kernel
theorem dX11_level_87 : decode cX11_level 87 = .ok (.iadd, 1) := by decide +kernel
theorem dX11_level_88 : decode cX11_level 88 = .ok (.iaload, 1) := by decide +kernel
theorem dX11_level_89 : decode cX11_level 89 = .ok (.ireturn, 1) := by decide +kernel
theorem dX11_level_90 : decode cX11_level 90 = .ok (.aload_n 0, 1) := by decide +kernel
theorem dX11_level_91 : decode cX11_level 91 = .ok (.getfield 75, 3) := by decide +kernel
theorem dX11_level_94 : decode cX11_level 94 = .ok (.bipush 16, 2) := by decide +kernel
theorem dX11_level_96 : decode cX11_level 96 = .ok (.iload_n 1, 1) := by decide +kernel
theorem dX11_level_97 : decode cX11_level 97 = .ok (.iadd, 1) := by decide +kernel
theorem dX11_level_98 : decode cX11_level 98 = .ok (.iaload, 1) := by decide +kernel
theorem dX11_level_99 : decode cX11_level 99 = .ok (.ireturn, 1) := by decide +kernel
theorem dX11_level_100 : decode cX11_level 100 = .ok (.aload_n 0, 1) := by decide +kernel
theorem dX11_level_101 : decode cX11_level 101 = .ok (.getfield 75, 3) := by decide +kernel
theorem dX11_level_104 : decode cX11_level 104 = .ok (.bipush 20, 2) := by decide +kernel
theorem dX11_level_106 : decode cX11_level 106 = .ok (.iload_n 1, 1) := by decide +kernel
theorem dX11_level_107 : decode cX11_level 107 = .ok (.iadd, 1) := by decide +kernel
theorem dX11_level_108 : decode cX11_level 108 = .ok (.iaload, 1) := by decide +kernel
theorem dX11_level_109 : decode cX11_level 109 = .ok (.ireturn, 1) := by decide +kernel
theorem dX11_level_110 : decode cX11_level 110 = .ok (.bipush (-2), 2) := by decide +kernel
theorem dX11_level_112 : decode cX11_level 112 = .ok (.ireturn, 1) := by decide +kernel
theorem dX11_fall_0 : decode cX11_fall 0 = .ok (.aload_n 0, 1) := by decide +kernel
theorem dX11_fall_1 : decode cX11_fall 1 = .ok (.iconst 0, 1) := by decide +kernel
theorem dX11_fall_2 : decode cX11_fall 2 = .ok (.putfield 1, 3) := by decide +kernel
theorem dX11_fall_5 : decode cX11_fall 5 = .ok (.iload_n 1, 1) := by decide +kernel
theorem dX11_fall_6 : decode cX11_fall 6 = .ok (.i2l, 1) := by decide +kernel
theorem dX11_fall_7 : decode cX11_fall 7 = .ok (.lconst 0, 1) := by decide +kernel
theorem dX11_fall_8 : decode cX11_fall 8 = .ok (.aload_n 0, 1) := by decide +kernel
theorem dX11_fall_9 : decode cX11_fall 9 = .ok (.getfield 75, 3) := by decide +kernel
theorem dX11_fall_12 : decode cX11_fall 12 = .ok (.bipush 7, 2) := by decide +kernel
theorem dX11_fall_14 : decode cX11_fall 14 = .ok (.iaload, 1) := by decide +kernel
theorem dX11_fall_15 : decode cX11_fall 15 = .ok (.iconst 1, 1) := by decide +kernel
theorem dX11_fall_16 : decode cX11_fall 16 = .ok (.isub, 1) := by decide +kernel
theorem dX11_fall_17 : decode cX11_fall 17 = .ok (.i2l, 1) := by decide +kernel
theorem dX11_fall_18 : decode cX11_fall 18 = .ok (.invokestatic 107, 3) := by decide +kernel
theorem dX11_fall_21 : decode cX11_fall 21 = .ok (.ifCond .eq 31, 3) := by decide +kernel
theorem dX11_fall_24 : decode cX11_fall 24 = .ok (.iload_n 2, 1) := by decide +kernel
theorem dX11_fall_25 : decode cX11_fall 25 = .ok (.i2l, 1) := by decide +kernel
theorem dX11_fall_26 : decode cX11_fall 26 = .ok (.lconst 0, 1) := by decide +kernel
theorem dX11_fall_27 : decode cX11_fall 27 = .ok (.ldc2_w 315, 3) := by decide +kernel
theorem dX11_fall_30 : decode cX11_fall 30 = .ok (.invokestatic 107, 3) := by decide +kernel
theorem dX11_fall_33 : decode cX11_fall 33 = .ok (.ifCond .eq 19, 3) := by decide +kernel
theorem dX11_fall_36 : decode cX11_fall 36 = .ok (.aload_n 0, 1) := by decide +kernel
theorem dX11_fall_37 : decode cX11_fall 37 = .ok (.getfield 75, 3) := by decide +kernel
theorem dX11_fall_40 : decode cX11_fall 40 = .ok (.bipush 24, 2) := by decide +kernel
theorem dX11_fall_42 : decode cX11_fall 42 = .ok (.iconst 4, 1) := by decide +kernel
theorem dX11_fall_43 : decode cX11_fall 43 = .ok (.iload_n 1, 1) := by decide +kernel
theorem dX11_fall_44 : decode cX11_fall 44 = .ok (.imul, 1) := by decide +kernel
theorem dX11_fall_45 : decode cX11_fall 45 = .ok (.iadd, 1) := by decide +kernel
theorem dX11_fall_46 : decode cX11_fall 46 = .ok (.iload_n 2, 1) := by decide +kernel
theorem dX11_fall_47 : decode cX11_fall 47 = .ok (.iadd, 1) := by decide +kernel
theorem dX11_fall_48 : decode cX11_fall 48 = .ok (.iaload, 1) := by decide +kernel
theorem dX11_fall_49 : decode cX11_fall 49 = .ok (.goto 5, 3) := by decide +kernel
theorem dX11_fall_52 : decode cX11_fall 52 = .ok (.bipush (-2), 2) := by decide +kernel
theorem dX11_fall_54 : decode cX11_fall 54 = .ok (.ireturn, 1) := by decide +kernel
theorem dX11_shown_0 : decode cX11_shown 0 = .ok (.aload_n 0, 1) := by decide +kernel
theorem dX11_shown_1 : decode cX11_shown 1 = .ok (.iconst 0, 1) := by decide +kernel
theorem dX11_shown_2 : decode cX11_shown 2 = .ok (.putfield 1, 3) := by decide +kernel
theorem dX11_shown_5 : decode cX11_shown 5 = .ok (.iload_n 1, 1) := by decide +kernel
theorem dX11_shown_6 : decode cX11_shown 6 = .ok (.i2l, 1) := by decide +kernel
theorem dX11_shown_7 : decode cX11_shown 7 = .ok (.lconst 0, 1) := by decide +kernel
theorem dX11_shown_8 : decode cX11_shown 8 = .ok (.ldc2_w 184, 3) := by decide +kernel
theorem dX11_shown_11 : decode cX11_shown 11 = .ok (.invokestatic 107, 3) := by decide +kernel
theorem dX11_shown_14 : decode cX11_shown 14 = .ok (.ifCond .ne 6, 3) := by decide +kernel
theorem dX11_shown_17 : decode cX11_shown 17 = .ok (.bipush (-2), 2) := by decide +kernel
theorem dX11_shown_19 : decode cX11_shown 19 = .ok (.ireturn, 1) := by decide +kernel
theorem dX11_shown_20 : decode cX11_shown 20 = .ok (.aload_n 0, 1) := by decide +kernel
theorem dX11_shown_21 : decode cX11_shown 21 = .ok (.getfield 75, 3) := by decide +kernel
theorem dX11_shown_24 : decode cX11_shown 24 = .ok (.iconst 0, 1) := by decide +kernel
theorem dX11_shown_25 : decode cX11_shown 25 = .ok (.iaload, 1) := by decide +kernel
theorem dX11_shown_26 : decode cX11_shown 26 = .ok (.iconst 3, 1) := by decide +kernel
theorem dX11_shown_27 : decode cX11_shown 27 = .ok (.if_icmp .eq 6, 3) := by decide +kernel
theorem dX11_shown_30 : decode cX11_shown 30 = .ok (.bipush (-5), 2) := by decide +kernel
theorem dX11_shown_32 : decode cX11_shown 32 = .ok (.ireturn, 1) := by decide +kernel
theorem dX11_shown_33 : decode cX11_shown 33 = .ok (.aload_n 0, 1) := by decide +kernel
theorem dX11_shown_34 : decode cX11_shown 34 = .ok (.getfield 75, 3) := by decide +kernel
theorem dX11_shown_37 : decode cX11_shown 37 = .ok (.iconst 1, 1) := by decide +kernel
theorem dX11_shown_38 : decode cX11_shown 38 = .ok (.iaload, 1) := by decide +kernel
theorem dX11_shown_39 : decode cX11_shown 39 = .ok (.aload_n 0, 1) := by decide +kernel
theorem dX11_shown_40 : decode cX11_shown 40 = .ok (.getfield 75, 3) := by decide +kernel
theorem dX11_shown_43 : decode cX11_shown 43 = .ok (.iconst 2, 1) := by decide +kernel
theorem dX11_shown_44 : decode cX11_shown 44 = .ok (.iaload, 1) := by decide +kernel
theorem dX11_shown_45 : decode cX11_shown 45 = .ok (.invokestatic 327, 3) := by decide +kernel
theorem dX11_shown_48 : decode cX11_shown 48 = .ok (.istore_n 2, 1) := by decide +kernel
theorem dX11_shown_49 : decode cX11_shown 49 = .ok (.aload_n 0, 1) := by decide +kernel
theorem dX11_shown_50 : decode cX11_shown 50 = .ok (.iload_n 2, 1) := by decide +kernel
theorem dX11_shown_51 : decode cX11_shown 51 = .ok (.invokevirtual 339, 3) := by decide +kernel
theorem dX11_shown_54 : decode cX11_shown 54 = .ok (.aload_n 0, 1) := by decide +kernel
theorem dX11_shown_55 : decode cX11_shown 55 = .ok (.getfield 333, 3) := by decide +kernel
theorem dX11_shown_58 : decode cX11_shown 58 = .ok (.iconst (-1), 1) := by decide +kernel
theorem dX11_shown_59 : decode cX11_shown 59 = .ok (.if_icmp .ne 5, 3) := by decide +kernel
theorem dX11_shown_62 : decode cX11_shown 62 = .ok (.iconst (-1), 1) := by decide +kernel
theorem dX11_shown_63 : decode cX11_shown 63 = .ok (.ireturn, 1) := by decide +kernel
theorem dX11_shown_64 : decode cX11_shown 64 = .ok (.iload_n 1, 1) := by decide +kernel
theorem dX11_shown_65 : decode cX11_shown 65 = .ok (.ifCond .ne 10, 3) := by decide +kernel
theorem dX11_shown_68 : decode cX11_shown 68 = .ok (.aload_n 0, 1) := by decide +kernel
theorem dX11_shown_69 : decode cX11_shown 69 = .ok (.getfield 333, 3) := by decide +kernel
theorem dX11_shown_72 : decode cX11_shown 72 = .ok (.goto 29, 3) := by decide +kernel
theorem dX11_shown_75 : decode cX11_shown 75 = .ok (.iload_n 1, 1) := by decide +kernel
theorem dX11_shown_76 : decode cX11_shown 76 = .ok (.iconst 1, 1) := by decide +kernel
theorem dX11_shown_77 : decode cX11_shown 77 = .ok (.if_icmp .ne 10, 3) := by decide +kernel
theorem dX11_shown_80 : decode cX11_shown 80 = .ok (.aload_n 0, 1) := by decide +kernel
theorem dX11_shown_81 : decode cX11_shown 81 = .ok (.getfield 336, 3) := by decide +kernel
theorem dX11_shown_84 : decode cX11_shown 84 = .ok (.goto 17, 3) := by decide +kernel
theorem dX11_shown_87 : decode cX11_shown 87 = .ok (.iload_n 2, 1) := by decide +kernel
theorem dX11_shown_88 : decode cX11_shown 88 = .ok (.aload_n 0, 1) := by decide +kernel
theorem dX11_shown_89 : decode cX11_shown 89 = .ok (.aload_n 0, 1) := by decide +kernel
theorem dX11_shown_90 : decode cX11_shown 90 = .ok (.getfield 333, 3) := by decide +kernel
theorem dX11_shown_93 : decode cX11_shown 93 = .ok (.aload_n 0, 1) := by decide +kernel
theorem dX11_shown_94 : decode cX11_shown 94 = .ok (.getfield 336, 3) := by decide +kernel
theorem dX11_shown_97 : decode cX11_shown 97 = .ok (.invokevirtual 330, 3) := by decide +kernel
theorem dX11_shown_100 : decode cX11_shown 100 = .ok (.isub, 1) := by decide +kernel
theorem dX11_shown_101 : decode cX11_shown 101 = .ok (.ireturn, 1) := by decide +kernel
theorem dX11_opens_0 : decode cX11_opens 0 = .ok (.aload_n 0, 1) := by decide +kernel
theorem dX11_opens_1 : decode cX11_opens 1 = .ok (.iconst 1, 1) := by decide +kernel
theorem dX11_opens_2 : decode cX11_opens 2 = .ok (.putfield 371, 3) := by decide +kernel
theorem dX11_opens_5 : decode cX11_opens 5 = .ok (.iconst 0, 1) := by decide +kernel
theorem dX11_opens_6 : decode cX11_opens 6 = .ok (.istore_n 1, 1) := by decide +kernel
theorem dX11_opens_7 : decode cX11_opens 7 = .ok (.iload_n 1, 1) := by decide +kernel
theorem dX11_opens_8 : decode cX11_opens 8 = .ok (.bipush 88, 2) := by decide +kernel
theorem dX11_opens_10 : decode cX11_opens 10 = .ok (.if_icmp .ge 21, 3) := by decide +kernel
theorem dX11_opens_13 : decode cX11_opens 13 = .ok (.aload_n 0, 1) := by decide +kernel
theorem dX11_opens_14 : decode cX11_opens 14 = .ok (.getfield 78, 3) := by decide +kernel
theorem dX11_opens_17 : decode cX11_opens 17 = .ok (.iload_n 1, 1) := by decide +kernel
theorem dX11_opens_18 : decode cX11_opens 18 = .ok (.aload_n 0, 1) := by decide +kernel
theorem dX11_opens_19 : decode cX11_opens 19 = .ok (.getfield 75, 3) := by decide +kernel
theorem dX11_opens_22 : decode cX11_opens 22 = .ok (.iload_n 1, 1) := by decide +kernel
theorem dX11_opens_23 : decode cX11_opens 23 = .ok (.iaload, 1) := by decide +kernel
theorem dX11_opens_24 : decode cX11_opens 24 = .ok (.iastore, 1) := by decide +kernel
theorem dX11_opens_25 : decode cX11_opens 25 = .ok (.iinc 1 1, 3) := by decide +kernel
theorem dX11_opens_28 : decode cX11_opens 28 = .ok (.goto (-21), 3) := by decide +kernel
theorem dX11_opens_31 : decode cX11_opens 31 = .ok (.iconst 0, 1) := by decide +kernel
theorem dX11_opens_32 : decode cX11_opens 32 = .ok (.istore_n 1, 1) := by decide +kernel
theorem dX11_opens_33 : decode cX11_opens 33 = .ok (.iload_n 1, 1) := by decide +kernel
theorem dX11_opens_34 : decode cX11_opens 34 = .ok (.iconst 4, 1) := by decide +kernel
theorem dX11_opens_35 : decode cX11_opens 35 = .ok (.if_icmp .ge 33, 3) := by decide +kernel
theorem dX11_opens_38 : decode cX11_opens 38 = .ok (.aload_n 0, 1) := by decide +kernel
theorem dX11_opens_39 : decode cX11_opens 39 = .ok (.getfield 87, 3) := by decide +kernel
theorem dX11_opens_42 : decode cX11_opens 42 = .ok (.iload_n 1, 1) := by decide +kernel
theorem dX11_opens_43 : decode cX11_opens 43 = .ok (.aload_n 0, 1) := by decide +kernel
theorem dX11_opens_44 : decode cX11_opens 44 = .ok (.getfield 81, 3) := by decide +kernel
theorem dX11_opens_47 : decode cX11_opens 47 = .ok (.iload_n 1, 1) := by decide +kernel
theorem dX11_opens_48 : decode cX11_opens 48 = .ok (.iaload, 1) := by decide +kernel
theorem dX11_opens_49 : decode cX11_opens 49 = .ok (.iastore, 1) := by decide +kernel
theorem dX11_opens_50 : decode cX11_opens 50 = .ok (.aload_n 0, 1) := by decide +kernel
theorem dX11_opens_51 : decode cX11_opens 51 = .ok (.getfield 90, 3) := by decide +kernel
theorem dX11_opens_54 : decode cX11_opens 54 = .ok (.iload_n 1, 1) := by decide +kernel
theorem dX11_opens_55 : decode cX11_opens 55 = .ok (.aload_n 0, 1) := by decide +kernel
theorem dX11_opens_56 : decode cX11_opens 56 = .ok (.getfield 84, 3) := by decide +kernel
theorem dX11_opens_59 : decode cX11_opens 59 = .ok (.iload_n 1, 1) := by decide +kernel
theorem dX11_opens_60 : decode cX11_opens 60 = .ok (.iaload, 1) := by decide +kernel
theorem dX11_opens_61 : decode cX11_opens 61 = .ok (.iastore, 1) := by decide +kernel
theorem dX11_opens_62 : decode cX11_opens 62 = .ok (.iinc 1 1, 3) := by decide +kernel
theorem dX11_opens_65 : decode cX11_opens 65 = .ok (.goto (-32), 3) := by decide +kernel
theorem dX11_opens_68 : decode cX11_opens 68 = .ok (.return_, 1) := by decide +kernel
theorem dX11_closes_0 : decode cX11_closes 0 = .ok (.aload_n 0, 1) := by decide +kernel
theorem dX11_closes_1 : decode cX11_closes 1 = .ok (.iconst 0, 1) := by decide +kernel
theorem dX11_closes_2 : decode cX11_closes 2 = .ok (.putfield 371, 3) := by decide +kernel
theorem dX11_closes_5 : decode cX11_closes 5 = .ok (.iconst 0, 1) := by decide +kernel
theorem dX11_closes_6 : decode cX11_closes 6 = .ok (.istore_n 1, 1) := by decide +kernel
theorem dX11_closes_7 : decode cX11_closes 7 = .ok (.iload_n 1, 1) := by decide +kernel
theorem dX11_closes_8 : decode cX11_closes 8 = .ok (.bipush 88, 2) := by decide +kernel
theorem dX11_closes_10 : decode cX11_closes 10 = .ok (.if_icmp .ge 21, 3) := by decide +kernel
theorem dX11_closes_13 : decode cX11_closes 13 = .ok (.aload_n 0, 1) := by decide +kernel
theorem dX11_closes_14 : decode cX11_closes 14 = .ok (.getfield 75, 3) := by decide +kernel
theorem dX11_closes_17 : decode cX11_closes 17 = .ok (.iload_n 1, 1) := by decide +kernel
theorem dX11_closes_18 : decode cX11_closes 18 = .ok (.aload_n 0, 1) := by decide +kernel
theorem dX11_closes_19 : decode cX11_closes 19 = .ok (.getfield 78, 3) := by decide +kernel
theorem dX11_closes_22 : decode cX11_closes 22 = .ok (.iload_n 1, 1) := by decide +kernel
theorem dX11_closes_23 : decode cX11_closes 23 = .ok (.iaload, 1) := by decide +kernel
theorem dX11_closes_24 : decode cX11_closes 24 = .ok (.iastore, 1) := by decide +kernel
theorem dX11_closes_25 : decode cX11_closes 25 = .ok (.iinc 1 1, 3) := by decide +kernel
theorem dX11_closes_28 : decode cX11_closes 28 = .ok (.goto (-21), 3) := by decide +kernel
theorem dX11_closes_31 : decode cX11_closes 31 = .ok (.iconst 0, 1) := by decide +kernel
theorem dX11_closes_32 : decode cX11_closes 32 = .ok (.istore_n 1, 1) := by decide +kernel
theorem dX11_closes_33 : decode cX11_closes 33 = .ok (.iload_n 1, 1) := by decide +kernel
theorem dX11_closes_34 : decode cX11_closes 34 = .ok (.iconst 4, 1) := by decide +kernel
theorem dX11_closes_35 : decode cX11_closes 35 = .ok (.if_icmp .ge 33, 3) := by decide +kernel
theorem dX11_closes_38 : decode cX11_closes 38 = .ok (.aload_n 0, 1) := by decide +kernel
theorem dX11_closes_39 : decode cX11_closes 39 = .ok (.getfield 81, 3) := by decide +kernel
theorem dX11_closes_42 : decode cX11_closes 42 = .ok (.iload_n 1, 1) := by decide +kernel
theorem dX11_closes_43 : decode cX11_closes 43 = .ok (.aload_n 0, 1) := by decide +kernel
theorem dX11_closes_44 : decode cX11_closes 44 = .ok (.getfield 87, 3) := by decide +kernel
theorem dX11_closes_47 : decode cX11_closes 47 = .ok (.iload_n 1, 1) := by decide +kernel
theorem dX11_closes_48 : decode cX11_closes 48 = .ok (.iaload, 1) := by decide +kernel
theorem dX11_closes_49 : decode cX11_closes 49 = .ok (.iastore, 1) := by decide +kernel
theorem dX11_closes_50 : decode cX11_closes 50 = .ok (.aload_n 0, 1) := by decide +kernel
theorem dX11_closes_51 : decode cX11_closes 51 = .ok (.getfield 84, 3) := by decide +kernel
theorem dX11_closes_54 : decode cX11_closes 54 = .ok (.iload_n 1, 1) := by decide +kernel
theorem dX11_closes_55 : decode cX11_closes 55 = .ok (.aload_n 0, 1) := by decide +kernel
theorem dX11_closes_56 : decode cX11_closes 56 = .ok (.getfield 90, 3) := by decide +kernel
theorem dX11_closes_59 : decode cX11_closes 59 = .ok (.iload_n 1, 1) := by decide +kernel
theorem dX11_closes_60 : decode cX11_closes 60 = .ok (.iaload, 1) := by decide +kernel
theorem dX11_closes_61 : decode cX11_closes 61 = .ok (.iastore, 1) := by decide +kernel
theorem dX11_closes_62 : decode cX11_closes 62 = .ok (.iinc 1 1, 3) := by decide +kernel
theorem dX11_closes_65 : decode cX11_closes 65 = .ok (.goto (-32), 3) := by decide +kernel
theorem dX11_closes_68 : decode cX11_closes 68 = .ok (.return_, 1) := by decide +kernel
theorem dX11_trains_0 : decode cX11_trains 0 = .ok (.aload_n 0, 1) := by decide +kernel
theorem dX11_trains_1 : decode cX11_trains 1 = .ok (.invokevirtual 353, 3) := by decide +kernel
theorem dX11_trains_4 : decode cX11_trains 4 = .ok (.aload_n 0, 1) := by decide +kernel
theorem dX11_trains_5 : decode cX11_trains 5 = .ok (.invokevirtual 385, 3) := by decide +kernel
theorem dX11_trains_8 : decode cX11_trains 8 = .ok (.ifCond .eq 10, 3) := by decide +kernel
theorem dX11_trains_11 : decode cX11_trains 11 = .ok (.aload_n 0, 1) := by decide +kernel
theorem dX11_trains_12 : decode cX11_trains 12 = .ok (.invokevirtual 388, 3) := by decide +kernel
theorem dX11_trains_15 : decode cX11_trains 15 = .ok (.goto (-11), 3) := by decide +kernel
theorem dX11_trains_18 : decode cX11_trains 18 = .ok (.aload_n 0, 1) := by decide +kernel
theorem dX11_trains_19 : decode cX11_trains 19 = .ok (.getfield 75, 3) := by decide +kernel
theorem dX11_trains_22 : decode cX11_trains 22 = .ok (.iconst 0, 1) := by decide +kernel
theorem dX11_trains_23 : decode cX11_trains 23 = .ok (.iaload, 1) := by decide +kernel
theorem dX11_trains_24 : decode cX11_trains 24 = .ok (.iconst 3, 1) := by decide +kernel
theorem dX11_trains_25 : decode cX11_trains 25 = .ok (.if_icmp .ne 21, 3) := by decide +kernel
theorem dX11_trains_28 : decode cX11_trains 28 = .ok (.aload_n 0, 1) := by decide +kernel
theorem dX11_trains_29 : decode cX11_trains 29 = .ok (.getfield 75, 3) := by decide +kernel
theorem dX11_trains_32 : decode cX11_trains 32 = .ok (.iconst 1, 1) := by decide +kernel
theorem dX11_trains_33 : decode cX11_trains 33 = .ok (.iaload, 1) := by decide +kernel
theorem dX11_trains_34 : decode cX11_trains 34 = .ok (.aload_n 0, 1) := by decide +kernel
theorem dX11_trains_35 : decode cX11_trains 35 = .ok (.getfield 75, 3) := by decide +kernel
theorem dX11_trains_38 : decode cX11_trains 38 = .ok (.iconst 2, 1) := by decide +kernel
theorem dX11_trains_39 : decode cX11_trains 39 = .ok (.iaload, 1) := by decide +kernel
theorem dX11_trains_40 : decode cX11_trains 40 = .ok (.invokestatic 327, 3) := by decide +kernel
theorem dX11_trains_43 : decode cX11_trains 43 = .ok (.goto 4, 3) := by decide +kernel
theorem dX11_trains_46 : decode cX11_trains 46 = .ok (.iconst 0, 1) := by decide +kernel
theorem dX11_trains_47 : decode cX11_trains 47 = .ok (.ireturn, 1) := by decide +kernel
theorem dX11_toldOf_0 : decode cX11_toldOf 0 = .ok (.iload_n 1, 1) := by decide +kernel
theorem dX11_toldOf_1 : decode cX11_toldOf 1 = .ok (.tableswitch 72 0 4 #[35, 42, 49, 56, 64], 35) := by decide +kernel
theorem dX11_toldOf_36 : decode cX11_toldOf 36 = .ok (.aload_n 0, 1) := by decide +kernel
theorem dX11_toldOf_37 : decode cX11_toldOf 37 = .ok (.getfield 75, 3) := by decide +kernel
theorem dX11_toldOf_40 : decode cX11_toldOf 40 = .ok (.iconst 0, 1) := by decide +kernel
theorem dX11_toldOf_41 : decode cX11_toldOf 41 = .ok (.iaload, 1) := by decide +kernel
theorem dX11_toldOf_42 : decode cX11_toldOf 42 = .ok (.ireturn, 1) := by decide +kernel
theorem dX11_toldOf_43 : decode cX11_toldOf 43 = .ok (.aload_n 0, 1) := by decide +kernel
theorem dX11_toldOf_44 : decode cX11_toldOf 44 = .ok (.getfield 75, 3) := by decide +kernel
theorem dX11_toldOf_47 : decode cX11_toldOf 47 = .ok (.iconst 1, 1) := by decide +kernel
theorem dX11_toldOf_48 : decode cX11_toldOf 48 = .ok (.iaload, 1) := by decide +kernel
theorem dX11_toldOf_49 : decode cX11_toldOf 49 = .ok (.ireturn, 1) := by decide +kernel
theorem dX11_toldOf_50 : decode cX11_toldOf 50 = .ok (.aload_n 0, 1) := by decide +kernel
theorem dX11_toldOf_51 : decode cX11_toldOf 51 = .ok (.getfield 75, 3) := by decide +kernel
theorem dX11_toldOf_54 : decode cX11_toldOf 54 = .ok (.iconst 2, 1) := by decide +kernel
theorem dX11_toldOf_55 : decode cX11_toldOf 55 = .ok (.iaload, 1) := by decide +kernel
theorem dX11_toldOf_56 : decode cX11_toldOf 56 = .ok (.ireturn, 1) := by decide +kernel
theorem dX11_toldOf_57 : decode cX11_toldOf 57 = .ok (.aload_n 0, 1) := by decide +kernel
theorem dX11_toldOf_58 : decode cX11_toldOf 58 = .ok (.getfield 75, 3) := by decide +kernel
theorem dX11_toldOf_61 : decode cX11_toldOf 61 = .ok (.bipush 6, 2) := by decide +kernel
theorem dX11_toldOf_63 : decode cX11_toldOf 63 = .ok (.iaload, 1) := by decide +kernel
theorem dX11_toldOf_64 : decode cX11_toldOf 64 = .ok (.ireturn, 1) := by decide +kernel
theorem dX11_toldOf_65 : decode cX11_toldOf 65 = .ok (.aload_n 0, 1) := by decide +kernel
theorem dX11_toldOf_66 : decode cX11_toldOf 66 = .ok (.getfield 75, 3) := by decide +kernel
theorem dX11_toldOf_69 : decode cX11_toldOf 69 = .ok (.bipush 7, 2) := by decide +kernel
theorem dX11_toldOf_71 : decode cX11_toldOf 71 = .ok (.iaload, 1) := by decide +kernel
theorem dX11_toldOf_72 : decode cX11_toldOf 72 = .ok (.ireturn, 1) := by decide +kernel
theorem dX11_toldOf_73 : decode cX11_toldOf 73 = .ok (.iload_n 2, 1) := by decide +kernel
theorem dX11_toldOf_74 : decode cX11_toldOf 74 = .ok (.ireturn, 1) := by decide +kernel
theorem dX11_trained_0 : decode cX11_trained 0 = .ok (.aload_n 0, 1) := by decide +kernel
theorem dX11_trained_1 : decode cX11_trained 1 = .ok (.iconst 0, 1) := by decide +kernel
theorem dX11_trained_2 : decode cX11_trained 2 = .ok (.putfield 1, 3) := by decide +kernel
theorem dX11_trained_5 : decode cX11_trained 5 = .ok (.iload_n 1, 1) := by decide +kernel
theorem dX11_trained_6 : decode cX11_trained 6 = .ok (.i2l, 1) := by decide +kernel
theorem dX11_trained_7 : decode cX11_trained 7 = .ok (.lconst 0, 1) := by decide +kernel
theorem dX11_trained_8 : decode cX11_trained 8 = .ok (.ldc2_w 394, 3) := by decide +kernel
theorem dX11_trained_11 : decode cX11_trained 11 = .ok (.invokestatic 107, 3) := by decide +kernel
theorem dX11_trained_14 : decode cX11_trained 14 = .ok (.ifCond .ne 6, 3) := by decide +kernel
theorem dX11_trained_17 : decode cX11_trained 17 = .ok (.bipush (-2), 2) := by decide +kernel
theorem dX11_trained_19 : decode cX11_trained 19 = .ok (.ireturn, 1) := by decide +kernel
theorem dX11_trained_20 : decode cX11_trained 20 = .ok (.aload_n 0, 1) := by decide +kernel
theorem dX11_trained_21 : decode cX11_trained 21 = .ok (.invokevirtual 396, 3) := by decide +kernel
theorem dX11_trained_24 : decode cX11_trained 24 = .ok (.aload_n 0, 1) := by decide +kernel
theorem dX11_trained_25 : decode cX11_trained 25 = .ok (.iload_n 1, 1) := by decide +kernel
theorem dX11_trained_26 : decode cX11_trained 26 = .ok (.aload_n 0, 1) := by decide +kernel
theorem dX11_trained_27 : decode cX11_trained 27 = .ok (.invokevirtual 399, 3) := by decide +kernel
theorem dX11_trained_30 : decode cX11_trained 30 = .ok (.invokevirtual 403, 3) := by decide +kernel
theorem dX11_trained_33 : decode cX11_trained 33 = .ok (.istore_n 2, 1) := by decide +kernel
theorem dX11_trained_34 : decode cX11_trained 34 = .ok (.aload_n 0, 1) := by decide +kernel
theorem dX11_trained_35 : decode cX11_trained 35 = .ok (.invokevirtual 406, 3) := by decide +kernel
theorem dX11_trained_38 : decode cX11_trained 38 = .ok (.iload_n 2, 1) := by decide +kernel
theorem dX11_trained_39 : decode cX11_trained 39 = .ok (.ireturn, 1) := by decide +kernel
theorem dX11_margin_0 : decode cX11_margin 0 = .ok (.aload_n 0, 1) := by decide +kernel
theorem dX11_margin_1 : decode cX11_margin 1 = .ok (.iconst 0, 1) := by decide +kernel
theorem dX11_margin_2 : decode cX11_margin 2 = .ok (.putfield 1, 3) := by decide +kernel
theorem dX11_margin_5 : decode cX11_margin 5 = .ok (.iload_n 1, 1) := by decide +kernel
theorem dX11_margin_6 : decode cX11_margin 6 = .ok (.invokestatic 342, 3) := by decide +kernel
theorem dX11_margin_9 : decode cX11_margin 9 = .ok (.ifCond .ne 6, 3) := by decide +kernel
theorem dX11_margin_12 : decode cX11_margin 12 = .ok (.bipush (-2), 2) := by decide +kernel
theorem dX11_margin_14 : decode cX11_margin 14 = .ok (.ireturn, 1) := by decide +kernel
theorem dX11_margin_15 : decode cX11_margin 15 = .ok (.aload_n 0, 1) := by decide +kernel
theorem dX11_margin_16 : decode cX11_margin 16 = .ok (.invokevirtual 396, 3) := by decide +kernel
theorem dX11_margin_19 : decode cX11_margin 19 = .ok (.aload_n 0, 1) := by decide +kernel
theorem dX11_margin_20 : decode cX11_margin 20 = .ok (.invokevirtual 399, 3) := by decide +kernel
theorem dX11_margin_23 : decode cX11_margin 23 = .ok (.istore_n 2, 1) := by decide +kernel
theorem dX11_margin_24 : decode cX11_margin 24 = .ok (.aload_n 0, 1) := by decide +kernel
theorem dX11_margin_25 : decode cX11_margin 25 = .ok (.getfield 81, 3) := by decide +kernel
theorem dX11_margin_28 : decode cX11_margin 28 = .ok (.iload_n 1, 1) := by decide +kernel
theorem dX11_margin_29 : decode cX11_margin 29 = .ok (.bipush 30, 2) := by decide +kernel
theorem dX11_margin_31 : decode cX11_margin 31 = .ok (.iastore, 1) := by decide +kernel
theorem dX11_margin_32 : decode cX11_margin 32 = .ok (.aload_n 0, 1) := by decide +kernel
theorem dX11_margin_33 : decode cX11_margin 33 = .ok (.invokevirtual 399, 3) := by decide +kernel
theorem dX11_margin_36 : decode cX11_margin 36 = .ok (.iload_n 2, 1) := by decide +kernel
theorem dX11_margin_37 : decode cX11_margin 37 = .ok (.if_icmp .ge 16, 3) := by decide +kernel
theorem dX11_margin_40 : decode cX11_margin 40 = .ok (.aload_n 0, 1) := by decide +kernel
theorem dX11_margin_41 : decode cX11_margin 41 = .ok (.getfield 81, 3) := by decide +kernel
theorem dX11_margin_44 : decode cX11_margin 44 = .ok (.iload_n 1, 1) := by decide +kernel
theorem dX11_margin_45 : decode cX11_margin 45 = .ok (.dup2, 1) := by decide +kernel
theorem dX11_margin_46 : decode cX11_margin 46 = .ok (.iaload, 1) := by decide +kernel
theorem dX11_margin_47 : decode cX11_margin 47 = .ok (.iconst 1, 1) := by decide +kernel
theorem dX11_margin_48 : decode cX11_margin 48 = .ok (.isub, 1) := by decide +kernel
theorem dX11_margin_49 : decode cX11_margin 49 = .ok (.iastore, 1) := by decide +kernel
theorem dX11_margin_50 : decode cX11_margin 50 = .ok (.goto (-18), 3) := by decide +kernel
theorem dX11_margin_53 : decode cX11_margin 53 = .ok (.aload_n 0, 1) := by decide +kernel
theorem dX11_margin_54 : decode cX11_margin 54 = .ok (.getfield 81, 3) := by decide +kernel
theorem dX11_margin_57 : decode cX11_margin 57 = .ok (.iload_n 1, 1) := by decide +kernel
theorem dX11_margin_58 : decode cX11_margin 58 = .ok (.iaload, 1) := by decide +kernel
theorem dX11_margin_59 : decode cX11_margin 59 = .ok (.istore_n 3, 1) := by decide +kernel
theorem dX11_margin_60 : decode cX11_margin 60 = .ok (.aload_n 0, 1) := by decide +kernel
theorem dX11_margin_61 : decode cX11_margin 61 = .ok (.invokevirtual 406, 3) := by decide +kernel
theorem dX11_margin_64 : decode cX11_margin 64 = .ok (.iload_n 3, 1) := by decide +kernel
theorem dX11_margin_65 : decode cX11_margin 65 = .ok (.ireturn, 1) := by decide +kernel
theorem dX11_triesOrder_0 : decode cX11_triesOrder 0 = .ok (.iload_n 1, 1) := by decide +kernel
theorem dX11_triesOrder_1 : decode cX11_triesOrder 1 = .ok (.istore_n 2, 1) := by decide +kernel
theorem dX11_triesOrder_2 : decode cX11_triesOrder 2 = .ok (.iconst 3, 1) := by decide +kernel
theorem dX11_triesOrder_3 : decode cX11_triesOrder 3 = .ok (.istore_n 3, 1) := by decide +kernel
theorem dX11_triesOrder_4 : decode cX11_triesOrder 4 = .ok (.iload_n 3, 1) := by decide +kernel
theorem dX11_triesOrder_5 : decode cX11_triesOrder 5 = .ok (.ifCond .lt 44, 3) := by decide +kernel
theorem dX11_triesOrder_8 : decode cX11_triesOrder 8 = .ok (.aload_n 0, 1) := by decide +kernel
theorem dX11_triesOrder_9 : decode cX11_triesOrder 9 = .ok (.getfield 81, 3) := by decide +kernel
theorem dX11_triesOrder_12 : decode cX11_triesOrder 12 = .ok (.iload_n 3, 1) := by decide +kernel
theorem dX11_triesOrder_13 : decode cX11_triesOrder 13 = .ok (.aload_n 0, 1) := by decide +kernel
theorem dX11_triesOrder_14 : decode cX11_triesOrder 14 = .ok (.getfield 87, 3) := by decide +kernel
theorem dX11_triesOrder_17 : decode cX11_triesOrder 17 = .ok (.iload_n 2, 1) := by decide +kernel
theorem dX11_triesOrder_18 : decode cX11_triesOrder 18 = .ok (.bipush 10, 2) := by decide +kernel
theorem dX11_triesOrder_20 : decode cX11_triesOrder 20 = .ok (.irem, 1) := by decide +kernel
theorem dX11_triesOrder_21 : decode cX11_triesOrder 21 = .ok (.iaload, 1) := by decide +kernel
theorem dX11_triesOrder_22 : decode cX11_triesOrder 22 = .ok (.iastore, 1) := by decide +kernel
theorem dX11_triesOrder_23 : decode cX11_triesOrder 23 = .ok (.aload_n 0, 1) := by decide +kernel
theorem dX11_triesOrder_24 : decode cX11_triesOrder 24 = .ok (.getfield 84, 3) := by decide +kernel
theorem dX11_triesOrder_27 : decode cX11_triesOrder 27 = .ok (.iload_n 3, 1) := by decide +kernel
theorem dX11_triesOrder_28 : decode cX11_triesOrder 28 = .ok (.aload_n 0, 1) := by decide +kernel
theorem dX11_triesOrder_29 : decode cX11_triesOrder 29 = .ok (.getfield 90, 3) := by decide +kernel
theorem dX11_triesOrder_32 : decode cX11_triesOrder 32 = .ok (.iload_n 2, 1) := by decide +kernel
theorem dX11_triesOrder_33 : decode cX11_triesOrder 33 = .ok (.bipush 10, 2) := by decide +kernel
theorem dX11_triesOrder_35 : decode cX11_triesOrder 35 = .ok (.irem, 1) := by decide +kernel
theorem dX11_triesOrder_36 : decode cX11_triesOrder 36 = .ok (.iaload, 1) := by decide +kernel
theorem dX11_triesOrder_37 : decode cX11_triesOrder 37 = .ok (.iastore, 1) := by decide +kernel
theorem dX11_triesOrder_38 : decode cX11_triesOrder 38 = .ok (.iload_n 2, 1) := by decide +kernel
theorem dX11_triesOrder_39 : decode cX11_triesOrder 39 = .ok (.bipush 10, 2) := by decide +kernel
theorem dX11_triesOrder_41 : decode cX11_triesOrder 41 = .ok (.idiv, 1) := by decide +kernel
theorem dX11_triesOrder_42 : decode cX11_triesOrder 42 = .ok (.istore_n 2, 1) := by decide +kernel
theorem dX11_triesOrder_43 : decode cX11_triesOrder 43 = .ok (.iinc 3 (-1), 3) := by decide +kernel
theorem dX11_triesOrder_46 : decode cX11_triesOrder 46 = .ok (.goto (-42), 3) := by decide +kernel
theorem dX11_triesOrder_49 : decode cX11_triesOrder 49 = .ok (.aload_n 0, 1) := by decide +kernel
theorem dX11_triesOrder_50 : decode cX11_triesOrder 50 = .ok (.invokevirtual 399, 3) := by decide +kernel
theorem dX11_triesOrder_53 : decode cX11_triesOrder 53 = .ok (.istore_n 3, 1) := by decide +kernel
theorem dX11_triesOrder_54 : decode cX11_triesOrder 54 = .ok (.iload_n 3, 1) := by decide +kernel
theorem dX11_triesOrder_55 : decode cX11_triesOrder 55 = .ok (.aload_n 0, 1) := by decide +kernel
theorem dX11_triesOrder_56 : decode cX11_triesOrder 56 = .ok (.getfield 409, 3) := by decide +kernel
theorem dX11_triesOrder_59 : decode cX11_triesOrder 59 = .ok (.if_icmp .gt 4, 3) := by decide +kernel
theorem dX11_triesOrder_62 : decode cX11_triesOrder 62 = .ok (.return_, 1) := by decide +kernel
theorem dX11_triesOrder_63 : decode cX11_triesOrder 63 = .ok (.aload_n 0, 1) := by decide +kernel
theorem dX11_triesOrder_64 : decode cX11_triesOrder 64 = .ok (.iload_n 3, 1) := by decide +kernel
theorem dX11_triesOrder_65 : decode cX11_triesOrder 65 = .ok (.putfield 409, 3) := by decide +kernel
theorem dX11_triesOrder_68 : decode cX11_triesOrder 68 = .ok (.aload_n 0, 1) := by decide +kernel
theorem dX11_triesOrder_69 : decode cX11_triesOrder 69 = .ok (.iload_n 1, 1) := by decide +kernel
theorem dX11_triesOrder_70 : decode cX11_triesOrder 70 = .ok (.putfield 412, 3) := by decide +kernel
theorem dX11_triesOrder_73 : decode cX11_triesOrder 73 = .ok (.return_, 1) := by decide +kernel
theorem dX11_isOrder_0 : decode cX11_isOrder 0 = .ok (.iconst 0, 1) := by decide +kernel
theorem dX11_isOrder_1 : decode cX11_isOrder 1 = .ok (.istore_n 1, 1) := by decide +kernel
theorem dX11_isOrder_2 : decode cX11_isOrder 2 = .ok (.iload_n 0, 1) := by decide +kernel
theorem dX11_isOrder_3 : decode cX11_isOrder 3 = .ok (.istore_n 2, 1) := by decide +kernel
theorem dX11_isOrder_4 : decode cX11_isOrder 4 = .ok (.iconst 0, 1) := by decide +kernel
theorem dX11_isOrder_5 : decode cX11_isOrder 5 = .ok (.istore_n 3, 1) := by decide +kernel
theorem dX11_isOrder_6 : decode cX11_isOrder 6 = .ok (.iload_n 3, 1) := by decide +kernel
theorem dX11_isOrder_7 : decode cX11_isOrder 7 = .ok (.iconst 4, 1) := by decide +kernel
theorem dX11_isOrder_8 : decode cX11_isOrder 8 = .ok (.if_icmp .ge 23, 3) := by decide +kernel
theorem dX11_isOrder_11 : decode cX11_isOrder 11 = .ok (.iload_n 1, 1) := by decide +kernel
theorem dX11_isOrder_12 : decode cX11_isOrder 12 = .ok (.iconst 1, 1) := by decide +kernel
theorem dX11_isOrder_13 : decode cX11_isOrder 13 = .ok (.iload_n 2, 1) := by decide +kernel
theorem dX11_isOrder_14 : decode cX11_isOrder 14 = .ok (.bipush 10, 2) := by decide +kernel
theorem dX11_isOrder_16 : decode cX11_isOrder 16 = .ok (.irem, 1) := by decide +kernel
theorem dX11_isOrder_17 : decode cX11_isOrder 17 = .ok (.ishl, 1) := by decide +kernel
theorem dX11_isOrder_18 : decode cX11_isOrder 18 = .ok (.ior, 1) := by decide +kernel
theorem dX11_isOrder_19 : decode cX11_isOrder 19 = .ok (.istore_n 1, 1) := by decide +kernel
theorem dX11_isOrder_20 : decode cX11_isOrder 20 = .ok (.iload_n 2, 1) := by decide +kernel
theorem dX11_isOrder_21 : decode cX11_isOrder 21 = .ok (.bipush 10, 2) := by decide +kernel
theorem dX11_isOrder_23 : decode cX11_isOrder 23 = .ok (.idiv, 1) := by decide +kernel
theorem dX11_isOrder_24 : decode cX11_isOrder 24 = .ok (.istore_n 2, 1) := by decide +kernel
theorem dX11_isOrder_25 : decode cX11_isOrder 25 = .ok (.iinc 3 1, 3) := by decide +kernel
theorem dX11_isOrder_28 : decode cX11_isOrder 28 = .ok (.goto (-22), 3) := by decide +kernel
theorem dX11_isOrder_31 : decode cX11_isOrder 31 = .ok (.iload_n 1, 1) := by decide +kernel
theorem dX11_isOrder_32 : decode cX11_isOrder 32 = .ok (.bipush 15, 2) := by decide +kernel
theorem dX11_isOrder_34 : decode cX11_isOrder 34 = .ok (.if_icmp .ne 7, 3) := by decide +kernel
theorem dX11_isOrder_37 : decode cX11_isOrder 37 = .ok (.iconst 1, 1) := by decide +kernel
theorem dX11_isOrder_38 : decode cX11_isOrder 38 = .ok (.goto 4, 3) := by decide +kernel
theorem dX11_isOrder_41 : decode cX11_isOrder 41 = .ok (.iconst 0, 1) := by decide +kernel
theorem dX11_isOrder_42 : decode cX11_isOrder 42 = .ok (.ireturn, 1) := by decide +kernel
theorem dX11_laid_0 : decode cX11_laid 0 = .ok (.aload_n 0, 1) := by decide +kernel
theorem dX11_laid_1 : decode cX11_laid 1 = .ok (.iconst 0, 1) := by decide +kernel
theorem dX11_laid_2 : decode cX11_laid 2 = .ok (.putfield 1, 3) := by decide +kernel
theorem dX11_laid_5 : decode cX11_laid 5 = .ok (.iload_n 1, 1) := by decide +kernel
theorem dX11_laid_6 : decode cX11_laid 6 = .ok (.i2l, 1) := by decide +kernel
theorem dX11_laid_7 : decode cX11_laid 7 = .ok (.lconst 0, 1) := by decide +kernel
theorem dX11_laid_8 : decode cX11_laid 8 = .ok (.lconst 1, 1) := by decide +kernel
theorem dX11_laid_9 : decode cX11_laid 9 = .ok (.invokestatic 107, 3) := by decide +kernel
theorem dX11_laid_12 : decode cX11_laid 12 = .ok (.ifCond .ne 6, 3) := by decide +kernel
theorem dX11_laid_15 : decode cX11_laid 15 = .ok (.bipush (-2), 2) := by decide +kernel
theorem dX11_laid_17 : decode cX11_laid 17 = .ok (.ireturn, 1) := by decide +kernel
theorem dX11_laid_18 : decode cX11_laid 18 = .ok (.aload_n 0, 1) := by decide +kernel
theorem dX11_laid_19 : decode cX11_laid 19 = .ok (.invokevirtual 396, 3) := by decide +kernel
theorem dX11_laid_22 : decode cX11_laid 22 = .ok (.aload_n 0, 1) := by decide +kernel
theorem dX11_laid_23 : decode cX11_laid 23 = .ok (.iconst (-1), 1) := by decide +kernel
theorem dX11_laid_24 : decode cX11_laid 24 = .ok (.putfield 409, 3) := by decide +kernel
theorem dX11_laid_27 : decode cX11_laid 27 = .ok (.bipush 123, 2) := by decide +kernel
theorem dX11_laid_29 : decode cX11_laid 29 = .ok (.istore_n 2, 1) := by decide +kernel
theorem dX11_laid_30 : decode cX11_laid 30 = .ok (.iload_n 2, 1) := by decide +kernel
theorem dX11_laid_31 : decode cX11_laid 31 = .ok (.sipush 3210, 3) := by decide +kernel
theorem dX11_laid_34 : decode cX11_laid 34 = .ok (.if_icmp .gt 21, 3) := by decide +kernel
theorem dX11_laid_37 : decode cX11_laid 37 = .ok (.iload_n 2, 1) := by decide +kernel
theorem dX11_laid_38 : decode cX11_laid 38 = .ok (.invokestatic 415, 3) := by decide +kernel
theorem dX11_laid_41 : decode cX11_laid 41 = .ok (.ifCond .eq 8, 3) := by decide +kernel
theorem dX11_laid_44 : decode cX11_laid 44 = .ok (.aload_n 0, 1) := by decide +kernel
theorem dX11_laid_45 : decode cX11_laid 45 = .ok (.iload_n 2, 1) := by decide +kernel
theorem dX11_laid_46 : decode cX11_laid 46 = .ok (.invokevirtual 418, 3) := by decide +kernel
theorem dX11_laid_49 : decode cX11_laid 49 = .ok (.iinc 2 1, 3) := by decide +kernel
theorem dX11_laid_52 : decode cX11_laid 52 = .ok (.goto (-22), 3) := by decide +kernel
theorem dX11_laid_55 : decode cX11_laid 55 = .ok (.aload_n 0, 1) := by decide +kernel
theorem dX11_laid_56 : decode cX11_laid 56 = .ok (.invokevirtual 406, 3) := by decide +kernel
theorem dX11_laid_59 : decode cX11_laid 59 = .ok (.iload_n 1, 1) := by decide +kernel
theorem dX11_laid_60 : decode cX11_laid 60 = .ok (.ifCond .ne 10, 3) := by decide +kernel
theorem dX11_laid_63 : decode cX11_laid 63 = .ok (.aload_n 0, 1) := by decide +kernel
theorem dX11_laid_64 : decode cX11_laid 64 = .ok (.getfield 409, 3) := by decide +kernel
theorem dX11_laid_67 : decode cX11_laid 67 = .ok (.goto 7, 3) := by decide +kernel
theorem dX11_laid_70 : decode cX11_laid 70 = .ok (.aload_n 0, 1) := by decide +kernel
theorem dX11_laid_71 : decode cX11_laid 71 = .ok (.getfield 412, 3) := by decide +kernel
theorem dX11_laid_74 : decode cX11_laid 74 = .ok (.ireturn, 1) := by decide +kernel
theorem dX11_enough_0 : decode cX11_enough 0 = .ok (.aload_n 0, 1) := by decide +kernel
theorem dX11_enough_1 : decode cX11_enough 1 = .ok (.iconst 0, 1) := by decide +kernel
theorem dX11_enough_2 : decode cX11_enough 2 = .ok (.putfield 1, 3) := by decide +kernel
theorem dX11_enough_5 : decode cX11_enough 5 = .ok (.aload_n 0, 1) := by decide +kernel
theorem dX11_enough_6 : decode cX11_enough 6 = .ok (.invokevirtual 396, 3) := by decide +kernel
theorem dX11_enough_9 : decode cX11_enough 9 = .ok (.aload_n 0, 1) := by decide +kernel
theorem dX11_enough_10 : decode cX11_enough 10 = .ok (.getfield 72, 3) := by decide +kernel
theorem dX11_enough_13 : decode cX11_enough 13 = .ok (.istore_n 1, 1) := by decide +kernel
theorem dX11_enough_14 : decode cX11_enough 14 = .ok (.aload_n 0, 1) := by decide +kernel
theorem dX11_enough_15 : decode cX11_enough 15 = .ok (.invokevirtual 399, 3) := by decide +kernel
theorem dX11_enough_18 : decode cX11_enough 18 = .ok (.istore_n 2, 1) := by decide +kernel
theorem dX11_enough_19 : decode cX11_enough 19 = .ok (.aload_n 0, 1) := by decide +kernel
theorem dX11_enough_20 : decode cX11_enough 20 = .ok (.iconst 0, 1) := by decide +kernel
theorem dX11_enough_21 : decode cX11_enough 21 = .ok (.putfield 72, 3) := by decide +kernel
theorem dX11_enough_24 : decode cX11_enough 24 = .ok (.aload_n 0, 1) := by decide +kernel
theorem dX11_enough_25 : decode cX11_enough 25 = .ok (.invokevirtual 399, 3) := by decide +kernel
theorem dX11_enough_28 : decode cX11_enough 28 = .ok (.iload_n 2, 1) := by decide +kernel
theorem dX11_enough_29 : decode cX11_enough 29 = .ok (.if_icmp .ge 16, 3) := by decide +kernel
theorem dX11_enough_32 : decode cX11_enough 32 = .ok (.aload_n 0, 1) := by decide +kernel
theorem dX11_enough_33 : decode cX11_enough 33 = .ok (.dup, 1) := by decide +kernel
theorem dX11_enough_34 : decode cX11_enough 34 = .ok (.getfield 72, 3) := by decide +kernel
theorem dX11_enough_37 : decode cX11_enough 37 = .ok (.iconst 1, 1) := by decide +kernel
theorem dX11_enough_38 : decode cX11_enough 38 = .ok (.iadd, 1) := by decide +kernel
theorem dX11_enough_39 : decode cX11_enough 39 = .ok (.putfield 72, 3) := by decide +kernel
theorem dX11_enough_42 : decode cX11_enough 42 = .ok (.goto (-18), 3) := by decide +kernel
theorem dX11_enough_45 : decode cX11_enough 45 = .ok (.aload_n 0, 1) := by decide +kernel
theorem dX11_enough_46 : decode cX11_enough 46 = .ok (.getfield 72, 3) := by decide +kernel
theorem dX11_enough_49 : decode cX11_enough 49 = .ok (.istore_n 3, 1) := by decide +kernel
theorem dX11_enough_50 : decode cX11_enough 50 = .ok (.aload_n 0, 1) := by decide +kernel
theorem dX11_enough_51 : decode cX11_enough 51 = .ok (.iload_n 1, 1) := by decide +kernel
theorem dX11_enough_52 : decode cX11_enough 52 = .ok (.putfield 72, 3) := by decide +kernel
theorem dX11_enough_55 : decode cX11_enough 55 = .ok (.aload_n 0, 1) := by decide +kernel
theorem dX11_enough_56 : decode cX11_enough 56 = .ok (.invokevirtual 406, 3) := by decide +kernel
theorem dX11_enough_59 : decode cX11_enough 59 = .ok (.iload_n 3, 1) := by decide +kernel
theorem dX11_enough_60 : decode cX11_enough 60 = .ok (.ireturn, 1) := by decide +kernel
theorem dX11_would_0 : decode cX11_would 0 = .ok (.aload_n 0, 1) := by decide +kernel
theorem dX11_would_1 : decode cX11_would 1 = .ok (.iconst 0, 1) := by decide +kernel
theorem dX11_would_2 : decode cX11_would 2 = .ok (.putfield 1, 3) := by decide +kernel
theorem dX11_would_5 : decode cX11_would 5 = .ok (.iload_n 1, 1) := by decide +kernel
theorem dX11_would_6 : decode cX11_would 6 = .ok (.i2l, 1) := by decide +kernel
theorem dX11_would_7 : decode cX11_would 7 = .ok (.lconst 0, 1) := by decide +kernel
theorem dX11_would_8 : decode cX11_would 8 = .ok (.lconst 1, 1) := by decide +kernel
theorem dX11_would_9 : decode cX11_would 9 = .ok (.invokestatic 107, 3) := by decide +kernel
theorem dX11_would_12 : decode cX11_would 12 = .ok (.ifCond .ne 6, 3) := by decide +kernel
theorem dX11_would_15 : decode cX11_would 15 = .ok (.bipush (-2), 2) := by decide +kernel
theorem dX11_would_17 : decode cX11_would 17 = .ok (.ireturn, 1) := by decide +kernel
theorem dX11_would_18 : decode cX11_would 18 = .ok (.aload_n 0, 1) := by decide +kernel
theorem dX11_would_19 : decode cX11_would 19 = .ok (.invokevirtual 396, 3) := by decide +kernel
theorem dX11_would_22 : decode cX11_would 22 = .ok (.aload_n 0, 1) := by decide +kernel
theorem dX11_would_23 : decode cX11_would 23 = .ok (.invokevirtual 399, 3) := by decide +kernel
theorem dX11_would_26 : decode cX11_would 26 = .ok (.istore_n 2, 1) := by decide +kernel
theorem dX11_would_27 : decode cX11_would 27 = .ok (.aload_n 0, 1) := by decide +kernel
theorem dX11_would_28 : decode cX11_would 28 = .ok (.invokevirtual 406, 3) := by decide +kernel
theorem dX11_would_31 : decode cX11_would 31 = .ok (.iload_n 2, 1) := by decide +kernel
theorem dX11_would_32 : decode cX11_would 32 = .ok (.ifCond .ne 5, 3) := by decide +kernel
theorem dX11_would_35 : decode cX11_would 35 = .ok (.iconst (-1), 1) := by decide +kernel
theorem dX11_would_36 : decode cX11_would 36 = .ok (.ireturn, 1) := by decide +kernel
theorem dX11_would_37 : decode cX11_would 37 = .ok (.aload_n 0, 1) := by decide +kernel
theorem dX11_would_38 : decode cX11_would 38 = .ok (.iload_n 2, 1) := by decide +kernel
theorem dX11_would_39 : decode cX11_would 39 = .ok (.invokevirtual 339, 3) := by decide +kernel
theorem dX11_would_42 : decode cX11_would 42 = .ok (.iload_n 1, 1) := by decide +kernel
theorem dX11_would_43 : decode cX11_would 43 = .ok (.ifCond .ne 10, 3) := by decide +kernel
theorem dX11_would_46 : decode cX11_would 46 = .ok (.aload_n 0, 1) := by decide +kernel
theorem dX11_would_47 : decode cX11_would 47 = .ok (.getfield 333, 3) := by decide +kernel
theorem dX11_would_50 : decode cX11_would 50 = .ok (.goto 7, 3) := by decide +kernel
theorem dX11_would_53 : decode cX11_would 53 = .ok (.aload_n 0, 1) := by decide +kernel
theorem dX11_would_54 : decode cX11_would 54 = .ok (.getfield 336, 3) := by decide +kernel
theorem dX11_would_57 : decode cX11_would 57 = .ok (.ireturn, 1) := by decide +kernel
theorem dX11_count_0 : decode cX11_count 0 = .ok (.aload_n 0, 1) := by decide +kernel
theorem dX11_count_1 : decode cX11_count 1 = .ok (.iconst 0, 1) := by decide +kernel
theorem dX11_count_2 : decode cX11_count 2 = .ok (.putfield 1, 3) := by decide +kernel
theorem dX11_count_5 : decode cX11_count 5 = .ok (.iload_n 1, 1) := by decide +kernel
theorem dX11_count_6 : decode cX11_count 6 = .ok (.tableswitch 59 0 4 #[34, 39, 44, 49, 54], 34) := by decide +kernel
theorem dX11_count_40 : decode cX11_count 40 = .ok (.aload_n 0, 1) := by decide +kernel
theorem dX11_count_41 : decode cX11_count 41 = .ok (.getfield 128, 3) := by decide +kernel
theorem dX11_count_44 : decode cX11_count 44 = .ok (.ireturn, 1) := by decide +kernel
theorem dX11_count_45 : decode cX11_count 45 = .ok (.aload_n 0, 1) := by decide +kernel
theorem dX11_count_46 : decode cX11_count 46 = .ok (.getfield 96, 3) := by decide +kernel
theorem dX11_count_49 : decode cX11_count 49 = .ok (.ireturn, 1) := by decide +kernel
theorem dX11_count_50 : decode cX11_count 50 = .ok (.aload_n 0, 1) := by decide +kernel
theorem dX11_count_51 : decode cX11_count 51 = .ok (.getfield 66, 3) := by decide +kernel
theorem dX11_count_54 : decode cX11_count 54 = .ok (.ireturn, 1) := by decide +kernel
theorem dX11_count_55 : decode cX11_count 55 = .ok (.aload_n 0, 1) := by decide +kernel
theorem dX11_count_56 : decode cX11_count 56 = .ok (.getfield 69, 3) := by decide +kernel
theorem dX11_count_59 : decode cX11_count 59 = .ok (.ireturn, 1) := by decide +kernel
theorem dX11_count_60 : decode cX11_count 60 = .ok (.aload_n 0, 1) := by decide +kernel
theorem dX11_count_61 : decode cX11_count 61 = .ok (.getfield 72, 3) := by decide +kernel
theorem dX11_count_64 : decode cX11_count 64 = .ok (.ireturn, 1) := by decide +kernel
theorem dX11_count_65 : decode cX11_count 65 = .ok (.iconst (-1), 1) := by decide +kernel
theorem dX11_count_66 : decode cX11_count 66 = .ok (.ireturn, 1) := by decide +kernel
