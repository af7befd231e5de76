theorem dX4_init_0 : decode cX4_init 0 = .ok (.aload_n 0, 1) := by decide +kernel
theorem dX4_init_1 : decode cX4_init 1 = .ok (.invokespecial 1, 3) := by decide +kernel
theorem dX4_init_4 : decode cX4_init 4 = .ok (.aload_n 0, 1) := by decide +kernel
theorem dX4_init_5 : decode cX4_init 5 = .ok (.sipush 264, 3) := by decide +kernel
theorem dX4_init_8 : decode cX4_init 8 = .ok (.newarray .int, 2) := by decide +kernel
theorem dX4_init_10 : decode cX4_init 10 = .ok (.putfield 7, 3) := by decide +kernel
theorem dX4_init_13 : decode cX4_init 13 = .ok (.aload_n 0, 1) := by decide +kernel
theorem dX4_init_14 : decode cX4_init 14 = .ok (.sipush 264, 3) := by decide +kernel
theorem dX4_init_17 : decode cX4_init 17 = .ok (.newarray .int, 2) := by decide +kernel
theorem dX4_init_19 : decode cX4_init 19 = .ok (.putfield 13, 3) := by decide +kernel
theorem dX4_init_22 : decode cX4_init 22 = .ok (.aload_n 0, 1) := by decide +kernel
theorem dX4_init_23 : decode cX4_init 23 = .ok (.sipush 1320, 3) := by decide +kernel
theorem dX4_init_26 : decode cX4_init 26 = .ok (.newarray .int, 2) := by decide +kernel
theorem dX4_init_28 : decode cX4_init 28 = .ok (.putfield 16, 3) := by decide +kernel
theorem dX4_init_31 : decode cX4_init 31 = .ok (.aload_n 0, 1) := by decide +kernel
theorem dX4_init_32 : decode cX4_init 32 = .ok (.sipush 528, 3) := by decide +kernel
theorem dX4_init_35 : decode cX4_init 35 = .ok (.newarray .int, 2) := by decide +kernel
theorem dX4_init_37 : decode cX4_init 37 = .ok (.putfield 19, 3) := by decide +kernel
theorem dX4_init_40 : decode cX4_init 40 = .ok (.aload_n 0, 1) := by decide +kernel
theorem dX4_init_41 : decode cX4_init 41 = .ok (.iconst 2, 1) := by decide +kernel
theorem dX4_init_42 : decode cX4_init 42 = .ok (.newarray .boolean, 2) := by decide +kernel
theorem dX4_init_44 : decode cX4_init 44 = .ok (.putfield 22, 3) := by decide +kernel
theorem dX4_init_47 : decode cX4_init 47 = .ok (.aload_n 0, 1) := by decide +kernel
theorem dX4_init_48 : decode cX4_init 48 = .ok (.bipush 80, 2) := by decide +kernel
theorem dX4_init_50 : decode cX4_init 50 = .ok (.newarray .int, 2) := by decide +kernel
theorem dX4_init_52 : decode cX4_init 52 = .ok (.putfield 26, 3) := by decide +kernel
theorem dX4_init_55 : decode cX4_init 55 = .ok (.aload_n 0, 1) := by decide +kernel
theorem dX4_init_56 : decode cX4_init 56 = .ok (.bipush 9, 2) := by decide +kernel
theorem dX4_init_58 : decode cX4_init 58 = .ok (.newarray .int, 2) := by decide +kernel
theorem dX4_init_60 : decode cX4_init 60 = .ok (.dup, 1) := by decide +kernel
theorem dX4_init_61 : decode cX4_init 61 = .ok (.iconst 0, 1) := by decide +kernel
theorem dX4_init_62 : decode cX4_init 62 = .ok (.bipush 20, 2) := by decide +kernel
theorem dX4_init_64 : decode cX4_init 64 = .ok (.iastore, 1) := by decide +kernel
theorem dX4_init_65 : decode cX4_init 65 = .ok (.dup, 1) := by decide +kernel
theorem dX4_init_66 : decode cX4_init 66 = .ok (.iconst 1, 1) := by decide +kernel
theorem dX4_init_67 : decode cX4_init 67 = .ok (.iconst 0, 1) := by decide +kernel
theorem dX4_init_68 : decode cX4_init 68 = .ok (.iastore, 1) := by decide +kernel
theorem dX4_init_69 : decode cX4_init 69 = .ok (.dup, 1) := by decide +kernel
theorem dX4_init_70 : decode cX4_init 70 = .ok (.iconst 2, 1) := by decide +kernel
theorem dX4_init_71 : decode cX4_init 71 = .ok (.iconst 0, 1) := by decide +kernel
theorem dX4_init_72 : decode cX4_init 72 = .ok (.iastore, 1) := by decide +kernel
theorem dX4_init_73 : decode cX4_init 73 = .ok (.dup, 1) := by decide +kernel
theorem dX4_init_74 : decode cX4_init 74 = .ok (.iconst 3, 1) := by decide +kernel
theorem dX4_init_75 : decode cX4_init 75 = .ok (.bipush 100, 2) := by decide +kernel
theorem dX4_init_77 : decode cX4_init 77 = .ok (.iastore, 1) := by decide +kernel
theorem dX4_init_78 : decode cX4_init 78 = .ok (.dup, 1) := by decide +kernel
theorem dX4_init_79 : decode cX4_init 79 = .ok (.iconst 4, 1) := by decide +kernel
theorem dX4_init_80 : decode cX4_init 80 = .ok (.sipush 1000, 3) := by decide +kernel
theorem dX4_init_83 : decode cX4_init 83 = .ok (.iastore, 1) := by decide +kernel
theorem dX4_init_84 : decode cX4_init 84 = .ok (.dup, 1) := by decide +kernel
theorem dX4_init_85 : decode cX4_init 85 = .ok (.iconst 5, 1) := by decide +kernel
theorem dX4_init_86 : decode cX4_init 86 = .ok (.iconst 0, 1) := by decide +kernel
theorem dX4_init_87 : decode cX4_init 87 = .ok (.iastore, 1) := by decide +kernel
theorem dX4_init_88 : decode cX4_init 88 = .ok (.dup, 1) := by decide +kernel
theorem dX4_init_89 : decode cX4_init 89 = .ok (.bipush 6, 2) := by decide +kernel
theorem dX4_init_91 : decode cX4_init 91 = .ok (.bipush 10, 2) := by decide +kernel
theorem dX4_init_93 : decode cX4_init 93 = .ok (.iastore, 1) := by decide +kernel
theorem dX4_init_94 : decode cX4_init 94 = .ok (.dup, 1) := by decide +kernel
theorem dX4_init_95 : decode cX4_init 95 = .ok (.bipush 7, 2) := by decide +kernel
theorem dX4_init_97 : decode cX4_init 97 = .ok (.iconst 1, 1) := by decide +kernel
theorem dX4_init_98 : decode cX4_init 98 = .ok (.iastore, 1) := by decide +kernel
theorem dX4_init_99 : decode cX4_init 99 = .ok (.dup, 1) := by decide +kernel
theorem dX4_init_100 : decode cX4_init 100 = .ok (.bipush 8, 2) := by decide +kernel
theorem dX4_init_102 : decode cX4_init 102 = .ok (.iconst 0, 1) := by decide +kernel
theorem dX4_init_103 : decode cX4_init 103 = .ok (.iastore, 1) := by decide +kernel
theorem dX4_init_104 : decode cX4_init 104 = .ok (.putfield 29, 3) := by decide +kernel
theorem dX4_init_107 : decode cX4_init 107 = .ok (.aload_n 0, 1) := by decide +kernel
theorem dX4_init_108 : decode cX4_init 108 = .ok (.bipush 9, 2) := by decide +kernel
theorem dX4_init_110 : decode cX4_init 110 = .ok (.newarray .int, 2) := by decide +kernel
theorem dX4_init_112 : decode cX4_init 112 = .ok (.dup, 1) := by decide +kernel
theorem dX4_init_113 : decode cX4_init 113 = .ok (.iconst 0, 1) := by decide +kernel
theorem dX4_init_114 : decode cX4_init 114 = .ok (.sipush 200, 3) := by decide +kernel
theorem dX4_init_117 : decode cX4_init 117 = .ok (.iastore, 1) := by decide +kernel
theorem dX4_init_118 : decode cX4_init 118 = .ok (.dup, 1) := by decide +kernel
theorem dX4_init_119 : decode cX4_init 119 = .ok (.iconst 1, 1) := by decide +kernel
theorem dX4_init_120 : decode cX4_init 120 = .ok (.bipush 100, 2) := by decide +kernel
theorem dX4_init_122 : decode cX4_init 122 = .ok (.iastore, 1) := by decide +kernel
theorem dX4_init_123 : decode cX4_init 123 = .ok (.dup, 1) := by decide +kernel
theorem dX4_init_124 : decode cX4_init 124 = .ok (.iconst 2, 1) := by decide +kernel
theorem dX4_init_125 : decode cX4_init 125 = .ok (.bipush 100, 2) := by decide +kernel
theorem dX4_init_127 : decode cX4_init 127 = .ok (.iastore, 1) := by decide +kernel
theorem dX4_init_128 : decode cX4_init 128 = .ok (.dup, 1) := by decide +kernel
theorem dX4_init_129 : decode cX4_init 129 = .ok (.iconst 3, 1) := by decide +kernel
theorem dX4_init_130 : decode cX4_init 130 = .ok (.sipush 2000, 3) := by decide +kernel
theorem dX4_init_133 : decode cX4_init 133 = .ok (.iastore, 1) := by decide +kernel
theorem dX4_init_134 : decode cX4_init 134 = .ok (.dup, 1) := by decide +kernel
theorem dX4_init_135 : decode cX4_init 135 = .ok (.iconst 4, 1) := by decide +kernel
theorem dX4_init_136 : decode cX4_init 136 = .ok (.sipush 20000, 3) := by decide +kernel
theorem dX4_init_139 : decode cX4_init 139 = .ok (.iastore, 1) := by decide +kernel
theorem dX4_init_140 : decode cX4_init 140 = .ok (.dup, 1) := by decide +kernel
theorem dX4_init_141 : decode cX4_init 141 = .ok (.iconst 5, 1) := by decide +kernel
theorem dX4_init_142 : decode cX4_init 142 = .ok (.sipush 20000, 3) := by decide +kernel
theorem dX4_init_145 : decode cX4_init 145 = .ok (.iastore, 1) := by decide +kernel
theorem dX4_init_146 : decode cX4_init 146 = .ok (.dup, 1) := by decide +kernel
theorem dX4_init_147 : decode cX4_init 147 = .ok (.bipush 6, 2) := by decide +kernel
theorem dX4_init_149 : decode cX4_init 149 = .ok (.sipush 500, 3) := by decide +kernel
theorem dX4_init_152 : decode cX4_init 152 = .ok (.iastore, 1) := by decide +kernel
theorem dX4_init_153 : decode cX4_init 153 = .ok (.dup, 1) := by decide +kernel
theorem dX4_init_154 : decode cX4_init 154 = .ok (.bipush 7, 2) := by decide +kernel
theorem dX4_init_156 : decode cX4_init 156 = .ok (.bipush 8, 2) := by decide +kernel
theorem dX4_init_158 : decode cX4_init 158 = .ok (.iastore, 1) := by decide +kernel
theorem dX4_init_159 : decode cX4_init 159 = .ok (.dup, 1) := by decide +kernel
theorem dX4_init_160 : decode cX4_init 160 = .ok (.bipush 8, 2) := by decide +kernel
theorem dX4_init_162 : decode cX4_init 162 = .ok (.bipush 32, 2) := by decide +kernel
theorem dX4_init_164 : decode cX4_init 164 = .ok (.iastore, 1) := by decide +kernel
theorem dX4_init_165 : decode cX4_init 165 = .ok (.putfield 32, 3) := by decide +kernel
theorem dX4_init_168 : decode cX4_init 168 = .ok (.aload_n 0, 1) := by decide +kernel
theorem dX4_init_169 : decode cX4_init 169 = .ok (.bipush 9, 2) := by decide +kernel
theorem dX4_init_171 : decode cX4_init 171 = .ok (.newarray .int, 2) := by decide +kernel
theorem dX4_init_173 : decode cX4_init 173 = .ok (.dup, 1) := by decide +kernel
theorem dX4_init_174 : decode cX4_init 174 = .ok (.iconst 0, 1) := by decide +kernel
theorem dX4_init_175 : decode cX4_init 175 = .ok (.bipush 80, 2) := by decide +kernel
theorem dX4_init_177 : decode cX4_init 177 = .ok (.iastore, 1) := by decide +kernel
theorem dX4_init_178 : decode cX4_init 178 = .ok (.dup, 1) := by decide +kernel
theorem dX4_init_179 : decode cX4_init 179 = .ok (.iconst 1, 1) := by decide +kernel
theorem dX4_init_180 : decode cX4_init 180 = .ok (.bipush 10, 2) := by decide +kernel
theorem dX4_init_182 : decode cX4_init 182 = .ok (.iastore, 1) := by decide +kernel
theorem dX4_init_183 : decode cX4_init 183 = .ok (.dup, 1) := by decide +kernel
theorem dX4_init_184 : decode cX4_init 184 = .ok (.iconst 2, 1) := by decide +kernel
theorem dX4_init_185 : decode cX4_init 185 = .ok (.bipush 10, 2) := by decide +kernel
theorem dX4_init_187 : decode cX4_init 187 = .ok (.iastore, 1) := by decide +kernel
theorem dX4_init_188 : decode cX4_init 188 = .ok (.dup, 1) := by decide +kernel
theorem dX4_init_189 : decode cX4_init 189 = .ok (.iconst 3, 1) := by decide +kernel
theorem dX4_init_190 : decode cX4_init 190 = .ok (.sipush 500, 3) := by decide +kernel
theorem dX4_init_193 : decode cX4_init 193 = .ok (.iastore, 1) := by decide +kernel
theorem dX4_init_194 : decode cX4_init 194 = .ok (.dup, 1) := by decide +kernel
theorem dX4_init_195 : decode cX4_init 195 = .ok (.iconst 4, 1) := by decide +kernel
theorem dX4_init_196 : decode cX4_init 196 = .ok (.sipush 6000, 3) := by decide +kernel
theorem dX4_init_199 : decode cX4_init 199 = .ok (.iastore, 1) := by decide +kernel
theorem dX4_init_200 : decode cX4_init 200 = .ok (.dup, 1) := by decide +kernel
theorem dX4_init_201 : decode cX4_init 201 = .ok (.iconst 5, 1) := by decide +kernel
theorem dX4_init_202 : decode cX4_init 202 = .ok (.sipush 4000, 3) := by decide +kernel
theorem dX4_init_205 : decode cX4_init 205 = .ok (.iastore, 1) := by decide +kernel
theorem dX4_init_206 : decode cX4_init 206 = .ok (.dup, 1) := by decide +kernel
theorem dX4_init_207 : decode cX4_init 207 = .ok (.bipush 6, 2) := by decide +kernel
theorem dX4_init_209 : decode cX4_init 209 = .ok (.bipush 120, 2) := by decide +kernel
theorem dX4_init_211 : decode cX4_init 211 = .ok (.iastore, 1) := by decide +kernel
theorem dX4_init_212 : decode cX4_init 212 = .ok (.dup, 1) := by decide +kernel
theorem dX4_init_213 : decode cX4_init 213 = .ok (.bipush 7, 2) := by decide +kernel
theorem dX4_init_215 : decode cX4_init 215 = .ok (.iconst 4, 1) := by decide +kernel
theorem dX4_init_216 : decode cX4_init 216 = .ok (.iastore, 1) := by decide +kernel
theorem dX4_init_217 : decode cX4_init 217 = .ok (.dup, 1) := by decide +kernel
theorem dX4_init_218 : decode cX4_init 218 = .ok (.bipush 8, 2) := by decide +kernel
theorem dX4_init_220 : decode cX4_init 220 = .ok (.bipush 8, 2) := by decide +kernel
theorem dX4_init_222 : decode cX4_init 222 = .ok (.iastore, 1) := by decide +kernel
theorem dX4_init_223 : decode cX4_init 223 = .ok (.putfield 35, 3) := by decide +kernel
theorem dX4_init_226 : decode cX4_init 226 = .ok (.aload_n 0, 1) := by decide +kernel
theorem dX4_init_227 : decode cX4_init 227 = .ok (.iconst 2, 1) := by decide +kernel
theorem dX4_init_228 : decode cX4_init 228 = .ok (.newarray .int, 2) := by decide +kernel
theorem dX4_init_230 : decode cX4_init 230 = .ok (.putfield 38, 3) := by decide +kernel
theorem dX4_init_233 : decode cX4_init 233 = .ok (.aload_n 0, 1) := by decide +kernel
theorem dX4_init_234 : decode cX4_init 234 = .ok (.bipush 8, 2) := by decide +kernel
theorem dX4_init_236 : decode cX4_init 236 = .ok (.newarray .int, 2) := by decide +kernel
theorem dX4_init_238 : decode cX4_init 238 = .ok (.putfield 41, 3) := by decide +kernel
theorem dX4_init_241 : decode cX4_init 241 = .ok (.aload_n 0, 1) := by decide +kernel
theorem dX4_init_242 : decode cX4_init 242 = .ok (.iconst 2, 1) := by decide +kernel
theorem dX4_init_243 : decode cX4_init 243 = .ok (.newarray .int, 2) := by decide +kernel
theorem dX4_init_245 : decode cX4_init 245 = .ok (.putfield 44, 3) := by decide +kernel
theorem dX4_init_248 : decode cX4_init 248 = .ok (.aload_n 0, 1) := by decide +kernel
theorem dX4_init_249 : decode cX4_init 249 = .ok (.iconst 2, 1) := by decide +kernel
theorem dX4_init_250 : decode cX4_init 250 = .ok (.newarray .int, 2) := by decide +kernel
theorem dX4_init_252 : decode cX4_init 252 = .ok (.putfield 47, 3) := by decide +kernel
theorem dX4_init_255 : decode cX4_init 255 = .ok (.aload_n 0, 1) := by decide +kernel
theorem dX4_init_256 : decode cX4_init 256 = .ok (.sipush 192, 3) := by decide +kernel
theorem dX4_init_259 : decode cX4_init 259 = .ok (.newarray .int, 2) := by decide +kernel
theorem dX4_init_261 : decode cX4_init 261 = .ok (.putfield 50, 3) := by decide +kernel
theorem dX4_init_264 : decode cX4_init 264 = .ok (.aload_n 0, 1) := by decide +kernel
theorem dX4_init_265 : decode cX4_init 265 = .ok (.sipush 192, 3) := by decide +kernel
theorem dX4_init_268 : decode cX4_init 268 = .ok (.newarray .int, 2) := by decide +kernel
theorem dX4_init_270 : decode cX4_init 270 = .ok (.putfield 53, 3) := by decide +kernel
theorem dX4_init_273 : decode cX4_init 273 = .ok (.aload_n 0, 1) := by decide +kernel
theorem dX4_init_274 : decode cX4_init 274 = .ok (.sipush 192, 3) := by decide +kernel
theorem dX4_init_277 : decode cX4_init 277 = .ok (.newarray .boolean, 2) := by decide +kernel
theorem dX4_init_279 : decode cX4_init 279 = .ok (.putfield 56, 3) := by decide +kernel
theorem dX4_init_282 : decode cX4_init 282 = .ok (.aload_n 0, 1) := by decide +kernel
theorem dX4_init_283 : decode cX4_init 283 = .ok (.getfield 7, 3) := by decide +kernel
theorem dX4_init_286 : decode cX4_init 286 = .ok (.iconst 0, 1) := by decide +kernel
theorem dX4_init_287 : decode cX4_init 287 = .ok (.sipush 3000, 3) := by decide +kernel
theorem dX4_init_290 : decode cX4_init 290 = .ok (.iastore, 1) := by decide +kernel
theorem dX4_init_291 : decode cX4_init 291 = .ok (.iconst 0, 1) := by decide +kernel
theorem dX4_init_292 : decode cX4_init 292 = .ok (.istore_n 1, 1) := by decide +kernel
theorem dX4_init_293 : decode cX4_init 293 = .ok (.iload_n 1, 1) := by decide +kernel
theorem dX4_init_294 : decode cX4_init 294 = .ok (.bipush 9, 2) := by decide +kernel
theorem dX4_init_296 : decode cX4_init 296 = .ok (.if_icmp .ge 23, 3) := by decide +kernel
theorem dX4_init_299 : decode cX4_init 299 = .ok (.aload_n 0, 1) := by decide +kernel
theorem dX4_init_300 : decode cX4_init 300 = .ok (.getfield 7, 3) := by decide +kernel
theorem dX4_init_303 : decode cX4_init 303 = .ok (.iconst 1, 1) := by decide +kernel
theorem dX4_init_304 : decode cX4_init 304 = .ok (.iload_n 1, 1) := by decide +kernel
theorem dX4_init_305 : decode cX4_init 305 = .ok (.iadd, 1) := by decide +kernel
theorem dX4_init_306 : decode cX4_init 306 = .ok (.aload_n 0, 1) := by decide +kernel
theorem dX4_init_307 : decode cX4_init 307 = .ok (.getfield 35, 3) := by decide +kernel
theorem dX4_init_310 : decode cX4_init 310 = .ok (.iload_n 1, 1) := by decide +kernel
theorem dX4_init_311 : decode cX4_init 311 = .ok (.iaload, 1) := by decide +kernel
theorem dX4_init_312 : decode cX4_init 312 = .ok (.iastore, 1) := by decide +kernel
theorem dX4_init_313 : decode cX4_init 313 = .ok (.iinc 1 1, 3) := by decide +kernel
theorem dX4_init_316 : decode cX4_init 316 = .ok (.goto (-23), 3) := by decide +kernel
theorem dX4_init_319 : decode cX4_init 319 = .ok (.iconst 0, 1) := by decide +kernel
theorem dX4_init_320 : decode cX4_init 320 = .ok (.istore_n 1, 1) := by decide +kernel
theorem dX4_init_321 : decode cX4_init 321 = .ok (.iload_n 1, 1) := by decide +kernel
theorem dX4_init_322 : decode cX4_init 322 = .ok (.bipush 8, 2) := by decide +kernel
theorem dX4_init_324 : decode cX4_init 324 = .ok (.if_icmp .ge 60, 3) := by decide +kernel
theorem dX4_init_327 : decode cX4_init 327 = .ok (.aload_n 0, 1) := by decide +kernel
theorem dX4_init_328 : decode cX4_init 328 = .ok (.getfield 7, 3) := by decide +kernel
theorem dX4_init_331 : decode cX4_init 331 = .ok (.bipush 24, 2) := by decide +kernel
theorem dX4_init_333 : decode cX4_init 333 = .ok (.iconst 5, 1) := by decide +kernel
theorem dX4_init_334 : decode cX4_init 334 = .ok (.iload_n 1, 1) := by decide +kernel
theorem dX4_init_335 : decode cX4_init 335 = .ok (.imul, 1) := by decide +kernel
theorem dX4_init_336 : decode cX4_init 336 = .ok (.iadd, 1) := by decide +kernel
theorem dX4_init_337 : decode cX4_init 337 = .ok (.iload_n 1, 1) := by decide +kernel
theorem dX4_init_338 : decode cX4_init 338 = .ok (.iconst 2, 1) := by decide +kernel
theorem dX4_init_339 : decode cX4_init 339 = .ok (.irem, 1) := by decide +kernel
theorem dX4_init_340 : decode cX4_init 340 = .ok (.iastore, 1) := by decide +kernel
theorem dX4_init_341 : decode cX4_init 341 = .ok (.aload_n 0, 1) := by decide +kernel
theorem dX4_init_342 : decode cX4_init 342 = .ok (.getfield 7, 3) := by decide +kernel
theorem dX4_init_345 : decode cX4_init 345 = .ok (.bipush 24, 2) := by decide +kernel
theorem dX4_init_347 : decode cX4_init 347 = .ok (.iconst 5, 1) := by decide +kernel
theorem dX4_init_348 : decode cX4_init 348 = .ok (.iload_n 1, 1) := by decide +kernel
theorem dX4_init_349 : decode cX4_init 349 = .ok (.imul, 1) := by decide +kernel
theorem dX4_init_350 : decode cX4_init 350 = .ok (.iadd, 1) := by decide +kernel
theorem dX4_init_351 : decode cX4_init 351 = .ok (.iconst 1, 1) := by decide +kernel
theorem dX4_init_352 : decode cX4_init 352 = .ok (.iadd, 1) := by decide +kernel
theorem dX4_init_353 : decode cX4_init 353 = .ok (.iconst 4, 1) := by decide +kernel
theorem dX4_init_354 : decode cX4_init 354 = .ok (.iconst 2, 1) := by decide +kernel
theorem dX4_init_355 : decode cX4_init 355 = .ok (.iload_n 1, 1) := by decide +kernel
theorem dX4_init_356 : decode cX4_init 356 = .ok (.imul, 1) := by decide +kernel
theorem dX4_init_357 : decode cX4_init 357 = .ok (.iadd, 1) := by decide +kernel
theorem dX4_init_358 : decode cX4_init 358 = .ok (.iastore, 1) := by decide +kernel
theorem dX4_init_359 : decode cX4_init 359 = .ok (.aload_n 0, 1) := by decide +kernel
theorem dX4_init_360 : decode cX4_init 360 = .ok (.getfield 7, 3) := by decide +kernel
theorem dX4_init_363 : decode cX4_init 363 = .ok (.bipush 24, 2) := by decide +kernel
theorem dX4_init_365 : decode cX4_init 365 = .ok (.iconst 5, 1) := by decide +kernel
theorem dX4_init_366 : decode cX4_init 366 = .ok (.iload_n 1, 1) := by decide +kernel
theorem dX4_init_367 : decode cX4_init 367 = .ok (.imul, 1) := by decide +kernel
theorem dX4_init_368 : decode cX4_init 368 = .ok (.iadd, 1) := by decide +kernel
theorem dX4_init_369 : decode cX4_init 369 = .ok (.iconst 2, 1) := by decide +kernel
theorem dX4_init_370 : decode cX4_init 370 = .ok (.iadd, 1) := by decide +kernel
theorem dX4_init_371 : decode cX4_init 371 = .ok (.bipush 20, 2) := by decide +kernel
theorem dX4_init_373 : decode cX4_init 373 = .ok (.iconst 5, 1) := by decide +kernel
theorem dX4_init_374 : decode cX4_init 374 = .ok (.iload_n 1, 1) := by decide +kernel
theorem dX4_init_375 : decode cX4_init 375 = .ok (.imul, 1) := by decide +kernel
theorem dX4_init_376 : decode cX4_init 376 = .ok (.iadd, 1) := by decide +kernel
theorem dX4_init_377 : decode cX4_init 377 = .ok (.iastore, 1) := by decide +kernel
theorem dX4_init_378 : decode cX4_init 378 = .ok (.iinc 1 1, 3) := by decide +kernel
theorem dX4_init_381 : decode cX4_init 381 = .ok (.goto (-60), 3) := by decide +kernel
theorem dX4_init_384 : decode cX4_init 384 = .ok (.return_, 1) := by decide +kernel
theorem dX4_in_0 : decode cX4_in 0 = .ok (.iload_n 0, 1) := by decide +kernel
theorem dX4_in_1 : decode cX4_in 1 = .ok (.iload_n 1, 1) := by decide +kernel
theorem dX4_in_2 : decode cX4_in 2 = .ok (.if_icmp .lt 12, 3) := by decide +kernel
theorem dX4_in_5 : decode cX4_in 5 = .ok (.iload_n 0, 1) := by decide +kernel
theorem dX4_in_6 : decode cX4_in 6 = .ok (.iload_n 2, 1) := by decide +kernel
theorem dX4_in_7 : decode cX4_in 7 = .ok (.if_icmp .gt 7, 3) := by decide +kernel
theorem dX4_in_10 : decode cX4_in 10 = .ok (.iconst 1, 1) := by decide +kernel
theorem dX4_in_11 : decode cX4_in 11 = .ok (.goto 4, 3) := by decide +kernel
theorem dX4_in_14 : decode cX4_in 14 = .ok (.iconst 0, 1) := by decide +kernel
theorem dX4_in_15 : decode cX4_in 15 = .ok (.ireturn, 1) := by decide +kernel
theorem dX4_isStop_0 : decode cX4_isStop 0 = .ok (.iload_n 0, 1) := by decide +kernel
theorem dX4_isStop_1 : decode cX4_isStop 1 = .ok (.iconst 0, 1) := by decide +kernel
theorem dX4_isStop_2 : decode cX4_isStop 2 = .ok (.bipush 7, 2) := by decide +kernel
theorem dX4_isStop_4 : decode cX4_isStop 4 = .ok (.invokestatic 59, 3) := by decide +kernel
theorem dX4_isStop_7 : decode cX4_isStop 7 = .ok (.ireturn, 1) := by decide +kernel
theorem dX4_isKey_0 : decode cX4_isKey 0 = .ok (.iload_n 0, 1) := by decide +kernel
theorem dX4_isKey_1 : decode cX4_isKey 1 = .ok (.iconst 0, 1) := by decide +kernel
theorem dX4_isKey_2 : decode cX4_isKey 2 = .ok (.bipush 23, 2) := by decide +kernel
theorem dX4_isKey_4 : decode cX4_isKey 4 = .ok (.invokestatic 59, 3) := by decide +kernel
theorem dX4_isKey_7 : decode cX4_isKey 7 = .ok (.ireturn, 1) := by decide +kernel
theorem dX4_down_0 : decode cX4_down 0 = .ok (.iload_n 0, 1) := by decide +kernel
theorem dX4_down_1 : decode cX4_down 1 = .ok (.iload_n 1, 1) := by decide +kernel
theorem dX4_down_2 : decode cX4_down 2 = .ok (.idiv, 1) := by decide +kernel
theorem dX4_down_3 : decode cX4_down 3 = .ok (.istore_n 2, 1) := by decide +kernel
theorem dX4_down_4 : decode cX4_down 4 = .ok (.iload_n 0, 1) := by decide +kernel
theorem dX4_down_5 : decode cX4_down 5 = .ok (.iload_n 1, 1) := by decide +kernel
theorem dX4_down_6 : decode cX4_down 6 = .ok (.irem, 1) := by decide +kernel
theorem dX4_down_7 : decode cX4_down 7 = .ok (.ifCond .ge 9, 3) := by decide +kernel
theorem dX4_down_10 : decode cX4_down 10 = .ok (.iload_n 2, 1) := by decide +kernel
theorem dX4_down_11 : decode cX4_down 11 = .ok (.iconst 1, 1) := by decide +kernel
theorem dX4_down_12 : decode cX4_down 12 = .ok (.isub, 1) := by decide +kernel
theorem dX4_down_13 : decode cX4_down 13 = .ok (.goto 4, 3) := by decide +kernel
theorem dX4_down_16 : decode cX4_down 16 = .ok (.iload_n 2, 1) := by decide +kernel
theorem dX4_down_17 : decode cX4_down 17 = .ok (.ireturn, 1) := by decide +kernel
theorem dX4_puts_0 : decode cX4_puts 0 = .ok (.aload_n 0, 1) := by decide +kernel
theorem dX4_puts_1 : decode cX4_puts 1 = .ok (.getfield 7, 3) := by decide +kernel
theorem dX4_puts_4 : decode cX4_puts 4 = .ok (.iload_n 1, 1) := by decide +kernel
theorem dX4_puts_5 : decode cX4_puts 5 = .ok (.iaload, 1) := by decide +kernel
theorem dX4_puts_6 : decode cX4_puts 6 = .ok (.istore_n 3, 1) := by decide +kernel
theorem dX4_puts_7 : decode cX4_puts 7 = .ok (.aload_n 0, 1) := by decide +kernel
theorem dX4_puts_8 : decode cX4_puts 8 = .ok (.getfield 7, 3) := by decide +kernel
theorem dX4_puts_11 : decode cX4_puts 11 = .ok (.iload_n 1, 1) := by decide +kernel
theorem dX4_puts_12 : decode cX4_puts 12 = .ok (.iload_n 2, 1) := by decide +kernel
theorem dX4_puts_13 : decode cX4_puts 13 = .ok (.iastore, 1) := by decide +kernel
theorem dX4_puts_14 : decode cX4_puts 14 = .ok (.iload_n 3, 1) := by decide +kernel
theorem dX4_puts_15 : decode cX4_puts 15 = .ok (.ireturn, 1) := by decide +kernel
theorem dX4_records_0 : decode cX4_records 0 = .ok (.aload_n 0, 1) := by decide +kernel
theorem dX4_records_1 : decode cX4_records 1 = .ok (.getfield 63, 3) := by decide +kernel
theorem dX4_records_4 : decode cX4_records 4 = .ok (.iconst 5, 1) := by decide +kernel
theorem dX4_records_5 : decode cX4_records 5 = .ok (.if_icmp .ne 39, 3) := by decide +kernel
theorem dX4_records_8 : decode cX4_records 8 = .ok (.iconst 0, 1) := by decide +kernel
theorem dX4_records_9 : decode cX4_records 9 = .ok (.istore_n 1, 1) := by decide +kernel
theorem dX4_records_10 : decode cX4_records 10 = .ok (.iload_n 1, 1) := by decide +kernel
theorem dX4_records_11 : decode cX4_records 11 = .ok (.sipush 1056, 3) := by decide +kernel
theorem dX4_records_14 : decode cX4_records 14 = .ok (.if_icmp .ge 25, 3) := by decide +kernel
theorem dX4_records_17 : decode cX4_records 17 = .ok (.aload_n 0, 1) := by decide +kernel
theorem dX4_records_18 : decode cX4_records 18 = .ok (.getfield 16, 3) := by decide +kernel
theorem dX4_records_21 : decode cX4_records 21 = .ok (.iload_n 1, 1) := by decide +kernel
theorem dX4_records_22 : decode cX4_records 22 = .ok (.aload_n 0, 1) := by decide +kernel
theorem dX4_records_23 : decode cX4_records 23 = .ok (.getfield 16, 3) := by decide +kernel
theorem dX4_records_26 : decode cX4_records 26 = .ok (.iload_n 1, 1) := by decide +kernel
theorem dX4_records_27 : decode cX4_records 27 = .ok (.sipush 264, 3) := by decide +kernel
theorem dX4_records_30 : decode cX4_records 30 = .ok (.iadd, 1) := by decide +kernel
theorem dX4_records_31 : decode cX4_records 31 = .ok (.iaload, 1) := by decide +kernel
theorem dX4_records_32 : decode cX4_records 32 = .ok (.iastore, 1) := by decide +kernel
theorem dX4_records_33 : decode cX4_records 33 = .ok (.iinc 1 1, 3) := by decide +kernel
theorem dX4_records_36 : decode cX4_records 36 = .ok (.goto (-26), 3) := by decide +kernel
theorem dX4_records_39 : decode cX4_records 39 = .ok (.aload_n 0, 1) := by decide +kernel
theorem dX4_records_40 : decode cX4_records 40 = .ok (.iconst 4, 1) := by decide +kernel
theorem dX4_records_41 : decode cX4_records 41 = .ok (.putfield 63, 3) := by decide +kernel
theorem dX4_records_44 : decode cX4_records 44 = .ok (.iconst 0, 1) := by decide +kernel
theorem dX4_records_45 : decode cX4_records 45 = .ok (.istore_n 1, 1) := by decide +kernel
theorem dX4_records_46 : decode cX4_records 46 = .ok (.iload_n 1, 1) := by decide +kernel
theorem dX4_records_47 : decode cX4_records 47 = .ok (.sipush 264, 3) := by decide +kernel
theorem dX4_records_50 : decode cX4_records 50 = .ok (.if_icmp .ge 30, 3) := by decide +kernel
theorem dX4_records_53 : decode cX4_records 53 = .ok (.aload_n 0, 1) := by decide +kernel
theorem dX4_records_54 : decode cX4_records 54 = .ok (.getfield 16, 3) := by decide +kernel
theorem dX4_records_57 : decode cX4_records 57 = .ok (.sipush 264, 3) := by decide +kernel
theorem dX4_records_60 : decode cX4_records 60 = .ok (.aload_n 0, 1) := by decide +kernel
theorem dX4_records_61 : decode cX4_records 61 = .ok (.getfield 63, 3) := by decide +kernel
theorem dX4_records_64 : decode cX4_records 64 = .ok (.imul, 1) := by decide +kernel
theorem dX4_records_65 : decode cX4_records 65 = .ok (.iload_n 1, 1) := by decide +kernel
theorem dX4_records_66 : decode cX4_records 66 = .ok (.iadd, 1) := by decide +kernel
theorem dX4_records_67 : decode cX4_records 67 = .ok (.aload_n 0, 1) := by decide +kernel
theorem dX4_records_68 : decode cX4_records 68 = .ok (.getfield 7, 3) := by decide +kernel
theorem dX4_records_71 : decode cX4_records 71 = .ok (.iload_n 1, 1) := by decide +kernel
theorem dX4_records_72 : decode cX4_records 72 = .ok (.iaload, 1) := by decide +kernel
theorem dX4_records_73 : decode cX4_records 73 = .ok (.iastore, 1) := by decide +kernel
theorem dX4_records_74 : decode cX4_records 74 = .ok (.iinc 1 1, 3) := by decide +kernel
theorem dX4_records_77 : decode cX4_records 77 = .ok (.goto (-31), 3) := by decide +kernel
theorem dX4_records_80 : decode cX4_records 80 = .ok (.aload_n 0, 1) := by decide +kernel
theorem dX4_records_81 : decode cX4_records 81 = .ok (.dup, 1) := by decide +kernel
theorem dX4_records_82 : decode cX4_records 82 = .ok (.getfield 63, 3) := by decide +kernel
theorem dX4_records_85 : decode cX4_records 85 = .ok (.iconst 1, 1) := by decide +kernel
theorem dX4_records_86 : decode cX4_records 86 = .ok (.iadd, 1) := by decide +kernel
theorem dX4_records_87 : decode cX4_records 87 = .ok (.putfield 63, 3) := by decide +kernel
theorem dX4_records_90 : decode cX4_records 90 = .ok (.return_, 1) := by decide +kernel
theorem dX4_size_0 : decode cX4_size 0 = .ok (.iconst 0, 1) := by decide +kernel
theorem dX4_size_1 : decode cX4_size 1 = .ok (.istore_n 1, 1) := by decide +kernel
theorem dX4_size_2 : decode cX4_size 2 = .ok (.iload_n 0, 1) := by decide +kernel
theorem dX4_size_3 : decode cX4_size 3 = .ok (.istore_n 2, 1) := by decide +kernel
theorem dX4_size_4 : decode cX4_size 4 = .ok (.iload_n 2, 1) := by decide +kernel
theorem dX4_size_5 : decode cX4_size 5 = .ok (.ifCond .eq 15, 3) := by decide +kernel
theorem dX4_size_8 : decode cX4_size 8 = .ok (.iinc 1 1, 3) := by decide +kernel
theorem dX4_size_11 : decode cX4_size 11 = .ok (.iload_n 2, 1) := by decide +kernel
theorem dX4_size_12 : decode cX4_size 12 = .ok (.iload_n 2, 1) := by decide +kernel
theorem dX4_size_13 : decode cX4_size 13 = .ok (.iconst 1, 1) := by decide +kernel
theorem dX4_size_14 : decode cX4_size 14 = .ok (.isub, 1) := by decide +kernel
theorem dX4_size_15 : decode cX4_size 15 = .ok (.iand, 1) := by decide +kernel
theorem dX4_size_16 : decode cX4_size 16 = .ok (.istore_n 2, 1) := by decide +kernel
theorem dX4_size_17 : decode cX4_size 17 = .ok (.goto (-13), 3) := by decide +kernel
theorem dX4_size_20 : decode cX4_size 20 = .ok (.iload_n 1, 1) := by decide +kernel
theorem dX4_size_21 : decode cX4_size 21 = .ok (.ireturn, 1) := by decide +kernel
theorem dX4_layOut_0 : decode cX4_layOut 0 = .ok (.iload_n 1, 1) := by decide +kernel
theorem dX4_layOut_1 : decode cX4_layOut 1 = .ok (.invokestatic 67, 3) := by decide +kernel
theorem dX4_layOut_4 : decode cX4_layOut 4 = .ok (.ifCond .ne 6, 3) := by decide +kernel
theorem dX4_layOut_7 : decode cX4_layOut 7 = .ok (.ldc 71, 2) := by decide +kernel
theorem dX4_layOut_9 : decode cX4_layOut 9 = .ok (.ireturn, 1) := by decide +kernel
theorem dX4_layOut_10 : decode cX4_layOut 10 = .ok (.iload_n 2, 1) := by decide +kernel
theorem dX4_layOut_11 : decode cX4_layOut 11 = .ok (.iconst 0, 1) := by decide +kernel
theorem dX4_layOut_12 : decode cX4_layOut 12 = .ok (.iconst 1, 1) := by decide +kernel
theorem dX4_layOut_13 : decode cX4_layOut 13 = .ok (.invokestatic 59, 3) := by decide +kernel
theorem dX4_layOut_16 : decode cX4_layOut 16 = .ok (.ifCond .eq 25, 3) := by decide +kernel
theorem dX4_layOut_19 : decode cX4_layOut 19 = .ok (.iload_n 3, 1) := by decide +kernel
theorem dX4_layOut_20 : decode cX4_layOut 20 = .ok (.iconst 1, 1) := by decide +kernel
theorem dX4_layOut_21 : decode cX4_layOut 21 = .ok (.bipush 40, 2) := by decide +kernel
theorem dX4_layOut_23 : decode cX4_layOut 23 = .ok (.invokestatic 59, 3) := by decide +kernel
theorem dX4_layOut_26 : decode cX4_layOut 26 = .ok (.ifCond .eq 15, 3) := by decide +kernel
theorem dX4_layOut_29 : decode cX4_layOut 29 = .ok (.iload 4, 2) := by decide +kernel
theorem dX4_layOut_31 : decode cX4_layOut 31 = .ok (.iconst 0, 1) := by decide +kernel
theorem dX4_layOut_32 : decode cX4_layOut 32 = .ok (.sipush 200, 3) := by decide +kernel
theorem dX4_layOut_35 : decode cX4_layOut 35 = .ok (.invokestatic 59, 3) := by decide +kernel
theorem dX4_layOut_38 : decode cX4_layOut 38 = .ok (.ifCond .ne 6, 3) := by decide +kernel
theorem dX4_layOut_41 : decode cX4_layOut 41 = .ok (.ldc 72, 2) := by decide +kernel
theorem dX4_layOut_43 : decode cX4_layOut 43 = .ok (.ireturn, 1) := by decide +kernel
theorem dX4_layOut_44 : decode cX4_layOut 44 = .ok (.aload_n 0, 1) := by decide +kernel
theorem dX4_layOut_45 : decode cX4_layOut 45 = .ok (.invokevirtual 73, 3) := by decide +kernel
theorem dX4_layOut_48 : decode cX4_layOut 48 = .ok (.iconst 0, 1) := by decide +kernel
theorem dX4_layOut_49 : decode cX4_layOut 49 = .ok (.istore 5, 2) := by decide +kernel
theorem dX4_layOut_51 : decode cX4_layOut 51 = .ok (.iload 5, 2) := by decide +kernel
theorem dX4_layOut_53 : decode cX4_layOut 53 = .ok (.bipush 24, 2) := by decide +kernel
theorem dX4_layOut_55 : decode cX4_layOut 55 = .ok (.if_icmp .ge 25, 3) := by decide +kernel
theorem dX4_layOut_58 : decode cX4_layOut 58 = .ok (.aload_n 0, 1) := by decide +kernel
theorem dX4_layOut_59 : decode cX4_layOut 59 = .ok (.getfield 7, 3) := by decide +kernel
theorem dX4_layOut_62 : decode cX4_layOut 62 = .ok (.bipush 64, 2) := by decide +kernel
theorem dX4_layOut_64 : decode cX4_layOut 64 = .ok (.bipush 24, 2) := by decide +kernel
theorem dX4_layOut_66 : decode cX4_layOut 66 = .ok (.iload_n 1, 1) := by decide +kernel
theorem dX4_layOut_67 : decode cX4_layOut 67 = .ok (.imul, 1) := by decide +kernel
theorem dX4_layOut_68 : decode cX4_layOut 68 = .ok (.iadd, 1) := by decide +kernel
theorem dX4_layOut_69 : decode cX4_layOut 69 = .ok (.iload 5, 2) := by decide +kernel
theorem dX4_layOut_71 : decode cX4_layOut 71 = .ok (.iadd, 1) := by decide +kernel
theorem dX4_layOut_72 : decode cX4_layOut 72 = .ok (.iconst 0, 1) := by decide +kernel
theorem dX4_layOut_73 : decode cX4_layOut 73 = .ok (.iastore, 1) := by decide +kernel
theorem dX4_layOut_74 : decode cX4_layOut 74 = .ok (.iinc 5 1, 3) := by decide +kernel
theorem dX4_layOut_77 : decode cX4_layOut 77 = .ok (.goto (-26), 3) := by decide +kernel
theorem dX4_layOut_80 : decode cX4_layOut 80 = .ok (.aload_n 0, 1) := by decide +kernel
theorem dX4_layOut_81 : decode cX4_layOut 81 = .ok (.getfield 7, 3) := by decide +kernel
theorem dX4_layOut_84 : decode cX4_layOut 84 = .ok (.bipush 24, 2) := by decide +kernel
theorem dX4_layOut_86 : decode cX4_layOut 86 = .ok (.iconst 5, 1) := by decide +kernel
theorem dX4_layOut_87 : decode cX4_layOut 87 = .ok (.iload_n 1, 1) := by decide +kernel
theorem dX4_layOut_88 : decode cX4_layOut 88 = .ok (.imul, 1) := by decide +kernel
theorem dX4_layOut_89 : decode cX4_layOut 89 = .ok (.iadd, 1) := by decide +kernel
theorem dX4_layOut_90 : decode cX4_layOut 90 = .ok (.iload_n 2, 1) := by decide +kernel
theorem dX4_layOut_91 : decode cX4_layOut 91 = .ok (.iastore, 1) := by decide +kernel
theorem dX4_layOut_92 : decode cX4_layOut 92 = .ok (.aload_n 0, 1) := by decide +kernel
theorem dX4_layOut_93 : decode cX4_layOut 93 = .ok (.getfield 7, 3) := by decide +kernel
theorem dX4_layOut_96 : decode cX4_layOut 96 = .ok (.bipush 24, 2) := by decide +kernel
theorem dX4_layOut_98 : decode cX4_layOut 98 = .ok (.iconst 5, 1) := by decide +kernel
theorem dX4_layOut_99 : decode cX4_layOut 99 = .ok (.iload_n 1, 1) := by decide +kernel
theorem dX4_layOut_100 : decode cX4_layOut 100 = .ok (.imul, 1) := by decide +kernel
theorem dX4_layOut_101 : decode cX4_layOut 101 = .ok (.iadd, 1) := by decide +kernel
theorem dX4_layOut_102 : decode cX4_layOut 102 = .ok (.iconst 2, 1) := by decide +kernel
theorem dX4_layOut_103 : decode cX4_layOut 103 = .ok (.iadd, 1) := by decide +kernel
theorem dX4_layOut_104 : decode cX4_layOut 104 = .ok (.iload 4, 2) := by decide +kernel
theorem dX4_layOut_106 : decode cX4_layOut 106 = .ok (.iastore, 1) := by decide +kernel
theorem dX4_layOut_107 : decode cX4_layOut 107 = .ok (.aload_n 0, 1) := by decide +kernel
theorem dX4_layOut_108 : decode cX4_layOut 108 = .ok (.bipush 24, 2) := by decide +kernel
theorem dX4_layOut_110 : decode cX4_layOut 110 = .ok (.iconst 5, 1) := by decide +kernel
theorem dX4_layOut_111 : decode cX4_layOut 111 = .ok (.iload_n 1, 1) := by decide +kernel
theorem dX4_layOut_112 : decode cX4_layOut 112 = .ok (.imul, 1) := by decide +kernel
theorem dX4_layOut_113 : decode cX4_layOut 113 = .ok (.iadd, 1) := by decide +kernel
theorem dX4_layOut_114 : decode cX4_layOut 114 = .ok (.iconst 1, 1) := by decide +kernel
theorem dX4_layOut_115 : decode cX4_layOut 115 = .ok (.iadd, 1) := by decide +kernel
theorem dX4_layOut_116 : decode cX4_layOut 116 = .ok (.iload_n 3, 1) := by decide +kernel
theorem dX4_layOut_117 : decode cX4_layOut 117 = .ok (.invokevirtual 76, 3) := by decide +kernel
theorem dX4_layOut_120 : decode cX4_layOut 120 = .ok (.ireturn, 1) := by decide +kernel
theorem dX4_stop_0 : decode cX4_stop 0 = .ok (.iload_n 1, 1) := by decide +kernel
theorem dX4_stop_1 : decode cX4_stop 1 = .ok (.invokestatic 67, 3) := by decide +kernel
theorem dX4_stop_4 : decode cX4_stop 4 = .ok (.ifCond .ne 6, 3) := by decide +kernel
theorem dX4_stop_7 : decode cX4_stop 7 = .ok (.ldc 71, 2) := by decide +kernel
theorem dX4_stop_9 : decode cX4_stop 9 = .ok (.ireturn, 1) := by decide +kernel
theorem dX4_stop_10 : decode cX4_stop 10 = .ok (.iload_n 2, 1) := by decide +kernel
theorem dX4_stop_11 : decode cX4_stop 11 = .ok (.iconst 0, 1) := by decide +kernel
theorem dX4_stop_12 : decode cX4_stop 12 = .ok (.iconst 4, 1) := by decide +kernel
theorem dX4_stop_13 : decode cX4_stop 13 = .ok (.invokestatic 59, 3) := by decide +kernel
theorem dX4_stop_16 : decode cX4_stop 16 = .ok (.ifCond .eq 19, 3) := by decide +kernel
theorem dX4_stop_19 : decode cX4_stop 19 = .ok (.aload_n 0, 1) := by decide +kernel
theorem dX4_stop_20 : decode cX4_stop 20 = .ok (.getfield 7, 3) := by decide +kernel
theorem dX4_stop_23 : decode cX4_stop 23 = .ok (.bipush 24, 2) := by decide +kernel
theorem dX4_stop_25 : decode cX4_stop 25 = .ok (.iconst 5, 1) := by decide +kernel
theorem dX4_stop_26 : decode cX4_stop 26 = .ok (.iload_n 1, 1) := by decide +kernel
theorem dX4_stop_27 : decode cX4_stop 27 = .ok (.imul, 1) := by decide +kernel
theorem dX4_stop_28 : decode cX4_stop 28 = .ok (.iadd, 1) := by decide +kernel
theorem dX4_stop_29 : decode cX4_stop 29 = .ok (.iload_n 2, 1) := by decide +kernel
theorem dX4_stop_30 : decode cX4_stop 30 = .ok (.iadd, 1) := by decide +kernel
theorem dX4_stop_31 : decode cX4_stop 31 = .ok (.iaload, 1) := by decide +kernel
theorem dX4_stop_32 : decode cX4_stop 32 = .ok (.goto 5, 3) := by decide +kernel
theorem dX4_stop_35 : decode cX4_stop 35 = .ok (.ldc 72, 2) := by decide +kernel
theorem dX4_stop_37 : decode cX4_stop 37 = .ok (.ireturn, 1) := by decide +kernel
theorem dX4_set_0 : decode cX4_set 0 = .ok (.iload_n 1, 1) := by decide +kernel
theorem dX4_set_1 : decode cX4_set 1 = .ok (.iconst 0, 1) := by decide +kernel
theorem dX4_set_2 : decode cX4_set 2 = .ok (.bipush 8, 2) := by decide +kernel
theorem dX4_set_4 : decode cX4_set 4 = .ok (.invokestatic 59, 3) := by decide +kernel
theorem dX4_set_7 : decode cX4_set 7 = .ok (.ifCond .ne 6, 3) := by decide +kernel
theorem dX4_set_10 : decode cX4_set 10 = .ok (.ldc 71, 2) := by decide +kernel
theorem dX4_set_12 : decode cX4_set 12 = .ok (.ireturn, 1) := by decide +kernel
theorem dX4_set_13 : decode cX4_set 13 = .ok (.iload_n 2, 1) := by decide +kernel
theorem dX4_set_14 : decode cX4_set 14 = .ok (.aload_n 0, 1) := by decide +kernel
theorem dX4_set_15 : decode cX4_set 15 = .ok (.getfield 29, 3) := by decide +kernel
theorem dX4_set_18 : decode cX4_set 18 = .ok (.iload_n 1, 1) := by decide +kernel
theorem dX4_set_19 : decode cX4_set 19 = .ok (.iaload, 1) := by decide +kernel
theorem dX4_set_20 : decode cX4_set 20 = .ok (.aload_n 0, 1) := by decide +kernel
theorem dX4_set_21 : decode cX4_set 21 = .ok (.getfield 32, 3) := by decide +kernel
theorem dX4_set_24 : decode cX4_set 24 = .ok (.iload_n 1, 1) := by decide +kernel
theorem dX4_set_25 : decode cX4_set 25 = .ok (.iaload, 1) := by decide +kernel
theorem dX4_set_26 : decode cX4_set 26 = .ok (.invokestatic 59, 3) := by decide +kernel
theorem dX4_set_29 : decode cX4_set 29 = .ok (.ifCond .ne 6, 3) := by decide +kernel
theorem dX4_set_32 : decode cX4_set 32 = .ok (.ldc 72, 2) := by decide +kernel
theorem dX4_set_34 : decode cX4_set 34 = .ok (.ireturn, 1) := by decide +kernel
theorem dX4_set_35 : decode cX4_set 35 = .ok (.aload_n 0, 1) := by decide +kernel
theorem dX4_set_36 : decode cX4_set 36 = .ok (.invokevirtual 73, 3) := by decide +kernel
theorem dX4_set_39 : decode cX4_set 39 = .ok (.aload_n 0, 1) := by decide +kernel
theorem dX4_set_40 : decode cX4_set 40 = .ok (.iconst 1, 1) := by decide +kernel
theorem dX4_set_41 : decode cX4_set 41 = .ok (.iload_n 1, 1) := by decide +kernel
theorem dX4_set_42 : decode cX4_set 42 = .ok (.iadd, 1) := by decide +kernel
theorem dX4_set_43 : decode cX4_set 43 = .ok (.iload_n 2, 1) := by decide +kernel
theorem dX4_set_44 : decode cX4_set 44 = .ok (.invokevirtual 76, 3) := by decide +kernel
theorem dX4_set_47 : decode cX4_set 47 = .ok (.ireturn, 1) := by decide +kernel
theorem dX4_ciphersAll_0 : decode cX4_ciphersAll 0 = .ok (.iconst 0, 1) := by decide +kernel
theorem dX4_ciphersAll_1 : decode cX4_ciphersAll 1 = .ok (.istore_n 1, 1) := by decide +kernel
theorem dX4_ciphersAll_2 : decode cX4_ciphersAll 2 = .ok (.iconst 0, 1) := by decide +kernel
theorem dX4_ciphersAll_3 : decode cX4_ciphersAll 3 = .ok (.istore_n 2, 1) := by decide +kernel
theorem dX4_ciphersAll_4 : decode cX4_ciphersAll 4 = .ok (.iload_n 2, 1) := by decide +kernel
theorem dX4_ciphersAll_5 : decode cX4_ciphersAll 5 = .ok (.bipush 8, 2) := by decide +kernel
theorem dX4_ciphersAll_7 : decode cX4_ciphersAll 7 = .ok (.if_icmp .ge 25, 3) := by decide +kernel
theorem dX4_ciphersAll_10 : decode cX4_ciphersAll 10 = .ok (.iload_n 1, 1) := by decide +kernel
theorem dX4_ciphersAll_11 : decode cX4_ciphersAll 11 = .ok (.aload_n 0, 1) := by decide +kernel
theorem dX4_ciphersAll_12 : decode cX4_ciphersAll 12 = .ok (.getfield 7, 3) := by decide +kernel
theorem dX4_ciphersAll_15 : decode cX4_ciphersAll 15 = .ok (.sipush 256, 3) := by decide +kernel
theorem dX4_ciphersAll_18 : decode cX4_ciphersAll 18 = .ok (.iload_n 2, 1) := by decide +kernel
theorem dX4_ciphersAll_19 : decode cX4_ciphersAll 19 = .ok (.iadd, 1) := by decide +kernel
theorem dX4_ciphersAll_20 : decode cX4_ciphersAll 20 = .ok (.iaload, 1) := by decide +kernel
theorem dX4_ciphersAll_21 : decode cX4_ciphersAll 21 = .ok (.invokestatic 80, 3) := by decide +kernel
theorem dX4_ciphersAll_24 : decode cX4_ciphersAll 24 = .ok (.iadd, 1) := by decide +kernel
theorem dX4_ciphersAll_25 : decode cX4_ciphersAll 25 = .ok (.istore_n 1, 1) := by decide +kernel
theorem dX4_ciphersAll_26 : decode cX4_ciphersAll 26 = .ok (.iinc 2 1, 3) := by decide +kernel
theorem dX4_ciphersAll_29 : decode cX4_ciphersAll 29 = .ok (.goto (-25), 3) := by decide +kernel
theorem dX4_ciphersAll_32 : decode cX4_ciphersAll 32 = .ok (.iload_n 1, 1) := by decide +kernel
theorem dX4_ciphersAll_33 : decode cX4_ciphersAll 33 = .ok (.ireturn, 1) := by decide +kernel
theorem dX4_with_0 : decode cX4_with 0 = .ok (.iload_n 2, 1) := by decide +kernel
theorem dX4_with_1 : decode cX4_with 1 = .ok (.ifCond .eq 11, 3) := by decide +kernel
theorem dX4_with_4 : decode cX4_with 4 = .ok (.iload_n 0, 1) := by decide +kernel
theorem dX4_with_5 : decode cX4_with 5 = .ok (.iconst 1, 1) := by decide +kernel
theorem dX4_with_6 : decode cX4_with 6 = .ok (.iload_n 1, 1) := by decide +kernel
theorem dX4_with_7 : decode cX4_with 7 = .ok (.ishl, 1) := by decide +kernel
theorem dX4_with_8 : decode cX4_with 8 = .ok (.ior, 1) := by decide +kernel
theorem dX4_with_9 : decode cX4_with 9 = .ok (.goto 10, 3) := by decide +kernel
theorem dX4_with_12 : decode cX4_with 12 = .ok (.iload_n 0, 1) := by decide +kernel
theorem dX4_with_13 : decode cX4_with 13 = .ok (.iconst 1, 1) := by decide +kernel
theorem dX4_with_14 : decode cX4_with 14 = .ok (.iload_n 1, 1) := by decide +kernel
theorem dX4_with_15 : decode cX4_with 15 = .ok (.ishl, 1) := by decide +kernel
theorem dX4_with_16 : decode cX4_with 16 = .ok (.iconst (-1), 1) := by decide +kernel
theorem dX4_with_17 : decode cX4_with 17 = .ok (.ixor, 1) := by decide +kernel
theorem dX4_with_18 : decode cX4_with 18 = .ok (.iand, 1) := by decide +kernel
theorem dX4_with_19 : decode cX4_with 19 = .ok (.ireturn, 1) := by decide +kernel
theorem dX4_cipher_0 : decode cX4_cipher 0 = .ok (.iload_n 1, 1) := by decide +kernel
theorem dX4_cipher_1 : decode cX4_cipher 1 = .ok (.invokestatic 67, 3) := by decide +kernel
theorem dX4_cipher_4 : decode cX4_cipher 4 = .ok (.ifCond .eq 10, 3) := by decide +kernel
theorem dX4_cipher_7 : decode cX4_cipher 7 = .ok (.iload_n 2, 1) := by decide +kernel
theorem dX4_cipher_8 : decode cX4_cipher 8 = .ok (.invokestatic 84, 3) := by decide +kernel
theorem dX4_cipher_11 : decode cX4_cipher 11 = .ok (.ifCond .ne 6, 3) := by decide +kernel
theorem dX4_cipher_14 : decode cX4_cipher 14 = .ok (.ldc 71, 2) := by decide +kernel
theorem dX4_cipher_16 : decode cX4_cipher 16 = .ok (.ireturn, 1) := by decide +kernel
theorem dX4_cipher_17 : decode cX4_cipher 17 = .ok (.aload_n 0, 1) := by decide +kernel
theorem dX4_cipher_18 : decode cX4_cipher 18 = .ok (.getfield 7, 3) := by decide +kernel
theorem dX4_cipher_21 : decode cX4_cipher 21 = .ok (.sipush 256, 3) := by decide +kernel
theorem dX4_cipher_24 : decode cX4_cipher 24 = .ok (.iload_n 1, 1) := by decide +kernel
theorem dX4_cipher_25 : decode cX4_cipher 25 = .ok (.iadd, 1) := by decide +kernel
theorem dX4_cipher_26 : decode cX4_cipher 26 = .ok (.iaload, 1) := by decide +kernel
theorem dX4_cipher_27 : decode cX4_cipher 27 = .ok (.iload_n 2, 1) := by decide +kernel
theorem dX4_cipher_28 : decode cX4_cipher 28 = .ok (.ishr, 1) := by decide +kernel
theorem dX4_cipher_29 : decode cX4_cipher 29 = .ok (.iconst 1, 1) := by decide +kernel
theorem dX4_cipher_30 : decode cX4_cipher 30 = .ok (.iand, 1) := by decide +kernel
theorem dX4_cipher_31 : decode cX4_cipher 31 = .ok (.iconst 1, 1) := by decide +kernel
theorem dX4_cipher_32 : decode cX4_cipher 32 = .ok (.if_icmp .ne 7, 3) := by decide +kernel
theorem dX4_cipher_35 : decode cX4_cipher 35 = .ok (.iconst 1, 1) := by decide +kernel
theorem dX4_cipher_36 : decode cX4_cipher 36 = .ok (.goto 4, 3) := by decide +kernel
theorem dX4_cipher_39 : decode cX4_cipher 39 = .ok (.iconst 0, 1) := by decide +kernel
theorem dX4_cipher_40 : decode cX4_cipher 40 = .ok (.istore 4, 2) := by decide +kernel
theorem dX4_cipher_42 : decode cX4_cipher 42 = .ok (.iload_n 3, 1) := by decide +kernel
theorem dX4_cipher_43 : decode cX4_cipher 43 = .ok (.ifCond .eq 20, 3) := by decide +kernel
theorem dX4_cipher_46 : decode cX4_cipher 46 = .ok (.iload 4, 2) := by decide +kernel
theorem dX4_cipher_48 : decode cX4_cipher 48 = .ok (.ifCond .ne 15, 3) := by decide +kernel
theorem dX4_cipher_51 : decode cX4_cipher 51 = .ok (.aload_n 0, 1) := by decide +kernel
theorem dX4_cipher_52 : decode cX4_cipher 52 = .ok (.invokevirtual 87, 3) := by decide +kernel
theorem dX4_cipher_55 : decode cX4_cipher 55 = .ok (.bipush 6, 2) := by decide +kernel
theorem dX4_cipher_57 : decode cX4_cipher 57 = .ok (.if_icmp .ne 6, 3) := by decide +kernel
theorem dX4_cipher_60 : decode cX4_cipher 60 = .ok (.ldc 91, 2) := by decide +kernel
theorem dX4_cipher_62 : decode cX4_cipher 62 = .ok (.ireturn, 1) := by decide +kernel
theorem dX4_cipher_63 : decode cX4_cipher 63 = .ok (.aload_n 0, 1) := by decide +kernel
theorem dX4_cipher_64 : decode cX4_cipher 64 = .ok (.invokevirtual 73, 3) := by decide +kernel
theorem dX4_cipher_67 : decode cX4_cipher 67 = .ok (.aload_n 0, 1) := by decide +kernel
theorem dX4_cipher_68 : decode cX4_cipher 68 = .ok (.getfield 7, 3) := by decide +kernel
theorem dX4_cipher_71 : decode cX4_cipher 71 = .ok (.sipush 256, 3) := by decide +kernel
theorem dX4_cipher_74 : decode cX4_cipher 74 = .ok (.iload_n 1, 1) := by decide +kernel
theorem dX4_cipher_75 : decode cX4_cipher 75 = .ok (.iadd, 1) := by decide +kernel
theorem dX4_cipher_76 : decode cX4_cipher 76 = .ok (.aload_n 0, 1) := by decide +kernel
theorem dX4_cipher_77 : decode cX4_cipher 77 = .ok (.getfield 7, 3) := by decide +kernel
theorem dX4_cipher_80 : decode cX4_cipher 80 = .ok (.sipush 256, 3) := by decide +kernel
theorem dX4_cipher_83 : decode cX4_cipher 83 = .ok (.iload_n 1, 1) := by decide +kernel
theorem dX4_cipher_84 : decode cX4_cipher 84 = .ok (.iadd, 1) := by decide +kernel
theorem dX4_cipher_85 : decode cX4_cipher 85 = .ok (.iaload, 1) := by decide +kernel
theorem dX4_cipher_86 : decode cX4_cipher 86 = .ok (.iload_n 2, 1) := by decide +kernel
theorem dX4_cipher_87 : decode cX4_cipher 87 = .ok (.iload_n 3, 1) := by decide +kernel
theorem dX4_cipher_88 : decode cX4_cipher 88 = .ok (.invokestatic 92, 3) := by decide +kernel
theorem dX4_cipher_91 : decode cX4_cipher 91 = .ok (.iastore, 1) := by decide +kernel
theorem dX4_cipher_92 : decode cX4_cipher 92 = .ok (.aload_n 0, 1) := by decide +kernel
theorem dX4_cipher_93 : decode cX4_cipher 93 = .ok (.invokevirtual 87, 3) := by decide +kernel
theorem dX4_cipher_96 : decode cX4_cipher 96 = .ok (.ireturn, 1) := by decide +kernel
theorem dX4_drawn_0 : decode cX4_drawn 0 = .ok (.iconst 0, 1) := by decide +kernel
theorem dX4_drawn_1 : decode cX4_drawn 1 = .ok (.istore_n 1, 1) := by decide +kernel
theorem dX4_drawn_2 : decode cX4_drawn 2 = .ok (.iconst 0, 1) := by decide +kernel
theorem dX4_drawn_3 : decode cX4_drawn 3 = .ok (.istore_n 2, 1) := by decide +kernel
theorem dX4_drawn_4 : decode cX4_drawn 4 = .ok (.iload_n 2, 1) := by decide +kernel
theorem dX4_drawn_5 : decode cX4_drawn 5 = .ok (.bipush 8, 2) := by decide +kernel
theorem dX4_drawn_7 : decode cX4_drawn 7 = .ok (.if_icmp .ge 27, 3) := by decide +kernel
theorem dX4_drawn_10 : decode cX4_drawn 10 = .ok (.iload_n 1, 1) := by decide +kernel
theorem dX4_drawn_11 : decode cX4_drawn 11 = .ok (.aload_n 0, 1) := by decide +kernel
theorem dX4_drawn_12 : decode cX4_drawn 12 = .ok (.getfield 7, 3) := by decide +kernel
theorem dX4_drawn_15 : decode cX4_drawn 15 = .ok (.bipush 24, 2) := by decide +kernel
theorem dX4_drawn_17 : decode cX4_drawn 17 = .ok (.iconst 5, 1) := by decide +kernel
theorem dX4_drawn_18 : decode cX4_drawn 18 = .ok (.iload_n 2, 1) := by decide +kernel
theorem dX4_drawn_19 : decode cX4_drawn 19 = .ok (.imul, 1) := by decide +kernel
theorem dX4_drawn_20 : decode cX4_drawn 20 = .ok (.iadd, 1) := by decide +kernel
theorem dX4_drawn_21 : decode cX4_drawn 21 = .ok (.iconst 3, 1) := by decide +kernel
theorem dX4_drawn_22 : decode cX4_drawn 22 = .ok (.iadd, 1) := by decide +kernel
theorem dX4_drawn_23 : decode cX4_drawn 23 = .ok (.iaload, 1) := by decide +kernel
theorem dX4_drawn_24 : decode cX4_drawn 24 = .ok (.iload_n 2, 1) := by decide +kernel
theorem dX4_drawn_25 : decode cX4_drawn 25 = .ok (.ishl, 1) := by decide +kernel
theorem dX4_drawn_26 : decode cX4_drawn 26 = .ok (.ior, 1) := by decide +kernel
theorem dX4_drawn_27 : decode cX4_drawn 27 = .ok (.istore_n 1, 1) := by decide +kernel
theorem dX4_drawn_28 : decode cX4_drawn 28 = .ok (.iinc 2 1, 3) := by decide +kernel
theorem dX4_drawn_31 : decode cX4_drawn 31 = .ok (.goto (-27), 3) := by decide +kernel
theorem dX4_drawn_34 : decode cX4_drawn 34 = .ok (.iload_n 1, 1) := by decide +kernel
theorem dX4_drawn_35 : decode cX4_drawn 35 = .ok (.ireturn, 1) := by decide +kernel
theorem dX4_draws_0 : decode cX4_draws 0 = .ok (.aload_n 0, 1) := by decide +kernel
theorem dX4_draws_1 : decode cX4_draws 1 = .ok (.getfield 7, 3) := by decide +kernel
theorem dX4_draws_4 : decode cX4_draws 4 = .ok (.bipush 24, 2) := by decide +kernel
theorem dX4_draws_6 : decode cX4_draws 6 = .ok (.iconst 5, 1) := by decide +kernel
theorem dX4_draws_7 : decode cX4_draws 7 = .ok (.iload_n 1, 1) := by decide +kernel
theorem dX4_draws_8 : decode cX4_draws 8 = .ok (.imul, 1) := by decide +kernel
theorem dX4_draws_9 : decode cX4_draws 9 = .ok (.iadd, 1) := by decide +kernel
theorem dX4_draws_10 : decode cX4_draws 10 = .ok (.iconst 3, 1) := by decide +kernel
theorem dX4_draws_11 : decode cX4_draws 11 = .ok (.iadd, 1) := by decide +kernel
theorem dX4_draws_12 : decode cX4_draws 12 = .ok (.iload_n 2, 1) := by decide +kernel
theorem dX4_draws_13 : decode cX4_draws 13 = .ok (.ifCond .eq 7, 3) := by decide +kernel
theorem dX4_draws_16 : decode cX4_draws 16 = .ok (.iconst 1, 1) := by decide +kernel
theorem dX4_draws_17 : decode cX4_draws 17 = .ok (.goto 4, 3) := by decide +kernel
theorem dX4_draws_20 : decode cX4_draws 20 = .ok (.iconst 0, 1) := by decide +kernel
theorem dX4_draws_21 : decode cX4_draws 21 = .ok (.iastore, 1) := by decide +kernel
theorem dX4_draws_22 : decode cX4_draws 22 = .ok (.aload_n 0, 1) := by decide +kernel
theorem dX4_draws_23 : decode cX4_draws 23 = .ok (.invokevirtual 96, 3) := by decide +kernel
theorem dX4_draws_26 : decode cX4_draws 26 = .ok (.invokestatic 80, 3) := by decide +kernel
theorem dX4_draws_29 : decode cX4_draws 29 = .ok (.ireturn, 1) := by decide +kernel
theorem dX4_draw_0 : decode cX4_draw 0 = .ok (.iload_n 1, 1) := by decide +kernel
theorem dX4_draw_1 : decode cX4_draw 1 = .ok (.invokestatic 67, 3) := by decide +kernel
theorem dX4_draw_4 : decode cX4_draw 4 = .ok (.ifCond .ne 6, 3) := by decide +kernel
theorem dX4_draw_7 : decode cX4_draw 7 = .ok (.ldc 71, 2) := by decide +kernel
theorem dX4_draw_9 : decode cX4_draw 9 = .ok (.ireturn, 1) := by decide +kernel
theorem dX4_draw_10 : decode cX4_draw 10 = .ok (.aload_n 0, 1) := by decide +kernel
theorem dX4_draw_11 : decode cX4_draw 11 = .ok (.invokevirtual 73, 3) := by decide +kernel
theorem dX4_draw_14 : decode cX4_draw 14 = .ok (.aload_n 0, 1) := by decide +kernel
theorem dX4_draw_15 : decode cX4_draw 15 = .ok (.iload_n 1, 1) := by decide +kernel
theorem dX4_draw_16 : decode cX4_draw 16 = .ok (.iload_n 2, 1) := by decide +kernel
theorem dX4_draw_17 : decode cX4_draw 17 = .ok (.invokevirtual 99, 3) := by decide +kernel
theorem dX4_draw_20 : decode cX4_draw 20 = .ok (.ireturn, 1) := by decide +kernel
theorem dX4_presses_0 : decode cX4_presses 0 = .ok (.aload_n 0, 1) := by decide +kernel
theorem dX4_presses_1 : decode cX4_presses 1 = .ok (.getfield 7, 3) := by decide +kernel
theorem dX4_presses_4 : decode cX4_presses 4 = .ok (.bipush 11, 2) := by decide +kernel
theorem dX4_presses_6 : decode cX4_presses 6 = .ok (.iload_n 1, 1) := by decide +kernel
theorem dX4_presses_7 : decode cX4_presses 7 = .ok (.iadd, 1) := by decide +kernel
theorem dX4_presses_8 : decode cX4_presses 8 = .ok (.aload_n 0, 1) := by decide +kernel
theorem dX4_presses_9 : decode cX4_presses 9 = .ok (.getfield 7, 3) := by decide +kernel
theorem dX4_presses_12 : decode cX4_presses 12 = .ok (.bipush 11, 2) := by decide +kernel
theorem dX4_presses_14 : decode cX4_presses 14 = .ok (.iload_n 1, 1) := by decide +kernel
theorem dX4_presses_15 : decode cX4_presses 15 = .ok (.iadd, 1) := by decide +kernel
theorem dX4_presses_16 : decode cX4_presses 16 = .ok (.iaload, 1) := by decide +kernel
theorem dX4_presses_17 : decode cX4_presses 17 = .ok (.iload_n 2, 1) := by decide +kernel
theorem dX4_presses_18 : decode cX4_presses 18 = .ok (.iload_n 3, 1) := by decide +kernel
theorem dX4_presses_19 : decode cX4_presses 19 = .ok (.invokestatic 92, 3) := by decide +kernel
theorem dX4_presses_22 : decode cX4_presses 22 = .ok (.iastore, 1) := by decide +kernel
theorem dX4_presses_23 : decode cX4_presses 23 = .ok (.aload_n 0, 1) := by decide +kernel
theorem dX4_presses_24 : decode cX4_presses 24 = .ok (.getfield 7, 3) := by decide +kernel
theorem dX4_presses_27 : decode cX4_presses 27 = .ok (.bipush 11, 2) := by decide +kernel
theorem dX4_presses_29 : decode cX4_presses 29 = .ok (.iload_n 1, 1) := by decide +kernel
theorem dX4_presses_30 : decode cX4_presses 30 = .ok (.iadd, 1) := by decide +kernel
theorem dX4_presses_31 : decode cX4_presses 31 = .ok (.iaload, 1) := by decide +kernel
theorem dX4_presses_32 : decode cX4_presses 32 = .ok (.invokestatic 80, 3) := by decide +kernel
theorem dX4_presses_35 : decode cX4_presses 35 = .ok (.ireturn, 1) := by decide +kernel
theorem dX4_press_0 : decode cX4_press 0 = .ok (.iload_n 1, 1) := by decide +kernel
theorem dX4_press_1 : decode cX4_press 1 = .ok (.iconst 0, 1) := by decide +kernel
theorem dX4_press_2 : decode cX4_press 2 = .ok (.iconst 1, 1) := by decide +kernel
theorem dX4_press_3 : decode cX4_press 3 = .ok (.invokestatic 59, 3) := by decide +kernel
theorem dX4_press_6 : decode cX4_press 6 = .ok (.ifCond .eq 10, 3) := by decide +kernel
theorem dX4_press_9 : decode cX4_press 9 = .ok (.iload_n 2, 1) := by decide +kernel
theorem dX4_press_10 : decode cX4_press 10 = .ok (.invokestatic 84, 3) := by decide +kernel
theorem dX4_press_13 : decode cX4_press 13 = .ok (.ifCond .ne 6, 3) := by decide +kernel
theorem dX4_press_16 : decode cX4_press 16 = .ok (.ldc 71, 2) := by decide +kernel
theorem dX4_press_18 : decode cX4_press 18 = .ok (.ireturn, 1) := by decide +kernel
theorem dX4_press_19 : decode cX4_press 19 = .ok (.aload_n 0, 1) := by decide +kernel
theorem dX4_press_20 : decode cX4_press 20 = .ok (.invokevirtual 73, 3) := by decide +kernel
theorem dX4_press_23 : decode cX4_press 23 = .ok (.aload_n 0, 1) := by decide +kernel
theorem dX4_press_24 : decode cX4_press 24 = .ok (.iload_n 1, 1) := by decide +kernel
theorem dX4_press_25 : decode cX4_press 25 = .ok (.iload_n 2, 1) := by decide +kernel
theorem dX4_press_26 : decode cX4_press 26 = .ok (.iload_n 3, 1) := by decide +kernel
theorem dX4_press_27 : decode cX4_press 27 = .ok (.invokevirtual 103, 3) := by decide +kernel
theorem dX4_press_30 : decode cX4_press 30 = .ok (.ireturn, 1) := by decide +kernel
theorem dX4_couple_0 : decode cX4_couple 0 = .ok (.aload_n 0, 1) := by decide +kernel
theorem dX4_couple_1 : decode cX4_couple 1 = .ok (.invokevirtual 73, 3) := by decide +kernel
theorem dX4_couple_4 : decode cX4_couple 4 = .ok (.aload_n 0, 1) := by decide +kernel
theorem dX4_couple_5 : decode cX4_couple 5 = .ok (.bipush 10, 2) := by decide +kernel
theorem dX4_couple_7 : decode cX4_couple 7 = .ok (.iload_n 1, 1) := by decide +kernel
theorem dX4_couple_8 : decode cX4_couple 8 = .ok (.ifCond .eq 7, 3) := by decide +kernel
theorem dX4_couple_11 : decode cX4_couple 11 = .ok (.iconst 1, 1) := by decide +kernel
theorem dX4_couple_12 : decode cX4_couple 12 = .ok (.goto 4, 3) := by decide +kernel
theorem dX4_couple_15 : decode cX4_couple 15 = .ok (.iconst 0, 1) := by decide +kernel
theorem dX4_couple_16 : decode cX4_couple 16 = .ok (.iload_n 2, 1) := by decide +kernel
theorem dX4_couple_17 : decode cX4_couple 17 = .ok (.ifCond .eq 7, 3) := by decide +kernel
theorem dX4_couple_20 : decode cX4_couple 20 = .ok (.iconst 2, 1) := by decide +kernel
theorem dX4_couple_21 : decode cX4_couple 21 = .ok (.goto 4, 3) := by decide +kernel
theorem dX4_couple_24 : decode cX4_couple 24 = .ok (.iconst 0, 1) := by decide +kernel
theorem dX4_couple_25 : decode cX4_couple 25 = .ok (.iadd, 1) := by decide +kernel
theorem dX4_couple_26 : decode cX4_couple 26 = .ok (.invokevirtual 76, 3) := by decide +kernel
theorem dX4_couple_29 : decode cX4_couple 29 = .ok (.ireturn, 1) := by decide +kernel
theorem dX4_acts_0 : decode cX4_acts 0 = .ok (.iload_n 1, 1) := by decide +kernel
theorem dX4_acts_1 : decode cX4_acts 1 = .ok (.ifCond .eq 13, 3) := by decide +kernel
theorem dX4_acts_4 : decode cX4_acts 4 = .ok (.aload_n 0, 1) := by decide +kernel
theorem dX4_acts_5 : decode cX4_acts 5 = .ok (.getfield 7, 3) := by decide +kernel
theorem dX4_acts_8 : decode cX4_acts 8 = .ok (.bipush 11, 2) := by decide +kernel
theorem dX4_acts_10 : decode cX4_acts 10 = .ok (.iaload, 1) := by decide +kernel
theorem dX4_acts_11 : decode cX4_acts 11 = .ok (.goto 4, 3) := by decide +kernel
theorem dX4_acts_14 : decode cX4_acts 14 = .ok (.iconst 0, 1) := by decide +kernel
theorem dX4_acts_15 : decode cX4_acts 15 = .ok (.istore_n 2, 1) := by decide +kernel
theorem dX4_acts_16 : decode cX4_acts 16 = .ok (.iload_n 1, 1) := by decide +kernel
theorem dX4_acts_17 : decode cX4_acts 17 = .ok (.ifCond .eq 13, 3) := by decide +kernel
theorem dX4_acts_20 : decode cX4_acts 20 = .ok (.aload_n 0, 1) := by decide +kernel
theorem dX4_acts_21 : decode cX4_acts 21 = .ok (.getfield 7, 3) := by decide +kernel
theorem dX4_acts_24 : decode cX4_acts 24 = .ok (.bipush 12, 2) := by decide +kernel
theorem dX4_acts_26 : decode cX4_acts 26 = .ok (.iaload, 1) := by decide +kernel
theorem dX4_acts_27 : decode cX4_acts 27 = .ok (.goto 4, 3) := by decide +kernel
theorem dX4_acts_30 : decode cX4_acts 30 = .ok (.iconst 0, 1) := by decide +kernel
theorem dX4_acts_31 : decode cX4_acts 31 = .ok (.istore_n 3, 1) := by decide +kernel
theorem dX4_acts_32 : decode cX4_acts 32 = .ok (.aload_n 0, 1) := by decide +kernel
theorem dX4_acts_33 : decode cX4_acts 33 = .ok (.getfield 38, 3) := by decide +kernel
theorem dX4_acts_36 : decode cX4_acts 36 = .ok (.iconst 0, 1) := by decide +kernel
theorem dX4_acts_37 : decode cX4_acts 37 = .ok (.iload_n 2, 1) := by decide +kernel
theorem dX4_acts_38 : decode cX4_acts 38 = .ok (.aload_n 0, 1) := by decide +kernel
theorem dX4_acts_39 : decode cX4_acts 39 = .ok (.getfield 7, 3) := by decide +kernel
theorem dX4_acts_42 : decode cX4_acts 42 = .ok (.bipush 10, 2) := by decide +kernel
theorem dX4_acts_44 : decode cX4_acts 44 = .ok (.iaload, 1) := by decide +kernel
theorem dX4_acts_45 : decode cX4_acts 45 = .ok (.iconst 2, 1) := by decide +kernel
theorem dX4_acts_46 : decode cX4_acts 46 = .ok (.iand, 1) := by decide +kernel
theorem dX4_acts_47 : decode cX4_acts 47 = .ok (.iconst 2, 1) := by decide +kernel
theorem dX4_acts_48 : decode cX4_acts 48 = .ok (.if_icmp .ne 10, 3) := by decide +kernel
theorem dX4_acts_51 : decode cX4_acts 51 = .ok (.iload_n 2, 1) := by decide +kernel
theorem dX4_acts_52 : decode cX4_acts 52 = .ok (.bipush 12, 2) := by decide +kernel
theorem dX4_acts_54 : decode cX4_acts 54 = .ok (.ishl, 1) := by decide +kernel
theorem dX4_acts_55 : decode cX4_acts 55 = .ok (.goto 4, 3) := by decide +kernel
theorem dX4_acts_58 : decode cX4_acts 58 = .ok (.iconst 0, 1) := by decide +kernel
theorem dX4_acts_59 : decode cX4_acts 59 = .ok (.ior, 1) := by decide +kernel
theorem dX4_acts_60 : decode cX4_acts 60 = .ok (.ldc 106, 2) := by decide +kernel
theorem dX4_acts_62 : decode cX4_acts 62 = .ok (.iand, 1) := by decide +kernel
theorem dX4_acts_63 : decode cX4_acts 63 = .ok (.iastore, 1) := by decide +kernel
theorem dX4_acts_64 : decode cX4_acts 64 = .ok (.aload_n 0, 1) := by decide +kernel
theorem dX4_acts_65 : decode cX4_acts 65 = .ok (.getfield 38, 3) := by decide +kernel
theorem dX4_acts_68 : decode cX4_acts 68 = .ok (.iconst 1, 1) := by decide +kernel
theorem dX4_acts_69 : decode cX4_acts 69 = .ok (.iload_n 3, 1) := by decide +kernel
theorem dX4_acts_70 : decode cX4_acts 70 = .ok (.aload_n 0, 1) := by decide +kernel
theorem dX4_acts_71 : decode cX4_acts 71 = .ok (.getfield 7, 3) := by decide +kernel
theorem dX4_acts_74 : decode cX4_acts 74 = .ok (.bipush 10, 2) := by decide +kernel
theorem dX4_acts_76 : decode cX4_acts 76 = .ok (.iaload, 1) := by decide +kernel
theorem dX4_acts_77 : decode cX4_acts 77 = .ok (.iconst 1, 1) := by decide +kernel
theorem dX4_acts_78 : decode cX4_acts 78 = .ok (.iand, 1) := by decide +kernel
theorem dX4_acts_79 : decode cX4_acts 79 = .ok (.iconst 1, 1) := by decide +kernel
theorem dX4_acts_80 : decode cX4_acts 80 = .ok (.if_icmp .ne 12, 3) := by decide +kernel
theorem dX4_acts_83 : decode cX4_acts 83 = .ok (.aload_n 0, 1) := by decide +kernel
theorem dX4_acts_84 : decode cX4_acts 84 = .ok (.getfield 38, 3) := by decide +kernel
theorem dX4_acts_87 : decode cX4_acts 87 = .ok (.iconst 0, 1) := by decide +kernel
theorem dX4_acts_88 : decode cX4_acts 88 = .ok (.iaload, 1) := by decide +kernel
theorem dX4_acts_89 : decode cX4_acts 89 = .ok (.goto 4, 3) := by decide +kernel
theorem dX4_acts_92 : decode cX4_acts 92 = .ok (.iconst 0, 1) := by decide +kernel
theorem dX4_acts_93 : decode cX4_acts 93 = .ok (.ior, 1) := by decide +kernel
theorem dX4_acts_94 : decode cX4_acts 94 = .ok (.iastore, 1) := by decide +kernel
theorem dX4_acts_95 : decode cX4_acts 95 = .ok (.return_, 1) := by decide +kernel
theorem dX4_need_0 : decode cX4_need 0 = .ok (.aload_n 0, 1) := by decide +kernel
theorem dX4_need_1 : decode cX4_need 1 = .ok (.getfield 7, 3) := by decide +kernel
theorem dX4_need_4 : decode cX4_need 4 = .ok (.bipush 24, 2) := by decide +kernel
theorem dX4_need_6 : decode cX4_need 6 = .ok (.iconst 5, 1) := by decide +kernel
theorem dX4_need_7 : decode cX4_need 7 = .ok (.iload_n 1, 1) := by decide +kernel
theorem dX4_need_8 : decode cX4_need 8 = .ok (.imul, 1) := by decide +kernel
theorem dX4_need_9 : decode cX4_need 9 = .ok (.iadd, 1) := by decide +kernel
theorem dX4_need_10 : decode cX4_need 10 = .ok (.iconst 1, 1) := by decide +kernel
theorem dX4_need_11 : decode cX4_need 11 = .ok (.iadd, 1) := by decide +kernel
theorem dX4_need_12 : decode cX4_need 12 = .ok (.iaload, 1) := by decide +kernel
theorem dX4_need_13 : decode cX4_need 13 = .ok (.bipush 23, 2) := by decide +kernel
theorem dX4_need_15 : decode cX4_need 15 = .ok (.iload_n 2, 1) := by decide +kernel
theorem dX4_need_16 : decode cX4_need 16 = .ok (.isub, 1) := by decide +kernel
theorem dX4_need_17 : decode cX4_need 17 = .ok (.iconst 4, 1) := by decide +kernel
theorem dX4_need_18 : decode cX4_need 18 = .ok (.idiv, 1) := by decide +kernel
theorem dX4_need_19 : decode cX4_need 19 = .ok (.iadd, 1) := by decide +kernel
theorem dX4_need_20 : decode cX4_need 20 = .ok (.ireturn, 1) := by decide +kernel
theorem dX4_reservoir_0 : decode cX4_reservoir 0 = .ok (.aload_n 0, 1) := by decide +kernel
theorem dX4_reservoir_1 : decode cX4_reservoir 1 = .ok (.getfield 7, 3) := by decide +kernel
theorem dX4_reservoir_4 : decode cX4_reservoir 4 = .ok (.iconst 0, 1) := by decide +kernel
theorem dX4_reservoir_5 : decode cX4_reservoir 5 = .ok (.iaload, 1) := by decide +kernel
theorem dX4_reservoir_6 : decode cX4_reservoir 6 = .ok (.aload_n 0, 1) := by decide +kernel
theorem dX4_reservoir_7 : decode cX4_reservoir 7 = .ok (.getfield 7, 3) := by decide +kernel
theorem dX4_reservoir_10 : decode cX4_reservoir 10 = .ok (.iconst 4, 1) := by decide +kernel
theorem dX4_reservoir_11 : decode cX4_reservoir 11 = .ok (.iaload, 1) := by decide +kernel
theorem dX4_reservoir_12 : decode cX4_reservoir 12 = .ok (.if_icmp .lt 12, 3) := by decide +kernel
theorem dX4_reservoir_15 : decode cX4_reservoir 15 = .ok (.aload_n 0, 1) := by decide +kernel
theorem dX4_reservoir_16 : decode cX4_reservoir 16 = .ok (.getfield 7, 3) := by decide +kernel
theorem dX4_reservoir_19 : decode cX4_reservoir 19 = .ok (.iconst 1, 1) := by decide +kernel
theorem dX4_reservoir_20 : decode cX4_reservoir 20 = .ok (.iaload, 1) := by decide +kernel
theorem dX4_reservoir_21 : decode cX4_reservoir 21 = .ok (.goto 23, 3) := by decide +kernel
theorem dX4_reservoir_24 : decode cX4_reservoir 24 = .ok (.aload_n 0, 1) := by decide +kernel
theorem dX4_reservoir_25 : decode cX4_reservoir 25 = .ok (.getfield 7, 3) := by decide +kernel
theorem dX4_reservoir_28 : decode cX4_reservoir 28 = .ok (.iconst 1, 1) := by decide +kernel
theorem dX4_reservoir_29 : decode cX4_reservoir 29 = .ok (.iaload, 1) := by decide +kernel
theorem dX4_reservoir_30 : decode cX4_reservoir 30 = .ok (.aload_n 0, 1) := by decide +kernel
theorem dX4_reservoir_31 : decode cX4_reservoir 31 = .ok (.getfield 7, 3) := by decide +kernel
theorem dX4_reservoir_34 : decode cX4_reservoir 34 = .ok (.iconst 0, 1) := by decide +kernel
theorem dX4_reservoir_35 : decode cX4_reservoir 35 = .ok (.iaload, 1) := by decide +kernel
theorem dX4_reservoir_36 : decode cX4_reservoir 36 = .ok (.imul, 1) := by decide +kernel
theorem dX4_reservoir_37 : decode cX4_reservoir 37 = .ok (.aload_n 0, 1) := by decide +kernel
theorem dX4_reservoir_38 : decode cX4_reservoir 38 = .ok (.getfield 7, 3) := by decide +kernel
theorem dX4_reservoir_41 : decode cX4_reservoir 41 = .ok (.iconst 4, 1) := by decide +kernel
theorem dX4_reservoir_42 : decode cX4_reservoir 42 = .ok (.iaload, 1) := by decide +kernel
theorem dX4_reservoir_43 : decode cX4_reservoir 43 = .ok (.idiv, 1) := by decide +kernel
theorem dX4_reservoir_44 : decode cX4_reservoir 44 = .ok (.ireturn, 1) := by decide +kernel
theorem dX4_lays_0 : decode cX4_lays 0 = .ok (.aload_n 0, 1) := by decide +kernel
theorem dX4_lays_1 : decode cX4_lays 1 = .ok (.iload_n 2, 1) := by decide +kernel
theorem dX4_lays_2 : decode cX4_lays 2 = .ok (.invokevirtual 107, 3) := by decide +kernel
theorem dX4_lays_5 : decode cX4_lays 5 = .ok (.aload_n 0, 1) := by decide +kernel
theorem dX4_lays_6 : decode cX4_lays 6 = .ok (.getfield 44, 3) := by decide +kernel
theorem dX4_lays_9 : decode cX4_lays 9 = .ok (.iconst 0, 1) := by decide +kernel
theorem dX4_lays_10 : decode cX4_lays 10 = .ok (.iconst 0, 1) := by decide +kernel
theorem dX4_lays_11 : decode cX4_lays 11 = .ok (.iastore, 1) := by decide +kernel
theorem dX4_lays_12 : decode cX4_lays 12 = .ok (.aload_n 0, 1) := by decide +kernel
theorem dX4_lays_13 : decode cX4_lays 13 = .ok (.getfield 44, 3) := by decide +kernel
theorem dX4_lays_16 : decode cX4_lays 16 = .ok (.iconst 1, 1) := by decide +kernel
theorem dX4_lays_17 : decode cX4_lays 17 = .ok (.iconst 0, 1) := by decide +kernel
theorem dX4_lays_18 : decode cX4_lays 18 = .ok (.iastore, 1) := by decide +kernel
theorem dX4_lays_19 : decode cX4_lays 19 = .ok (.iconst 0, 1) := by decide +kernel
theorem dX4_lays_20 : decode cX4_lays 20 = .ok (.istore_n 3, 1) := by decide +kernel
theorem dX4_lays_21 : decode cX4_lays 21 = .ok (.iload_n 3, 1) := by decide +kernel
theorem dX4_lays_22 : decode cX4_lays 22 = .ok (.bipush 8, 2) := by decide +kernel
theorem dX4_lays_24 : decode cX4_lays 24 = .ok (.if_icmp .ge 111, 3) := by decide +kernel
theorem dX4_lays_27 : decode cX4_lays 27 = .ok (.aload_n 0, 1) := by decide +kernel
theorem dX4_lays_28 : decode cX4_lays 28 = .ok (.getfield 7, 3) := by decide +kernel
theorem dX4_lays_31 : decode cX4_lays 31 = .ok (.bipush 24, 2) := by decide +kernel
theorem dX4_lays_33 : decode cX4_lays 33 = .ok (.iconst 5, 1) := by decide +kernel
theorem dX4_lays_34 : decode cX4_lays 34 = .ok (.iload_n 3, 1) := by decide +kernel
theorem dX4_lays_35 : decode cX4_lays 35 = .ok (.imul, 1) := by decide +kernel
theorem dX4_lays_36 : decode cX4_lays 36 = .ok (.iadd, 1) := by decide +kernel
theorem dX4_lays_37 : decode cX4_lays 37 = .ok (.iaload, 1) := by decide +kernel
theorem dX4_lays_38 : decode cX4_lays 38 = .ok (.istore 4, 2) := by decide +kernel
theorem dX4_lays_40 : decode cX4_lays 40 = .ok (.aload_n 0, 1) := by decide +kernel
theorem dX4_lays_41 : decode cX4_lays 41 = .ok (.getfield 41, 3) := by decide +kernel
theorem dX4_lays_44 : decode cX4_lays 44 = .ok (.iload_n 3, 1) := by decide +kernel
theorem dX4_lays_45 : decode cX4_lays 45 = .ok (.iload_n 1, 1) := by decide +kernel
theorem dX4_lays_46 : decode cX4_lays 46 = .ok (.iload_n 3, 1) := by decide +kernel
theorem dX4_lays_47 : decode cX4_lays 47 = .ok (.ishr, 1) := by decide +kernel
theorem dX4_lays_48 : decode cX4_lays 48 = .ok (.iconst 1, 1) := by decide +kernel
theorem dX4_lays_49 : decode cX4_lays 49 = .ok (.iand, 1) := by decide +kernel
theorem dX4_lays_50 : decode cX4_lays 50 = .ok (.iconst 1, 1) := by decide +kernel
theorem dX4_lays_51 : decode cX4_lays 51 = .ok (.if_icmp .ne 24, 3) := by decide +kernel
theorem dX4_lays_54 : decode cX4_lays 54 = .ok (.aload_n 0, 1) := by decide +kernel
theorem dX4_lays_55 : decode cX4_lays 55 = .ok (.getfield 38, 3) := by decide +kernel
theorem dX4_lays_58 : decode cX4_lays 58 = .ok (.iload 4, 2) := by decide +kernel
theorem dX4_lays_60 : decode cX4_lays 60 = .ok (.iaload, 1) := by decide +kernel
theorem dX4_lays_61 : decode cX4_lays 61 = .ok (.aload_n 0, 1) := by decide +kernel
theorem dX4_lays_62 : decode cX4_lays 62 = .ok (.getfield 7, 3) := by decide +kernel
theorem dX4_lays_65 : decode cX4_lays 65 = .ok (.sipush 256, 3) := by decide +kernel
theorem dX4_lays_68 : decode cX4_lays 68 = .ok (.iload_n 3, 1) := by decide +kernel
theorem dX4_lays_69 : decode cX4_lays 69 = .ok (.iadd, 1) := by decide +kernel
theorem dX4_lays_70 : decode cX4_lays 70 = .ok (.iaload, 1) := by decide +kernel
theorem dX4_lays_71 : decode cX4_lays 71 = .ok (.ior, 1) := by decide +kernel
theorem dX4_lays_72 : decode cX4_lays 72 = .ok (.goto 4, 3) := by decide +kernel
theorem dX4_lays_75 : decode cX4_lays 75 = .ok (.iconst 0, 1) := by decide +kernel
theorem dX4_lays_76 : decode cX4_lays 76 = .ok (.iastore, 1) := by decide +kernel
theorem dX4_lays_77 : decode cX4_lays 77 = .ok (.iconst 0, 1) := by decide +kernel
theorem dX4_lays_78 : decode cX4_lays 78 = .ok (.istore 5, 2) := by decide +kernel
theorem dX4_lays_80 : decode cX4_lays 80 = .ok (.iload 5, 2) := by decide +kernel
theorem dX4_lays_82 : decode cX4_lays 82 = .ok (.bipush 24, 2) := by decide +kernel
theorem dX4_lays_84 : decode cX4_lays 84 = .ok (.if_icmp .ge 45, 3) := by decide +kernel
theorem dX4_lays_87 : decode cX4_lays 87 = .ok (.aload_n 0, 1) := by decide +kernel
theorem dX4_lays_88 : decode cX4_lays 88 = .ok (.getfield 44, 3) := by decide +kernel
theorem dX4_lays_91 : decode cX4_lays 91 = .ok (.iload 4, 2) := by decide +kernel
theorem dX4_lays_93 : decode cX4_lays 93 = .ok (.dup2, 1) := by decide +kernel
theorem dX4_lays_94 : decode cX4_lays 94 = .ok (.iaload, 1) := by decide +kernel
theorem dX4_lays_95 : decode cX4_lays 95 = .ok (.aload_n 0, 1) := by decide +kernel
theorem dX4_lays_96 : decode cX4_lays 96 = .ok (.getfield 41, 3) := by decide +kernel
theorem dX4_lays_99 : decode cX4_lays 99 = .ok (.iload_n 3, 1) := by decide +kernel
theorem dX4_lays_100 : decode cX4_lays 100 = .ok (.iaload, 1) := by decide +kernel
theorem dX4_lays_101 : decode cX4_lays 101 = .ok (.iload 5, 2) := by decide +kernel
theorem dX4_lays_103 : decode cX4_lays 103 = .ok (.ishr, 1) := by decide +kernel
theorem dX4_lays_104 : decode cX4_lays 104 = .ok (.iconst 1, 1) := by decide +kernel
theorem dX4_lays_105 : decode cX4_lays 105 = .ok (.iand, 1) := by decide +kernel
theorem dX4_lays_106 : decode cX4_lays 106 = .ok (.iconst 1, 1) := by decide +kernel
theorem dX4_lays_107 : decode cX4_lays 107 = .ok (.if_icmp .ne 13, 3) := by decide +kernel
theorem dX4_lays_110 : decode cX4_lays 110 = .ok (.aload_n 0, 1) := by decide +kernel
theorem dX4_lays_111 : decode cX4_lays 111 = .ok (.iload_n 3, 1) := by decide +kernel
theorem dX4_lays_112 : decode cX4_lays 112 = .ok (.iload 5, 2) := by decide +kernel
theorem dX4_lays_114 : decode cX4_lays 114 = .ok (.invokevirtual 111, 3) := by decide +kernel
theorem dX4_lays_117 : decode cX4_lays 117 = .ok (.goto 4, 3) := by decide +kernel
theorem dX4_lays_120 : decode cX4_lays 120 = .ok (.iconst 0, 1) := by decide +kernel
theorem dX4_lays_121 : decode cX4_lays 121 = .ok (.iadd, 1) := by decide +kernel
theorem dX4_lays_122 : decode cX4_lays 122 = .ok (.iastore, 1) := by decide +kernel
theorem dX4_lays_123 : decode cX4_lays 123 = .ok (.iinc 5 1, 3) := by decide +kernel
theorem dX4_lays_126 : decode cX4_lays 126 = .ok (.goto (-46), 3) := by decide +kernel
theorem dX4_lays_129 : decode cX4_lays 129 = .ok (.iinc 3 1, 3) := by decide +kernel
theorem dX4_lays_132 : decode cX4_lays 132 = .ok (.goto (-111), 3) := by decide +kernel
theorem dX4_lays_135 : decode cX4_lays 135 = .ok (.iconst 0, 1) := by decide +kernel
theorem dX4_lays_136 : decode cX4_lays 136 = .ok (.istore_n 3, 1) := by decide +kernel
theorem dX4_lays_137 : decode cX4_lays 137 = .ok (.iload_n 3, 1) := by decide +kernel
theorem dX4_lays_138 : decode cX4_lays 138 = .ok (.iconst 2, 1) := by decide +kernel
theorem dX4_lays_139 : decode cX4_lays 139 = .ok (.if_icmp .ge 51, 3) := by decide +kernel
theorem dX4_lays_142 : decode cX4_lays 142 = .ok (.aload_n 0, 1) := by decide +kernel
theorem dX4_lays_143 : decode cX4_lays 143 = .ok (.invokevirtual 114, 3) := by decide +kernel
theorem dX4_lays_146 : decode cX4_lays 146 = .ok (.aload_n 0, 1) := by decide +kernel
theorem dX4_lays_147 : decode cX4_lays 147 = .ok (.getfield 44, 3) := by decide +kernel
theorem dX4_lays_150 : decode cX4_lays 150 = .ok (.iload_n 3, 1) := by decide +kernel
theorem dX4_lays_151 : decode cX4_lays 151 = .ok (.iaload, 1) := by decide +kernel
theorem dX4_lays_152 : decode cX4_lays 152 = .ok (.aload_n 0, 1) := by decide +kernel
theorem dX4_lays_153 : decode cX4_lays 153 = .ok (.getfield 7, 3) := by decide +kernel
theorem dX4_lays_156 : decode cX4_lays 156 = .ok (.iconst 2, 1) := by decide +kernel
theorem dX4_lays_157 : decode cX4_lays 157 = .ok (.iload_n 3, 1) := by decide +kernel
theorem dX4_lays_158 : decode cX4_lays 158 = .ok (.iadd, 1) := by decide +kernel
theorem dX4_lays_159 : decode cX4_lays 159 = .ok (.iaload, 1) := by decide +kernel
theorem dX4_lays_160 : decode cX4_lays 160 = .ok (.imul, 1) := by decide +kernel
theorem dX4_lays_161 : decode cX4_lays 161 = .ok (.bipush 100, 2) := by decide +kernel
theorem dX4_lays_163 : decode cX4_lays 163 = .ok (.idiv, 1) := by decide +kernel
theorem dX4_lays_164 : decode cX4_lays 164 = .ok (.isub, 1) := by decide +kernel
theorem dX4_lays_165 : decode cX4_lays 165 = .ok (.istore 4, 2) := by decide +kernel
theorem dX4_lays_167 : decode cX4_lays 167 = .ok (.aload_n 0, 1) := by decide +kernel
theorem dX4_lays_168 : decode cX4_lays 168 = .ok (.getfield 47, 3) := by decide +kernel
theorem dX4_lays_171 : decode cX4_lays 171 = .ok (.iload_n 3, 1) := by decide +kernel
theorem dX4_lays_172 : decode cX4_lays 172 = .ok (.iload 4, 2) := by decide +kernel
theorem dX4_lays_174 : decode cX4_lays 174 = .ok (.ifCond .ge 7, 3) := by decide +kernel
theorem dX4_lays_177 : decode cX4_lays 177 = .ok (.iconst 0, 1) := by decide +kernel
theorem dX4_lays_178 : decode cX4_lays 178 = .ok (.goto 5, 3) := by decide +kernel
theorem dX4_lays_181 : decode cX4_lays 181 = .ok (.iload 4, 2) := by decide +kernel
theorem dX4_lays_183 : decode cX4_lays 183 = .ok (.iastore, 1) := by decide +kernel
theorem dX4_lays_184 : decode cX4_lays 184 = .ok (.iinc 3 1, 3) := by decide +kernel
theorem dX4_lays_187 : decode cX4_lays 187 = .ok (.goto (-50), 3) := by decide +kernel
theorem dX4_lays_190 : decode cX4_lays 190 = .ok (.aload_n 0, 1) := by decide +kernel
theorem dX4_lays_191 : decode cX4_lays 191 = .ok (.getfield 7, 3) := by decide +kernel
theorem dX4_lays_194 : decode cX4_lays 194 = .ok (.iconst 0, 1) := by decide +kernel
theorem dX4_lays_195 : decode cX4_lays 195 = .ok (.iaload, 1) := by decide +kernel
theorem dX4_lays_196 : decode cX4_lays 196 = .ok (.istore_n 3, 1) := by decide +kernel
theorem dX4_lays_197 : decode cX4_lays 197 = .ok (.iconst 0, 1) := by decide +kernel
theorem dX4_lays_198 : decode cX4_lays 198 = .ok (.istore 4, 2) := by decide +kernel
theorem dX4_lays_200 : decode cX4_lays 200 = .ok (.iload 4, 2) := by decide +kernel
theorem dX4_lays_202 : decode cX4_lays 202 = .ok (.bipush 8, 2) := by decide +kernel
theorem dX4_lays_204 : decode cX4_lays 204 = .ok (.if_icmp .ge 129, 3) := by decide +kernel
theorem dX4_lays_207 : decode cX4_lays 207 = .ok (.iconst 0, 1) := by decide +kernel
theorem dX4_lays_208 : decode cX4_lays 208 = .ok (.istore 5, 2) := by decide +kernel
theorem dX4_lays_210 : decode cX4_lays 210 = .ok (.iload 5, 2) := by decide +kernel
theorem dX4_lays_212 : decode cX4_lays 212 = .ok (.bipush 24, 2) := by decide +kernel
theorem dX4_lays_214 : decode cX4_lays 214 = .ok (.if_icmp .ge 113, 3) := by decide +kernel
theorem dX4_lays_217 : decode cX4_lays 217 = .ok (.aload_n 0, 1) := by decide +kernel
theorem dX4_lays_218 : decode cX4_lays 218 = .ok (.getfield 41, 3) := by decide +kernel
theorem dX4_lays_221 : decode cX4_lays 221 = .ok (.iload 4, 2) := by decide +kernel
theorem dX4_lays_223 : decode cX4_lays 223 = .ok (.iaload, 1) := by decide +kernel
theorem dX4_lays_224 : decode cX4_lays 224 = .ok (.iload 5, 2) := by decide +kernel
theorem dX4_lays_226 : decode cX4_lays 226 = .ok (.ishr, 1) := by decide +kernel
theorem dX4_lays_227 : decode cX4_lays 227 = .ok (.iconst 1, 1) := by decide +kernel
theorem dX4_lays_228 : decode cX4_lays 228 = .ok (.iand, 1) := by decide +kernel
theorem dX4_lays_229 : decode cX4_lays 229 = .ok (.iconst 1, 1) := by decide +kernel
theorem dX4_lays_230 : decode cX4_lays 230 = .ok (.if_icmp .ne 39, 3) := by decide +kernel
theorem dX4_lays_233 : decode cX4_lays 233 = .ok (.aload_n 0, 1) := by decide +kernel
theorem dX4_lays_234 : decode cX4_lays 234 = .ok (.iload 4, 2) := by decide +kernel
theorem dX4_lays_236 : decode cX4_lays 236 = .ok (.iload 5, 2) := by decide +kernel
theorem dX4_lays_238 : decode cX4_lays 238 = .ok (.invokevirtual 111, 3) := by decide +kernel
theorem dX4_lays_241 : decode cX4_lays 241 = .ok (.aload_n 0, 1) := by decide +kernel
theorem dX4_lays_242 : decode cX4_lays 242 = .ok (.getfield 47, 3) := by decide +kernel
theorem dX4_lays_245 : decode cX4_lays 245 = .ok (.aload_n 0, 1) := by decide +kernel
theorem dX4_lays_246 : decode cX4_lays 246 = .ok (.getfield 7, 3) := by decide +kernel
theorem dX4_lays_249 : decode cX4_lays 249 = .ok (.bipush 24, 2) := by decide +kernel
theorem dX4_lays_251 : decode cX4_lays 251 = .ok (.iconst 5, 1) := by decide +kernel
theorem dX4_lays_252 : decode cX4_lays 252 = .ok (.iload 4, 2) := by decide +kernel
theorem dX4_lays_254 : decode cX4_lays 254 = .ok (.imul, 1) := by decide +kernel
theorem dX4_lays_255 : decode cX4_lays 255 = .ok (.iadd, 1) := by decide +kernel
theorem dX4_lays_256 : decode cX4_lays 256 = .ok (.iaload, 1) := by decide +kernel
theorem dX4_lays_257 : decode cX4_lays 257 = .ok (.iaload, 1) := by decide +kernel
theorem dX4_lays_258 : decode cX4_lays 258 = .ok (.imul, 1) := by decide +kernel
theorem dX4_lays_259 : decode cX4_lays 259 = .ok (.aload_n 0, 1) := by decide +kernel
theorem dX4_lays_260 : decode cX4_lays 260 = .ok (.getfield 7, 3) := by decide +kernel
theorem dX4_lays_263 : decode cX4_lays 263 = .ok (.iconst 1, 1) := by decide +kernel
theorem dX4_lays_264 : decode cX4_lays 264 = .ok (.iaload, 1) := by decide +kernel
theorem dX4_lays_265 : decode cX4_lays 265 = .ok (.idiv, 1) := by decide +kernel
theorem dX4_lays_266 : decode cX4_lays 266 = .ok (.goto 4, 3) := by decide +kernel
theorem dX4_lays_269 : decode cX4_lays 269 = .ok (.iconst 0, 1) := by decide +kernel
theorem dX4_lays_270 : decode cX4_lays 270 = .ok (.istore 6, 2) := by decide +kernel
theorem dX4_lays_272 : decode cX4_lays 272 = .ok (.iload 6, 2) := by decide +kernel
theorem dX4_lays_274 : decode cX4_lays 274 = .ok (.iload_n 3, 1) := by decide +kernel
theorem dX4_lays_275 : decode cX4_lays 275 = .ok (.if_icmp .ge 8, 3) := by decide +kernel
theorem dX4_lays_278 : decode cX4_lays 278 = .ok (.iload 6, 2) := by decide +kernel
theorem dX4_lays_280 : decode cX4_lays 280 = .ok (.goto 4, 3) := by decide +kernel
theorem dX4_lays_283 : decode cX4_lays 283 = .ok (.iload_n 3, 1) := by decide +kernel
theorem dX4_lays_284 : decode cX4_lays 284 = .ok (.istore 7, 2) := by decide +kernel
theorem dX4_lays_286 : decode cX4_lays 286 = .ok (.aload_n 0, 1) := by decide +kernel
theorem dX4_lays_287 : decode cX4_lays 287 = .ok (.getfield 50, 3) := by decide +kernel
theorem dX4_lays_290 : decode cX4_lays 290 = .ok (.bipush 24, 2) := by decide +kernel
theorem dX4_lays_292 : decode cX4_lays 292 = .ok (.iload 4, 2) := by decide +kernel
theorem dX4_lays_294 : decode cX4_lays 294 = .ok (.imul, 1) := by decide +kernel
theorem dX4_lays_295 : decode cX4_lays 295 = .ok (.iload 5, 2) := by decide +kernel
theorem dX4_lays_297 : decode cX4_lays 297 = .ok (.iadd, 1) := by decide +kernel
theorem dX4_lays_298 : decode cX4_lays 298 = .ok (.iload 6, 2) := by decide +kernel
theorem dX4_lays_300 : decode cX4_lays 300 = .ok (.iastore, 1) := by decide +kernel
theorem dX4_lays_301 : decode cX4_lays 301 = .ok (.aload_n 0, 1) := by decide +kernel
theorem dX4_lays_302 : decode cX4_lays 302 = .ok (.getfield 53, 3) := by decide +kernel
theorem dX4_lays_305 : decode cX4_lays 305 = .ok (.bipush 24, 2) := by decide +kernel
theorem dX4_lays_307 : decode cX4_lays 307 = .ok (.iload 4, 2) := by decide +kernel
theorem dX4_lays_309 : decode cX4_lays 309 = .ok (.imul, 1) := by decide +kernel
theorem dX4_lays_310 : decode cX4_lays 310 = .ok (.iload 5, 2) := by decide +kernel
theorem dX4_lays_312 : decode cX4_lays 312 = .ok (.iadd, 1) := by decide +kernel
theorem dX4_lays_313 : decode cX4_lays 313 = .ok (.iload 7, 2) := by decide +kernel
theorem dX4_lays_315 : decode cX4_lays 315 = .ok (.iastore, 1) := by decide +kernel
theorem dX4_lays_316 : decode cX4_lays 316 = .ok (.iload_n 3, 1) := by decide +kernel
theorem dX4_lays_317 : decode cX4_lays 317 = .ok (.iload 7, 2) := by decide +kernel
theorem dX4_lays_319 : decode cX4_lays 319 = .ok (.isub, 1) := by decide +kernel
theorem dX4_lays_320 : decode cX4_lays 320 = .ok (.istore_n 3, 1) := by decide +kernel
theorem dX4_lays_321 : decode cX4_lays 321 = .ok (.iinc 5 1, 3) := by decide +kernel
theorem dX4_lays_324 : decode cX4_lays 324 = .ok (.goto (-114), 3) := by decide +kernel
theorem dX4_lays_327 : decode cX4_lays 327 = .ok (.iinc 4 1, 3) := by decide +kernel
theorem dX4_lays_330 : decode cX4_lays 330 = .ok (.goto (-130), 3) := by decide +kernel
theorem dX4_lays_333 : decode cX4_lays 333 = .ok (.return_, 1) := by decide +kernel
theorem dX4_laysNow_0 : decode cX4_laysNow 0 = .ok (.aload_n 0, 1) := by decide +kernel
theorem dX4_laysNow_1 : decode cX4_laysNow 1 = .ok (.aload_n 0, 1) := by decide +kernel
theorem dX4_laysNow_2 : decode cX4_laysNow 2 = .ok (.invokevirtual 96, 3) := by decide +kernel
theorem dX4_laysNow_5 : decode cX4_laysNow 5 = .ok (.iconst 1, 1) := by decide +kernel
theorem dX4_laysNow_6 : decode cX4_laysNow 6 = .ok (.invokevirtual 117, 3) := by decide +kernel
theorem dX4_laysNow_9 : decode cX4_laysNow 9 = .ok (.return_, 1) := by decide +kernel
theorem dX4_isOpen_0 : decode cX4_isOpen 0 = .ok (.aload_n 0, 1) := by decide +kernel
theorem dX4_isOpen_1 : decode cX4_isOpen 1 = .ok (.getfield 41, 3) := by decide +kernel
theorem dX4_isOpen_4 : decode cX4_isOpen 4 = .ok (.iload_n 1, 1) := by decide +kernel
theorem dX4_isOpen_5 : decode cX4_isOpen 5 = .ok (.iaload, 1) := by decide +kernel
theorem dX4_isOpen_6 : decode cX4_isOpen 6 = .ok (.iload_n 2, 1) := by decide +kernel
theorem dX4_isOpen_7 : decode cX4_isOpen 7 = .ok (.ishr, 1) := by decide +kernel
theorem dX4_isOpen_8 : decode cX4_isOpen 8 = .ok (.iconst 1, 1) := by decide +kernel
theorem dX4_isOpen_9 : decode cX4_isOpen 9 = .ok (.iand, 1) := by decide +kernel
theorem dX4_isOpen_10 : decode cX4_isOpen 10 = .ok (.iconst 1, 1) := by decide +kernel
theorem dX4_isOpen_11 : decode cX4_isOpen 11 = .ok (.if_icmp .ne 7, 3) := by decide +kernel
theorem dX4_isOpen_14 : decode cX4_isOpen 14 = .ok (.iconst 1, 1) := by decide +kernel
theorem dX4_isOpen_15 : decode cX4_isOpen 15 = .ok (.goto 4, 3) := by decide +kernel
theorem dX4_isOpen_18 : decode cX4_isOpen 18 = .ok (.iconst 0, 1) := by decide +kernel
theorem dX4_isOpen_19 : decode cX4_isOpen 19 = .ok (.ireturn, 1) := by decide +kernel
theorem dX4_reasonOf_0 : decode cX4_reasonOf 0 = .ok (.bipush 24, 2) := by decide +kernel
theorem dX4_reasonOf_2 : decode cX4_reasonOf 2 = .ok (.iload_n 1, 1) := by decide +kernel
theorem dX4_reasonOf_3 : decode cX4_reasonOf 3 = .ok (.imul, 1) := by decide +kernel
theorem dX4_reasonOf_4 : decode cX4_reasonOf 4 = .ok (.iload_n 2, 1) := by decide +kernel
theorem dX4_reasonOf_5 : decode cX4_reasonOf 5 = .ok (.iadd, 1) := by decide +kernel
theorem dX4_reasonOf_6 : decode cX4_reasonOf 6 = .ok (.istore 4, 2) := by decide +kernel
theorem dX4_reasonOf_8 : decode cX4_reasonOf 8 = .ok (.iload_n 3, 1) := by decide +kernel
theorem dX4_reasonOf_9 : decode cX4_reasonOf 9 = .ok (.iload_n 1, 1) := by decide +kernel
theorem dX4_reasonOf_10 : decode cX4_reasonOf 10 = .ok (.ishr, 1) := by decide +kernel
theorem dX4_reasonOf_11 : decode cX4_reasonOf 11 = .ok (.iconst 1, 1) := by decide +kernel
theorem dX4_reasonOf_12 : decode cX4_reasonOf 12 = .ok (.iand, 1) := by decide +kernel
theorem dX4_reasonOf_13 : decode cX4_reasonOf 13 = .ok (.ifCond .ne 5, 3) := by decide +kernel
theorem dX4_reasonOf_16 : decode cX4_reasonOf 16 = .ok (.iconst 1, 1) := by decide +kernel
theorem dX4_reasonOf_17 : decode cX4_reasonOf 17 = .ok (.ireturn, 1) := by decide +kernel
theorem dX4_reasonOf_18 : decode cX4_reasonOf 18 = .ok (.aload_n 0, 1) := by decide +kernel
theorem dX4_reasonOf_19 : decode cX4_reasonOf 19 = .ok (.iload_n 1, 1) := by decide +kernel
theorem dX4_reasonOf_20 : decode cX4_reasonOf 20 = .ok (.iload_n 2, 1) := by decide +kernel
theorem dX4_reasonOf_21 : decode cX4_reasonOf 21 = .ok (.invokevirtual 121, 3) := by decide +kernel
theorem dX4_reasonOf_24 : decode cX4_reasonOf 24 = .ok (.ifCond .ne 5, 3) := by decide +kernel
theorem dX4_reasonOf_27 : decode cX4_reasonOf 27 = .ok (.iconst 2, 1) := by decide +kernel
theorem dX4_reasonOf_28 : decode cX4_reasonOf 28 = .ok (.ireturn, 1) := by decide +kernel
theorem dX4_reasonOf_29 : decode cX4_reasonOf 29 = .ok (.aload_n 0, 1) := by decide +kernel
theorem dX4_reasonOf_30 : decode cX4_reasonOf 30 = .ok (.getfield 47, 3) := by decide +kernel
theorem dX4_reasonOf_33 : decode cX4_reasonOf 33 = .ok (.aload_n 0, 1) := by decide +kernel
theorem dX4_reasonOf_34 : decode cX4_reasonOf 34 = .ok (.getfield 7, 3) := by decide +kernel
theorem dX4_reasonOf_37 : decode cX4_reasonOf 37 = .ok (.bipush 24, 2) := by decide +kernel
theorem dX4_reasonOf_39 : decode cX4_reasonOf 39 = .ok (.iconst 5, 1) := by decide +kernel
theorem dX4_reasonOf_40 : decode cX4_reasonOf 40 = .ok (.iload_n 1, 1) := by decide +kernel
theorem dX4_reasonOf_41 : decode cX4_reasonOf 41 = .ok (.imul, 1) := by decide +kernel
theorem dX4_reasonOf_42 : decode cX4_reasonOf 42 = .ok (.iadd, 1) := by decide +kernel
theorem dX4_reasonOf_43 : decode cX4_reasonOf 43 = .ok (.iaload, 1) := by decide +kernel
theorem dX4_reasonOf_44 : decode cX4_reasonOf 44 = .ok (.iaload, 1) := by decide +kernel
theorem dX4_reasonOf_45 : decode cX4_reasonOf 45 = .ok (.aload_n 0, 1) := by decide +kernel
theorem dX4_reasonOf_46 : decode cX4_reasonOf 46 = .ok (.getfield 7, 3) := by decide +kernel
theorem dX4_reasonOf_49 : decode cX4_reasonOf 49 = .ok (.bipush 24, 2) := by decide +kernel
theorem dX4_reasonOf_51 : decode cX4_reasonOf 51 = .ok (.iconst 5, 1) := by decide +kernel
theorem dX4_reasonOf_52 : decode cX4_reasonOf 52 = .ok (.iload_n 1, 1) := by decide +kernel
theorem dX4_reasonOf_53 : decode cX4_reasonOf 53 = .ok (.imul, 1) := by decide +kernel
theorem dX4_reasonOf_54 : decode cX4_reasonOf 54 = .ok (.iadd, 1) := by decide +kernel
theorem dX4_reasonOf_55 : decode cX4_reasonOf 55 = .ok (.iconst 2, 1) := by decide +kernel
theorem dX4_reasonOf_56 : decode cX4_reasonOf 56 = .ok (.iadd, 1) := by decide +kernel
theorem dX4_reasonOf_57 : decode cX4_reasonOf 57 = .ok (.iaload, 1) := by decide +kernel
theorem dX4_reasonOf_58 : decode cX4_reasonOf 58 = .ok (.if_icmp .ge 5, 3) := by decide +kernel
theorem dX4_reasonOf_61 : decode cX4_reasonOf 61 = .ok (.iconst 3, 1) := by decide +kernel
theorem dX4_reasonOf_62 : decode cX4_reasonOf 62 = .ok (.ireturn, 1) := by decide +kernel
theorem dX4_reasonOf_63 : decode cX4_reasonOf 63 = .ok (.aload_n 0, 1) := by decide +kernel
theorem dX4_reasonOf_64 : decode cX4_reasonOf 64 = .ok (.getfield 53, 3) := by decide +kernel
theorem dX4_reasonOf_67 : decode cX4_reasonOf 67 = .ok (.iload 4, 2) := by decide +kernel
theorem dX4_reasonOf_69 : decode cX4_reasonOf 69 = .ok (.iaload, 1) := by decide +kernel
theorem dX4_reasonOf_70 : decode cX4_reasonOf 70 = .ok (.aload_n 0, 1) := by decide +kernel
theorem dX4_reasonOf_71 : decode cX4_reasonOf 71 = .ok (.getfield 50, 3) := by decide +kernel
theorem dX4_reasonOf_74 : decode cX4_reasonOf 74 = .ok (.iload 4, 2) := by decide +kernel
theorem dX4_reasonOf_76 : decode cX4_reasonOf 76 = .ok (.iaload, 1) := by decide +kernel
theorem dX4_reasonOf_77 : decode cX4_reasonOf 77 = .ok (.if_icmp .ge 7, 3) := by decide +kernel
theorem dX4_reasonOf_80 : decode cX4_reasonOf 80 = .ok (.iconst 4, 1) := by decide +kernel
theorem dX4_reasonOf_81 : decode cX4_reasonOf 81 = .ok (.goto 18, 3) := by decide +kernel
theorem dX4_reasonOf_84 : decode cX4_reasonOf 84 = .ok (.aload_n 0, 1) := by decide +kernel
theorem dX4_reasonOf_85 : decode cX4_reasonOf 85 = .ok (.getfield 50, 3) := by decide +kernel
theorem dX4_reasonOf_88 : decode cX4_reasonOf 88 = .ok (.iload 4, 2) := by decide +kernel
theorem dX4_reasonOf_90 : decode cX4_reasonOf 90 = .ok (.iaload, 1) := by decide +kernel
theorem dX4_reasonOf_91 : decode cX4_reasonOf 91 = .ok (.ifCond .ne 7, 3) := by decide +kernel
theorem dX4_reasonOf_94 : decode cX4_reasonOf 94 = .ok (.iconst 5, 1) := by decide +kernel
theorem dX4_reasonOf_95 : decode cX4_reasonOf 95 = .ok (.goto 4, 3) := by decide +kernel
theorem dX4_reasonOf_98 : decode cX4_reasonOf 98 = .ok (.iconst 0, 1) := by decide +kernel
theorem dX4_reasonOf_99 : decode cX4_reasonOf 99 = .ok (.ireturn, 1) := by decide +kernel
theorem dX4_pitch_0 : decode cX4_pitch 0 = .ok (.aload_n 0, 1) := by decide +kernel
theorem dX4_pitch_1 : decode cX4_pitch 1 = .ok (.getfield 7, 3) := by decide +kernel
theorem dX4_pitch_4 : decode cX4_pitch 4 = .ok (.bipush 64, 2) := by decide +kernel
theorem dX4_pitch_6 : decode cX4_pitch 6 = .ok (.bipush 24, 2) := by decide +kernel
theorem dX4_pitch_8 : decode cX4_pitch 8 = .ok (.iload_n 1, 1) := by decide +kernel
theorem dX4_pitch_9 : decode cX4_pitch 9 = .ok (.imul, 1) := by decide +kernel
theorem dX4_pitch_10 : decode cX4_pitch 10 = .ok (.iadd, 1) := by decide +kernel
theorem dX4_pitch_11 : decode cX4_pitch 11 = .ok (.iload_n 2, 1) := by decide +kernel
theorem dX4_pitch_12 : decode cX4_pitch 12 = .ok (.iadd, 1) := by decide +kernel
theorem dX4_pitch_13 : decode cX4_pitch 13 = .ok (.iaload, 1) := by decide +kernel
theorem dX4_pitch_14 : decode cX4_pitch 14 = .ok (.aload_n 0, 1) := by decide +kernel
theorem dX4_pitch_15 : decode cX4_pitch 15 = .ok (.iload_n 1, 1) := by decide +kernel
theorem dX4_pitch_16 : decode cX4_pitch 16 = .ok (.invokevirtual 125, 3) := by decide +kernel
theorem dX4_pitch_19 : decode cX4_pitch 19 = .ok (.iadd, 1) := by decide +kernel
theorem dX4_pitch_20 : decode cX4_pitch 20 = .ok (.ireturn, 1) := by decide +kernel
theorem dX4_bend_0 : decode cX4_bend 0 = .ok (.aload_n 0, 1) := by decide +kernel
theorem dX4_bend_1 : decode cX4_bend 1 = .ok (.getfield 47, 3) := by decide +kernel
theorem dX4_bend_4 : decode cX4_bend 4 = .ok (.aload_n 0, 1) := by decide +kernel
theorem dX4_bend_5 : decode cX4_bend 5 = .ok (.getfield 7, 3) := by decide +kernel
theorem dX4_bend_8 : decode cX4_bend 8 = .ok (.bipush 24, 2) := by decide +kernel
theorem dX4_bend_10 : decode cX4_bend 10 = .ok (.iconst 5, 1) := by decide +kernel
theorem dX4_bend_11 : decode cX4_bend 11 = .ok (.iload_n 1, 1) := by decide +kernel
theorem dX4_bend_12 : decode cX4_bend 12 = .ok (.imul, 1) := by decide +kernel
theorem dX4_bend_13 : decode cX4_bend 13 = .ok (.iadd, 1) := by decide +kernel
theorem dX4_bend_14 : decode cX4_bend 14 = .ok (.iaload, 1) := by decide +kernel
theorem dX4_bend_15 : decode cX4_bend 15 = .ok (.iaload, 1) := by decide +kernel
theorem dX4_bend_16 : decode cX4_bend 16 = .ok (.aload_n 0, 1) := by decide +kernel
theorem dX4_bend_17 : decode cX4_bend 17 = .ok (.getfield 7, 3) := by decide +kernel
theorem dX4_bend_20 : decode cX4_bend 20 = .ok (.iconst 1, 1) := by decide +kernel
theorem dX4_bend_21 : decode cX4_bend 21 = .ok (.iaload, 1) := by decide +kernel
theorem dX4_bend_22 : decode cX4_bend 22 = .ok (.isub, 1) := by decide +kernel
theorem dX4_bend_23 : decode cX4_bend 23 = .ok (.aload_n 0, 1) := by decide +kernel
theorem dX4_bend_24 : decode cX4_bend 24 = .ok (.getfield 7, 3) := by decide +kernel
theorem dX4_bend_27 : decode cX4_bend 27 = .ok (.bipush 9, 2) := by decide +kernel
theorem dX4_bend_29 : decode cX4_bend 29 = .ok (.iaload, 1) := by decide +kernel
theorem dX4_bend_30 : decode cX4_bend 30 = .ok (.imul, 1) := by decide +kernel
theorem dX4_bend_31 : decode cX4_bend 31 = .ok (.bipush 16, 2) := by decide +kernel
theorem dX4_bend_33 : decode cX4_bend 33 = .ok (.invokestatic 128, 3) := by decide +kernel
theorem dX4_bend_36 : decode cX4_bend 36 = .ok (.ireturn, 1) := by decide +kernel
theorem dX4_ticks_0 : decode cX4_ticks 0 = .ok (.aload_n 0, 1) := by decide +kernel
theorem dX4_ticks_1 : decode cX4_ticks 1 = .ok (.getfield 7, 3) := by decide +kernel
theorem dX4_ticks_4 : decode cX4_ticks 4 = .ok (.bipush 22, 2) := by decide +kernel
theorem dX4_ticks_6 : decode cX4_ticks 6 = .ok (.iaload, 1) := by decide +kernel
theorem dX4_ticks_7 : decode cX4_ticks 7 = .ok (.ifCond .ne 110, 3) := by decide +kernel
theorem dX4_ticks_10 : decode cX4_ticks 10 = .ok (.aload_n 0, 1) := by decide +kernel
theorem dX4_ticks_11 : decode cX4_ticks 11 = .ok (.getfield 7, 3) := by decide +kernel
theorem dX4_ticks_14 : decode cX4_ticks 14 = .ok (.iconst 0, 1) := by decide +kernel
theorem dX4_ticks_15 : decode cX4_ticks 15 = .ok (.iaload, 1) := by decide +kernel
theorem dX4_ticks_16 : decode cX4_ticks 16 = .ok (.aload_n 0, 1) := by decide +kernel
theorem dX4_ticks_17 : decode cX4_ticks 17 = .ok (.getfield 7, 3) := by decide +kernel
theorem dX4_ticks_20 : decode cX4_ticks 20 = .ok (.bipush 6, 2) := by decide +kernel
theorem dX4_ticks_22 : decode cX4_ticks 22 = .ok (.iaload, 1) := by decide +kernel
theorem dX4_ticks_23 : decode cX4_ticks 23 = .ok (.if_icmp .ge 94, 3) := by decide +kernel
theorem dX4_ticks_26 : decode cX4_ticks 26 = .ok (.aload_n 0, 1) := by decide +kernel
theorem dX4_ticks_27 : decode cX4_ticks 27 = .ok (.getfield 7, 3) := by decide +kernel
theorem dX4_ticks_30 : decode cX4_ticks 30 = .ok (.bipush 18, 2) := by decide +kernel
theorem dX4_ticks_32 : decode cX4_ticks 32 = .ok (.aload_n 0, 1) := by decide +kernel
theorem dX4_ticks_33 : decode cX4_ticks 33 = .ok (.getfield 7, 3) := by decide +kernel
theorem dX4_ticks_36 : decode cX4_ticks 36 = .ok (.bipush 17, 2) := by decide +kernel
theorem dX4_ticks_38 : decode cX4_ticks 38 = .ok (.iaload, 1) := by decide +kernel
theorem dX4_ticks_39 : decode cX4_ticks 39 = .ok (.iadd, 1) := by decide +kernel
theorem dX4_ticks_40 : decode cX4_ticks 40 = .ok (.dup2, 1) := by decide +kernel
theorem dX4_ticks_41 : decode cX4_ticks 41 = .ok (.iaload, 1) := by decide +kernel
theorem dX4_ticks_42 : decode cX4_ticks 42 = .ok (.iconst 1, 1) := by decide +kernel
theorem dX4_ticks_43 : decode cX4_ticks 43 = .ok (.iadd, 1) := by decide +kernel
theorem dX4_ticks_44 : decode cX4_ticks 44 = .ok (.iastore, 1) := by decide +kernel
theorem dX4_ticks_45 : decode cX4_ticks 45 = .ok (.aload_n 0, 1) := by decide +kernel
theorem dX4_ticks_46 : decode cX4_ticks 46 = .ok (.getfield 7, 3) := by decide +kernel
theorem dX4_ticks_49 : decode cX4_ticks 49 = .ok (.bipush 17, 2) := by decide +kernel
theorem dX4_ticks_51 : decode cX4_ticks 51 = .ok (.iconst 1, 1) := by decide +kernel
theorem dX4_ticks_52 : decode cX4_ticks 52 = .ok (.aload_n 0, 1) := by decide +kernel
theorem dX4_ticks_53 : decode cX4_ticks 53 = .ok (.getfield 7, 3) := by decide +kernel
theorem dX4_ticks_56 : decode cX4_ticks 56 = .ok (.bipush 17, 2) := by decide +kernel
theorem dX4_ticks_58 : decode cX4_ticks 58 = .ok (.iaload, 1) := by decide +kernel
theorem dX4_ticks_59 : decode cX4_ticks 59 = .ok (.isub, 1) := by decide +kernel
theorem dX4_ticks_60 : decode cX4_ticks 60 = .ok (.iastore, 1) := by decide +kernel
theorem dX4_ticks_61 : decode cX4_ticks 61 = .ok (.aload_n 0, 1) := by decide +kernel
theorem dX4_ticks_62 : decode cX4_ticks 62 = .ok (.getfield 7, 3) := by decide +kernel
theorem dX4_ticks_65 : decode cX4_ticks 65 = .ok (.bipush 23, 2) := by decide +kernel
theorem dX4_ticks_67 : decode cX4_ticks 67 = .ok (.aload_n 0, 1) := by decide +kernel
theorem dX4_ticks_68 : decode cX4_ticks 68 = .ok (.getfield 7, 3) := by decide +kernel
theorem dX4_ticks_71 : decode cX4_ticks 71 = .ok (.bipush 7, 2) := by decide +kernel
theorem dX4_ticks_73 : decode cX4_ticks 73 = .ok (.iaload, 1) := by decide +kernel
theorem dX4_ticks_74 : decode cX4_ticks 74 = .ok (.iastore, 1) := by decide +kernel
theorem dX4_ticks_75 : decode cX4_ticks 75 = .ok (.aload_n 0, 1) := by decide +kernel
theorem dX4_ticks_76 : decode cX4_ticks 76 = .ok (.getfield 7, 3) := by decide +kernel
theorem dX4_ticks_79 : decode cX4_ticks 79 = .ok (.bipush 20, 2) := by decide +kernel
theorem dX4_ticks_81 : decode cX4_ticks 81 = .ok (.aload_n 0, 1) := by decide +kernel
theorem dX4_ticks_82 : decode cX4_ticks 82 = .ok (.getfield 7, 3) := by decide +kernel
theorem dX4_ticks_85 : decode cX4_ticks 85 = .ok (.bipush 7, 2) := by decide +kernel
theorem dX4_ticks_87 : decode cX4_ticks 87 = .ok (.iaload, 1) := by decide +kernel
theorem dX4_ticks_88 : decode cX4_ticks 88 = .ok (.iastore, 1) := by decide +kernel
theorem dX4_ticks_89 : decode cX4_ticks 89 = .ok (.aload_n 0, 1) := by decide +kernel
theorem dX4_ticks_90 : decode cX4_ticks 90 = .ok (.getfield 7, 3) := by decide +kernel
theorem dX4_ticks_93 : decode cX4_ticks 93 = .ok (.bipush 21, 2) := by decide +kernel
theorem dX4_ticks_95 : decode cX4_ticks 95 = .ok (.aload_n 0, 1) := by decide +kernel
theorem dX4_ticks_96 : decode cX4_ticks 96 = .ok (.getfield 7, 3) := by decide +kernel
theorem dX4_ticks_99 : decode cX4_ticks 99 = .ok (.bipush 8, 2) := by decide +kernel
theorem dX4_ticks_101 : decode cX4_ticks 101 = .ok (.iaload, 1) := by decide +kernel
theorem dX4_ticks_102 : decode cX4_ticks 102 = .ok (.iastore, 1) := by decide +kernel
theorem dX4_ticks_103 : decode cX4_ticks 103 = .ok (.aload_n 0, 1) := by decide +kernel
theorem dX4_ticks_104 : decode cX4_ticks 104 = .ok (.getfield 7, 3) := by decide +kernel
theorem dX4_ticks_107 : decode cX4_ticks 107 = .ok (.bipush 22, 2) := by decide +kernel
theorem dX4_ticks_109 : decode cX4_ticks 109 = .ok (.aload_n 0, 1) := by decide +kernel
theorem dX4_ticks_110 : decode cX4_ticks 110 = .ok (.getfield 7, 3) := by decide +kernel
theorem dX4_ticks_113 : decode cX4_ticks 113 = .ok (.bipush 8, 2) := by decide +kernel
theorem dX4_ticks_115 : decode cX4_ticks 115 = .ok (.iaload, 1) := by decide +kernel
theorem dX4_ticks_116 : decode cX4_ticks 116 = .ok (.iastore, 1) := by decide +kernel
theorem dX4_ticks_117 : decode cX4_ticks 117 = .ok (.aload_n 0, 1) := by decide +kernel
theorem dX4_ticks_118 : decode cX4_ticks 118 = .ok (.getfield 7, 3) := by decide +kernel
theorem dX4_ticks_121 : decode cX4_ticks 121 = .ok (.bipush 22, 2) := by decide +kernel
theorem dX4_ticks_123 : decode cX4_ticks 123 = .ok (.iaload, 1) := by decide +kernel
theorem dX4_ticks_124 : decode cX4_ticks 124 = .ok (.ifCond .le 134, 3) := by decide +kernel
theorem dX4_ticks_127 : decode cX4_ticks 127 = .ok (.aload_n 0, 1) := by decide +kernel
theorem dX4_ticks_128 : decode cX4_ticks 128 = .ok (.getfield 7, 3) := by decide +kernel
theorem dX4_ticks_131 : decode cX4_ticks 131 = .ok (.bipush 22, 2) := by decide +kernel
theorem dX4_ticks_133 : decode cX4_ticks 133 = .ok (.iaload, 1) := by decide +kernel
theorem dX4_ticks_134 : decode cX4_ticks 134 = .ok (.iconst 1, 1) := by decide +kernel
theorem dX4_ticks_135 : decode cX4_ticks 135 = .ok (.if_icmp .ne 13, 3) := by decide +kernel
theorem dX4_ticks_138 : decode cX4_ticks 138 = .ok (.aload_n 0, 1) := by decide +kernel
theorem dX4_ticks_139 : decode cX4_ticks 139 = .ok (.getfield 7, 3) := by decide +kernel
theorem dX4_ticks_142 : decode cX4_ticks 142 = .ok (.bipush 20, 2) := by decide +kernel
theorem dX4_ticks_144 : decode cX4_ticks 144 = .ok (.iaload, 1) := by decide +kernel
theorem dX4_ticks_145 : decode cX4_ticks 145 = .ok (.goto 18, 3) := by decide +kernel
theorem dX4_ticks_148 : decode cX4_ticks 148 = .ok (.aload_n 0, 1) := by decide +kernel
theorem dX4_ticks_149 : decode cX4_ticks 149 = .ok (.getfield 7, 3) := by decide +kernel
theorem dX4_ticks_152 : decode cX4_ticks 152 = .ok (.bipush 23, 2) := by decide +kernel
theorem dX4_ticks_154 : decode cX4_ticks 154 = .ok (.iaload, 1) := by decide +kernel
theorem dX4_ticks_155 : decode cX4_ticks 155 = .ok (.aload_n 0, 1) := by decide +kernel
theorem dX4_ticks_156 : decode cX4_ticks 156 = .ok (.getfield 7, 3) := by decide +kernel
theorem dX4_ticks_159 : decode cX4_ticks 159 = .ok (.bipush 21, 2) := by decide +kernel
theorem dX4_ticks_161 : decode cX4_ticks 161 = .ok (.iaload, 1) := by decide +kernel
theorem dX4_ticks_162 : decode cX4_ticks 162 = .ok (.idiv, 1) := by decide +kernel
theorem dX4_ticks_163 : decode cX4_ticks 163 = .ok (.istore_n 1, 1) := by decide +kernel
theorem dX4_ticks_164 : decode cX4_ticks 164 = .ok (.aload_n 0, 1) := by decide +kernel
theorem dX4_ticks_165 : decode cX4_ticks 165 = .ok (.getfield 7, 3) := by decide +kernel
theorem dX4_ticks_168 : decode cX4_ticks 168 = .ok (.bipush 22, 2) := by decide +kernel
theorem dX4_ticks_170 : decode cX4_ticks 170 = .ok (.dup2, 1) := by decide +kernel
theorem dX4_ticks_171 : decode cX4_ticks 171 = .ok (.iaload, 1) := by decide +kernel
theorem dX4_ticks_172 : decode cX4_ticks 172 = .ok (.iconst 1, 1) := by decide +kernel
theorem dX4_ticks_173 : decode cX4_ticks 173 = .ok (.isub, 1) := by decide +kernel
theorem dX4_ticks_174 : decode cX4_ticks 174 = .ok (.iastore, 1) := by decide +kernel
theorem dX4_ticks_175 : decode cX4_ticks 175 = .ok (.aload_n 0, 1) := by decide +kernel
theorem dX4_ticks_176 : decode cX4_ticks 176 = .ok (.getfield 7, 3) := by decide +kernel
theorem dX4_ticks_179 : decode cX4_ticks 179 = .ok (.bipush 20, 2) := by decide +kernel
theorem dX4_ticks_181 : decode cX4_ticks 181 = .ok (.dup2, 1) := by decide +kernel
theorem dX4_ticks_182 : decode cX4_ticks 182 = .ok (.iaload, 1) := by decide +kernel
theorem dX4_ticks_183 : decode cX4_ticks 183 = .ok (.iload_n 1, 1) := by decide +kernel
theorem dX4_ticks_184 : decode cX4_ticks 184 = .ok (.isub, 1) := by decide +kernel
theorem dX4_ticks_185 : decode cX4_ticks 185 = .ok (.iastore, 1) := by decide +kernel
theorem dX4_ticks_186 : decode cX4_ticks 186 = .ok (.aload_n 0, 1) := by decide +kernel
theorem dX4_ticks_187 : decode cX4_ticks 187 = .ok (.getfield 7, 3) := by decide +kernel
theorem dX4_ticks_190 : decode cX4_ticks 190 = .ok (.bipush 14, 2) := by decide +kernel
theorem dX4_ticks_192 : decode cX4_ticks 192 = .ok (.dup2, 1) := by decide +kernel
theorem dX4_ticks_193 : decode cX4_ticks 193 = .ok (.iaload, 1) := by decide +kernel
theorem dX4_ticks_194 : decode cX4_ticks 194 = .ok (.iload_n 1, 1) := by decide +kernel
theorem dX4_ticks_195 : decode cX4_ticks 195 = .ok (.iadd, 1) := by decide +kernel
theorem dX4_ticks_196 : decode cX4_ticks 196 = .ok (.iastore, 1) := by decide +kernel
theorem dX4_ticks_197 : decode cX4_ticks 197 = .ok (.aload_n 0, 1) := by decide +kernel
theorem dX4_ticks_198 : decode cX4_ticks 198 = .ok (.getfield 7, 3) := by decide +kernel
theorem dX4_ticks_201 : decode cX4_ticks 201 = .ok (.iconst 0, 1) := by decide +kernel
theorem dX4_ticks_202 : decode cX4_ticks 202 = .ok (.dup2, 1) := by decide +kernel
theorem dX4_ticks_203 : decode cX4_ticks 203 = .ok (.iaload, 1) := by decide +kernel
theorem dX4_ticks_204 : decode cX4_ticks 204 = .ok (.iload_n 1, 1) := by decide +kernel
theorem dX4_ticks_205 : decode cX4_ticks 205 = .ok (.iadd, 1) := by decide +kernel
theorem dX4_ticks_206 : decode cX4_ticks 206 = .ok (.iastore, 1) := by decide +kernel
theorem dX4_ticks_207 : decode cX4_ticks 207 = .ok (.aload_n 0, 1) := by decide +kernel
theorem dX4_ticks_208 : decode cX4_ticks 208 = .ok (.getfield 7, 3) := by decide +kernel
theorem dX4_ticks_211 : decode cX4_ticks 211 = .ok (.iconst 0, 1) := by decide +kernel
theorem dX4_ticks_212 : decode cX4_ticks 212 = .ok (.iaload, 1) := by decide +kernel
theorem dX4_ticks_213 : decode cX4_ticks 213 = .ok (.aload_n 0, 1) := by decide +kernel
theorem dX4_ticks_214 : decode cX4_ticks 214 = .ok (.getfield 7, 3) := by decide +kernel
theorem dX4_ticks_217 : decode cX4_ticks 217 = .ok (.iconst 5, 1) := by decide +kernel
theorem dX4_ticks_218 : decode cX4_ticks 218 = .ok (.iaload, 1) := by decide +kernel
theorem dX4_ticks_219 : decode cX4_ticks 219 = .ok (.isub, 1) := by decide +kernel
theorem dX4_ticks_220 : decode cX4_ticks 220 = .ok (.istore_n 2, 1) := by decide +kernel
theorem dX4_ticks_221 : decode cX4_ticks 221 = .ok (.aload_n 0, 1) := by decide +kernel
theorem dX4_ticks_222 : decode cX4_ticks 222 = .ok (.getfield 7, 3) := by decide +kernel
theorem dX4_ticks_225 : decode cX4_ticks 225 = .ok (.bipush 16, 2) := by decide +kernel
theorem dX4_ticks_227 : decode cX4_ticks 227 = .ok (.dup2, 1) := by decide +kernel
theorem dX4_ticks_228 : decode cX4_ticks 228 = .ok (.iaload, 1) := by decide +kernel
theorem dX4_ticks_229 : decode cX4_ticks 229 = .ok (.iload_n 2, 1) := by decide +kernel
theorem dX4_ticks_230 : decode cX4_ticks 230 = .ok (.ifCond .le 7, 3) := by decide +kernel
theorem dX4_ticks_233 : decode cX4_ticks 233 = .ok (.iload_n 2, 1) := by decide +kernel
theorem dX4_ticks_234 : decode cX4_ticks 234 = .ok (.goto 4, 3) := by decide +kernel
theorem dX4_ticks_237 : decode cX4_ticks 237 = .ok (.iconst 0, 1) := by decide +kernel
theorem dX4_ticks_238 : decode cX4_ticks 238 = .ok (.iadd, 1) := by decide +kernel
theorem dX4_ticks_239 : decode cX4_ticks 239 = .ok (.iastore, 1) := by decide +kernel
theorem dX4_ticks_240 : decode cX4_ticks 240 = .ok (.aload_n 0, 1) := by decide +kernel
theorem dX4_ticks_241 : decode cX4_ticks 241 = .ok (.getfield 7, 3) := by decide +kernel
theorem dX4_ticks_244 : decode cX4_ticks 244 = .ok (.iconst 0, 1) := by decide +kernel
theorem dX4_ticks_245 : decode cX4_ticks 245 = .ok (.dup2, 1) := by decide +kernel
theorem dX4_ticks_246 : decode cX4_ticks 246 = .ok (.iaload, 1) := by decide +kernel
theorem dX4_ticks_247 : decode cX4_ticks 247 = .ok (.iload_n 2, 1) := by decide +kernel
theorem dX4_ticks_248 : decode cX4_ticks 248 = .ok (.ifCond .le 7, 3) := by decide +kernel
theorem dX4_ticks_251 : decode cX4_ticks 251 = .ok (.iload_n 2, 1) := by decide +kernel
theorem dX4_ticks_252 : decode cX4_ticks 252 = .ok (.goto 4, 3) := by decide +kernel
theorem dX4_ticks_255 : decode cX4_ticks 255 = .ok (.iconst 0, 1) := by decide +kernel
theorem dX4_ticks_256 : decode cX4_ticks 256 = .ok (.isub, 1) := by decide +kernel
theorem dX4_ticks_257 : decode cX4_ticks 257 = .ok (.iastore, 1) := by decide +kernel
theorem dX4_ticks_258 : decode cX4_ticks 258 = .ok (.aload_n 0, 1) := by decide +kernel
theorem dX4_ticks_259 : decode cX4_ticks 259 = .ok (.invokevirtual 131, 3) := by decide +kernel
theorem dX4_ticks_262 : decode cX4_ticks 262 = .ok (.iconst 0, 1) := by decide +kernel
theorem dX4_ticks_263 : decode cX4_ticks 263 = .ok (.istore_n 1, 1) := by decide +kernel
theorem dX4_ticks_264 : decode cX4_ticks 264 = .ok (.iload_n 1, 1) := by decide +kernel
theorem dX4_ticks_265 : decode cX4_ticks 265 = .ok (.sipush 192, 3) := by decide +kernel
theorem dX4_ticks_268 : decode cX4_ticks 268 = .ok (.if_icmp .ge 65, 3) := by decide +kernel
theorem dX4_ticks_271 : decode cX4_ticks 271 = .ok (.aload_n 0, 1) := by decide +kernel
theorem dX4_ticks_272 : decode cX4_ticks 272 = .ok (.getfield 7, 3) := by decide +kernel
theorem dX4_ticks_275 : decode cX4_ticks 275 = .ok (.bipush 24, 2) := by decide +kernel
theorem dX4_ticks_277 : decode cX4_ticks 277 = .ok (.iconst 5, 1) := by decide +kernel
theorem dX4_ticks_278 : decode cX4_ticks 278 = .ok (.iload_n 1, 1) := by decide +kernel
theorem dX4_ticks_279 : decode cX4_ticks 279 = .ok (.bipush 24, 2) := by decide +kernel
theorem dX4_ticks_281 : decode cX4_ticks 281 = .ok (.idiv, 1) := by decide +kernel
theorem dX4_ticks_282 : decode cX4_ticks 282 = .ok (.imul, 1) := by decide +kernel
theorem dX4_ticks_283 : decode cX4_ticks 283 = .ok (.iadd, 1) := by decide +kernel
theorem dX4_ticks_284 : decode cX4_ticks 284 = .ok (.iconst 4, 1) := by decide +kernel
theorem dX4_ticks_285 : decode cX4_ticks 285 = .ok (.iadd, 1) := by decide +kernel
theorem dX4_ticks_286 : decode cX4_ticks 286 = .ok (.dup2, 1) := by decide +kernel
theorem dX4_ticks_287 : decode cX4_ticks 287 = .ok (.iaload, 1) := by decide +kernel
theorem dX4_ticks_288 : decode cX4_ticks 288 = .ok (.aload_n 0, 1) := by decide +kernel
theorem dX4_ticks_289 : decode cX4_ticks 289 = .ok (.getfield 53, 3) := by decide +kernel
theorem dX4_ticks_292 : decode cX4_ticks 292 = .ok (.iload_n 1, 1) := by decide +kernel
theorem dX4_ticks_293 : decode cX4_ticks 293 = .ok (.iaload, 1) := by decide +kernel
theorem dX4_ticks_294 : decode cX4_ticks 294 = .ok (.iadd, 1) := by decide +kernel
theorem dX4_ticks_295 : decode cX4_ticks 295 = .ok (.iastore, 1) := by decide +kernel
theorem dX4_ticks_296 : decode cX4_ticks 296 = .ok (.aload_n 0, 1) := by decide +kernel
theorem dX4_ticks_297 : decode cX4_ticks 297 = .ok (.getfield 7, 3) := by decide +kernel
theorem dX4_ticks_300 : decode cX4_ticks 300 = .ok (.bipush 15, 2) := by decide +kernel
theorem dX4_ticks_302 : decode cX4_ticks 302 = .ok (.dup2, 1) := by decide +kernel
theorem dX4_ticks_303 : decode cX4_ticks 303 = .ok (.iaload, 1) := by decide +kernel
theorem dX4_ticks_304 : decode cX4_ticks 304 = .ok (.aload_n 0, 1) := by decide +kernel
theorem dX4_ticks_305 : decode cX4_ticks 305 = .ok (.getfield 53, 3) := by decide +kernel
theorem dX4_ticks_308 : decode cX4_ticks 308 = .ok (.iload_n 1, 1) := by decide +kernel
theorem dX4_ticks_309 : decode cX4_ticks 309 = .ok (.iaload, 1) := by decide +kernel
theorem dX4_ticks_310 : decode cX4_ticks 310 = .ok (.iadd, 1) := by decide +kernel
theorem dX4_ticks_311 : decode cX4_ticks 311 = .ok (.iastore, 1) := by decide +kernel
theorem dX4_ticks_312 : decode cX4_ticks 312 = .ok (.aload_n 0, 1) := by decide +kernel
theorem dX4_ticks_313 : decode cX4_ticks 313 = .ok (.getfield 7, 3) := by decide +kernel
theorem dX4_ticks_316 : decode cX4_ticks 316 = .ok (.iconst 0, 1) := by decide +kernel
theorem dX4_ticks_317 : decode cX4_ticks 317 = .ok (.dup2, 1) := by decide +kernel
theorem dX4_ticks_318 : decode cX4_ticks 318 = .ok (.iaload, 1) := by decide +kernel
theorem dX4_ticks_319 : decode cX4_ticks 319 = .ok (.aload_n 0, 1) := by decide +kernel
theorem dX4_ticks_320 : decode cX4_ticks 320 = .ok (.getfield 53, 3) := by decide +kernel
theorem dX4_ticks_323 : decode cX4_ticks 323 = .ok (.iload_n 1, 1) := by decide +kernel
theorem dX4_ticks_324 : decode cX4_ticks 324 = .ok (.iaload, 1) := by decide +kernel
theorem dX4_ticks_325 : decode cX4_ticks 325 = .ok (.isub, 1) := by decide +kernel
theorem dX4_ticks_326 : decode cX4_ticks 326 = .ok (.iastore, 1) := by decide +kernel
theorem dX4_ticks_327 : decode cX4_ticks 327 = .ok (.iinc 1 1, 3) := by decide +kernel
theorem dX4_ticks_330 : decode cX4_ticks 330 = .ok (.goto (-66), 3) := by decide +kernel
theorem dX4_ticks_333 : decode cX4_ticks 333 = .ok (.aload_n 0, 1) := by decide +kernel
theorem dX4_ticks_334 : decode cX4_ticks 334 = .ok (.getfield 7, 3) := by decide +kernel
theorem dX4_ticks_337 : decode cX4_ticks 337 = .ok (.bipush 13, 2) := by decide +kernel
theorem dX4_ticks_339 : decode cX4_ticks 339 = .ok (.dup2, 1) := by decide +kernel
theorem dX4_ticks_340 : decode cX4_ticks 340 = .ok (.iaload, 1) := by decide +kernel
theorem dX4_ticks_341 : decode cX4_ticks 341 = .ok (.iconst 1, 1) := by decide +kernel
theorem dX4_ticks_342 : decode cX4_ticks 342 = .ok (.iadd, 1) := by decide +kernel
theorem dX4_ticks_343 : decode cX4_ticks 343 = .ok (.iastore, 1) := by decide +kernel
theorem dX4_ticks_344 : decode cX4_ticks 344 = .ok (.return_, 1) := by decide +kernel
theorem dX4_passes_0 : decode cX4_passes 0 = .ok (.iconst 0, 1) := by decide +kernel
theorem dX4_passes_1 : decode cX4_passes 1 = .ok (.istore_n 2, 1) := by decide +kernel
theorem dX4_passes_2 : decode cX4_passes 2 = .ok (.iload_n 2, 1) := by decide +kernel
theorem dX4_passes_3 : decode cX4_passes 3 = .ok (.iload_n 1, 1) := by decide +kernel
theorem dX4_passes_4 : decode cX4_passes 4 = .ok (.if_icmp .ge 13, 3) := by decide +kernel
theorem dX4_passes_7 : decode cX4_passes 7 = .ok (.aload_n 0, 1) := by decide +kernel
theorem dX4_passes_8 : decode cX4_passes 8 = .ok (.invokevirtual 134, 3) := by decide +kernel
theorem dX4_passes_11 : decode cX4_passes 11 = .ok (.iinc 2 1, 3) := by decide +kernel
theorem dX4_passes_14 : decode cX4_passes 14 = .ok (.goto (-12), 3) := by decide +kernel
theorem dX4_passes_17 : decode cX4_passes 17 = .ok (.aload_n 0, 1) := by decide +kernel
theorem dX4_passes_18 : decode cX4_passes 18 = .ok (.getfield 7, 3) := by decide +kernel
theorem dX4_passes_21 : decode cX4_passes 21 = .ok (.iconst 0, 1) := by decide +kernel
theorem dX4_passes_22 : decode cX4_passes 22 = .ok (.iaload, 1) := by decide +kernel
theorem dX4_passes_23 : decode cX4_passes 23 = .ok (.ireturn, 1) := by decide +kernel
theorem dX4_tick_0 : decode cX4_tick 0 = .ok (.iload_n 1, 1) := by decide +kernel
theorem dX4_tick_1 : decode cX4_tick 1 = .ok (.iconst 1, 1) := by decide +kernel
theorem dX4_tick_2 : decode cX4_tick 2 = .ok (.sipush 200, 3) := by decide +kernel
theorem dX4_tick_5 : decode cX4_tick 5 = .ok (.invokestatic 59, 3) := by decide +kernel
theorem dX4_tick_8 : decode cX4_tick 8 = .ok (.ifCond .ne 6, 3) := by decide +kernel
theorem dX4_tick_11 : decode cX4_tick 11 = .ok (.ldc 72, 2) := by decide +kernel
theorem dX4_tick_13 : decode cX4_tick 13 = .ok (.ireturn, 1) := by decide +kernel
theorem dX4_tick_14 : decode cX4_tick 14 = .ok (.aload_n 0, 1) := by decide +kernel
theorem dX4_tick_15 : decode cX4_tick 15 = .ok (.invokevirtual 73, 3) := by decide +kernel
theorem dX4_tick_18 : decode cX4_tick 18 = .ok (.aload_n 0, 1) := by decide +kernel
theorem dX4_tick_19 : decode cX4_tick 19 = .ok (.iload_n 1, 1) := by decide +kernel
theorem dX4_tick_20 : decode cX4_tick 20 = .ok (.invokevirtual 137, 3) := by decide +kernel
theorem dX4_tick_23 : decode cX4_tick 23 = .ok (.ireturn, 1) := by decide +kernel
theorem dX4_append_0 : decode cX4_append 0 = .ok (.iload_n 1, 1) := by decide +kernel
theorem dX4_append_1 : decode cX4_append 1 = .ok (.iconst 0, 1) := by decide +kernel
theorem dX4_append_2 : decode cX4_append 2 = .ok (.bipush 127, 2) := by decide +kernel
theorem dX4_append_4 : decode cX4_append 4 = .ok (.invokestatic 59, 3) := by decide +kernel
theorem dX4_append_7 : decode cX4_append 7 = .ok (.ifCond .ne 6, 3) := by decide +kernel
theorem dX4_append_10 : decode cX4_append 10 = .ok (.ldc 72, 2) := by decide +kernel
theorem dX4_append_12 : decode cX4_append 12 = .ok (.ireturn, 1) := by decide +kernel
theorem dX4_append_13 : decode cX4_append 13 = .ok (.aload_n 0, 1) := by decide +kernel
theorem dX4_append_14 : decode cX4_append 14 = .ok (.getfield 140, 3) := by decide +kernel
theorem dX4_append_17 : decode cX4_append 17 = .ok (.bipush 80, 2) := by decide +kernel
theorem dX4_append_19 : decode cX4_append 19 = .ok (.if_icmp .ne 6, 3) := by decide +kernel
theorem dX4_append_22 : decode cX4_append 22 = .ok (.ldc 91, 2) := by decide +kernel
theorem dX4_append_24 : decode cX4_append 24 = .ok (.ireturn, 1) := by decide +kernel
theorem dX4_append_25 : decode cX4_append 25 = .ok (.aload_n 0, 1) := by decide +kernel
theorem dX4_append_26 : decode cX4_append 26 = .ok (.getfield 26, 3) := by decide +kernel
theorem dX4_append_29 : decode cX4_append 29 = .ok (.aload_n 0, 1) := by decide +kernel
theorem dX4_append_30 : decode cX4_append 30 = .ok (.getfield 140, 3) := by decide +kernel
theorem dX4_append_33 : decode cX4_append 33 = .ok (.iload_n 1, 1) := by decide +kernel
theorem dX4_append_34 : decode cX4_append 34 = .ok (.iastore, 1) := by decide +kernel
theorem dX4_append_35 : decode cX4_append 35 = .ok (.aload_n 0, 1) := by decide +kernel
theorem dX4_append_36 : decode cX4_append 36 = .ok (.dup, 1) := by decide +kernel
theorem dX4_append_37 : decode cX4_append 37 = .ok (.getfield 140, 3) := by decide +kernel
theorem dX4_append_40 : decode cX4_append 40 = .ok (.iconst 1, 1) := by decide +kernel
theorem dX4_append_41 : decode cX4_append 41 = .ok (.iadd, 1) := by decide +kernel
theorem dX4_append_42 : decode cX4_append 42 = .ok (.putfield 140, 3) := by decide +kernel
theorem dX4_append_45 : decode cX4_append 45 = .ok (.aload_n 0, 1) := by decide +kernel
theorem dX4_append_46 : decode cX4_append 46 = .ok (.getfield 140, 3) := by decide +kernel
theorem dX4_append_49 : decode cX4_append 49 = .ok (.ireturn, 1) := by decide +kernel
theorem dX4_clearText_0 : decode cX4_clearText 0 = .ok (.aload_n 0, 1) := by decide +kernel
theorem dX4_clearText_1 : decode cX4_clearText 1 = .ok (.getfield 140, 3) := by decide +kernel
theorem dX4_clearText_4 : decode cX4_clearText 4 = .ok (.istore_n 1, 1) := by decide +kernel
theorem dX4_clearText_5 : decode cX4_clearText 5 = .ok (.aload_n 0, 1) := by decide +kernel
theorem dX4_clearText_6 : decode cX4_clearText 6 = .ok (.iconst 0, 1) := by decide +kernel
theorem dX4_clearText_7 : decode cX4_clearText 7 = .ok (.putfield 140, 3) := by decide +kernel
theorem dX4_clearText_10 : decode cX4_clearText 10 = .ok (.iload_n 1, 1) := by decide +kernel
theorem dX4_clearText_11 : decode cX4_clearText 11 = .ok (.ireturn, 1) := by decide +kernel
theorem dX4_here_0 : decode cX4_here 0 = .ok (.aload_n 0, 1) := by decide +kernel
theorem dX4_here_1 : decode cX4_here 1 = .ok (.getfield 143, 3) := by decide +kernel
theorem dX4_here_4 : decode cX4_here 4 = .ok (.aload_n 0, 1) := by decide +kernel
theorem dX4_here_5 : decode cX4_here 5 = .ok (.getfield 140, 3) := by decide +kernel
theorem dX4_here_8 : decode cX4_here 8 = .ok (.if_icmp .ge 15, 3) := by decide +kernel
theorem dX4_here_11 : decode cX4_here 11 = .ok (.aload_n 0, 1) := by decide +kernel
theorem dX4_here_12 : decode cX4_here 12 = .ok (.getfield 26, 3) := by decide +kernel
theorem dX4_here_15 : decode cX4_here 15 = .ok (.aload_n 0, 1) := by decide +kernel
theorem dX4_here_16 : decode cX4_here 16 = .ok (.getfield 143, 3) := by decide +kernel
theorem dX4_here_19 : decode cX4_here 19 = .ok (.iaload, 1) := by decide +kernel
theorem dX4_here_20 : decode cX4_here 20 = .ok (.goto 4, 3) := by decide +kernel
theorem dX4_here_23 : decode cX4_here 23 = .ok (.iconst (-1), 1) := by decide +kernel
theorem dX4_here_24 : decode cX4_here 24 = .ok (.ireturn, 1) := by decide +kernel
theorem dX4_takes_0 : decode cX4_takes 0 = .ok (.aload_n 0, 1) := by decide +kernel
theorem dX4_takes_1 : decode cX4_takes 1 = .ok (.invokevirtual 146, 3) := by decide +kernel
theorem dX4_takes_4 : decode cX4_takes 4 = .ok (.iload_n 1, 1) := by decide +kernel
theorem dX4_takes_5 : decode cX4_takes 5 = .ok (.if_icmp .ne 7, 3) := by decide +kernel
theorem dX4_takes_8 : decode cX4_takes 8 = .ok (.iconst 1, 1) := by decide +kernel
theorem dX4_takes_9 : decode cX4_takes 9 = .ok (.goto 4, 3) := by decide +kernel
theorem dX4_takes_12 : decode cX4_takes 12 = .ok (.iconst 0, 1) := by decide +kernel
theorem dX4_takes_13 : decode cX4_takes 13 = .ok (.istore_n 2, 1) := by decide +kernel
theorem dX4_takes_14 : decode cX4_takes 14 = .ok (.aload_n 0, 1) := by decide +kernel
theorem dX4_takes_15 : decode cX4_takes 15 = .ok (.dup, 1) := by decide +kernel
theorem dX4_takes_16 : decode cX4_takes 16 = .ok (.getfield 143, 3) := by decide +kernel
theorem dX4_takes_19 : decode cX4_takes 19 = .ok (.iload_n 2, 1) := by decide +kernel
theorem dX4_takes_20 : decode cX4_takes 20 = .ok (.ifCond .eq 7, 3) := by decide +kernel
theorem dX4_takes_23 : decode cX4_takes 23 = .ok (.iconst 1, 1) := by decide +kernel
theorem dX4_takes_24 : decode cX4_takes 24 = .ok (.goto 4, 3) := by decide +kernel
theorem dX4_takes_27 : decode cX4_takes 27 = .ok (.iconst 0, 1) := by decide +kernel
theorem dX4_takes_28 : decode cX4_takes 28 = .ok (.iadd, 1) := by decide +kernel
theorem dX4_takes_29 : decode cX4_takes 29 = .ok (.putfield 143, 3) := by decide +kernel
theorem dX4_takes_32 : decode cX4_takes 32 = .ok (.iload_n 2, 1) := by decide +kernel
theorem dX4_takes_33 : decode cX4_takes 33 = .ok (.ireturn, 1) := by decide +kernel
theorem dX4_isDigit_0 : decode cX4_isDigit 0 = .ok (.aload_n 0, 1) := by decide +kernel
theorem dX4_isDigit_1 : decode cX4_isDigit 1 = .ok (.invokevirtual 146, 3) := by decide +kernel
theorem dX4_isDigit_4 : decode cX4_isDigit 4 = .ok (.bipush 48, 2) := by decide +kernel
theorem dX4_isDigit_6 : decode cX4_isDigit 6 = .ok (.bipush 57, 2) := by decide +kernel
theorem dX4_isDigit_8 : decode cX4_isDigit 8 = .ok (.invokestatic 59, 3) := by decide +kernel
theorem dX4_isDigit_11 : decode cX4_isDigit 11 = .ok (.ireturn, 1) := by decide +kernel
theorem dX4_isFirst_0 : decode cX4_isFirst 0 = .ok (.aload_n 0, 1) := by decide +kernel
theorem dX4_isFirst_1 : decode cX4_isFirst 1 = .ok (.aload_n 0, 1) := by decide +kernel
theorem dX4_isFirst_2 : decode cX4_isFirst 2 = .ok (.invokevirtual 146, 3) := by decide +kernel
theorem dX4_isFirst_5 : decode cX4_isFirst 5 = .ok (.bipush 48, 2) := by decide +kernel
theorem dX4_isFirst_7 : decode cX4_isFirst 7 = .ok (.isub, 1) := by decide +kernel
theorem dX4_isFirst_8 : decode cX4_isFirst 8 = .ok (.putfield 149, 3) := by decide +kernel
theorem dX4_isFirst_11 : decode cX4_isFirst 11 = .ok (.aload_n 0, 1) := by decide +kernel
theorem dX4_isFirst_12 : decode cX4_isFirst 12 = .ok (.getfield 149, 3) := by decide +kernel
theorem dX4_isFirst_15 : decode cX4_isFirst 15 = .ok (.iconst 0, 1) := by decide +kernel
theorem dX4_isFirst_16 : decode cX4_isFirst 16 = .ok (.iload_n 1, 1) := by decide +kernel
theorem dX4_isFirst_17 : decode cX4_isFirst 17 = .ok (.invokestatic 59, 3) := by decide +kernel
theorem dX4_isFirst_20 : decode cX4_isFirst 20 = .ok (.istore_n 2, 1) := by decide +kernel
theorem dX4_isFirst_21 : decode cX4_isFirst 21 = .ok (.aload_n 0, 1) := by decide +kernel
theorem dX4_isFirst_22 : decode cX4_isFirst 22 = .ok (.dup, 1) := by decide +kernel
theorem dX4_isFirst_23 : decode cX4_isFirst 23 = .ok (.getfield 143, 3) := by decide +kernel
theorem dX4_isFirst_26 : decode cX4_isFirst 26 = .ok (.iload_n 2, 1) := by decide +kernel
theorem dX4_isFirst_27 : decode cX4_isFirst 27 = .ok (.ifCond .eq 7, 3) := by decide +kernel
theorem dX4_isFirst_30 : decode cX4_isFirst 30 = .ok (.iconst 1, 1) := by decide +kernel
theorem dX4_isFirst_31 : decode cX4_isFirst 31 = .ok (.goto 4, 3) := by decide +kernel
theorem dX4_isFirst_34 : decode cX4_isFirst 34 = .ok (.iconst 0, 1) := by decide +kernel
theorem dX4_isFirst_35 : decode cX4_isFirst 35 = .ok (.iadd, 1) := by decide +kernel
theorem dX4_isFirst_36 : decode cX4_isFirst 36 = .ok (.putfield 143, 3) := by decide +kernel
theorem dX4_isFirst_39 : decode cX4_isFirst 39 = .ok (.iload_n 2, 1) := by decide +kernel
theorem dX4_isFirst_40 : decode cX4_isFirst 40 = .ok (.ireturn, 1) := by decide +kernel
theorem dX4_isNumber_0 : decode cX4_isNumber 0 = .ok (.aload_n 0, 1) := by decide +kernel
theorem dX4_isNumber_1 : decode cX4_isNumber 1 = .ok (.getfield 143, 3) := by decide +kernel
theorem dX4_isNumber_4 : decode cX4_isNumber 4 = .ok (.istore_n 3, 1) := by decide +kernel
theorem dX4_isNumber_5 : decode cX4_isNumber 5 = .ok (.aload_n 0, 1) := by decide +kernel
theorem dX4_isNumber_6 : decode cX4_isNumber 6 = .ok (.invokevirtual 152, 3) := by decide +kernel
theorem dX4_isNumber_9 : decode cX4_isNumber 9 = .ok (.ifCond .ne 5, 3) := by decide +kernel
theorem dX4_isNumber_12 : decode cX4_isNumber 12 = .ok (.iconst 0, 1) := by decide +kernel
theorem dX4_isNumber_13 : decode cX4_isNumber 13 = .ok (.ireturn, 1) := by decide +kernel
theorem dX4_isNumber_14 : decode cX4_isNumber 14 = .ok (.aload_n 0, 1) := by decide +kernel
theorem dX4_isNumber_15 : decode cX4_isNumber 15 = .ok (.aload_n 0, 1) := by decide +kernel
theorem dX4_isNumber_16 : decode cX4_isNumber 16 = .ok (.invokevirtual 146, 3) := by decide +kernel
theorem dX4_isNumber_19 : decode cX4_isNumber 19 = .ok (.bipush 48, 2) := by decide +kernel
theorem dX4_isNumber_21 : decode cX4_isNumber 21 = .ok (.isub, 1) := by decide +kernel
theorem dX4_isNumber_22 : decode cX4_isNumber 22 = .ok (.putfield 156, 3) := by decide +kernel
theorem dX4_isNumber_25 : decode cX4_isNumber 25 = .ok (.aload_n 0, 1) := by decide +kernel
theorem dX4_isNumber_26 : decode cX4_isNumber 26 = .ok (.dup, 1) := by decide +kernel
theorem dX4_isNumber_27 : decode cX4_isNumber 27 = .ok (.getfield 143, 3) := by decide +kernel
theorem dX4_isNumber_30 : decode cX4_isNumber 30 = .ok (.iconst 1, 1) := by decide +kernel
theorem dX4_isNumber_31 : decode cX4_isNumber 31 = .ok (.iadd, 1) := by decide +kernel
theorem dX4_isNumber_32 : decode cX4_isNumber 32 = .ok (.putfield 143, 3) := by decide +kernel
theorem dX4_isNumber_35 : decode cX4_isNumber 35 = .ok (.aload_n 0, 1) := by decide +kernel
theorem dX4_isNumber_36 : decode cX4_isNumber 36 = .ok (.getfield 156, 3) := by decide +kernel
theorem dX4_isNumber_39 : decode cX4_isNumber 39 = .ok (.ifCond .ne 7, 3) := by decide +kernel
theorem dX4_isNumber_42 : decode cX4_isNumber 42 = .ok (.iconst 1, 1) := by decide +kernel
theorem dX4_isNumber_43 : decode cX4_isNumber 43 = .ok (.goto 4, 3) := by decide +kernel
theorem dX4_isNumber_46 : decode cX4_isNumber 46 = .ok (.iconst 0, 1) := by decide +kernel
theorem dX4_isNumber_47 : decode cX4_isNumber 47 = .ok (.istore 4, 2) := by decide +kernel
theorem dX4_isNumber_49 : decode cX4_isNumber 49 = .ok (.iload 4, 2) := by decide +kernel
theorem dX4_isNumber_51 : decode cX4_isNumber 51 = .ok (.ifCond .ne 52, 3) := by decide +kernel
theorem dX4_isNumber_54 : decode cX4_isNumber 54 = .ok (.aload_n 0, 1) := by decide +kernel
theorem dX4_isNumber_55 : decode cX4_isNumber 55 = .ok (.getfield 143, 3) := by decide +kernel
theorem dX4_isNumber_58 : decode cX4_isNumber 58 = .ok (.iload_n 3, 1) := by decide +kernel
theorem dX4_isNumber_59 : decode cX4_isNumber 59 = .ok (.iconst 3, 1) := by decide +kernel
theorem dX4_isNumber_60 : decode cX4_isNumber 60 = .ok (.iadd, 1) := by decide +kernel
theorem dX4_isNumber_61 : decode cX4_isNumber 61 = .ok (.if_icmp .ge 42, 3) := by decide +kernel
theorem dX4_isNumber_64 : decode cX4_isNumber 64 = .ok (.aload_n 0, 1) := by decide +kernel
theorem dX4_isNumber_65 : decode cX4_isNumber 65 = .ok (.invokevirtual 152, 3) := by decide +kernel
theorem dX4_isNumber_68 : decode cX4_isNumber 68 = .ok (.ifCond .eq 35, 3) := by decide +kernel
theorem dX4_isNumber_71 : decode cX4_isNumber 71 = .ok (.aload_n 0, 1) := by decide +kernel
theorem dX4_isNumber_72 : decode cX4_isNumber 72 = .ok (.bipush 10, 2) := by decide +kernel
theorem dX4_isNumber_74 : decode cX4_isNumber 74 = .ok (.aload_n 0, 1) := by decide +kernel
theorem dX4_isNumber_75 : decode cX4_isNumber 75 = .ok (.getfield 156, 3) := by decide +kernel
theorem dX4_isNumber_78 : decode cX4_isNumber 78 = .ok (.imul, 1) := by decide +kernel
theorem dX4_isNumber_79 : decode cX4_isNumber 79 = .ok (.aload_n 0, 1) := by decide +kernel
theorem dX4_isNumber_80 : decode cX4_isNumber 80 = .ok (.invokevirtual 146, 3) := by decide +kernel
theorem dX4_isNumber_83 : decode cX4_isNumber 83 = .ok (.iadd, 1) := by decide +kernel
theorem dX4_isNumber_84 : decode cX4_isNumber 84 = .ok (.bipush 48, 2) := by decide +kernel
theorem dX4_isNumber_86 : decode cX4_isNumber 86 = .ok (.isub, 1) := by decide +kernel
theorem dX4_isNumber_87 : decode cX4_isNumber 87 = .ok (.putfield 156, 3) := by decide +kernel
theorem dX4_isNumber_90 : decode cX4_isNumber 90 = .ok (.aload_n 0, 1) := by decide +kernel
theorem dX4_isNumber_91 : decode cX4_isNumber 91 = .ok (.dup, 1) := by decide +kernel
theorem dX4_isNumber_92 : decode cX4_isNumber 92 = .ok (.getfield 143, 3) := by decide +kernel
theorem dX4_isNumber_95 : decode cX4_isNumber 95 = .ok (.iconst 1, 1) := by decide +kernel
theorem dX4_isNumber_96 : decode cX4_isNumber 96 = .ok (.iadd, 1) := by decide +kernel
theorem dX4_isNumber_97 : decode cX4_isNumber 97 = .ok (.putfield 143, 3) := by decide +kernel
theorem dX4_isNumber_100 : decode cX4_isNumber 100 = .ok (.goto (-51), 3) := by decide +kernel
theorem dX4_isNumber_103 : decode cX4_isNumber 103 = .ok (.aload_n 0, 1) := by decide +kernel
theorem dX4_isNumber_104 : decode cX4_isNumber 104 = .ok (.getfield 156, 3) := by decide +kernel
theorem dX4_isNumber_107 : decode cX4_isNumber 107 = .ok (.iload_n 1, 1) := by decide +kernel
theorem dX4_isNumber_108 : decode cX4_isNumber 108 = .ok (.iload_n 2, 1) := by decide +kernel
theorem dX4_isNumber_109 : decode cX4_isNumber 109 = .ok (.invokestatic 59, 3) := by decide +kernel
theorem dX4_isNumber_112 : decode cX4_isNumber 112 = .ok (.istore 5, 2) := by decide +kernel
theorem dX4_isNumber_114 : decode cX4_isNumber 114 = .ok (.aload_n 0, 1) := by decide +kernel
theorem dX4_isNumber_115 : decode cX4_isNumber 115 = .ok (.iload 5, 2) := by decide +kernel
theorem dX4_isNumber_117 : decode cX4_isNumber 117 = .ok (.ifCond .eq 10, 3) := by decide +kernel
theorem dX4_isNumber_120 : decode cX4_isNumber 120 = .ok (.aload_n 0, 1) := by decide +kernel
theorem dX4_isNumber_121 : decode cX4_isNumber 121 = .ok (.getfield 143, 3) := by decide +kernel
theorem dX4_isNumber_124 : decode cX4_isNumber 124 = .ok (.goto 4, 3) := by decide +kernel
theorem dX4_isNumber_127 : decode cX4_isNumber 127 = .ok (.iload_n 3, 1) := by decide +kernel
theorem dX4_isNumber_128 : decode cX4_isNumber 128 = .ok (.putfield 143, 3) := by decide +kernel
theorem dX4_isNumber_131 : decode cX4_isNumber 131 = .ok (.iload 5, 2) := by decide +kernel
theorem dX4_isNumber_133 : decode cX4_isNumber 133 = .ok (.ireturn, 1) := by decide +kernel
theorem dX4_isAct_0 : decode cX4_isAct 0 = .ok (.aload_n 0, 1) := by decide +kernel
theorem dX4_isAct_1 : decode cX4_isAct 1 = .ok (.aload_n 0, 1) := by decide +kernel
theorem dX4_isAct_2 : decode cX4_isAct 2 = .ok (.invokevirtual 146, 3) := by decide +kernel
theorem dX4_isAct_5 : decode cX4_isAct 5 = .ok (.putfield 159, 3) := by decide +kernel
theorem dX4_isAct_8 : decode cX4_isAct 8 = .ok (.aload_n 0, 1) := by decide +kernel
theorem dX4_isAct_9 : decode cX4_isAct 9 = .ok (.bipush 100, 2) := by decide +kernel
theorem dX4_isAct_11 : decode cX4_isAct 11 = .ok (.invokevirtual 162, 3) := by decide +kernel
theorem dX4_isAct_14 : decode cX4_isAct 14 = .ok (.ifCond .ne 12, 3) := by decide +kernel
theorem dX4_isAct_17 : decode cX4_isAct 17 = .ok (.aload_n 0, 1) := by decide +kernel
theorem dX4_isAct_18 : decode cX4_isAct 18 = .ok (.bipush 114, 2) := by decide +kernel
theorem dX4_isAct_20 : decode cX4_isAct 20 = .ok (.invokevirtual 162, 3) := by decide +kernel
theorem dX4_isAct_23 : decode cX4_isAct 23 = .ok (.ifCond .eq 10, 3) := by decide +kernel
theorem dX4_isAct_26 : decode cX4_isAct 26 = .ok (.aload_n 0, 1) := by decide +kernel
theorem dX4_isAct_27 : decode cX4_isAct 27 = .ok (.bipush 7, 2) := by decide +kernel
theorem dX4_isAct_29 : decode cX4_isAct 29 = .ok (.invokevirtual 165, 3) := by decide +kernel
theorem dX4_isAct_32 : decode cX4_isAct 32 = .ok (.ireturn, 1) := by decide +kernel
theorem dX4_isAct_33 : decode cX4_isAct 33 = .ok (.aload_n 0, 1) := by decide +kernel
theorem dX4_isAct_34 : decode cX4_isAct 34 = .ok (.bipush 112, 2) := by decide +kernel
theorem dX4_isAct_36 : decode cX4_isAct 36 = .ok (.invokevirtual 162, 3) := by decide +kernel
theorem dX4_isAct_39 : decode cX4_isAct 39 = .ok (.ifCond .ne 12, 3) := by decide +kernel
theorem dX4_isAct_42 : decode cX4_isAct 42 = .ok (.aload_n 0, 1) := by decide +kernel
theorem dX4_isAct_43 : decode cX4_isAct 43 = .ok (.bipush 108, 2) := by decide +kernel
theorem dX4_isAct_45 : decode cX4_isAct 45 = .ok (.invokevirtual 162, 3) := by decide +kernel
theorem dX4_isAct_48 : decode cX4_isAct 48 = .ok (.ifCond .eq 36, 3) := by decide +kernel
theorem dX4_isAct_51 : decode cX4_isAct 51 = .ok (.aload_n 0, 1) := by decide +kernel
theorem dX4_isAct_52 : decode cX4_isAct 52 = .ok (.iconst 1, 1) := by decide +kernel
theorem dX4_isAct_53 : decode cX4_isAct 53 = .ok (.invokevirtual 165, 3) := by decide +kernel
theorem dX4_isAct_56 : decode cX4_isAct 56 = .ok (.ifCond .eq 26, 3) := by decide +kernel
theorem dX4_isAct_59 : decode cX4_isAct 59 = .ok (.aload_n 0, 1) := by decide +kernel
theorem dX4_isAct_60 : decode cX4_isAct 60 = .ok (.iconst 0, 1) := by decide +kernel
theorem dX4_isAct_61 : decode cX4_isAct 61 = .ok (.bipush 23, 2) := by decide +kernel
theorem dX4_isAct_63 : decode cX4_isAct 63 = .ok (.invokevirtual 168, 3) := by decide +kernel
theorem dX4_isAct_66 : decode cX4_isAct 66 = .ok (.ifCond .eq 16, 3) := by decide +kernel
theorem dX4_isAct_69 : decode cX4_isAct 69 = .ok (.aload_n 0, 1) := by decide +kernel
theorem dX4_isAct_70 : decode cX4_isAct 70 = .ok (.bipush 59, 2) := by decide +kernel
theorem dX4_isAct_72 : decode cX4_isAct 72 = .ok (.invokevirtual 162, 3) := by decide +kernel
theorem dX4_isAct_75 : decode cX4_isAct 75 = .ok (.ifCond .eq 7, 3) := by decide +kernel
theorem dX4_isAct_78 : decode cX4_isAct 78 = .ok (.iconst 1, 1) := by decide +kernel
theorem dX4_isAct_79 : decode cX4_isAct 79 = .ok (.goto 4, 3) := by decide +kernel
theorem dX4_isAct_82 : decode cX4_isAct 82 = .ok (.iconst 0, 1) := by decide +kernel
theorem dX4_isAct_83 : decode cX4_isAct 83 = .ok (.ireturn, 1) := by decide +kernel
theorem dX4_isAct_84 : decode cX4_isAct 84 = .ok (.aload_n 0, 1) := by decide +kernel
theorem dX4_isAct_85 : decode cX4_isAct 85 = .ok (.bipush 116, 2) := by decide +kernel
theorem dX4_isAct_87 : decode cX4_isAct 87 = .ok (.invokevirtual 162, 3) := by decide +kernel
theorem dX4_isAct_90 : decode cX4_isAct 90 = .ok (.ifCond .eq 27, 3) := by decide +kernel
theorem dX4_isAct_93 : decode cX4_isAct 93 = .ok (.aload_n 0, 1) := by decide +kernel
theorem dX4_isAct_94 : decode cX4_isAct 94 = .ok (.iconst 1, 1) := by decide +kernel
theorem dX4_isAct_95 : decode cX4_isAct 95 = .ok (.sipush 200, 3) := by decide +kernel
theorem dX4_isAct_98 : decode cX4_isAct 98 = .ok (.invokevirtual 168, 3) := by decide +kernel
theorem dX4_isAct_101 : decode cX4_isAct 101 = .ok (.ifCond .eq 16, 3) := by decide +kernel
theorem dX4_isAct_104 : decode cX4_isAct 104 = .ok (.aload_n 0, 1) := by decide +kernel
theorem dX4_isAct_105 : decode cX4_isAct 105 = .ok (.bipush 59, 2) := by decide +kernel
theorem dX4_isAct_107 : decode cX4_isAct 107 = .ok (.invokevirtual 162, 3) := by decide +kernel
theorem dX4_isAct_110 : decode cX4_isAct 110 = .ok (.ifCond .eq 7, 3) := by decide +kernel
theorem dX4_isAct_113 : decode cX4_isAct 113 = .ok (.iconst 1, 1) := by decide +kernel
theorem dX4_isAct_114 : decode cX4_isAct 114 = .ok (.goto 4, 3) := by decide +kernel
theorem dX4_isAct_117 : decode cX4_isAct 117 = .ok (.iconst 0, 1) := by decide +kernel
theorem dX4_isAct_118 : decode cX4_isAct 118 = .ok (.ireturn, 1) := by decide +kernel
theorem dX4_isText_0 : decode cX4_isText 0 = .ok (.aload_n 0, 1) := by decide +kernel
theorem dX4_isText_1 : decode cX4_isText 1 = .ok (.iconst 0, 1) := by decide +kernel
theorem dX4_isText_2 : decode cX4_isText 2 = .ok (.putfield 143, 3) := by decide +kernel
theorem dX4_isText_5 : decode cX4_isText 5 = .ok (.iconst 1, 1) := by decide +kernel
theorem dX4_isText_6 : decode cX4_isText 6 = .ok (.istore_n 1, 1) := by decide +kernel
theorem dX4_isText_7 : decode cX4_isText 7 = .ok (.iload_n 1, 1) := by decide +kernel
theorem dX4_isText_8 : decode cX4_isText 8 = .ok (.ifCond .eq 22, 3) := by decide +kernel
theorem dX4_isText_11 : decode cX4_isText 11 = .ok (.aload_n 0, 1) := by decide +kernel
theorem dX4_isText_12 : decode cX4_isText 12 = .ok (.getfield 143, 3) := by decide +kernel
theorem dX4_isText_15 : decode cX4_isText 15 = .ok (.aload_n 0, 1) := by decide +kernel
theorem dX4_isText_16 : decode cX4_isText 16 = .ok (.getfield 140, 3) := by decide +kernel
theorem dX4_isText_19 : decode cX4_isText 19 = .ok (.if_icmp .ge 11, 3) := by decide +kernel
theorem dX4_isText_22 : decode cX4_isText 22 = .ok (.aload_n 0, 1) := by decide +kernel
theorem dX4_isText_23 : decode cX4_isText 23 = .ok (.invokevirtual 171, 3) := by decide +kernel
theorem dX4_isText_26 : decode cX4_isText 26 = .ok (.istore_n 1, 1) := by decide +kernel
theorem dX4_isText_27 : decode cX4_isText 27 = .ok (.goto (-20), 3) := by decide +kernel
theorem dX4_isText_30 : decode cX4_isText 30 = .ok (.iload_n 1, 1) := by decide +kernel
theorem dX4_isText_31 : decode cX4_isText 31 = .ok (.ireturn, 1) := by decide +kernel
theorem dX4_faultPosition_0 : decode cX4_faultPosition 0 = .ok (.aload_n 0, 1) := by decide +kernel
theorem dX4_faultPosition_1 : decode cX4_faultPosition 1 = .ok (.invokevirtual 174, 3) := by decide +kernel
theorem dX4_faultPosition_4 : decode cX4_faultPosition 4 = .ok (.ifCond .eq 8, 3) := by decide +kernel
theorem dX4_faultPosition_7 : decode cX4_faultPosition 7 = .ok (.ldc 177, 2) := by decide +kernel
theorem dX4_faultPosition_9 : decode cX4_faultPosition 9 = .ok (.goto 7, 3) := by decide +kernel
theorem dX4_faultPosition_12 : decode cX4_faultPosition 12 = .ok (.aload_n 0, 1) := by decide +kernel
theorem dX4_faultPosition_13 : decode cX4_faultPosition 13 = .ok (.getfield 143, 3) := by decide +kernel
theorem dX4_faultPosition_16 : decode cX4_faultPosition 16 = .ok (.ireturn, 1) := by decide +kernel
theorem dX4_play_0 : decode cX4_play 0 = .ok (.aload_n 0, 1) := by decide +kernel
theorem dX4_play_1 : decode cX4_play 1 = .ok (.invokevirtual 174, 3) := by decide +kernel
theorem dX4_play_4 : decode cX4_play 4 = .ok (.ifCond .ne 6, 3) := by decide +kernel
theorem dX4_play_7 : decode cX4_play 7 = .ok (.ldc 178, 2) := by decide +kernel
theorem dX4_play_9 : decode cX4_play 9 = .ok (.ireturn, 1) := by decide +kernel
theorem dX4_play_10 : decode cX4_play 10 = .ok (.aload_n 0, 1) := by decide +kernel
theorem dX4_play_11 : decode cX4_play 11 = .ok (.invokevirtual 73, 3) := by decide +kernel
theorem dX4_play_14 : decode cX4_play 14 = .ok (.aload_n 0, 1) := by decide +kernel
theorem dX4_play_15 : decode cX4_play 15 = .ok (.iconst 0, 1) := by decide +kernel
theorem dX4_play_16 : decode cX4_play 16 = .ok (.putfield 143, 3) := by decide +kernel
theorem dX4_play_19 : decode cX4_play 19 = .ok (.iconst 0, 1) := by decide +kernel
theorem dX4_play_20 : decode cX4_play 20 = .ok (.istore_n 1, 1) := by decide +kernel
theorem dX4_play_21 : decode cX4_play 21 = .ok (.aload_n 0, 1) := by decide +kernel
theorem dX4_play_22 : decode cX4_play 22 = .ok (.getfield 143, 3) := by decide +kernel
theorem dX4_play_25 : decode cX4_play 25 = .ok (.aload_n 0, 1) := by decide +kernel
theorem dX4_play_26 : decode cX4_play 26 = .ok (.getfield 140, 3) := by decide +kernel
theorem dX4_play_29 : decode cX4_play 29 = .ok (.if_icmp .ge 104, 3) := by decide +kernel
theorem dX4_play_32 : decode cX4_play 32 = .ok (.aload_n 0, 1) := by decide +kernel
theorem dX4_play_33 : decode cX4_play 33 = .ok (.invokevirtual 171, 3) := by decide +kernel
theorem dX4_play_36 : decode cX4_play 36 = .ok (.istore_n 2, 1) := by decide +kernel
theorem dX4_play_37 : decode cX4_play 37 = .ok (.aload_n 0, 1) := by decide +kernel
theorem dX4_play_38 : decode cX4_play 38 = .ok (.getfield 159, 3) := by decide +kernel
theorem dX4_play_41 : decode cX4_play 41 = .ok (.bipush 116, 2) := by decide +kernel
theorem dX4_play_43 : decode cX4_play 43 = .ok (.if_icmp .ne 14, 3) := by decide +kernel
theorem dX4_play_46 : decode cX4_play 46 = .ok (.aload_n 0, 1) := by decide +kernel
theorem dX4_play_47 : decode cX4_play 47 = .ok (.aload_n 0, 1) := by decide +kernel
theorem dX4_play_48 : decode cX4_play 48 = .ok (.getfield 156, 3) := by decide +kernel
theorem dX4_play_51 : decode cX4_play 51 = .ok (.invokevirtual 137, 3) := by decide +kernel
theorem dX4_play_54 : decode cX4_play 54 = .ok (.goto 72, 3) := by decide +kernel
theorem dX4_play_57 : decode cX4_play 57 = .ok (.aload_n 0, 1) := by decide +kernel
theorem dX4_play_58 : decode cX4_play 58 = .ok (.getfield 159, 3) := by decide +kernel
theorem dX4_play_61 : decode cX4_play 61 = .ok (.bipush 100, 2) := by decide +kernel
theorem dX4_play_63 : decode cX4_play 63 = .ok (.if_icmp .eq 12, 3) := by decide +kernel
theorem dX4_play_66 : decode cX4_play 66 = .ok (.aload_n 0, 1) := by decide +kernel
theorem dX4_play_67 : decode cX4_play 67 = .ok (.getfield 159, 3) := by decide +kernel
theorem dX4_play_70 : decode cX4_play 70 = .ok (.bipush 114, 2) := by decide +kernel
theorem dX4_play_72 : decode cX4_play 72 = .ok (.if_icmp .ne 28, 3) := by decide +kernel
theorem dX4_play_75 : decode cX4_play 75 = .ok (.aload_n 0, 1) := by decide +kernel
theorem dX4_play_76 : decode cX4_play 76 = .ok (.aload_n 0, 1) := by decide +kernel
theorem dX4_play_77 : decode cX4_play 77 = .ok (.getfield 149, 3) := by decide +kernel
theorem dX4_play_80 : decode cX4_play 80 = .ok (.aload_n 0, 1) := by decide +kernel
theorem dX4_play_81 : decode cX4_play 81 = .ok (.getfield 159, 3) := by decide +kernel
theorem dX4_play_84 : decode cX4_play 84 = .ok (.bipush 100, 2) := by decide +kernel
theorem dX4_play_86 : decode cX4_play 86 = .ok (.if_icmp .ne 7, 3) := by decide +kernel
theorem dX4_play_89 : decode cX4_play 89 = .ok (.iconst 1, 1) := by decide +kernel
theorem dX4_play_90 : decode cX4_play 90 = .ok (.goto 4, 3) := by decide +kernel
theorem dX4_play_93 : decode cX4_play 93 = .ok (.iconst 0, 1) := by decide +kernel
theorem dX4_play_94 : decode cX4_play 94 = .ok (.invokevirtual 99, 3) := by decide +kernel
theorem dX4_play_97 : decode cX4_play 97 = .ok (.goto 29, 3) := by decide +kernel
theorem dX4_play_100 : decode cX4_play 100 = .ok (.aload_n 0, 1) := by decide +kernel
theorem dX4_play_101 : decode cX4_play 101 = .ok (.aload_n 0, 1) := by decide +kernel
theorem dX4_play_102 : decode cX4_play 102 = .ok (.getfield 149, 3) := by decide +kernel
theorem dX4_play_105 : decode cX4_play 105 = .ok (.aload_n 0, 1) := by decide +kernel
theorem dX4_play_106 : decode cX4_play 106 = .ok (.getfield 156, 3) := by decide +kernel
theorem dX4_play_109 : decode cX4_play 109 = .ok (.aload_n 0, 1) := by decide +kernel
theorem dX4_play_110 : decode cX4_play 110 = .ok (.getfield 159, 3) := by decide +kernel
theorem dX4_play_113 : decode cX4_play 113 = .ok (.bipush 112, 2) := by decide +kernel
theorem dX4_play_115 : decode cX4_play 115 = .ok (.if_icmp .ne 7, 3) := by decide +kernel
theorem dX4_play_118 : decode cX4_play 118 = .ok (.iconst 1, 1) := by decide +kernel
theorem dX4_play_119 : decode cX4_play 119 = .ok (.goto 4, 3) := by decide +kernel
theorem dX4_play_122 : decode cX4_play 122 = .ok (.iconst 0, 1) := by decide +kernel
theorem dX4_play_123 : decode cX4_play 123 = .ok (.invokevirtual 103, 3) := by decide +kernel
theorem dX4_play_126 : decode cX4_play 126 = .ok (.istore_n 3, 1) := by decide +kernel
theorem dX4_play_127 : decode cX4_play 127 = .ok (.iinc 1 1, 3) := by decide +kernel
theorem dX4_play_130 : decode cX4_play 130 = .ok (.goto (-109), 3) := by decide +kernel
theorem dX4_play_133 : decode cX4_play 133 = .ok (.iload_n 1, 1) := by decide +kernel
theorem dX4_play_134 : decode cX4_play 134 = .ok (.ireturn, 1) := by decide +kernel
theorem dX4_speaking_0 : decode cX4_speaking 0 = .ok (.iconst 0, 1) := by decide +kernel
theorem dX4_speaking_1 : decode cX4_speaking 1 = .ok (.istore_n 2, 1) := by decide +kernel
theorem dX4_speaking_2 : decode cX4_speaking 2 = .ok (.iconst 0, 1) := by decide +kernel
theorem dX4_speaking_3 : decode cX4_speaking 3 = .ok (.istore_n 3, 1) := by decide +kernel
theorem dX4_speaking_4 : decode cX4_speaking 4 = .ok (.iload_n 3, 1) := by decide +kernel
theorem dX4_speaking_5 : decode cX4_speaking 5 = .ok (.sipush 192, 3) := by decide +kernel
theorem dX4_speaking_8 : decode cX4_speaking 8 = .ok (.if_icmp .ge 33, 3) := by decide +kernel
theorem dX4_speaking_11 : decode cX4_speaking 11 = .ok (.iload_n 2, 1) := by decide +kernel
theorem dX4_speaking_12 : decode cX4_speaking 12 = .ok (.aload_n 0, 1) := by decide +kernel
theorem dX4_speaking_13 : decode cX4_speaking 13 = .ok (.iload_n 3, 1) := by decide +kernel
theorem dX4_speaking_14 : decode cX4_speaking 14 = .ok (.bipush 24, 2) := by decide +kernel
theorem dX4_speaking_16 : decode cX4_speaking 16 = .ok (.idiv, 1) := by decide +kernel
theorem dX4_speaking_17 : decode cX4_speaking 17 = .ok (.iload_n 3, 1) := by decide +kernel
theorem dX4_speaking_18 : decode cX4_speaking 18 = .ok (.bipush 24, 2) := by decide +kernel
theorem dX4_speaking_20 : decode cX4_speaking 20 = .ok (.irem, 1) := by decide +kernel
theorem dX4_speaking_21 : decode cX4_speaking 21 = .ok (.iload_n 1, 1) := by decide +kernel
theorem dX4_speaking_22 : decode cX4_speaking 22 = .ok (.invokevirtual 179, 3) := by decide +kernel
theorem dX4_speaking_25 : decode cX4_speaking 25 = .ok (.ifCond .ne 7, 3) := by decide +kernel
theorem dX4_speaking_28 : decode cX4_speaking 28 = .ok (.iconst 1, 1) := by decide +kernel
theorem dX4_speaking_29 : decode cX4_speaking 29 = .ok (.goto 4, 3) := by decide +kernel
theorem dX4_speaking_32 : decode cX4_speaking 32 = .ok (.iconst 0, 1) := by decide +kernel
theorem dX4_speaking_33 : decode cX4_speaking 33 = .ok (.iadd, 1) := by decide +kernel
theorem dX4_speaking_34 : decode cX4_speaking 34 = .ok (.istore_n 2, 1) := by decide +kernel
theorem dX4_speaking_35 : decode cX4_speaking 35 = .ok (.iinc 3 1, 3) := by decide +kernel
theorem dX4_speaking_38 : decode cX4_speaking 38 = .ok (.goto (-34), 3) := by decide +kernel
theorem dX4_speaking_41 : decode cX4_speaking 41 = .ok (.iload_n 2, 1) := by decide +kernel
theorem dX4_speaking_42 : decode cX4_speaking 42 = .ok (.ireturn, 1) := by decide +kernel
theorem dX4_openMany_0 : decode cX4_openMany 0 = .ok (.iconst 0, 1) := by decide +kernel
theorem dX4_openMany_1 : decode cX4_openMany 1 = .ok (.istore_n 1, 1) := by decide +kernel
theorem dX4_openMany_2 : decode cX4_openMany 2 = .ok (.iconst 0, 1) := by decide +kernel
theorem dX4_openMany_3 : decode cX4_openMany 3 = .ok (.istore_n 2, 1) := by decide +kernel
theorem dX4_openMany_4 : decode cX4_openMany 4 = .ok (.iload_n 2, 1) := by decide +kernel
theorem dX4_openMany_5 : decode cX4_openMany 5 = .ok (.bipush 8, 2) := by decide +kernel
theorem dX4_openMany_7 : decode cX4_openMany 7 = .ok (.if_icmp .ge 21, 3) := by decide +kernel
theorem dX4_openMany_10 : decode cX4_openMany 10 = .ok (.iload_n 1, 1) := by decide +kernel
theorem dX4_openMany_11 : decode cX4_openMany 11 = .ok (.aload_n 0, 1) := by decide +kernel
theorem dX4_openMany_12 : decode cX4_openMany 12 = .ok (.getfield 41, 3) := by decide +kernel
theorem dX4_openMany_15 : decode cX4_openMany 15 = .ok (.iload_n 2, 1) := by decide +kernel
theorem dX4_openMany_16 : decode cX4_openMany 16 = .ok (.iaload, 1) := by decide +kernel
theorem dX4_openMany_17 : decode cX4_openMany 17 = .ok (.invokestatic 80, 3) := by decide +kernel
theorem dX4_openMany_20 : decode cX4_openMany 20 = .ok (.iadd, 1) := by decide +kernel
theorem dX4_openMany_21 : decode cX4_openMany 21 = .ok (.istore_n 1, 1) := by decide +kernel
theorem dX4_openMany_22 : decode cX4_openMany 22 = .ok (.iinc 2 1, 3) := by decide +kernel
theorem dX4_openMany_25 : decode cX4_openMany 25 = .ok (.goto (-21), 3) := by decide +kernel
theorem dX4_openMany_28 : decode cX4_openMany 28 = .ok (.iload_n 1, 1) := by decide +kernel
theorem dX4_openMany_29 : decode cX4_openMany 29 = .ok (.ireturn, 1) := by decide +kernel
theorem dX4_tells_0 : decode cX4_tells 0 = .ok (.aload_n 0, 1) := by decide +kernel
theorem dX4_tells_1 : decode cX4_tells 1 = .ok (.invokevirtual 131, 3) := by decide +kernel
theorem dX4_tells_4 : decode cX4_tells 4 = .ok (.iload_n 1, 1) := by decide +kernel
theorem dX4_tells_5 : decode cX4_tells 5 = .ok (.tableswitch 94 0 8 #[51, 58, 63, 63, 63, 63, 75, 80, 89], 51) := by decide +kernel
theorem dX4_tells_56 : decode cX4_tells 56 = .ok (.aload_n 0, 1) := by decide +kernel
theorem dX4_tells_57 : decode cX4_tells 57 = .ok (.getfield 7, 3) := by decide +kernel
theorem dX4_tells_60 : decode cX4_tells 60 = .ok (.iconst 0, 1) := by decide +kernel
theorem dX4_tells_61 : decode cX4_tells 61 = .ok (.iaload, 1) := by decide +kernel
theorem dX4_tells_62 : decode cX4_tells 62 = .ok (.ireturn, 1) := by decide +kernel
theorem dX4_tells_63 : decode cX4_tells 63 = .ok (.aload_n 0, 1) := by decide +kernel
theorem dX4_tells_64 : decode cX4_tells 64 = .ok (.invokevirtual 114, 3) := by decide +kernel
theorem dX4_tells_67 : decode cX4_tells 67 = .ok (.ireturn, 1) := by decide +kernel
theorem dX4_tells_68 : decode cX4_tells 68 = .ok (.aload_n 0, 1) := by decide +kernel
theorem dX4_tells_69 : decode cX4_tells 69 = .ok (.getfield 7, 3) := by decide +kernel
theorem dX4_tells_72 : decode cX4_tells 72 = .ok (.bipush 13, 2) := by decide +kernel
theorem dX4_tells_74 : decode cX4_tells 74 = .ok (.iload_n 1, 1) := by decide +kernel
theorem dX4_tells_75 : decode cX4_tells 75 = .ok (.iadd, 1) := by decide +kernel
theorem dX4_tells_76 : decode cX4_tells 76 = .ok (.iconst 2, 1) := by decide +kernel
theorem dX4_tells_77 : decode cX4_tells 77 = .ok (.isub, 1) := by decide +kernel
theorem dX4_tells_78 : decode cX4_tells 78 = .ok (.iaload, 1) := by decide +kernel
theorem dX4_tells_79 : decode cX4_tells 79 = .ok (.ireturn, 1) := by decide +kernel
theorem dX4_tells_80 : decode cX4_tells 80 = .ok (.aload_n 0, 1) := by decide +kernel
theorem dX4_tells_81 : decode cX4_tells 81 = .ok (.invokevirtual 183, 3) := by decide +kernel
theorem dX4_tells_84 : decode cX4_tells 84 = .ok (.ireturn, 1) := by decide +kernel
theorem dX4_tells_85 : decode cX4_tells 85 = .ok (.aload_n 0, 1) := by decide +kernel
theorem dX4_tells_86 : decode cX4_tells 86 = .ok (.aload_n 0, 1) := by decide +kernel
theorem dX4_tells_87 : decode cX4_tells 87 = .ok (.invokevirtual 96, 3) := by decide +kernel
theorem dX4_tells_90 : decode cX4_tells 90 = .ok (.invokevirtual 186, 3) := by decide +kernel
theorem dX4_tells_93 : decode cX4_tells 93 = .ok (.ireturn, 1) := by decide +kernel
theorem dX4_tells_94 : decode cX4_tells 94 = .ok (.aload_n 0, 1) := by decide +kernel
theorem dX4_tells_95 : decode cX4_tells 95 = .ok (.invokevirtual 87, 3) := by decide +kernel
theorem dX4_tells_98 : decode cX4_tells 98 = .ok (.ireturn, 1) := by decide +kernel
theorem dX4_tells_99 : decode cX4_tells 99 = .ok (.aload_n 0, 1) := by decide +kernel
theorem dX4_tells_100 : decode cX4_tells 100 = .ok (.getfield 7, 3) := by decide +kernel
theorem dX4_tells_103 : decode cX4_tells 103 = .ok (.bipush 20, 2) := by decide +kernel
theorem dX4_tells_105 : decode cX4_tells 105 = .ok (.iaload, 1) := by decide +kernel
theorem dX4_tells_106 : decode cX4_tells 106 = .ok (.ireturn, 1) := by decide +kernel
theorem dX4_tell_0 : decode cX4_tell 0 = .ok (.iload_n 1, 1) := by decide +kernel
theorem dX4_tell_1 : decode cX4_tell 1 = .ok (.iconst 0, 1) := by decide +kernel
theorem dX4_tell_2 : decode cX4_tell 2 = .ok (.bipush 9, 2) := by decide +kernel
theorem dX4_tell_4 : decode cX4_tell 4 = .ok (.invokestatic 59, 3) := by decide +kernel
theorem dX4_tell_7 : decode cX4_tell 7 = .ok (.ifCond .eq 11, 3) := by decide +kernel
theorem dX4_tell_10 : decode cX4_tell 10 = .ok (.aload_n 0, 1) := by decide +kernel
theorem dX4_tell_11 : decode cX4_tell 11 = .ok (.iload_n 1, 1) := by decide +kernel
theorem dX4_tell_12 : decode cX4_tell 12 = .ok (.invokevirtual 189, 3) := by decide +kernel
theorem dX4_tell_15 : decode cX4_tell 15 = .ok (.goto 5, 3) := by decide +kernel
theorem dX4_tell_18 : decode cX4_tell 18 = .ok (.ldc 71, 2) := by decide +kernel
theorem dX4_tell_20 : decode cX4_tell 20 = .ok (.ireturn, 1) := by decide +kernel
theorem dX4_chestTells_0 : decode cX4_chestTells 0 = .ok (.aload_n 0, 1) := by decide +kernel
theorem dX4_chestTells_1 : decode cX4_chestTells 1 = .ok (.invokevirtual 131, 3) := by decide +kernel
theorem dX4_chestTells_4 : decode cX4_chestTells 4 = .ok (.iload_n 2, 1) := by decide +kernel
theorem dX4_chestTells_5 : decode cX4_chestTells 5 = .ok (.ifCond .ne 12, 3) := by decide +kernel
theorem dX4_chestTells_8 : decode cX4_chestTells 8 = .ok (.aload_n 0, 1) := by decide +kernel
theorem dX4_chestTells_9 : decode cX4_chestTells 9 = .ok (.getfield 47, 3) := by decide +kernel
theorem dX4_chestTells_12 : decode cX4_chestTells 12 = .ok (.iload_n 1, 1) := by decide +kernel
theorem dX4_chestTells_13 : decode cX4_chestTells 13 = .ok (.iaload, 1) := by decide +kernel
theorem dX4_chestTells_14 : decode cX4_chestTells 14 = .ok (.goto 23, 3) := by decide +kernel
theorem dX4_chestTells_17 : decode cX4_chestTells 17 = .ok (.iload_n 2, 1) := by decide +kernel
theorem dX4_chestTells_18 : decode cX4_chestTells 18 = .ok (.iconst 1, 1) := by decide +kernel
theorem dX4_chestTells_19 : decode cX4_chestTells 19 = .ok (.if_icmp .ne 12, 3) := by decide +kernel
theorem dX4_chestTells_22 : decode cX4_chestTells 22 = .ok (.aload_n 0, 1) := by decide +kernel
theorem dX4_chestTells_23 : decode cX4_chestTells 23 = .ok (.getfield 44, 3) := by decide +kernel
theorem dX4_chestTells_26 : decode cX4_chestTells 26 = .ok (.iload_n 1, 1) := by decide +kernel
theorem dX4_chestTells_27 : decode cX4_chestTells 27 = .ok (.iaload, 1) := by decide +kernel
theorem dX4_chestTells_28 : decode cX4_chestTells 28 = .ok (.goto 9, 3) := by decide +kernel
theorem dX4_chestTells_31 : decode cX4_chestTells 31 = .ok (.aload_n 0, 1) := by decide +kernel
theorem dX4_chestTells_32 : decode cX4_chestTells 32 = .ok (.getfield 38, 3) := by decide +kernel
theorem dX4_chestTells_35 : decode cX4_chestTells 35 = .ok (.iload_n 1, 1) := by decide +kernel
theorem dX4_chestTells_36 : decode cX4_chestTells 36 = .ok (.iaload, 1) := by decide +kernel
theorem dX4_chestTells_37 : decode cX4_chestTells 37 = .ok (.ireturn, 1) := by decide +kernel
theorem dX4_chest_0 : decode cX4_chest 0 = .ok (.iload_n 1, 1) := by decide +kernel
theorem dX4_chest_1 : decode cX4_chest 1 = .ok (.iconst 0, 1) := by decide +kernel
theorem dX4_chest_2 : decode cX4_chest 2 = .ok (.iconst 1, 1) := by decide +kernel
theorem dX4_chest_3 : decode cX4_chest 3 = .ok (.invokestatic 59, 3) := by decide +kernel
theorem dX4_chest_6 : decode cX4_chest 6 = .ok (.ifCond .ne 6, 3) := by decide +kernel
theorem dX4_chest_9 : decode cX4_chest 9 = .ok (.ldc 71, 2) := by decide +kernel
theorem dX4_chest_11 : decode cX4_chest 11 = .ok (.ireturn, 1) := by decide +kernel
theorem dX4_chest_12 : decode cX4_chest 12 = .ok (.iload_n 2, 1) := by decide +kernel
theorem dX4_chest_13 : decode cX4_chest 13 = .ok (.iconst 0, 1) := by decide +kernel
theorem dX4_chest_14 : decode cX4_chest 14 = .ok (.iconst 2, 1) := by decide +kernel
theorem dX4_chest_15 : decode cX4_chest 15 = .ok (.invokestatic 59, 3) := by decide +kernel
theorem dX4_chest_18 : decode cX4_chest 18 = .ok (.ifCond .eq 12, 3) := by decide +kernel
theorem dX4_chest_21 : decode cX4_chest 21 = .ok (.aload_n 0, 1) := by decide +kernel
theorem dX4_chest_22 : decode cX4_chest 22 = .ok (.iload_n 1, 1) := by decide +kernel
theorem dX4_chest_23 : decode cX4_chest 23 = .ok (.iload_n 2, 1) := by decide +kernel
theorem dX4_chest_24 : decode cX4_chest 24 = .ok (.invokevirtual 192, 3) := by decide +kernel
theorem dX4_chest_27 : decode cX4_chest 27 = .ok (.goto 5, 3) := by decide +kernel
theorem dX4_chest_30 : decode cX4_chest 30 = .ok (.ldc 72, 2) := by decide +kernel
theorem dX4_chest_32 : decode cX4_chest 32 = .ok (.ireturn, 1) := by decide +kernel
theorem dX4_strokes_0 : decode cX4_strokes 0 = .ok (.iload_n 1, 1) := by decide +kernel
theorem dX4_strokes_1 : decode cX4_strokes 1 = .ok (.iconst 0, 1) := by decide +kernel
theorem dX4_strokes_2 : decode cX4_strokes 2 = .ok (.iconst 1, 1) := by decide +kernel
theorem dX4_strokes_3 : decode cX4_strokes 3 = .ok (.invokestatic 59, 3) := by decide +kernel
theorem dX4_strokes_6 : decode cX4_strokes 6 = .ok (.ifCond .eq 15, 3) := by decide +kernel
theorem dX4_strokes_9 : decode cX4_strokes 9 = .ok (.aload_n 0, 1) := by decide +kernel
theorem dX4_strokes_10 : decode cX4_strokes 10 = .ok (.getfield 7, 3) := by decide +kernel
theorem dX4_strokes_13 : decode cX4_strokes 13 = .ok (.bipush 18, 2) := by decide +kernel
theorem dX4_strokes_15 : decode cX4_strokes 15 = .ok (.iload_n 1, 1) := by decide +kernel
theorem dX4_strokes_16 : decode cX4_strokes 16 = .ok (.iadd, 1) := by decide +kernel
theorem dX4_strokes_17 : decode cX4_strokes 17 = .ok (.iaload, 1) := by decide +kernel
theorem dX4_strokes_18 : decode cX4_strokes 18 = .ok (.goto 5, 3) := by decide +kernel
theorem dX4_strokes_21 : decode cX4_strokes 21 = .ok (.ldc 71, 2) := by decide +kernel
theorem dX4_strokes_23 : decode cX4_strokes 23 = .ok (.ireturn, 1) := by decide +kernel
theorem dX4_pipeTells_0 : decode cX4_pipeTells 0 = .ok (.bipush 24, 2) := by decide +kernel
theorem dX4_pipeTells_2 : decode cX4_pipeTells 2 = .ok (.iload_n 1, 1) := by decide +kernel
theorem dX4_pipeTells_3 : decode cX4_pipeTells 3 = .ok (.imul, 1) := by decide +kernel
theorem dX4_pipeTells_4 : decode cX4_pipeTells 4 = .ok (.iload_n 2, 1) := by decide +kernel
theorem dX4_pipeTells_5 : decode cX4_pipeTells 5 = .ok (.iadd, 1) := by decide +kernel
theorem dX4_pipeTells_6 : decode cX4_pipeTells 6 = .ok (.istore 4, 2) := by decide +kernel
theorem dX4_pipeTells_8 : decode cX4_pipeTells 8 = .ok (.iload_n 3, 1) := by decide +kernel
theorem dX4_pipeTells_9 : decode cX4_pipeTells 9 = .ok (.iconst 2, 1) := by decide +kernel
theorem dX4_pipeTells_10 : decode cX4_pipeTells 10 = .ok (.if_icmp .ge 27, 3) := by decide +kernel
theorem dX4_pipeTells_13 : decode cX4_pipeTells 13 = .ok (.iload_n 3, 1) := by decide +kernel
theorem dX4_pipeTells_14 : decode cX4_pipeTells 14 = .ok (.ifCond .ne 12, 3) := by decide +kernel
theorem dX4_pipeTells_17 : decode cX4_pipeTells 17 = .ok (.aload_n 0, 1) := by decide +kernel
theorem dX4_pipeTells_18 : decode cX4_pipeTells 18 = .ok (.iload_n 1, 1) := by decide +kernel
theorem dX4_pipeTells_19 : decode cX4_pipeTells 19 = .ok (.iload_n 2, 1) := by decide +kernel
theorem dX4_pipeTells_20 : decode cX4_pipeTells 20 = .ok (.invokevirtual 111, 3) := by decide +kernel
theorem dX4_pipeTells_23 : decode cX4_pipeTells 23 = .ok (.goto 13, 3) := by decide +kernel
theorem dX4_pipeTells_26 : decode cX4_pipeTells 26 = .ok (.aload_n 0, 1) := by decide +kernel
theorem dX4_pipeTells_27 : decode cX4_pipeTells 27 = .ok (.getfield 7, 3) := by decide +kernel
theorem dX4_pipeTells_30 : decode cX4_pipeTells 30 = .ok (.bipush 64, 2) := by decide +kernel
theorem dX4_pipeTells_32 : decode cX4_pipeTells 32 = .ok (.iload 4, 2) := by decide +kernel
theorem dX4_pipeTells_34 : decode cX4_pipeTells 34 = .ok (.iadd, 1) := by decide +kernel
theorem dX4_pipeTells_35 : decode cX4_pipeTells 35 = .ok (.iaload, 1) := by decide +kernel
theorem dX4_pipeTells_36 : decode cX4_pipeTells 36 = .ok (.ireturn, 1) := by decide +kernel
theorem dX4_pipeTells_37 : decode cX4_pipeTells 37 = .ok (.aload_n 0, 1) := by decide +kernel
theorem dX4_pipeTells_38 : decode cX4_pipeTells 38 = .ok (.invokevirtual 131, 3) := by decide +kernel
theorem dX4_pipeTells_41 : decode cX4_pipeTells 41 = .ok (.aload_n 0, 1) := by decide +kernel
theorem dX4_pipeTells_42 : decode cX4_pipeTells 42 = .ok (.iload_n 1, 1) := by decide +kernel
theorem dX4_pipeTells_43 : decode cX4_pipeTells 43 = .ok (.iload_n 2, 1) := by decide +kernel
theorem dX4_pipeTells_44 : decode cX4_pipeTells 44 = .ok (.invokevirtual 121, 3) := by decide +kernel
theorem dX4_pipeTells_47 : decode cX4_pipeTells 47 = .ok (.ifCond .ne 8, 3) := by decide +kernel
theorem dX4_pipeTells_50 : decode cX4_pipeTells 50 = .ok (.ldc 177, 2) := by decide +kernel
theorem dX4_pipeTells_52 : decode cX4_pipeTells 52 = .ok (.goto 39, 3) := by decide +kernel
theorem dX4_pipeTells_55 : decode cX4_pipeTells 55 = .ok (.iload_n 3, 1) := by decide +kernel
theorem dX4_pipeTells_56 : decode cX4_pipeTells 56 = .ok (.iconst 2, 1) := by decide +kernel
theorem dX4_pipeTells_57 : decode cX4_pipeTells 57 = .ok (.if_icmp .ne 13, 3) := by decide +kernel
theorem dX4_pipeTells_60 : decode cX4_pipeTells 60 = .ok (.aload_n 0, 1) := by decide +kernel
theorem dX4_pipeTells_61 : decode cX4_pipeTells 61 = .ok (.getfield 50, 3) := by decide +kernel
theorem dX4_pipeTells_64 : decode cX4_pipeTells 64 = .ok (.iload 4, 2) := by decide +kernel
theorem dX4_pipeTells_66 : decode cX4_pipeTells 66 = .ok (.iaload, 1) := by decide +kernel
theorem dX4_pipeTells_67 : decode cX4_pipeTells 67 = .ok (.goto 24, 3) := by decide +kernel
theorem dX4_pipeTells_70 : decode cX4_pipeTells 70 = .ok (.iload_n 3, 1) := by decide +kernel
theorem dX4_pipeTells_71 : decode cX4_pipeTells 71 = .ok (.iconst 3, 1) := by decide +kernel
theorem dX4_pipeTells_72 : decode cX4_pipeTells 72 = .ok (.if_icmp .ne 13, 3) := by decide +kernel
theorem dX4_pipeTells_75 : decode cX4_pipeTells 75 = .ok (.aload_n 0, 1) := by decide +kernel
theorem dX4_pipeTells_76 : decode cX4_pipeTells 76 = .ok (.getfield 53, 3) := by decide +kernel
theorem dX4_pipeTells_79 : decode cX4_pipeTells 79 = .ok (.iload 4, 2) := by decide +kernel
theorem dX4_pipeTells_81 : decode cX4_pipeTells 81 = .ok (.iaload, 1) := by decide +kernel
theorem dX4_pipeTells_82 : decode cX4_pipeTells 82 = .ok (.goto 9, 3) := by decide +kernel
theorem dX4_pipeTells_85 : decode cX4_pipeTells 85 = .ok (.aload_n 0, 1) := by decide +kernel
theorem dX4_pipeTells_86 : decode cX4_pipeTells 86 = .ok (.iload_n 1, 1) := by decide +kernel
theorem dX4_pipeTells_87 : decode cX4_pipeTells 87 = .ok (.iload_n 2, 1) := by decide +kernel
theorem dX4_pipeTells_88 : decode cX4_pipeTells 88 = .ok (.invokevirtual 195, 3) := by decide +kernel
theorem dX4_pipeTells_91 : decode cX4_pipeTells 91 = .ok (.ireturn, 1) := by decide +kernel
theorem dX4_pipe_0 : decode cX4_pipe 0 = .ok (.iload_n 1, 1) := by decide +kernel
theorem dX4_pipe_1 : decode cX4_pipe 1 = .ok (.invokestatic 67, 3) := by decide +kernel
theorem dX4_pipe_4 : decode cX4_pipe 4 = .ok (.ifCond .eq 10, 3) := by decide +kernel
theorem dX4_pipe_7 : decode cX4_pipe 7 = .ok (.iload_n 2, 1) := by decide +kernel
theorem dX4_pipe_8 : decode cX4_pipe 8 = .ok (.invokestatic 84, 3) := by decide +kernel
theorem dX4_pipe_11 : decode cX4_pipe 11 = .ok (.ifCond .ne 6, 3) := by decide +kernel
theorem dX4_pipe_14 : decode cX4_pipe 14 = .ok (.ldc 71, 2) := by decide +kernel
theorem dX4_pipe_16 : decode cX4_pipe 16 = .ok (.ireturn, 1) := by decide +kernel
theorem dX4_pipe_17 : decode cX4_pipe 17 = .ok (.iload_n 3, 1) := by decide +kernel
theorem dX4_pipe_18 : decode cX4_pipe 18 = .ok (.iconst 0, 1) := by decide +kernel
theorem dX4_pipe_19 : decode cX4_pipe 19 = .ok (.iconst 4, 1) := by decide +kernel
theorem dX4_pipe_20 : decode cX4_pipe 20 = .ok (.invokestatic 59, 3) := by decide +kernel
theorem dX4_pipe_23 : decode cX4_pipe 23 = .ok (.ifCond .eq 13, 3) := by decide +kernel
theorem dX4_pipe_26 : decode cX4_pipe 26 = .ok (.aload_n 0, 1) := by decide +kernel
theorem dX4_pipe_27 : decode cX4_pipe 27 = .ok (.iload_n 1, 1) := by decide +kernel
theorem dX4_pipe_28 : decode cX4_pipe 28 = .ok (.iload_n 2, 1) := by decide +kernel
theorem dX4_pipe_29 : decode cX4_pipe 29 = .ok (.iload_n 3, 1) := by decide +kernel
theorem dX4_pipe_30 : decode cX4_pipe 30 = .ok (.invokevirtual 198, 3) := by decide +kernel
theorem dX4_pipe_33 : decode cX4_pipe 33 = .ok (.goto 5, 3) := by decide +kernel
theorem dX4_pipe_36 : decode cX4_pipe 36 = .ok (.ldc 72, 2) := by decide +kernel
theorem dX4_pipe_38 : decode cX4_pipe 38 = .ok (.ireturn, 1) := by decide +kernel
theorem dX4_reasonNow_0 : decode cX4_reasonNow 0 = .ok (.aload_n 0, 1) := by decide +kernel
theorem dX4_reasonNow_1 : decode cX4_reasonNow 1 = .ok (.invokevirtual 131, 3) := by decide +kernel
theorem dX4_reasonNow_4 : decode cX4_reasonNow 4 = .ok (.aload_n 0, 1) := by decide +kernel
theorem dX4_reasonNow_5 : decode cX4_reasonNow 5 = .ok (.iload_n 1, 1) := by decide +kernel
theorem dX4_reasonNow_6 : decode cX4_reasonNow 6 = .ok (.iload_n 2, 1) := by decide +kernel
theorem dX4_reasonNow_7 : decode cX4_reasonNow 7 = .ok (.aload_n 0, 1) := by decide +kernel
theorem dX4_reasonNow_8 : decode cX4_reasonNow 8 = .ok (.invokevirtual 96, 3) := by decide +kernel
theorem dX4_reasonNow_11 : decode cX4_reasonNow 11 = .ok (.invokevirtual 179, 3) := by decide +kernel
theorem dX4_reasonNow_14 : decode cX4_reasonNow 14 = .ok (.ireturn, 1) := by decide +kernel
theorem dX4_reason_0 : decode cX4_reason 0 = .ok (.iload_n 1, 1) := by decide +kernel
theorem dX4_reason_1 : decode cX4_reason 1 = .ok (.invokestatic 67, 3) := by decide +kernel
theorem dX4_reason_4 : decode cX4_reason 4 = .ok (.ifCond .eq 19, 3) := by decide +kernel
theorem dX4_reason_7 : decode cX4_reason 7 = .ok (.iload_n 2, 1) := by decide +kernel
theorem dX4_reason_8 : decode cX4_reason 8 = .ok (.invokestatic 84, 3) := by decide +kernel
theorem dX4_reason_11 : decode cX4_reason 11 = .ok (.ifCond .eq 12, 3) := by decide +kernel
theorem dX4_reason_14 : decode cX4_reason 14 = .ok (.aload_n 0, 1) := by decide +kernel
theorem dX4_reason_15 : decode cX4_reason 15 = .ok (.iload_n 1, 1) := by decide +kernel
theorem dX4_reason_16 : decode cX4_reason 16 = .ok (.iload_n 2, 1) := by decide +kernel
theorem dX4_reason_17 : decode cX4_reason 17 = .ok (.invokevirtual 201, 3) := by decide +kernel
theorem dX4_reason_20 : decode cX4_reason 20 = .ok (.goto 5, 3) := by decide +kernel
theorem dX4_reason_23 : decode cX4_reason 23 = .ok (.ldc 71, 2) := by decide +kernel
theorem dX4_reason_25 : decode cX4_reason 25 = .ok (.ireturn, 1) := by decide +kernel
theorem dX4_tune_0 : decode cX4_tune 0 = .ok (.iload_n 1, 1) := by decide +kernel
theorem dX4_tune_1 : decode cX4_tune 1 = .ok (.invokestatic 67, 3) := by decide +kernel
theorem dX4_tune_4 : decode cX4_tune 4 = .ok (.ifCond .eq 10, 3) := by decide +kernel
theorem dX4_tune_7 : decode cX4_tune 7 = .ok (.iload_n 2, 1) := by decide +kernel
theorem dX4_tune_8 : decode cX4_tune 8 = .ok (.invokestatic 84, 3) := by decide +kernel
theorem dX4_tune_11 : decode cX4_tune 11 = .ok (.ifCond .ne 6, 3) := by decide +kernel
theorem dX4_tune_14 : decode cX4_tune 14 = .ok (.ldc 71, 2) := by decide +kernel
theorem dX4_tune_16 : decode cX4_tune 16 = .ok (.ireturn, 1) := by decide +kernel
theorem dX4_tune_17 : decode cX4_tune 17 = .ok (.aload_n 0, 1) := by decide +kernel
theorem dX4_tune_18 : decode cX4_tune 18 = .ok (.iload_n 1, 1) := by decide +kernel
theorem dX4_tune_19 : decode cX4_tune 19 = .ok (.iload_n 2, 1) := by decide +kernel
theorem dX4_tune_20 : decode cX4_tune 20 = .ok (.invokevirtual 201, 3) := by decide +kernel
theorem dX4_tune_23 : decode cX4_tune 23 = .ok (.ifCond .ne 21, 3) := by decide +kernel
theorem dX4_tune_26 : decode cX4_tune 26 = .ok (.aload_n 0, 1) := by decide +kernel
theorem dX4_tune_27 : decode cX4_tune 27 = .ok (.iload_n 1, 1) := by decide +kernel
theorem dX4_tune_28 : decode cX4_tune 28 = .ok (.invokevirtual 125, 3) := by decide +kernel
theorem dX4_tune_31 : decode cX4_tune 31 = .ok (.ineg, 1) := by decide +kernel
theorem dX4_tune_32 : decode cX4_tune 32 = .ok (.sipush (-200), 3) := by decide +kernel
theorem dX4_tune_35 : decode cX4_tune 35 = .ok (.sipush 200, 3) := by decide +kernel
theorem dX4_tune_38 : decode cX4_tune 38 = .ok (.invokestatic 59, 3) := by decide +kernel
theorem dX4_tune_41 : decode cX4_tune 41 = .ok (.ifCond .ne 6, 3) := by decide +kernel
theorem dX4_tune_44 : decode cX4_tune 44 = .ok (.ldc 178, 2) := by decide +kernel
theorem dX4_tune_46 : decode cX4_tune 46 = .ok (.ireturn, 1) := by decide +kernel
theorem dX4_tune_47 : decode cX4_tune 47 = .ok (.aload_n 0, 1) := by decide +kernel
theorem dX4_tune_48 : decode cX4_tune 48 = .ok (.invokevirtual 73, 3) := by decide +kernel
theorem dX4_tune_51 : decode cX4_tune 51 = .ok (.aload_n 0, 1) := by decide +kernel
theorem dX4_tune_52 : decode cX4_tune 52 = .ok (.bipush 64, 2) := by decide +kernel
theorem dX4_tune_54 : decode cX4_tune 54 = .ok (.bipush 24, 2) := by decide +kernel
theorem dX4_tune_56 : decode cX4_tune 56 = .ok (.iload_n 1, 1) := by decide +kernel
theorem dX4_tune_57 : decode cX4_tune 57 = .ok (.imul, 1) := by decide +kernel
theorem dX4_tune_58 : decode cX4_tune 58 = .ok (.iadd, 1) := by decide +kernel
theorem dX4_tune_59 : decode cX4_tune 59 = .ok (.iload_n 2, 1) := by decide +kernel
theorem dX4_tune_60 : decode cX4_tune 60 = .ok (.iadd, 1) := by decide +kernel
theorem dX4_tune_61 : decode cX4_tune 61 = .ok (.aload_n 0, 1) := by decide +kernel
theorem dX4_tune_62 : decode cX4_tune 62 = .ok (.iload_n 1, 1) := by decide +kernel
theorem dX4_tune_63 : decode cX4_tune 63 = .ok (.invokevirtual 125, 3) := by decide +kernel
theorem dX4_tune_66 : decode cX4_tune 66 = .ok (.ineg, 1) := by decide +kernel
theorem dX4_tune_67 : decode cX4_tune 67 = .ok (.invokevirtual 76, 3) := by decide +kernel
theorem dX4_tune_70 : decode cX4_tune 70 = .ok (.ireturn, 1) := by decide +kernel
theorem dX4_mistunedNow_0 : decode cX4_mistunedNow 0 = .ok (.aload_n 0, 1) := by decide +kernel
theorem dX4_mistunedNow_1 : decode cX4_mistunedNow 1 = .ok (.invokevirtual 131, 3) := by decide +kernel
theorem dX4_mistunedNow_4 : decode cX4_mistunedNow 4 = .ok (.aload_n 0, 1) := by decide +kernel
theorem dX4_mistunedNow_5 : decode cX4_mistunedNow 5 = .ok (.invokevirtual 96, 3) := by decide +kernel
theorem dX4_mistunedNow_8 : decode cX4_mistunedNow 8 = .ok (.istore_n 1, 1) := by decide +kernel
theorem dX4_mistunedNow_9 : decode cX4_mistunedNow 9 = .ok (.iconst 0, 1) := by decide +kernel
theorem dX4_mistunedNow_10 : decode cX4_mistunedNow 10 = .ok (.istore_n 2, 1) := by decide +kernel
theorem dX4_mistunedNow_11 : decode cX4_mistunedNow 11 = .ok (.iconst 0, 1) := by decide +kernel
theorem dX4_mistunedNow_12 : decode cX4_mistunedNow 12 = .ok (.istore_n 3, 1) := by decide +kernel
theorem dX4_mistunedNow_13 : decode cX4_mistunedNow 13 = .ok (.iconst 0, 1) := by decide +kernel
theorem dX4_mistunedNow_14 : decode cX4_mistunedNow 14 = .ok (.istore 4, 2) := by decide +kernel
theorem dX4_mistunedNow_16 : decode cX4_mistunedNow 16 = .ok (.iconst 0, 1) := by decide +kernel
theorem dX4_mistunedNow_17 : decode cX4_mistunedNow 17 = .ok (.istore 5, 2) := by decide +kernel
theorem dX4_mistunedNow_19 : decode cX4_mistunedNow 19 = .ok (.iload 5, 2) := by decide +kernel
theorem dX4_mistunedNow_21 : decode cX4_mistunedNow 21 = .ok (.sipush 192, 3) := by decide +kernel
theorem dX4_mistunedNow_24 : decode cX4_mistunedNow 24 = .ok (.if_icmp .ge 82, 3) := by decide +kernel
theorem dX4_mistunedNow_27 : decode cX4_mistunedNow 27 = .ok (.aload_n 0, 1) := by decide +kernel
theorem dX4_mistunedNow_28 : decode cX4_mistunedNow 28 = .ok (.iload 5, 2) := by decide +kernel
theorem dX4_mistunedNow_30 : decode cX4_mistunedNow 30 = .ok (.bipush 24, 2) := by decide +kernel
theorem dX4_mistunedNow_32 : decode cX4_mistunedNow 32 = .ok (.idiv, 1) := by decide +kernel
theorem dX4_mistunedNow_33 : decode cX4_mistunedNow 33 = .ok (.iload 5, 2) := by decide +kernel
theorem dX4_mistunedNow_35 : decode cX4_mistunedNow 35 = .ok (.bipush 24, 2) := by decide +kernel
theorem dX4_mistunedNow_37 : decode cX4_mistunedNow 37 = .ok (.irem, 1) := by decide +kernel
theorem dX4_mistunedNow_38 : decode cX4_mistunedNow 38 = .ok (.iload_n 1, 1) := by decide +kernel
theorem dX4_mistunedNow_39 : decode cX4_mistunedNow 39 = .ok (.invokevirtual 179, 3) := by decide +kernel
theorem dX4_mistunedNow_42 : decode cX4_mistunedNow 42 = .ok (.ifCond .ne 58, 3) := by decide +kernel
theorem dX4_mistunedNow_45 : decode cX4_mistunedNow 45 = .ok (.aload_n 0, 1) := by decide +kernel
theorem dX4_mistunedNow_46 : decode cX4_mistunedNow 46 = .ok (.iload 5, 2) := by decide +kernel
theorem dX4_mistunedNow_48 : decode cX4_mistunedNow 48 = .ok (.bipush 24, 2) := by decide +kernel
theorem dX4_mistunedNow_50 : decode cX4_mistunedNow 50 = .ok (.idiv, 1) := by decide +kernel
theorem dX4_mistunedNow_51 : decode cX4_mistunedNow 51 = .ok (.iload 5, 2) := by decide +kernel
theorem dX4_mistunedNow_53 : decode cX4_mistunedNow 53 = .ok (.bipush 24, 2) := by decide +kernel
theorem dX4_mistunedNow_55 : decode cX4_mistunedNow 55 = .ok (.irem, 1) := by decide +kernel
theorem dX4_mistunedNow_56 : decode cX4_mistunedNow 56 = .ok (.invokevirtual 195, 3) := by decide +kernel
theorem dX4_mistunedNow_59 : decode cX4_mistunedNow 59 = .ok (.istore 6, 2) := by decide +kernel
theorem dX4_mistunedNow_61 : decode cX4_mistunedNow 61 = .ok (.iload 4, 2) := by decide +kernel
theorem dX4_mistunedNow_63 : decode cX4_mistunedNow 63 = .ok (.ifCond .eq 9, 3) := by decide +kernel
theorem dX4_mistunedNow_66 : decode cX4_mistunedNow 66 = .ok (.iload 6, 2) := by decide +kernel
theorem dX4_mistunedNow_68 : decode cX4_mistunedNow 68 = .ok (.iload_n 2, 1) := by decide +kernel
theorem dX4_mistunedNow_69 : decode cX4_mistunedNow 69 = .ok (.if_icmp .ge 8, 3) := by decide +kernel
theorem dX4_mistunedNow_72 : decode cX4_mistunedNow 72 = .ok (.iload 6, 2) := by decide +kernel
theorem dX4_mistunedNow_74 : decode cX4_mistunedNow 74 = .ok (.goto 4, 3) := by decide +kernel
theorem dX4_mistunedNow_77 : decode cX4_mistunedNow 77 = .ok (.iload_n 2, 1) := by decide +kernel
theorem dX4_mistunedNow_78 : decode cX4_mistunedNow 78 = .ok (.istore_n 2, 1) := by decide +kernel
theorem dX4_mistunedNow_79 : decode cX4_mistunedNow 79 = .ok (.iload 4, 2) := by decide +kernel
theorem dX4_mistunedNow_81 : decode cX4_mistunedNow 81 = .ok (.ifCond .eq 9, 3) := by decide +kernel
theorem dX4_mistunedNow_84 : decode cX4_mistunedNow 84 = .ok (.iload 6, 2) := by decide +kernel
theorem dX4_mistunedNow_86 : decode cX4_mistunedNow 86 = .ok (.iload_n 3, 1) := by decide +kernel
theorem dX4_mistunedNow_87 : decode cX4_mistunedNow 87 = .ok (.if_icmp .le 8, 3) := by decide +kernel
theorem dX4_mistunedNow_90 : decode cX4_mistunedNow 90 = .ok (.iload 6, 2) := by decide +kernel
theorem dX4_mistunedNow_92 : decode cX4_mistunedNow 92 = .ok (.goto 4, 3) := by decide +kernel
theorem dX4_mistunedNow_95 : decode cX4_mistunedNow 95 = .ok (.iload_n 3, 1) := by decide +kernel
theorem dX4_mistunedNow_96 : decode cX4_mistunedNow 96 = .ok (.istore_n 3, 1) := by decide +kernel
theorem dX4_mistunedNow_97 : decode cX4_mistunedNow 97 = .ok (.iconst 1, 1) := by decide +kernel
theorem dX4_mistunedNow_98 : decode cX4_mistunedNow 98 = .ok (.istore 4, 2) := by decide +kernel
theorem dX4_mistunedNow_100 : decode cX4_mistunedNow 100 = .ok (.iinc 5 1, 3) := by decide +kernel
theorem dX4_mistunedNow_103 : decode cX4_mistunedNow 103 = .ok (.goto (-84), 3) := by decide +kernel
theorem dX4_mistunedNow_106 : decode cX4_mistunedNow 106 = .ok (.iload 4, 2) := by decide +kernel
theorem dX4_mistunedNow_108 : decode cX4_mistunedNow 108 = .ok (.ifCond .eq 9, 3) := by decide +kernel
theorem dX4_mistunedNow_111 : decode cX4_mistunedNow 111 = .ok (.iload_n 3, 1) := by decide +kernel
theorem dX4_mistunedNow_112 : decode cX4_mistunedNow 112 = .ok (.iload_n 2, 1) := by decide +kernel
theorem dX4_mistunedNow_113 : decode cX4_mistunedNow 113 = .ok (.isub, 1) := by decide +kernel
theorem dX4_mistunedNow_114 : decode cX4_mistunedNow 114 = .ok (.goto 5, 3) := by decide +kernel
theorem dX4_mistunedNow_117 : decode cX4_mistunedNow 117 = .ok (.ldc 177, 2) := by decide +kernel
theorem dX4_mistunedNow_119 : decode cX4_mistunedNow 119 = .ok (.ireturn, 1) := by decide +kernel
theorem dX4_mistuned_0 : decode cX4_mistuned 0 = .ok (.aload_n 0, 1) := by decide +kernel
theorem dX4_mistuned_1 : decode cX4_mistuned 1 = .ok (.invokevirtual 204, 3) := by decide +kernel
theorem dX4_mistuned_4 : decode cX4_mistuned 4 = .ok (.ireturn, 1) := by decide +kernel
theorem dX4_isHeard_0 : decode cX4_isHeard 0 = .ok (.iconst 0, 1) := by decide +kernel
theorem dX4_isHeard_1 : decode cX4_isHeard 1 = .ok (.istore_n 3, 1) := by decide +kernel
theorem dX4_isHeard_2 : decode cX4_isHeard 2 = .ok (.iload_n 1, 1) := by decide +kernel
theorem dX4_isHeard_3 : decode cX4_isHeard 3 = .ok (.istore 4, 2) := by decide +kernel
theorem dX4_isHeard_5 : decode cX4_isHeard 5 = .ok (.iload 4, 2) := by decide +kernel
theorem dX4_isHeard_7 : decode cX4_isHeard 7 = .ok (.iload_n 2, 1) := by decide +kernel
theorem dX4_isHeard_8 : decode cX4_isHeard 8 = .ok (.if_icmp .gt 16, 3) := by decide +kernel
theorem dX4_isHeard_11 : decode cX4_isHeard 11 = .ok (.iload_n 3, 1) := by decide +kernel
theorem dX4_isHeard_12 : decode cX4_isHeard 12 = .ok (.iconst 1, 1) := by decide +kernel
theorem dX4_isHeard_13 : decode cX4_isHeard 13 = .ok (.iload 4, 2) := by decide +kernel
theorem dX4_isHeard_15 : decode cX4_isHeard 15 = .ok (.ishl, 1) := by decide +kernel
theorem dX4_isHeard_16 : decode cX4_isHeard 16 = .ok (.ior, 1) := by decide +kernel
theorem dX4_isHeard_17 : decode cX4_isHeard 17 = .ok (.istore_n 3, 1) := by decide +kernel
theorem dX4_isHeard_18 : decode cX4_isHeard 18 = .ok (.iinc 4 1, 3) := by decide +kernel
theorem dX4_isHeard_21 : decode cX4_isHeard 21 = .ok (.goto (-16), 3) := by decide +kernel
theorem dX4_isHeard_24 : decode cX4_isHeard 24 = .ok (.aload_n 0, 1) := by decide +kernel
theorem dX4_isHeard_25 : decode cX4_isHeard 25 = .ok (.iload_n 3, 1) := by decide +kernel
theorem dX4_isHeard_26 : decode cX4_isHeard 26 = .ok (.iconst 0, 1) := by decide +kernel
theorem dX4_isHeard_27 : decode cX4_isHeard 27 = .ok (.invokevirtual 117, 3) := by decide +kernel
theorem dX4_isHeard_30 : decode cX4_isHeard 30 = .ok (.aload_n 0, 1) := by decide +kernel
theorem dX4_isHeard_31 : decode cX4_isHeard 31 = .ok (.iload_n 3, 1) := by decide +kernel
theorem dX4_isHeard_32 : decode cX4_isHeard 32 = .ok (.invokevirtual 186, 3) := by decide +kernel
theorem dX4_isHeard_35 : decode cX4_isHeard 35 = .ok (.ifCond .le 7, 3) := by decide +kernel
theorem dX4_isHeard_38 : decode cX4_isHeard 38 = .ok (.iconst 1, 1) := by decide +kernel
theorem dX4_isHeard_39 : decode cX4_isHeard 39 = .ok (.goto 4, 3) := by decide +kernel
theorem dX4_isHeard_42 : decode cX4_isHeard 42 = .ok (.iconst 0, 1) := by decide +kernel
theorem dX4_isHeard_43 : decode cX4_isHeard 43 = .ok (.ireturn, 1) := by decide +kernel
theorem dX4_searches_0 : decode cX4_searches 0 = .ok (.iconst 0, 1) := by decide +kernel
theorem dX4_searches_1 : decode cX4_searches 1 = .ok (.istore_n 2, 1) := by decide +kernel
theorem dX4_searches_2 : decode cX4_searches 2 = .ok (.bipush 7, 2) := by decide +kernel
theorem dX4_searches_4 : decode cX4_searches 4 = .ok (.istore_n 3, 1) := by decide +kernel
theorem dX4_searches_5 : decode cX4_searches 5 = .ok (.iconst 1, 1) := by decide +kernel
theorem dX4_searches_6 : decode cX4_searches 6 = .ok (.istore 4, 2) := by decide +kernel
theorem dX4_searches_8 : decode cX4_searches 8 = .ok (.aload_n 0, 1) := by decide +kernel
theorem dX4_searches_9 : decode cX4_searches 9 = .ok (.iconst 0, 1) := by decide +kernel
theorem dX4_searches_10 : decode cX4_searches 10 = .ok (.bipush 7, 2) := by decide +kernel
theorem dX4_searches_12 : decode cX4_searches 12 = .ok (.invokevirtual 207, 3) := by decide +kernel
theorem dX4_searches_15 : decode cX4_searches 15 = .ok (.ifCond .ne 16, 3) := by decide +kernel
theorem dX4_searches_18 : decode cX4_searches 18 = .ok (.iload_n 1, 1) := by decide +kernel
theorem dX4_searches_19 : decode cX4_searches 19 = .ok (.iconst 1, 1) := by decide +kernel
theorem dX4_searches_20 : decode cX4_searches 20 = .ok (.if_icmp .ne 8, 3) := by decide +kernel
theorem dX4_searches_23 : decode cX4_searches 23 = .ok (.iload 4, 2) := by decide +kernel
theorem dX4_searches_25 : decode cX4_searches 25 = .ok (.goto 5, 3) := by decide +kernel
theorem dX4_searches_28 : decode cX4_searches 28 = .ok (.ldc 177, 2) := by decide +kernel
theorem dX4_searches_30 : decode cX4_searches 30 = .ok (.ireturn, 1) := by decide +kernel
theorem dX4_searches_31 : decode cX4_searches 31 = .ok (.iload_n 2, 1) := by decide +kernel
theorem dX4_searches_32 : decode cX4_searches 32 = .ok (.iload_n 3, 1) := by decide +kernel
theorem dX4_searches_33 : decode cX4_searches 33 = .ok (.if_icmp .ge 43, 3) := by decide +kernel
theorem dX4_searches_36 : decode cX4_searches 36 = .ok (.iload_n 2, 1) := by decide +kernel
theorem dX4_searches_37 : decode cX4_searches 37 = .ok (.iload_n 3, 1) := by decide +kernel
theorem dX4_searches_38 : decode cX4_searches 38 = .ok (.iload_n 2, 1) := by decide +kernel
theorem dX4_searches_39 : decode cX4_searches 39 = .ok (.isub, 1) := by decide +kernel
theorem dX4_searches_40 : decode cX4_searches 40 = .ok (.iconst 1, 1) := by decide +kernel
theorem dX4_searches_41 : decode cX4_searches 41 = .ok (.iadd, 1) := by decide +kernel
theorem dX4_searches_42 : decode cX4_searches 42 = .ok (.iconst 2, 1) := by decide +kernel
theorem dX4_searches_43 : decode cX4_searches 43 = .ok (.idiv, 1) := by decide +kernel
theorem dX4_searches_44 : decode cX4_searches 44 = .ok (.iadd, 1) := by decide +kernel
theorem dX4_searches_45 : decode cX4_searches 45 = .ok (.istore 5, 2) := by decide +kernel
theorem dX4_searches_47 : decode cX4_searches 47 = .ok (.iinc 4 1, 3) := by decide +kernel
theorem dX4_searches_50 : decode cX4_searches 50 = .ok (.aload_n 0, 1) := by decide +kernel
theorem dX4_searches_51 : decode cX4_searches 51 = .ok (.iload_n 2, 1) := by decide +kernel
theorem dX4_searches_52 : decode cX4_searches 52 = .ok (.iload 5, 2) := by decide +kernel
theorem dX4_searches_54 : decode cX4_searches 54 = .ok (.iconst 1, 1) := by decide +kernel
theorem dX4_searches_55 : decode cX4_searches 55 = .ok (.isub, 1) := by decide +kernel
theorem dX4_searches_56 : decode cX4_searches 56 = .ok (.invokevirtual 207, 3) := by decide +kernel
theorem dX4_searches_59 : decode cX4_searches 59 = .ok (.ifCond .eq 11, 3) := by decide +kernel
theorem dX4_searches_62 : decode cX4_searches 62 = .ok (.iload 5, 2) := by decide +kernel
theorem dX4_searches_64 : decode cX4_searches 64 = .ok (.iconst 1, 1) := by decide +kernel
theorem dX4_searches_65 : decode cX4_searches 65 = .ok (.isub, 1) := by decide +kernel
theorem dX4_searches_66 : decode cX4_searches 66 = .ok (.istore_n 3, 1) := by decide +kernel
theorem dX4_searches_67 : decode cX4_searches 67 = .ok (.goto 6, 3) := by decide +kernel
theorem dX4_searches_70 : decode cX4_searches 70 = .ok (.iload 5, 2) := by decide +kernel
theorem dX4_searches_72 : decode cX4_searches 72 = .ok (.istore_n 2, 1) := by decide +kernel
theorem dX4_searches_73 : decode cX4_searches 73 = .ok (.goto (-42), 3) := by decide +kernel
theorem dX4_searches_76 : decode cX4_searches 76 = .ok (.iload_n 1, 1) := by decide +kernel
theorem dX4_searches_77 : decode cX4_searches 77 = .ok (.ifCond .ne 7, 3) := by decide +kernel
theorem dX4_searches_80 : decode cX4_searches 80 = .ok (.iload_n 2, 1) := by decide +kernel
theorem dX4_searches_81 : decode cX4_searches 81 = .ok (.goto 26, 3) := by decide +kernel
theorem dX4_searches_84 : decode cX4_searches 84 = .ok (.iload_n 1, 1) := by decide +kernel
theorem dX4_searches_85 : decode cX4_searches 85 = .ok (.iconst 1, 1) := by decide +kernel
theorem dX4_searches_86 : decode cX4_searches 86 = .ok (.if_icmp .ne 8, 3) := by decide +kernel
theorem dX4_searches_89 : decode cX4_searches 89 = .ok (.iload 4, 2) := by decide +kernel
theorem dX4_searches_91 : decode cX4_searches 91 = .ok (.goto 16, 3) := by decide +kernel
theorem dX4_searches_94 : decode cX4_searches 94 = .ok (.aload_n 0, 1) := by decide +kernel
theorem dX4_searches_95 : decode cX4_searches 95 = .ok (.getfield 7, 3) := by decide +kernel
theorem dX4_searches_98 : decode cX4_searches 98 = .ok (.sipush 256, 3) := by decide +kernel
theorem dX4_searches_101 : decode cX4_searches 101 = .ok (.iload_n 2, 1) := by decide +kernel
theorem dX4_searches_102 : decode cX4_searches 102 = .ok (.iadd, 1) := by decide +kernel
theorem dX4_searches_103 : decode cX4_searches 103 = .ok (.iaload, 1) := by decide +kernel
theorem dX4_searches_104 : decode cX4_searches 104 = .ok (.invokestatic 210, 3) := by decide +kernel
theorem dX4_searches_107 : decode cX4_searches 107 = .ok (.ireturn, 1) := by decide +kernel
theorem dX4_lowestOf_0 : decode cX4_lowestOf 0 = .ok (.iconst 0, 1) := by decide +kernel
theorem dX4_lowestOf_1 : decode cX4_lowestOf 1 = .ok (.istore_n 1, 1) := by decide +kernel
theorem dX4_lowestOf_2 : decode cX4_lowestOf 2 = .ok (.iload_n 1, 1) := by decide +kernel
theorem dX4_lowestOf_3 : decode cX4_lowestOf 3 = .ok (.bipush 24, 2) := by decide +kernel
theorem dX4_lowestOf_5 : decode cX4_lowestOf 5 = .ok (.if_icmp .ge 20, 3) := by decide +kernel
theorem dX4_lowestOf_8 : decode cX4_lowestOf 8 = .ok (.iload_n 0, 1) := by decide +kernel
theorem dX4_lowestOf_9 : decode cX4_lowestOf 9 = .ok (.iload_n 1, 1) := by decide +kernel
theorem dX4_lowestOf_10 : decode cX4_lowestOf 10 = .ok (.ishr, 1) := by decide +kernel
theorem dX4_lowestOf_11 : decode cX4_lowestOf 11 = .ok (.iconst 1, 1) := by decide +kernel
theorem dX4_lowestOf_12 : decode cX4_lowestOf 12 = .ok (.iand, 1) := by decide +kernel
theorem dX4_lowestOf_13 : decode cX4_lowestOf 13 = .ok (.iconst 1, 1) := by decide +kernel
theorem dX4_lowestOf_14 : decode cX4_lowestOf 14 = .ok (.if_icmp .ne 5, 3) := by decide +kernel
theorem dX4_lowestOf_17 : decode cX4_lowestOf 17 = .ok (.iload_n 1, 1) := by decide +kernel
theorem dX4_lowestOf_18 : decode cX4_lowestOf 18 = .ok (.ireturn, 1) := by decide +kernel
theorem dX4_lowestOf_19 : decode cX4_lowestOf 19 = .ok (.iinc 1 1, 3) := by decide +kernel
theorem dX4_lowestOf_22 : decode cX4_lowestOf 22 = .ok (.goto (-20), 3) := by decide +kernel
theorem dX4_lowestOf_25 : decode cX4_lowestOf 25 = .ok (.ldc 177, 2) := by decide +kernel
theorem dX4_lowestOf_27 : decode cX4_lowestOf 27 = .ok (.ireturn, 1) := by decide +kernel
theorem dX4_search_0 : decode cX4_search 0 = .ok (.iload_n 1, 1) := by decide +kernel
theorem dX4_search_1 : decode cX4_search 1 = .ok (.iconst 0, 1) := by decide +kernel
theorem dX4_search_2 : decode cX4_search 2 = .ok (.iconst 2, 1) := by decide +kernel
theorem dX4_search_3 : decode cX4_search 3 = .ok (.invokestatic 59, 3) := by decide +kernel
theorem dX4_search_6 : decode cX4_search 6 = .ok (.ifCond .eq 11, 3) := by decide +kernel
theorem dX4_search_9 : decode cX4_search 9 = .ok (.aload_n 0, 1) := by decide +kernel
theorem dX4_search_10 : decode cX4_search 10 = .ok (.iload_n 1, 1) := by decide +kernel
theorem dX4_search_11 : decode cX4_search 11 = .ok (.invokevirtual 213, 3) := by decide +kernel
theorem dX4_search_14 : decode cX4_search 14 = .ok (.goto 5, 3) := by decide +kernel
theorem dX4_search_17 : decode cX4_search 17 = .ok (.ldc 71, 2) := by decide +kernel
theorem dX4_search_19 : decode cX4_search 19 = .ok (.ireturn, 1) := by decide +kernel
theorem dX4_robbed_0 : decode cX4_robbed 0 = .ok (.iload_n 1, 1) := by decide +kernel
theorem dX4_robbed_1 : decode cX4_robbed 1 = .ok (.invokestatic 67, 3) := by decide +kernel
theorem dX4_robbed_4 : decode cX4_robbed 4 = .ok (.ifCond .ne 6, 3) := by decide +kernel
theorem dX4_robbed_7 : decode cX4_robbed 7 = .ok (.ldc 71, 2) := by decide +kernel
theorem dX4_robbed_9 : decode cX4_robbed 9 = .ok (.ireturn, 1) := by decide +kernel
theorem dX4_robbed_10 : decode cX4_robbed 10 = .ok (.aload_n 0, 1) := by decide +kernel
theorem dX4_robbed_11 : decode cX4_robbed 11 = .ok (.invokevirtual 96, 3) := by decide +kernel
theorem dX4_robbed_14 : decode cX4_robbed 14 = .ok (.istore_n 2, 1) := by decide +kernel
theorem dX4_robbed_15 : decode cX4_robbed 15 = .ok (.iload_n 2, 1) := by decide +kernel
theorem dX4_robbed_16 : decode cX4_robbed 16 = .ok (.iload_n 1, 1) := by decide +kernel
theorem dX4_robbed_17 : decode cX4_robbed 17 = .ok (.ishr, 1) := by decide +kernel
theorem dX4_robbed_18 : decode cX4_robbed 18 = .ok (.iconst 1, 1) := by decide +kernel
theorem dX4_robbed_19 : decode cX4_robbed 19 = .ok (.iand, 1) := by decide +kernel
theorem dX4_robbed_20 : decode cX4_robbed 20 = .ok (.iconst 1, 1) := by decide +kernel
theorem dX4_robbed_21 : decode cX4_robbed 21 = .ok (.if_icmp .ne 6, 3) := by decide +kernel
theorem dX4_robbed_24 : decode cX4_robbed 24 = .ok (.ldc 178, 2) := by decide +kernel
theorem dX4_robbed_26 : decode cX4_robbed 26 = .ok (.ireturn, 1) := by decide +kernel
theorem dX4_robbed_27 : decode cX4_robbed 27 = .ok (.aload_n 0, 1) := by decide +kernel
theorem dX4_robbed_28 : decode cX4_robbed 28 = .ok (.invokevirtual 131, 3) := by decide +kernel
theorem dX4_robbed_31 : decode cX4_robbed 31 = .ok (.iconst 0, 1) := by decide +kernel
theorem dX4_robbed_32 : decode cX4_robbed 32 = .ok (.istore_n 3, 1) := by decide +kernel
theorem dX4_robbed_33 : decode cX4_robbed 33 = .ok (.iload_n 3, 1) := by decide +kernel
theorem dX4_robbed_34 : decode cX4_robbed 34 = .ok (.sipush 192, 3) := by decide +kernel
theorem dX4_robbed_37 : decode cX4_robbed 37 = .ok (.if_icmp .ge 36, 3) := by decide +kernel
theorem dX4_robbed_40 : decode cX4_robbed 40 = .ok (.aload_n 0, 1) := by decide +kernel
theorem dX4_robbed_41 : decode cX4_robbed 41 = .ok (.getfield 56, 3) := by decide +kernel
theorem dX4_robbed_44 : decode cX4_robbed 44 = .ok (.iload_n 3, 1) := by decide +kernel
theorem dX4_robbed_45 : decode cX4_robbed 45 = .ok (.aload_n 0, 1) := by decide +kernel
theorem dX4_robbed_46 : decode cX4_robbed 46 = .ok (.iload_n 3, 1) := by decide +kernel
theorem dX4_robbed_47 : decode cX4_robbed 47 = .ok (.bipush 24, 2) := by decide +kernel
theorem dX4_robbed_49 : decode cX4_robbed 49 = .ok (.idiv, 1) := by decide +kernel
theorem dX4_robbed_50 : decode cX4_robbed 50 = .ok (.iload_n 3, 1) := by decide +kernel
theorem dX4_robbed_51 : decode cX4_robbed 51 = .ok (.bipush 24, 2) := by decide +kernel
theorem dX4_robbed_53 : decode cX4_robbed 53 = .ok (.irem, 1) := by decide +kernel
theorem dX4_robbed_54 : decode cX4_robbed 54 = .ok (.iload_n 2, 1) := by decide +kernel
theorem dX4_robbed_55 : decode cX4_robbed 55 = .ok (.invokevirtual 179, 3) := by decide +kernel
theorem dX4_robbed_58 : decode cX4_robbed 58 = .ok (.ifCond .ne 7, 3) := by decide +kernel
theorem dX4_robbed_61 : decode cX4_robbed 61 = .ok (.iconst 1, 1) := by decide +kernel
theorem dX4_robbed_62 : decode cX4_robbed 62 = .ok (.goto 4, 3) := by decide +kernel
theorem dX4_robbed_65 : decode cX4_robbed 65 = .ok (.iconst 0, 1) := by decide +kernel
theorem dX4_robbed_66 : decode cX4_robbed 66 = .ok (.bastore, 1) := by decide +kernel
theorem dX4_robbed_67 : decode cX4_robbed 67 = .ok (.iinc 3 1, 3) := by decide +kernel
theorem dX4_robbed_70 : decode cX4_robbed 70 = .ok (.goto (-37), 3) := by decide +kernel
theorem dX4_robbed_73 : decode cX4_robbed 73 = .ok (.iload_n 2, 1) := by decide +kernel
theorem dX4_robbed_74 : decode cX4_robbed 74 = .ok (.iconst 1, 1) := by decide +kernel
theorem dX4_robbed_75 : decode cX4_robbed 75 = .ok (.iload_n 1, 1) := by decide +kernel
theorem dX4_robbed_76 : decode cX4_robbed 76 = .ok (.ishl, 1) := by decide +kernel
theorem dX4_robbed_77 : decode cX4_robbed 77 = .ok (.ior, 1) := by decide +kernel
theorem dX4_robbed_78 : decode cX4_robbed 78 = .ok (.istore_n 2, 1) := by decide +kernel
theorem dX4_robbed_79 : decode cX4_robbed 79 = .ok (.aload_n 0, 1) := by decide +kernel
theorem dX4_robbed_80 : decode cX4_robbed 80 = .ok (.iload_n 2, 1) := by decide +kernel
theorem dX4_robbed_81 : decode cX4_robbed 81 = .ok (.iconst 1, 1) := by decide +kernel
theorem dX4_robbed_82 : decode cX4_robbed 82 = .ok (.invokevirtual 117, 3) := by decide +kernel
theorem dX4_robbed_85 : decode cX4_robbed 85 = .ok (.iconst 0, 1) := by decide +kernel
theorem dX4_robbed_86 : decode cX4_robbed 86 = .ok (.istore_n 3, 1) := by decide +kernel
theorem dX4_robbed_87 : decode cX4_robbed 87 = .ok (.iconst 0, 1) := by decide +kernel
theorem dX4_robbed_88 : decode cX4_robbed 88 = .ok (.istore 4, 2) := by decide +kernel
theorem dX4_robbed_90 : decode cX4_robbed 90 = .ok (.iload 4, 2) := by decide +kernel
theorem dX4_robbed_92 : decode cX4_robbed 92 = .ok (.sipush 192, 3) := by decide +kernel
theorem dX4_robbed_95 : decode cX4_robbed 95 = .ok (.if_icmp .ge 45, 3) := by decide +kernel
theorem dX4_robbed_98 : decode cX4_robbed 98 = .ok (.iload_n 3, 1) := by decide +kernel
theorem dX4_robbed_99 : decode cX4_robbed 99 = .ok (.aload_n 0, 1) := by decide +kernel
theorem dX4_robbed_100 : decode cX4_robbed 100 = .ok (.getfield 56, 3) := by decide +kernel
theorem dX4_robbed_103 : decode cX4_robbed 103 = .ok (.iload 4, 2) := by decide +kernel
theorem dX4_robbed_105 : decode cX4_robbed 105 = .ok (.baload, 1) := by decide +kernel
theorem dX4_robbed_106 : decode cX4_robbed 106 = .ok (.ifCond .eq 25, 3) := by decide +kernel
theorem dX4_robbed_109 : decode cX4_robbed 109 = .ok (.aload_n 0, 1) := by decide +kernel
theorem dX4_robbed_110 : decode cX4_robbed 110 = .ok (.iload 4, 2) := by decide +kernel
theorem dX4_robbed_112 : decode cX4_robbed 112 = .ok (.bipush 24, 2) := by decide +kernel
theorem dX4_robbed_114 : decode cX4_robbed 114 = .ok (.idiv, 1) := by decide +kernel
theorem dX4_robbed_115 : decode cX4_robbed 115 = .ok (.iload 4, 2) := by decide +kernel
theorem dX4_robbed_117 : decode cX4_robbed 117 = .ok (.bipush 24, 2) := by decide +kernel
theorem dX4_robbed_119 : decode cX4_robbed 119 = .ok (.irem, 1) := by decide +kernel
theorem dX4_robbed_120 : decode cX4_robbed 120 = .ok (.iload_n 2, 1) := by decide +kernel
theorem dX4_robbed_121 : decode cX4_robbed 121 = .ok (.invokevirtual 179, 3) := by decide +kernel
theorem dX4_robbed_124 : decode cX4_robbed 124 = .ok (.ifCond .eq 7, 3) := by decide +kernel
theorem dX4_robbed_127 : decode cX4_robbed 127 = .ok (.iconst 1, 1) := by decide +kernel
theorem dX4_robbed_128 : decode cX4_robbed 128 = .ok (.goto 4, 3) := by decide +kernel
theorem dX4_robbed_131 : decode cX4_robbed 131 = .ok (.iconst 0, 1) := by decide +kernel
theorem dX4_robbed_132 : decode cX4_robbed 132 = .ok (.iadd, 1) := by decide +kernel
theorem dX4_robbed_133 : decode cX4_robbed 133 = .ok (.istore_n 3, 1) := by decide +kernel
theorem dX4_robbed_134 : decode cX4_robbed 134 = .ok (.iinc 4 1, 3) := by decide +kernel
theorem dX4_robbed_137 : decode cX4_robbed 137 = .ok (.goto (-47), 3) := by decide +kernel
theorem dX4_robbed_140 : decode cX4_robbed 140 = .ok (.iload_n 3, 1) := by decide +kernel
theorem dX4_robbed_141 : decode cX4_robbed 141 = .ok (.ireturn, 1) := by decide +kernel
theorem dX4_lowest_0 : decode cX4_lowest 0 = .ok (.iload_n 1, 1) := by decide +kernel
theorem dX4_lowest_1 : decode cX4_lowest 1 = .ok (.iconst 1, 1) := by decide +kernel
theorem dX4_lowest_2 : decode cX4_lowest 2 = .ok (.sipush 1000, 3) := by decide +kernel
theorem dX4_lowest_5 : decode cX4_lowest 5 = .ok (.invokestatic 59, 3) := by decide +kernel
theorem dX4_lowest_8 : decode cX4_lowest 8 = .ok (.ifCond .ne 6, 3) := by decide +kernel
theorem dX4_lowest_11 : decode cX4_lowest 11 = .ok (.ldc 72, 2) := by decide +kernel
theorem dX4_lowest_13 : decode cX4_lowest 13 = .ok (.ireturn, 1) := by decide +kernel
theorem dX4_lowest_14 : decode cX4_lowest 14 = .ok (.iconst 0, 1) := by decide +kernel
theorem dX4_lowest_15 : decode cX4_lowest 15 = .ok (.istore_n 2, 1) := by decide +kernel
theorem dX4_lowest_16 : decode cX4_lowest 16 = .ok (.iload_n 2, 1) := by decide +kernel
theorem dX4_lowest_17 : decode cX4_lowest 17 = .ok (.sipush 264, 3) := by decide +kernel
theorem dX4_lowest_20 : decode cX4_lowest 20 = .ok (.if_icmp .ge 21, 3) := by decide +kernel
theorem dX4_lowest_23 : decode cX4_lowest 23 = .ok (.aload_n 0, 1) := by decide +kernel
theorem dX4_lowest_24 : decode cX4_lowest 24 = .ok (.getfield 13, 3) := by decide +kernel
theorem dX4_lowest_27 : decode cX4_lowest 27 = .ok (.iload_n 2, 1) := by decide +kernel
theorem dX4_lowest_28 : decode cX4_lowest 28 = .ok (.aload_n 0, 1) := by decide +kernel
theorem dX4_lowest_29 : decode cX4_lowest 29 = .ok (.getfield 7, 3) := by decide +kernel
theorem dX4_lowest_32 : decode cX4_lowest 32 = .ok (.iload_n 2, 1) := by decide +kernel
theorem dX4_lowest_33 : decode cX4_lowest 33 = .ok (.iaload, 1) := by decide +kernel
theorem dX4_lowest_34 : decode cX4_lowest 34 = .ok (.iastore, 1) := by decide +kernel
theorem dX4_lowest_35 : decode cX4_lowest 35 = .ok (.iinc 2 1, 3) := by decide +kernel
theorem dX4_lowest_38 : decode cX4_lowest 38 = .ok (.goto (-22), 3) := by decide +kernel
theorem dX4_lowest_41 : decode cX4_lowest 41 = .ok (.aload_n 0, 1) := by decide +kernel
theorem dX4_lowest_42 : decode cX4_lowest 42 = .ok (.iconst 1, 1) := by decide +kernel
theorem dX4_lowest_43 : decode cX4_lowest 43 = .ok (.invokevirtual 137, 3) := by decide +kernel
theorem dX4_lowest_46 : decode cX4_lowest 46 = .ok (.istore_n 2, 1) := by decide +kernel
theorem dX4_lowest_47 : decode cX4_lowest 47 = .ok (.iconst 1, 1) := by decide +kernel
theorem dX4_lowest_48 : decode cX4_lowest 48 = .ok (.istore_n 3, 1) := by decide +kernel
theorem dX4_lowest_49 : decode cX4_lowest 49 = .ok (.iload_n 3, 1) := by decide +kernel
theorem dX4_lowest_50 : decode cX4_lowest 50 = .ok (.iload_n 1, 1) := by decide +kernel
theorem dX4_lowest_51 : decode cX4_lowest 51 = .ok (.if_icmp .ge 29, 3) := by decide +kernel
theorem dX4_lowest_54 : decode cX4_lowest 54 = .ok (.aload_n 0, 1) := by decide +kernel
theorem dX4_lowest_55 : decode cX4_lowest 55 = .ok (.iconst 1, 1) := by decide +kernel
theorem dX4_lowest_56 : decode cX4_lowest 56 = .ok (.invokevirtual 137, 3) := by decide +kernel
theorem dX4_lowest_59 : decode cX4_lowest 59 = .ok (.istore 4, 2) := by decide +kernel
theorem dX4_lowest_61 : decode cX4_lowest 61 = .ok (.iload 4, 2) := by decide +kernel
theorem dX4_lowest_63 : decode cX4_lowest 63 = .ok (.iload_n 2, 1) := by decide +kernel
theorem dX4_lowest_64 : decode cX4_lowest 64 = .ok (.if_icmp .ge 8, 3) := by decide +kernel
theorem dX4_lowest_67 : decode cX4_lowest 67 = .ok (.iload 4, 2) := by decide +kernel
theorem dX4_lowest_69 : decode cX4_lowest 69 = .ok (.goto 4, 3) := by decide +kernel
theorem dX4_lowest_72 : decode cX4_lowest 72 = .ok (.iload_n 2, 1) := by decide +kernel
theorem dX4_lowest_73 : decode cX4_lowest 73 = .ok (.istore_n 2, 1) := by decide +kernel
theorem dX4_lowest_74 : decode cX4_lowest 74 = .ok (.iinc 3 1, 3) := by decide +kernel
theorem dX4_lowest_77 : decode cX4_lowest 77 = .ok (.goto (-28), 3) := by decide +kernel
theorem dX4_lowest_80 : decode cX4_lowest 80 = .ok (.iconst 0, 1) := by decide +kernel
theorem dX4_lowest_81 : decode cX4_lowest 81 = .ok (.istore_n 3, 1) := by decide +kernel
theorem dX4_lowest_82 : decode cX4_lowest 82 = .ok (.iload_n 3, 1) := by decide +kernel
theorem dX4_lowest_83 : decode cX4_lowest 83 = .ok (.sipush 264, 3) := by decide +kernel
theorem dX4_lowest_86 : decode cX4_lowest 86 = .ok (.if_icmp .ge 21, 3) := by decide +kernel
theorem dX4_lowest_89 : decode cX4_lowest 89 = .ok (.aload_n 0, 1) := by decide +kernel
theorem dX4_lowest_90 : decode cX4_lowest 90 = .ok (.getfield 7, 3) := by decide +kernel
theorem dX4_lowest_93 : decode cX4_lowest 93 = .ok (.iload_n 3, 1) := by decide +kernel
theorem dX4_lowest_94 : decode cX4_lowest 94 = .ok (.aload_n 0, 1) := by decide +kernel
theorem dX4_lowest_95 : decode cX4_lowest 95 = .ok (.getfield 13, 3) := by decide +kernel
theorem dX4_lowest_98 : decode cX4_lowest 98 = .ok (.iload_n 3, 1) := by decide +kernel
theorem dX4_lowest_99 : decode cX4_lowest 99 = .ok (.iaload, 1) := by decide +kernel
theorem dX4_lowest_100 : decode cX4_lowest 100 = .ok (.iastore, 1) := by decide +kernel
theorem dX4_lowest_101 : decode cX4_lowest 101 = .ok (.iinc 3 1, 3) := by decide +kernel
theorem dX4_lowest_104 : decode cX4_lowest 104 = .ok (.goto (-22), 3) := by decide +kernel
theorem dX4_lowest_107 : decode cX4_lowest 107 = .ok (.iload_n 2, 1) := by decide +kernel
theorem dX4_lowest_108 : decode cX4_lowest 108 = .ok (.ireturn, 1) := by decide +kernel
theorem dX4_undo_0 : decode cX4_undo 0 = .ok (.aload_n 0, 1) := by decide +kernel
theorem dX4_undo_1 : decode cX4_undo 1 = .ok (.getfield 63, 3) := by decide +kernel
theorem dX4_undo_4 : decode cX4_undo 4 = .ok (.ifCond .ne 6, 3) := by decide +kernel
theorem dX4_undo_7 : decode cX4_undo 7 = .ok (.ldc 178, 2) := by decide +kernel
theorem dX4_undo_9 : decode cX4_undo 9 = .ok (.ireturn, 1) := by decide +kernel
theorem dX4_undo_10 : decode cX4_undo 10 = .ok (.aload_n 0, 1) := by decide +kernel
theorem dX4_undo_11 : decode cX4_undo 11 = .ok (.dup, 1) := by decide +kernel
theorem dX4_undo_12 : decode cX4_undo 12 = .ok (.getfield 63, 3) := by decide +kernel
theorem dX4_undo_15 : decode cX4_undo 15 = .ok (.iconst 1, 1) := by decide +kernel
theorem dX4_undo_16 : decode cX4_undo 16 = .ok (.isub, 1) := by decide +kernel
theorem dX4_undo_17 : decode cX4_undo 17 = .ok (.putfield 63, 3) := by decide +kernel
theorem dX4_undo_20 : decode cX4_undo 20 = .ok (.iconst 0, 1) := by decide +kernel
theorem dX4_undo_21 : decode cX4_undo 21 = .ok (.istore_n 1, 1) := by decide +kernel
theorem dX4_undo_22 : decode cX4_undo 22 = .ok (.iload_n 1, 1) := by decide +kernel
theorem dX4_undo_23 : decode cX4_undo 23 = .ok (.sipush 264, 3) := by decide +kernel
theorem dX4_undo_26 : decode cX4_undo 26 = .ok (.if_icmp .ge 30, 3) := by decide +kernel
theorem dX4_undo_29 : decode cX4_undo 29 = .ok (.aload_n 0, 1) := by decide +kernel
theorem dX4_undo_30 : decode cX4_undo 30 = .ok (.getfield 7, 3) := by decide +kernel
theorem dX4_undo_33 : decode cX4_undo 33 = .ok (.iload_n 1, 1) := by decide +kernel
theorem dX4_undo_34 : decode cX4_undo 34 = .ok (.aload_n 0, 1) := by decide +kernel
theorem dX4_undo_35 : decode cX4_undo 35 = .ok (.getfield 16, 3) := by decide +kernel
theorem dX4_undo_38 : decode cX4_undo 38 = .ok (.sipush 264, 3) := by decide +kernel
theorem dX4_undo_41 : decode cX4_undo 41 = .ok (.aload_n 0, 1) := by decide +kernel
theorem dX4_undo_42 : decode cX4_undo 42 = .ok (.getfield 63, 3) := by decide +kernel
theorem dX4_undo_45 : decode cX4_undo 45 = .ok (.imul, 1) := by decide +kernel
theorem dX4_undo_46 : decode cX4_undo 46 = .ok (.iload_n 1, 1) := by decide +kernel
theorem dX4_undo_47 : decode cX4_undo 47 = .ok (.iadd, 1) := by decide +kernel
theorem dX4_undo_48 : decode cX4_undo 48 = .ok (.iaload, 1) := by decide +kernel
theorem dX4_undo_49 : decode cX4_undo 49 = .ok (.iastore, 1) := by decide +kernel
theorem dX4_undo_50 : decode cX4_undo 50 = .ok (.iinc 1 1, 3) := by decide +kernel
theorem dX4_undo_53 : decode cX4_undo 53 = .ok (.goto (-31), 3) := by decide +kernel
theorem dX4_undo_56 : decode cX4_undo 56 = .ok (.aload_n 0, 1) := by decide +kernel
theorem dX4_undo_57 : decode cX4_undo 57 = .ok (.getfield 63, 3) := by decide +kernel
theorem dX4_undo_60 : decode cX4_undo 60 = .ok (.ireturn, 1) := by decide +kernel
theorem dX4_save_0 : decode cX4_save 0 = .ok (.iload_n 1, 1) := by decide +kernel
theorem dX4_save_1 : decode cX4_save 1 = .ok (.iconst 0, 1) := by decide +kernel
theorem dX4_save_2 : decode cX4_save 2 = .ok (.iconst 1, 1) := by decide +kernel
theorem dX4_save_3 : decode cX4_save 3 = .ok (.invokestatic 59, 3) := by decide +kernel
theorem dX4_save_6 : decode cX4_save 6 = .ok (.ifCond .ne 6, 3) := by decide +kernel
theorem dX4_save_9 : decode cX4_save 9 = .ok (.ldc 71, 2) := by decide +kernel
theorem dX4_save_11 : decode cX4_save 11 = .ok (.ireturn, 1) := by decide +kernel
theorem dX4_save_12 : decode cX4_save 12 = .ok (.iconst 0, 1) := by decide +kernel
theorem dX4_save_13 : decode cX4_save 13 = .ok (.istore_n 2, 1) := by decide +kernel
theorem dX4_save_14 : decode cX4_save 14 = .ok (.iload_n 2, 1) := by decide +kernel
theorem dX4_save_15 : decode cX4_save 15 = .ok (.sipush 264, 3) := by decide +kernel
theorem dX4_save_18 : decode cX4_save 18 = .ok (.if_icmp .ge 27, 3) := by decide +kernel
theorem dX4_save_21 : decode cX4_save 21 = .ok (.aload_n 0, 1) := by decide +kernel
theorem dX4_save_22 : decode cX4_save 22 = .ok (.getfield 19, 3) := by decide +kernel
theorem dX4_save_25 : decode cX4_save 25 = .ok (.sipush 264, 3) := by decide +kernel
theorem dX4_save_28 : decode cX4_save 28 = .ok (.iload_n 1, 1) := by decide +kernel
theorem dX4_save_29 : decode cX4_save 29 = .ok (.imul, 1) := by decide +kernel
theorem dX4_save_30 : decode cX4_save 30 = .ok (.iload_n 2, 1) := by decide +kernel
theorem dX4_save_31 : decode cX4_save 31 = .ok (.iadd, 1) := by decide +kernel
theorem dX4_save_32 : decode cX4_save 32 = .ok (.aload_n 0, 1) := by decide +kernel
theorem dX4_save_33 : decode cX4_save 33 = .ok (.getfield 7, 3) := by decide +kernel
theorem dX4_save_36 : decode cX4_save 36 = .ok (.iload_n 2, 1) := by decide +kernel
theorem dX4_save_37 : decode cX4_save 37 = .ok (.iaload, 1) := by decide +kernel
theorem dX4_save_38 : decode cX4_save 38 = .ok (.iastore, 1) := by decide +kernel
theorem dX4_save_39 : decode cX4_save 39 = .ok (.iinc 2 1, 3) := by decide +kernel
theorem dX4_save_42 : decode cX4_save 42 = .ok (.goto (-28), 3) := by decide +kernel
theorem dX4_save_45 : decode cX4_save 45 = .ok (.aload_n 0, 1) := by decide +kernel
theorem dX4_save_46 : decode cX4_save 46 = .ok (.getfield 22, 3) := by decide +kernel
theorem dX4_save_49 : decode cX4_save 49 = .ok (.iload_n 1, 1) := by decide +kernel
theorem dX4_save_50 : decode cX4_save 50 = .ok (.iconst 1, 1) := by decide +kernel
theorem dX4_save_51 : decode cX4_save 51 = .ok (.bastore, 1) := by decide +kernel
theorem dX4_save_52 : decode cX4_save 52 = .ok (.aload_n 0, 1) := by decide +kernel
theorem dX4_save_53 : decode cX4_save 53 = .ok (.getfield 7, 3) := by decide +kernel
theorem dX4_save_56 : decode cX4_save 56 = .ok (.bipush 13, 2) := by decide +kernel
theorem dX4_save_58 : decode cX4_save 58 = .ok (.iaload, 1) := by decide +kernel
theorem dX4_save_59 : decode cX4_save 59 = .ok (.ireturn, 1) := by decide +kernel
theorem dX4_restore_0 : decode cX4_restore 0 = .ok (.iload_n 1, 1) := by decide +kernel
theorem dX4_restore_1 : decode cX4_restore 1 = .ok (.iconst 0, 1) := by decide +kernel
theorem dX4_restore_2 : decode cX4_restore 2 = .ok (.iconst 1, 1) := by decide +kernel
theorem dX4_restore_3 : decode cX4_restore 3 = .ok (.invokestatic 59, 3) := by decide +kernel
theorem dX4_restore_6 : decode cX4_restore 6 = .ok (.ifCond .ne 6, 3) := by decide +kernel
theorem dX4_restore_9 : decode cX4_restore 9 = .ok (.ldc 71, 2) := by decide +kernel
theorem dX4_restore_11 : decode cX4_restore 11 = .ok (.ireturn, 1) := by decide +kernel
theorem dX4_restore_12 : decode cX4_restore 12 = .ok (.aload_n 0, 1) := by decide +kernel
theorem dX4_restore_13 : decode cX4_restore 13 = .ok (.getfield 22, 3) := by decide +kernel
theorem dX4_restore_16 : decode cX4_restore 16 = .ok (.iload_n 1, 1) := by decide +kernel
theorem dX4_restore_17 : decode cX4_restore 17 = .ok (.baload, 1) := by decide +kernel
theorem dX4_restore_18 : decode cX4_restore 18 = .ok (.ifCond .ne 6, 3) := by decide +kernel
theorem dX4_restore_21 : decode cX4_restore 21 = .ok (.ldc 178, 2) := by decide +kernel
theorem dX4_restore_23 : decode cX4_restore 23 = .ok (.ireturn, 1) := by decide +kernel
theorem dX4_restore_24 : decode cX4_restore 24 = .ok (.aload_n 0, 1) := by decide +kernel
theorem dX4_restore_25 : decode cX4_restore 25 = .ok (.invokevirtual 73, 3) := by decide +kernel
theorem dX4_restore_28 : decode cX4_restore 28 = .ok (.iconst 0, 1) := by decide +kernel
theorem dX4_restore_29 : decode cX4_restore 29 = .ok (.istore_n 2, 1) := by decide +kernel
theorem dX4_restore_30 : decode cX4_restore 30 = .ok (.iload_n 2, 1) := by decide +kernel
theorem dX4_restore_31 : decode cX4_restore 31 = .ok (.sipush 264, 3) := by decide +kernel
theorem dX4_restore_34 : decode cX4_restore 34 = .ok (.if_icmp .ge 27, 3) := by decide +kernel
theorem dX4_restore_37 : decode cX4_restore 37 = .ok (.aload_n 0, 1) := by decide +kernel
theorem dX4_restore_38 : decode cX4_restore 38 = .ok (.getfield 7, 3) := by decide +kernel
theorem dX4_restore_41 : decode cX4_restore 41 = .ok (.iload_n 2, 1) := by decide +kernel
theorem dX4_restore_42 : decode cX4_restore 42 = .ok (.aload_n 0, 1) := by decide +kernel
theorem dX4_restore_43 : decode cX4_restore 43 = .ok (.getfield 19, 3) := by decide +kernel
theorem dX4_restore_46 : decode cX4_restore 46 = .ok (.sipush 264, 3) := by decide +kernel
theorem dX4_restore_49 : decode cX4_restore 49 = .ok (.iload_n 1, 1) := by decide +kernel
theorem dX4_restore_50 : decode cX4_restore 50 = .ok (.imul, 1) := by decide +kernel
theorem dX4_restore_51 : decode cX4_restore 51 = .ok (.iload_n 2, 1) := by decide +kernel
theorem dX4_restore_52 : decode cX4_restore 52 = .ok (.iadd, 1) := by decide +kernel
theorem dX4_restore_53 : decode cX4_restore 53 = .ok (.iaload, 1) := by decide +kernel
theorem dX4_restore_54 : decode cX4_restore 54 = .ok (.iastore, 1) := by decide +kernel
theorem dX4_restore_55 : decode cX4_restore 55 = .ok (.iinc 2 1, 3) := by decide +kernel
theorem dX4_restore_58 : decode cX4_restore 58 = .ok (.goto (-28), 3) := by decide +kernel
theorem dX4_restore_61 : decode cX4_restore 61 = .ok (.aload_n 0, 1) := by decide +kernel
theorem dX4_restore_62 : decode cX4_restore 62 = .ok (.getfield 7, 3) := by decide +kernel
theorem dX4_restore_65 : decode cX4_restore 65 = .ok (.bipush 13, 2) := by decide +kernel
theorem dX4_restore_67 : decode cX4_restore 67 = .ok (.iaload, 1) := by decide +kernel
theorem dX4_restore_68 : decode cX4_restore 68 = .ok (.ireturn, 1) := by decide +kernel
theorem dX4_more_0 : decode cX4_more 0 = .ok (.ldc2_w 216, 3) := by decide +kernel
theorem dX4_more_3 : decode cX4_more 3 = .ok (.lload_n 0, 1) := by decide +kernel
theorem dX4_more_4 : decode cX4_more 4 = .ok (.lmul, 1) := by decide +kernel
theorem dX4_more_5 : decode cX4_more 5 = .ok (.iload_n 2, 1) := by decide +kernel
theorem dX4_more_6 : decode cX4_more 6 = .ok (.i2l, 1) := by decide +kernel
theorem dX4_more_7 : decode cX4_more 7 = .ok (.ladd, 1) := by decide +kernel
theorem dX4_more_8 : decode cX4_more 8 = .ok (.lreturn, 1) := by decide +kernel
theorem dX4_checksum_0 : decode cX4_checksum 0 = .ok (.ldc2_w 218, 3) := by decide +kernel
theorem dX4_checksum_3 : decode cX4_checksum 3 = .ok (.lstore_n 1, 1) := by decide +kernel
theorem dX4_checksum_4 : decode cX4_checksum 4 = .ok (.iconst 0, 1) := by decide +kernel
theorem dX4_checksum_5 : decode cX4_checksum 5 = .ok (.istore_n 3, 1) := by decide +kernel
theorem dX4_checksum_6 : decode cX4_checksum 6 = .ok (.iload_n 3, 1) := by decide +kernel
theorem dX4_checksum_7 : decode cX4_checksum 7 = .ok (.bipush 40, 2) := by decide +kernel
theorem dX4_checksum_9 : decode cX4_checksum 9 = .ok (.if_icmp .ge 23, 3) := by decide +kernel
theorem dX4_checksum_12 : decode cX4_checksum 12 = .ok (.lload_n 1, 1) := by decide +kernel
theorem dX4_checksum_13 : decode cX4_checksum 13 = .ok (.aload_n 0, 1) := by decide +kernel
theorem dX4_checksum_14 : decode cX4_checksum 14 = .ok (.getfield 7, 3) := by decide +kernel
theorem dX4_checksum_17 : decode cX4_checksum 17 = .ok (.bipush 24, 2) := by decide +kernel
theorem dX4_checksum_19 : decode cX4_checksum 19 = .ok (.iload_n 3, 1) := by decide +kernel
theorem dX4_checksum_20 : decode cX4_checksum 20 = .ok (.iadd, 1) := by decide +kernel
theorem dX4_checksum_21 : decode cX4_checksum 21 = .ok (.iaload, 1) := by decide +kernel
theorem dX4_checksum_22 : decode cX4_checksum 22 = .ok (.invokestatic 220, 3) := by decide +kernel
theorem dX4_checksum_25 : decode cX4_checksum 25 = .ok (.lstore_n 1, 1) := by decide +kernel
theorem dX4_checksum_26 : decode cX4_checksum 26 = .ok (.iinc 3 1, 3) := by decide +kernel
theorem dX4_checksum_29 : decode cX4_checksum 29 = .ok (.goto (-23), 3) := by decide +kernel
theorem dX4_checksum_32 : decode cX4_checksum 32 = .ok (.iconst 0, 1) := by decide +kernel
theorem dX4_checksum_33 : decode cX4_checksum 33 = .ok (.istore_n 3, 1) := by decide +kernel
theorem dX4_checksum_34 : decode cX4_checksum 34 = .ok (.iload_n 3, 1) := by decide +kernel
theorem dX4_checksum_35 : decode cX4_checksum 35 = .ok (.bipush 9, 2) := by decide +kernel
theorem dX4_checksum_37 : decode cX4_checksum 37 = .ok (.if_icmp .ge 22, 3) := by decide +kernel
theorem dX4_checksum_40 : decode cX4_checksum 40 = .ok (.lload_n 1, 1) := by decide +kernel
theorem dX4_checksum_41 : decode cX4_checksum 41 = .ok (.aload_n 0, 1) := by decide +kernel
theorem dX4_checksum_42 : decode cX4_checksum 42 = .ok (.getfield 7, 3) := by decide +kernel
theorem dX4_checksum_45 : decode cX4_checksum 45 = .ok (.iconst 1, 1) := by decide +kernel
theorem dX4_checksum_46 : decode cX4_checksum 46 = .ok (.iload_n 3, 1) := by decide +kernel
theorem dX4_checksum_47 : decode cX4_checksum 47 = .ok (.iadd, 1) := by decide +kernel
theorem dX4_checksum_48 : decode cX4_checksum 48 = .ok (.iaload, 1) := by decide +kernel
theorem dX4_checksum_49 : decode cX4_checksum 49 = .ok (.invokestatic 220, 3) := by decide +kernel
theorem dX4_checksum_52 : decode cX4_checksum 52 = .ok (.lstore_n 1, 1) := by decide +kernel
theorem dX4_checksum_53 : decode cX4_checksum 53 = .ok (.iinc 3 1, 3) := by decide +kernel
theorem dX4_checksum_56 : decode cX4_checksum 56 = .ok (.goto (-22), 3) := by decide +kernel
theorem dX4_checksum_59 : decode cX4_checksum 59 = .ok (.iconst 0, 1) := by decide +kernel
theorem dX4_checksum_60 : decode cX4_checksum 60 = .ok (.istore_n 3, 1) := by decide +kernel
theorem dX4_checksum_61 : decode cX4_checksum 61 = .ok (.iload_n 3, 1) := by decide +kernel
theorem dX4_checksum_62 : decode cX4_checksum 62 = .ok (.bipush 10, 2) := by decide +kernel
theorem dX4_checksum_64 : decode cX4_checksum 64 = .ok (.if_icmp .ge 19, 3) := by decide +kernel
theorem dX4_checksum_67 : decode cX4_checksum 67 = .ok (.lload_n 1, 1) := by decide +kernel
theorem dX4_checksum_68 : decode cX4_checksum 68 = .ok (.aload_n 0, 1) := by decide +kernel
theorem dX4_checksum_69 : decode cX4_checksum 69 = .ok (.iload_n 3, 1) := by decide +kernel
theorem dX4_checksum_70 : decode cX4_checksum 70 = .ok (.invokevirtual 189, 3) := by decide +kernel
theorem dX4_checksum_73 : decode cX4_checksum 73 = .ok (.invokestatic 220, 3) := by decide +kernel
theorem dX4_checksum_76 : decode cX4_checksum 76 = .ok (.lstore_n 1, 1) := by decide +kernel
theorem dX4_checksum_77 : decode cX4_checksum 77 = .ok (.iinc 3 1, 3) := by decide +kernel
theorem dX4_checksum_80 : decode cX4_checksum 80 = .ok (.goto (-19), 3) := by decide +kernel
theorem dX4_checksum_83 : decode cX4_checksum 83 = .ok (.iconst 0, 1) := by decide +kernel
theorem dX4_checksum_84 : decode cX4_checksum 84 = .ok (.istore_n 3, 1) := by decide +kernel
theorem dX4_checksum_85 : decode cX4_checksum 85 = .ok (.iload_n 3, 1) := by decide +kernel
theorem dX4_checksum_86 : decode cX4_checksum 86 = .ok (.iconst 2, 1) := by decide +kernel
theorem dX4_checksum_87 : decode cX4_checksum 87 = .ok (.if_icmp .ge 36, 3) := by decide +kernel
theorem dX4_checksum_90 : decode cX4_checksum 90 = .ok (.iconst 0, 1) := by decide +kernel
theorem dX4_checksum_91 : decode cX4_checksum 91 = .ok (.istore 4, 2) := by decide +kernel
theorem dX4_checksum_93 : decode cX4_checksum 93 = .ok (.iload 4, 2) := by decide +kernel
theorem dX4_checksum_95 : decode cX4_checksum 95 = .ok (.iconst 3, 1) := by decide +kernel
theorem dX4_checksum_96 : decode cX4_checksum 96 = .ok (.if_icmp .ge 21, 3) := by decide +kernel
theorem dX4_checksum_99 : decode cX4_checksum 99 = .ok (.lload_n 1, 1) := by decide +kernel
theorem dX4_checksum_100 : decode cX4_checksum 100 = .ok (.aload_n 0, 1) := by decide +kernel
theorem dX4_checksum_101 : decode cX4_checksum 101 = .ok (.iload_n 3, 1) := by decide +kernel
theorem dX4_checksum_102 : decode cX4_checksum 102 = .ok (.iload 4, 2) := by decide +kernel
theorem dX4_checksum_104 : decode cX4_checksum 104 = .ok (.invokevirtual 192, 3) := by decide +kernel
theorem dX4_checksum_107 : decode cX4_checksum 107 = .ok (.invokestatic 220, 3) := by decide +kernel
theorem dX4_checksum_110 : decode cX4_checksum 110 = .ok (.lstore_n 1, 1) := by decide +kernel
theorem dX4_checksum_111 : decode cX4_checksum 111 = .ok (.iinc 4 1, 3) := by decide +kernel
theorem dX4_checksum_114 : decode cX4_checksum 114 = .ok (.goto (-21), 3) := by decide +kernel
theorem dX4_checksum_117 : decode cX4_checksum 117 = .ok (.iinc 3 1, 3) := by decide +kernel
theorem dX4_checksum_120 : decode cX4_checksum 120 = .ok (.goto (-35), 3) := by decide +kernel
theorem dX4_checksum_123 : decode cX4_checksum 123 = .ok (.lload_n 1, 1) := by decide +kernel
theorem dX4_checksum_124 : decode cX4_checksum 124 = .ok (.aload_n 0, 1) := by decide +kernel
theorem dX4_checksum_125 : decode cX4_checksum 125 = .ok (.getfield 7, 3) := by decide +kernel
theorem dX4_checksum_128 : decode cX4_checksum 128 = .ok (.bipush 18, 2) := by decide +kernel
theorem dX4_checksum_130 : decode cX4_checksum 130 = .ok (.iaload, 1) := by decide +kernel
theorem dX4_checksum_131 : decode cX4_checksum 131 = .ok (.invokestatic 220, 3) := by decide +kernel
theorem dX4_checksum_134 : decode cX4_checksum 134 = .ok (.aload_n 0, 1) := by decide +kernel
theorem dX4_checksum_135 : decode cX4_checksum 135 = .ok (.getfield 7, 3) := by decide +kernel
theorem dX4_checksum_138 : decode cX4_checksum 138 = .ok (.bipush 19, 2) := by decide +kernel
theorem dX4_checksum_140 : decode cX4_checksum 140 = .ok (.iaload, 1) := by decide +kernel
theorem dX4_checksum_141 : decode cX4_checksum 141 = .ok (.invokestatic 220, 3) := by decide +kernel
theorem dX4_checksum_144 : decode cX4_checksum 144 = .ok (.lstore_n 1, 1) := by decide +kernel
theorem dX4_checksum_145 : decode cX4_checksum 145 = .ok (.aload_n 0, 1) := by decide +kernel
theorem dX4_checksum_146 : decode cX4_checksum 146 = .ok (.invokevirtual 131, 3) := by decide +kernel
theorem dX4_checksum_149 : decode cX4_checksum 149 = .ok (.aload_n 0, 1) := by decide +kernel
theorem dX4_checksum_150 : decode cX4_checksum 150 = .ok (.invokevirtual 96, 3) := by decide +kernel
theorem dX4_checksum_153 : decode cX4_checksum 153 = .ok (.istore_n 3, 1) := by decide +kernel
theorem dX4_checksum_154 : decode cX4_checksum 154 = .ok (.iconst 0, 1) := by decide +kernel
theorem dX4_checksum_155 : decode cX4_checksum 155 = .ok (.istore 4, 2) := by decide +kernel
theorem dX4_checksum_157 : decode cX4_checksum 157 = .ok (.iload 4, 2) := by decide +kernel
theorem dX4_checksum_159 : decode cX4_checksum 159 = .ok (.bipush 8, 2) := by decide +kernel
theorem dX4_checksum_161 : decode cX4_checksum 161 = .ok (.if_icmp .ge 128, 3) := by decide +kernel
theorem dX4_checksum_164 : decode cX4_checksum 164 = .ok (.iconst 0, 1) := by decide +kernel
theorem dX4_checksum_165 : decode cX4_checksum 165 = .ok (.istore 5, 2) := by decide +kernel
theorem dX4_checksum_167 : decode cX4_checksum 167 = .ok (.iload 5, 2) := by decide +kernel
theorem dX4_checksum_169 : decode cX4_checksum 169 = .ok (.bipush 24, 2) := by decide +kernel
theorem dX4_checksum_171 : decode cX4_checksum 171 = .ok (.if_icmp .ge 112, 3) := by decide +kernel
theorem dX4_checksum_174 : decode cX4_checksum 174 = .ok (.aload_n 0, 1) := by decide +kernel
theorem dX4_checksum_175 : decode cX4_checksum 175 = .ok (.iload 4, 2) := by decide +kernel
theorem dX4_checksum_177 : decode cX4_checksum 177 = .ok (.iload 5, 2) := by decide +kernel
theorem dX4_checksum_179 : decode cX4_checksum 179 = .ok (.invokevirtual 121, 3) := by decide +kernel
theorem dX4_checksum_182 : decode cX4_checksum 182 = .ok (.ifCond .eq 95, 3) := by decide +kernel
theorem dX4_checksum_185 : decode cX4_checksum 185 = .ok (.bipush 24, 2) := by decide +kernel
theorem dX4_checksum_187 : decode cX4_checksum 187 = .ok (.iload 4, 2) := by decide +kernel
theorem dX4_checksum_189 : decode cX4_checksum 189 = .ok (.imul, 1) := by decide +kernel
theorem dX4_checksum_190 : decode cX4_checksum 190 = .ok (.iload 5, 2) := by decide +kernel
theorem dX4_checksum_192 : decode cX4_checksum 192 = .ok (.iadd, 1) := by decide +kernel
theorem dX4_checksum_193 : decode cX4_checksum 193 = .ok (.istore 6, 2) := by decide +kernel
theorem dX4_checksum_195 : decode cX4_checksum 195 = .ok (.lload_n 1, 1) := by decide +kernel
theorem dX4_checksum_196 : decode cX4_checksum 196 = .ok (.bipush 100, 2) := by decide +kernel
theorem dX4_checksum_198 : decode cX4_checksum 198 = .ok (.iload 4, 2) := by decide +kernel
theorem dX4_checksum_200 : decode cX4_checksum 200 = .ok (.imul, 1) := by decide +kernel
theorem dX4_checksum_201 : decode cX4_checksum 201 = .ok (.iload 5, 2) := by decide +kernel
theorem dX4_checksum_203 : decode cX4_checksum 203 = .ok (.iadd, 1) := by decide +kernel
theorem dX4_checksum_204 : decode cX4_checksum 204 = .ok (.invokestatic 220, 3) := by decide +kernel
theorem dX4_checksum_207 : decode cX4_checksum 207 = .ok (.aload_n 0, 1) := by decide +kernel
theorem dX4_checksum_208 : decode cX4_checksum 208 = .ok (.iload 4, 2) := by decide +kernel
theorem dX4_checksum_210 : decode cX4_checksum 210 = .ok (.iload 5, 2) := by decide +kernel
theorem dX4_checksum_212 : decode cX4_checksum 212 = .ok (.invokevirtual 111, 3) := by decide +kernel
theorem dX4_checksum_215 : decode cX4_checksum 215 = .ok (.invokestatic 220, 3) := by decide +kernel
theorem dX4_checksum_218 : decode cX4_checksum 218 = .ok (.aload_n 0, 1) := by decide +kernel
theorem dX4_checksum_219 : decode cX4_checksum 219 = .ok (.getfield 7, 3) := by decide +kernel
theorem dX4_checksum_222 : decode cX4_checksum 222 = .ok (.bipush 64, 2) := by decide +kernel
theorem dX4_checksum_224 : decode cX4_checksum 224 = .ok (.iload 6, 2) := by decide +kernel
theorem dX4_checksum_226 : decode cX4_checksum 226 = .ok (.iadd, 1) := by decide +kernel
theorem dX4_checksum_227 : decode cX4_checksum 227 = .ok (.iaload, 1) := by decide +kernel
theorem dX4_checksum_228 : decode cX4_checksum 228 = .ok (.invokestatic 220, 3) := by decide +kernel
theorem dX4_checksum_231 : decode cX4_checksum 231 = .ok (.lstore_n 1, 1) := by decide +kernel
theorem dX4_checksum_232 : decode cX4_checksum 232 = .ok (.lload_n 1, 1) := by decide +kernel
theorem dX4_checksum_233 : decode cX4_checksum 233 = .ok (.aload_n 0, 1) := by decide +kernel
theorem dX4_checksum_234 : decode cX4_checksum 234 = .ok (.getfield 50, 3) := by decide +kernel
theorem dX4_checksum_237 : decode cX4_checksum 237 = .ok (.iload 6, 2) := by decide +kernel
theorem dX4_checksum_239 : decode cX4_checksum 239 = .ok (.iaload, 1) := by decide +kernel
theorem dX4_checksum_240 : decode cX4_checksum 240 = .ok (.invokestatic 220, 3) := by decide +kernel
theorem dX4_checksum_243 : decode cX4_checksum 243 = .ok (.aload_n 0, 1) := by decide +kernel
theorem dX4_checksum_244 : decode cX4_checksum 244 = .ok (.getfield 53, 3) := by decide +kernel
theorem dX4_checksum_247 : decode cX4_checksum 247 = .ok (.iload 6, 2) := by decide +kernel
theorem dX4_checksum_249 : decode cX4_checksum 249 = .ok (.iaload, 1) := by decide +kernel
theorem dX4_checksum_250 : decode cX4_checksum 250 = .ok (.invokestatic 220, 3) := by decide +kernel
theorem dX4_checksum_253 : decode cX4_checksum 253 = .ok (.aload_n 0, 1) := by decide +kernel
theorem dX4_checksum_254 : decode cX4_checksum 254 = .ok (.iload 4, 2) := by decide +kernel
theorem dX4_checksum_256 : decode cX4_checksum 256 = .ok (.iload 5, 2) := by decide +kernel
theorem dX4_checksum_258 : decode cX4_checksum 258 = .ok (.invokevirtual 195, 3) := by decide +kernel
theorem dX4_checksum_261 : decode cX4_checksum 261 = .ok (.invokestatic 220, 3) := by decide +kernel
theorem dX4_checksum_264 : decode cX4_checksum 264 = .ok (.aload_n 0, 1) := by decide +kernel
theorem dX4_checksum_265 : decode cX4_checksum 265 = .ok (.iload 4, 2) := by decide +kernel
theorem dX4_checksum_267 : decode cX4_checksum 267 = .ok (.iload 5, 2) := by decide +kernel
theorem dX4_checksum_269 : decode cX4_checksum 269 = .ok (.iload_n 3, 1) := by decide +kernel
theorem dX4_checksum_270 : decode cX4_checksum 270 = .ok (.invokevirtual 179, 3) := by decide +kernel
theorem dX4_checksum_273 : decode cX4_checksum 273 = .ok (.invokestatic 220, 3) := by decide +kernel
theorem dX4_checksum_276 : decode cX4_checksum 276 = .ok (.lstore_n 1, 1) := by decide +kernel
theorem dX4_checksum_277 : decode cX4_checksum 277 = .ok (.iinc 5 1, 3) := by decide +kernel
theorem dX4_checksum_280 : decode cX4_checksum 280 = .ok (.goto (-113), 3) := by decide +kernel
theorem dX4_checksum_283 : decode cX4_checksum 283 = .ok (.iinc 4 1, 3) := by decide +kernel
theorem dX4_checksum_286 : decode cX4_checksum 286 = .ok (.goto (-129), 3) := by decide +kernel
theorem dX4_checksum_289 : decode cX4_checksum 289 = .ok (.lload_n 1, 1) := by decide +kernel
theorem dX4_checksum_290 : decode cX4_checksum 290 = .ok (.aload_n 0, 1) := by decide +kernel
theorem dX4_checksum_291 : decode cX4_checksum 291 = .ok (.invokevirtual 204, 3) := by decide +kernel
theorem dX4_checksum_294 : decode cX4_checksum 294 = .ok (.invokestatic 220, 3) := by decide +kernel
theorem dX4_checksum_297 : decode cX4_checksum 297 = .ok (.aload_n 0, 1) := by decide +kernel
theorem dX4_checksum_298 : decode cX4_checksum 298 = .ok (.iconst 0, 1) := by decide +kernel
theorem dX4_checksum_299 : decode cX4_checksum 299 = .ok (.invokevirtual 213, 3) := by decide +kernel
theorem dX4_checksum_302 : decode cX4_checksum 302 = .ok (.invokestatic 220, 3) := by decide +kernel
theorem dX4_checksum_305 : decode cX4_checksum 305 = .ok (.aload_n 0, 1) := by decide +kernel
theorem dX4_checksum_306 : decode cX4_checksum 306 = .ok (.iconst 1, 1) := by decide +kernel
theorem dX4_checksum_307 : decode cX4_checksum 307 = .ok (.invokevirtual 213, 3) := by decide +kernel
theorem dX4_checksum_310 : decode cX4_checksum 310 = .ok (.invokestatic 220, 3) := by decide +kernel
theorem dX4_checksum_313 : decode cX4_checksum 313 = .ok (.lreturn, 1) := by decide +kernel
