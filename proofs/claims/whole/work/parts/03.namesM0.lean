theorem dX9_init_0 : decode cX9_init 0 = .ok (.aload_n 0, 1) := by decide +kernel
theorem dX9_init_1 : decode cX9_init 1 = .ok (.invokespecial 1, 3) := by decide +kernel
theorem dX9_init_4 : decode cX9_init 4 = .ok (.aload_n 0, 1) := by decide +kernel
theorem dX9_init_5 : decode cX9_init 5 = .ok (.bipush 8, 2) := by decide +kernel
theorem dX9_init_7 : decode cX9_init 7 = .ok (.newarray .boolean, 2) := by decide +kernel
theorem dX9_init_9 : decode cX9_init 9 = .ok (.putfield 7, 3) := by decide +kernel
theorem dX9_init_12 : decode cX9_init 12 = .ok (.aload_n 0, 1) := by decide +kernel
theorem dX9_init_13 : decode cX9_init 13 = .ok (.bipush 8, 2) := by decide +kernel
theorem dX9_init_15 : decode cX9_init 15 = .ok (.newarray .boolean, 2) := by decide +kernel
theorem dX9_init_17 : decode cX9_init 17 = .ok (.putfield 13, 3) := by decide +kernel
theorem dX9_init_20 : decode cX9_init 20 = .ok (.aload_n 0, 1) := by decide +kernel
theorem dX9_init_21 : decode cX9_init 21 = .ok (.bipush 8, 2) := by decide +kernel
theorem dX9_init_23 : decode cX9_init 23 = .ok (.newarray .boolean, 2) := by decide +kernel
theorem dX9_init_25 : decode cX9_init 25 = .ok (.putfield 16, 3) := by decide +kernel
theorem dX9_init_28 : decode cX9_init 28 = .ok (.aload_n 0, 1) := by decide +kernel
theorem dX9_init_29 : decode cX9_init 29 = .ok (.bipush 8, 2) := by decide +kernel
theorem dX9_init_31 : decode cX9_init 31 = .ok (.newarray .int, 2) := by decide +kernel
theorem dX9_init_33 : decode cX9_init 33 = .ok (.putfield 19, 3) := by decide +kernel
theorem dX9_init_36 : decode cX9_init 36 = .ok (.aload_n 0, 1) := by decide +kernel
theorem dX9_init_37 : decode cX9_init 37 = .ok (.bipush 64, 2) := by decide +kernel
theorem dX9_init_39 : decode cX9_init 39 = .ok (.newarray .boolean, 2) := by decide +kernel
theorem dX9_init_41 : decode cX9_init 41 = .ok (.putfield 23, 3) := by decide +kernel
theorem dX9_init_44 : decode cX9_init 44 = .ok (.aload_n 0, 1) := by decide +kernel
theorem dX9_init_45 : decode cX9_init 45 = .ok (.bipush 24, 2) := by decide +kernel
theorem dX9_init_47 : decode cX9_init 47 = .ok (.newarray .int, 2) := by decide +kernel
theorem dX9_init_49 : decode cX9_init 49 = .ok (.putfield 26, 3) := by decide +kernel
theorem dX9_init_52 : decode cX9_init 52 = .ok (.aload_n 0, 1) := by decide +kernel
theorem dX9_init_53 : decode cX9_init 53 = .ok (.iconst 1, 1) := by decide +kernel
theorem dX9_init_54 : decode cX9_init 54 = .ok (.putfield 29, 3) := by decide +kernel
theorem dX9_init_57 : decode cX9_init 57 = .ok (.aload_n 0, 1) := by decide +kernel
theorem dX9_init_58 : decode cX9_init 58 = .ok (.bipush 10, 2) := by decide +kernel
theorem dX9_init_60 : decode cX9_init 60 = .ok (.newarray .int, 2) := by decide +kernel
theorem dX9_init_62 : decode cX9_init 62 = .ok (.putfield 33, 3) := by decide +kernel
theorem dX9_init_65 : decode cX9_init 65 = .ok (.aload_n 0, 1) := by decide +kernel
theorem dX9_init_66 : decode cX9_init 66 = .ok (.bipush 10, 2) := by decide +kernel
theorem dX9_init_68 : decode cX9_init 68 = .ok (.newarray .int, 2) := by decide +kernel
theorem dX9_init_70 : decode cX9_init 70 = .ok (.dup, 1) := by decide +kernel
theorem dX9_init_71 : decode cX9_init 71 = .ok (.iconst 0, 1) := by decide +kernel
theorem dX9_init_72 : decode cX9_init 72 = .ok (.bipush 90, 2) := by decide +kernel
theorem dX9_init_74 : decode cX9_init 74 = .ok (.iastore, 1) := by decide +kernel
theorem dX9_init_75 : decode cX9_init 75 = .ok (.dup, 1) := by decide +kernel
theorem dX9_init_76 : decode cX9_init 76 = .ok (.iconst 1, 1) := by decide +kernel
theorem dX9_init_77 : decode cX9_init 77 = .ok (.iconst 0, 1) := by decide +kernel
theorem dX9_init_78 : decode cX9_init 78 = .ok (.iastore, 1) := by decide +kernel
theorem dX9_init_79 : decode cX9_init 79 = .ok (.dup, 1) := by decide +kernel
theorem dX9_init_80 : decode cX9_init 80 = .ok (.iconst 2, 1) := by decide +kernel
theorem dX9_init_81 : decode cX9_init 81 = .ok (.iconst 0, 1) := by decide +kernel
theorem dX9_init_82 : decode cX9_init 82 = .ok (.iastore, 1) := by decide +kernel
theorem dX9_init_83 : decode cX9_init 83 = .ok (.dup, 1) := by decide +kernel
theorem dX9_init_84 : decode cX9_init 84 = .ok (.iconst 3, 1) := by decide +kernel
theorem dX9_init_85 : decode cX9_init 85 = .ok (.iconst 0, 1) := by decide +kernel
theorem dX9_init_86 : decode cX9_init 86 = .ok (.iastore, 1) := by decide +kernel
theorem dX9_init_87 : decode cX9_init 87 = .ok (.dup, 1) := by decide +kernel
theorem dX9_init_88 : decode cX9_init 88 = .ok (.iconst 4, 1) := by decide +kernel
theorem dX9_init_89 : decode cX9_init 89 = .ok (.iconst 0, 1) := by decide +kernel
theorem dX9_init_90 : decode cX9_init 90 = .ok (.iastore, 1) := by decide +kernel
theorem dX9_init_91 : decode cX9_init 91 = .ok (.dup, 1) := by decide +kernel
theorem dX9_init_92 : decode cX9_init 92 = .ok (.iconst 5, 1) := by decide +kernel
theorem dX9_init_93 : decode cX9_init 93 = .ok (.iconst 0, 1) := by decide +kernel
theorem dX9_init_94 : decode cX9_init 94 = .ok (.iastore, 1) := by decide +kernel
theorem dX9_init_95 : decode cX9_init 95 = .ok (.dup, 1) := by decide +kernel
theorem dX9_init_96 : decode cX9_init 96 = .ok (.bipush 6, 2) := by decide +kernel
theorem dX9_init_98 : decode cX9_init 98 = .ok (.iconst 0, 1) := by decide +kernel
theorem dX9_init_99 : decode cX9_init 99 = .ok (.iastore, 1) := by decide +kernel
theorem dX9_init_100 : decode cX9_init 100 = .ok (.dup, 1) := by decide +kernel
theorem dX9_init_101 : decode cX9_init 101 = .ok (.bipush 7, 2) := by decide +kernel
theorem dX9_init_103 : decode cX9_init 103 = .ok (.iconst 0, 1) := by decide +kernel
theorem dX9_init_104 : decode cX9_init 104 = .ok (.iastore, 1) := by decide +kernel
theorem dX9_init_105 : decode cX9_init 105 = .ok (.dup, 1) := by decide +kernel
theorem dX9_init_106 : decode cX9_init 106 = .ok (.bipush 8, 2) := by decide +kernel
theorem dX9_init_108 : decode cX9_init 108 = .ok (.iconst 0, 1) := by decide +kernel
theorem dX9_init_109 : decode cX9_init 109 = .ok (.iastore, 1) := by decide +kernel
theorem dX9_init_110 : decode cX9_init 110 = .ok (.dup, 1) := by decide +kernel
theorem dX9_init_111 : decode cX9_init 111 = .ok (.bipush 9, 2) := by decide +kernel
theorem dX9_init_113 : decode cX9_init 113 = .ok (.iconst 0, 1) := by decide +kernel
theorem dX9_init_114 : decode cX9_init 114 = .ok (.iastore, 1) := by decide +kernel
theorem dX9_init_115 : decode cX9_init 115 = .ok (.putfield 36, 3) := by decide +kernel
theorem dX9_init_118 : decode cX9_init 118 = .ok (.aload_n 0, 1) := by decide +kernel
theorem dX9_init_119 : decode cX9_init 119 = .ok (.bipush 10, 2) := by decide +kernel
theorem dX9_init_121 : decode cX9_init 121 = .ok (.newarray .int, 2) := by decide +kernel
theorem dX9_init_123 : decode cX9_init 123 = .ok (.dup, 1) := by decide +kernel
theorem dX9_init_124 : decode cX9_init 124 = .ok (.iconst 0, 1) := by decide +kernel
theorem dX9_init_125 : decode cX9_init 125 = .ok (.sipush 180, 3) := by decide +kernel
theorem dX9_init_128 : decode cX9_init 128 = .ok (.iastore, 1) := by decide +kernel
theorem dX9_init_129 : decode cX9_init 129 = .ok (.dup, 1) := by decide +kernel
theorem dX9_init_130 : decode cX9_init 130 = .ok (.iconst 1, 1) := by decide +kernel
theorem dX9_init_131 : decode cX9_init 131 = .ok (.iconst 0, 1) := by decide +kernel
theorem dX9_init_132 : decode cX9_init 132 = .ok (.iastore, 1) := by decide +kernel
theorem dX9_init_133 : decode cX9_init 133 = .ok (.dup, 1) := by decide +kernel
theorem dX9_init_134 : decode cX9_init 134 = .ok (.iconst 2, 1) := by decide +kernel
theorem dX9_init_135 : decode cX9_init 135 = .ok (.iconst 0, 1) := by decide +kernel
theorem dX9_init_136 : decode cX9_init 136 = .ok (.iastore, 1) := by decide +kernel
theorem dX9_init_137 : decode cX9_init 137 = .ok (.dup, 1) := by decide +kernel
theorem dX9_init_138 : decode cX9_init 138 = .ok (.iconst 3, 1) := by decide +kernel
theorem dX9_init_139 : decode cX9_init 139 = .ok (.iconst 0, 1) := by decide +kernel
theorem dX9_init_140 : decode cX9_init 140 = .ok (.iastore, 1) := by decide +kernel
theorem dX9_init_141 : decode cX9_init 141 = .ok (.dup, 1) := by decide +kernel
theorem dX9_init_142 : decode cX9_init 142 = .ok (.iconst 4, 1) := by decide +kernel
theorem dX9_init_143 : decode cX9_init 143 = .ok (.iconst 0, 1) := by decide +kernel
theorem dX9_init_144 : decode cX9_init 144 = .ok (.iastore, 1) := by decide +kernel
theorem dX9_init_145 : decode cX9_init 145 = .ok (.dup, 1) := by decide +kernel
theorem dX9_init_146 : decode cX9_init 146 = .ok (.iconst 5, 1) := by decide +kernel
theorem dX9_init_147 : decode cX9_init 147 = .ok (.iconst 0, 1) := by decide +kernel
theorem dX9_init_148 : decode cX9_init 148 = .ok (.iastore, 1) := by decide +kernel
theorem dX9_init_149 : decode cX9_init 149 = .ok (.dup, 1) := by decide +kernel
theorem dX9_init_150 : decode cX9_init 150 = .ok (.bipush 6, 2) := by decide +kernel
theorem dX9_init_152 : decode cX9_init 152 = .ok (.iconst 0, 1) := by decide +kernel
theorem dX9_init_153 : decode cX9_init 153 = .ok (.iastore, 1) := by decide +kernel
theorem dX9_init_154 : decode cX9_init 154 = .ok (.dup, 1) := by decide +kernel
theorem dX9_init_155 : decode cX9_init 155 = .ok (.bipush 7, 2) := by decide +kernel
theorem dX9_init_157 : decode cX9_init 157 = .ok (.iconst 0, 1) := by decide +kernel
theorem dX9_init_158 : decode cX9_init 158 = .ok (.iastore, 1) := by decide +kernel
theorem dX9_init_159 : decode cX9_init 159 = .ok (.dup, 1) := by decide +kernel
theorem dX9_init_160 : decode cX9_init 160 = .ok (.bipush 8, 2) := by decide +kernel
theorem dX9_init_162 : decode cX9_init 162 = .ok (.iconst 0, 1) := by decide +kernel
theorem dX9_init_163 : decode cX9_init 163 = .ok (.iastore, 1) := by decide +kernel
theorem dX9_init_164 : decode cX9_init 164 = .ok (.dup, 1) := by decide +kernel
theorem dX9_init_165 : decode cX9_init 165 = .ok (.bipush 9, 2) := by decide +kernel
theorem dX9_init_167 : decode cX9_init 167 = .ok (.iconst 0, 1) := by decide +kernel
theorem dX9_init_168 : decode cX9_init 168 = .ok (.iastore, 1) := by decide +kernel
theorem dX9_init_169 : decode cX9_init 169 = .ok (.putfield 39, 3) := by decide +kernel
theorem dX9_init_172 : decode cX9_init 172 = .ok (.aload_n 0, 1) := by decide +kernel
theorem dX9_init_173 : decode cX9_init 173 = .ok (.bipush 16, 2) := by decide +kernel
theorem dX9_init_175 : decode cX9_init 175 = .ok (.newarray .int, 2) := by decide +kernel
theorem dX9_init_177 : decode cX9_init 177 = .ok (.putfield 42, 3) := by decide +kernel
theorem dX9_init_180 : decode cX9_init 180 = .ok (.aload_n 0, 1) := by decide +kernel
theorem dX9_init_181 : decode cX9_init 181 = .ok (.bipush 16, 2) := by decide +kernel
theorem dX9_init_183 : decode cX9_init 183 = .ok (.newarray .int, 2) := by decide +kernel
theorem dX9_init_185 : decode cX9_init 185 = .ok (.putfield 45, 3) := by decide +kernel
theorem dX9_init_188 : decode cX9_init 188 = .ok (.aload_n 0, 1) := by decide +kernel
theorem dX9_init_189 : decode cX9_init 189 = .ok (.bipush 16, 2) := by decide +kernel
theorem dX9_init_191 : decode cX9_init 191 = .ok (.newarray .int, 2) := by decide +kernel
theorem dX9_init_193 : decode cX9_init 193 = .ok (.putfield 48, 3) := by decide +kernel
theorem dX9_init_196 : decode cX9_init 196 = .ok (.aload_n 0, 1) := by decide +kernel
theorem dX9_init_197 : decode cX9_init 197 = .ok (.bipush 16, 2) := by decide +kernel
theorem dX9_init_199 : decode cX9_init 199 = .ok (.newarray .int, 2) := by decide +kernel
theorem dX9_init_201 : decode cX9_init 201 = .ok (.putfield 51, 3) := by decide +kernel
theorem dX9_init_204 : decode cX9_init 204 = .ok (.aload_n 0, 1) := by decide +kernel
theorem dX9_init_205 : decode cX9_init 205 = .ok (.bipush 16, 2) := by decide +kernel
theorem dX9_init_207 : decode cX9_init 207 = .ok (.newarray .int, 2) := by decide +kernel
theorem dX9_init_209 : decode cX9_init 209 = .ok (.putfield 54, 3) := by decide +kernel
theorem dX9_init_212 : decode cX9_init 212 = .ok (.aload_n 0, 1) := by decide +kernel
theorem dX9_init_213 : decode cX9_init 213 = .ok (.bipush 16, 2) := by decide +kernel
theorem dX9_init_215 : decode cX9_init 215 = .ok (.newarray .boolean, 2) := by decide +kernel
theorem dX9_init_217 : decode cX9_init 217 = .ok (.putfield 57, 3) := by decide +kernel
theorem dX9_init_220 : decode cX9_init 220 = .ok (.aload_n 0, 1) := by decide +kernel
theorem dX9_init_221 : decode cX9_init 221 = .ok (.bipush 16, 2) := by decide +kernel
theorem dX9_init_223 : decode cX9_init 223 = .ok (.newarray .int, 2) := by decide +kernel
theorem dX9_init_225 : decode cX9_init 225 = .ok (.putfield 60, 3) := by decide +kernel
theorem dX9_init_228 : decode cX9_init 228 = .ok (.aload_n 0, 1) := by decide +kernel
theorem dX9_init_229 : decode cX9_init 229 = .ok (.bipush 16, 2) := by decide +kernel
theorem dX9_init_231 : decode cX9_init 231 = .ok (.newarray .int, 2) := by decide +kernel
theorem dX9_init_233 : decode cX9_init 233 = .ok (.putfield 63, 3) := by decide +kernel
theorem dX9_init_236 : decode cX9_init 236 = .ok (.aload_n 0, 1) := by decide +kernel
theorem dX9_init_237 : decode cX9_init 237 = .ok (.ldc 66, 2) := by decide +kernel
theorem dX9_init_239 : decode cX9_init 239 = .ok (.newarray .int, 2) := by decide +kernel
theorem dX9_init_241 : decode cX9_init 241 = .ok (.putfield 67, 3) := by decide +kernel
theorem dX9_init_244 : decode cX9_init 244 = .ok (.aload_n 0, 1) := by decide +kernel
theorem dX9_init_245 : decode cX9_init 245 = .ok (.sipush 128, 3) := by decide +kernel
theorem dX9_init_248 : decode cX9_init 248 = .ok (.newarray .int, 2) := by decide +kernel
theorem dX9_init_250 : decode cX9_init 250 = .ok (.putfield 70, 3) := by decide +kernel
theorem dX9_init_253 : decode cX9_init 253 = .ok (.aload_n 0, 1) := by decide +kernel
theorem dX9_init_254 : decode cX9_init 254 = .ok (.sipush 128, 3) := by decide +kernel
theorem dX9_init_257 : decode cX9_init 257 = .ok (.newarray .int, 2) := by decide +kernel
theorem dX9_init_259 : decode cX9_init 259 = .ok (.putfield 73, 3) := by decide +kernel
theorem dX9_init_262 : decode cX9_init 262 = .ok (.aload_n 0, 1) := by decide +kernel
theorem dX9_init_263 : decode cX9_init 263 = .ok (.sipush 128, 3) := by decide +kernel
theorem dX9_init_266 : decode cX9_init 266 = .ok (.newarray .int, 2) := by decide +kernel
theorem dX9_init_268 : decode cX9_init 268 = .ok (.putfield 76, 3) := by decide +kernel
theorem dX9_init_271 : decode cX9_init 271 = .ok (.aload_n 0, 1) := by decide +kernel
theorem dX9_init_272 : decode cX9_init 272 = .ok (.sipush 128, 3) := by decide +kernel
theorem dX9_init_275 : decode cX9_init 275 = .ok (.newarray .int, 2) := by decide +kernel
theorem dX9_init_277 : decode cX9_init 277 = .ok (.putfield 79, 3) := by decide +kernel
theorem dX9_init_280 : decode cX9_init 280 = .ok (.aload_n 0, 1) := by decide +kernel
theorem dX9_init_281 : decode cX9_init 281 = .ok (.sipush 128, 3) := by decide +kernel
theorem dX9_init_284 : decode cX9_init 284 = .ok (.newarray .int, 2) := by decide +kernel
theorem dX9_init_286 : decode cX9_init 286 = .ok (.putfield 82, 3) := by decide +kernel
theorem dX9_init_289 : decode cX9_init 289 = .ok (.aload_n 0, 1) := by decide +kernel
theorem dX9_init_290 : decode cX9_init 290 = .ok (.bipush 60, 2) := by decide +kernel
theorem dX9_init_292 : decode cX9_init 292 = .ok (.newarray .int, 2) := by decide +kernel
theorem dX9_init_294 : decode cX9_init 294 = .ok (.putfield 85, 3) := by decide +kernel
theorem dX9_init_297 : decode cX9_init 297 = .ok (.aload_n 0, 1) := by decide +kernel
theorem dX9_init_298 : decode cX9_init 298 = .ok (.bipush 60, 2) := by decide +kernel
theorem dX9_init_300 : decode cX9_init 300 = .ok (.newarray .int, 2) := by decide +kernel
theorem dX9_init_302 : decode cX9_init 302 = .ok (.putfield 88, 3) := by decide +kernel
theorem dX9_init_305 : decode cX9_init 305 = .ok (.aload_n 0, 1) := by decide +kernel
theorem dX9_init_306 : decode cX9_init 306 = .ok (.bipush 60, 2) := by decide +kernel
theorem dX9_init_308 : decode cX9_init 308 = .ok (.newarray .int, 2) := by decide +kernel
theorem dX9_init_310 : decode cX9_init 310 = .ok (.putfield 91, 3) := by decide +kernel
theorem dX9_init_313 : decode cX9_init 313 = .ok (.aload_n 0, 1) := by decide +kernel
theorem dX9_init_314 : decode cX9_init 314 = .ok (.bipush 60, 2) := by decide +kernel
theorem dX9_init_316 : decode cX9_init 316 = .ok (.newarray .int, 2) := by decide +kernel
theorem dX9_init_318 : decode cX9_init 318 = .ok (.putfield 94, 3) := by decide +kernel
theorem dX9_init_321 : decode cX9_init 321 = .ok (.aload_n 0, 1) := by decide +kernel
theorem dX9_init_322 : decode cX9_init 322 = .ok (.bipush 60, 2) := by decide +kernel
theorem dX9_init_324 : decode cX9_init 324 = .ok (.newarray .int, 2) := by decide +kernel
theorem dX9_init_326 : decode cX9_init 326 = .ok (.putfield 97, 3) := by decide +kernel
theorem dX9_init_329 : decode cX9_init 329 = .ok (.aload_n 0, 1) := by decide +kernel
theorem dX9_init_330 : decode cX9_init 330 = .ok (.bipush 60, 2) := by decide +kernel
theorem dX9_init_332 : decode cX9_init 332 = .ok (.newarray .int, 2) := by decide +kernel
theorem dX9_init_334 : decode cX9_init 334 = .ok (.putfield 100, 3) := by decide +kernel
theorem dX9_init_337 : decode cX9_init 337 = .ok (.aload_n 0, 1) := by decide +kernel
theorem dX9_init_338 : decode cX9_init 338 = .ok (.bipush 60, 2) := by decide +kernel
theorem dX9_init_340 : decode cX9_init 340 = .ok (.newarray .int, 2) := by decide +kernel
theorem dX9_init_342 : decode cX9_init 342 = .ok (.putfield 103, 3) := by decide +kernel
theorem dX9_init_345 : decode cX9_init 345 = .ok (.aload_n 0, 1) := by decide +kernel
theorem dX9_init_346 : decode cX9_init 346 = .ok (.bipush 40, 2) := by decide +kernel
theorem dX9_init_348 : decode cX9_init 348 = .ok (.newarray .int, 2) := by decide +kernel
theorem dX9_init_350 : decode cX9_init 350 = .ok (.putfield 106, 3) := by decide +kernel
theorem dX9_init_353 : decode cX9_init 353 = .ok (.aload_n 0, 1) := by decide +kernel
theorem dX9_init_354 : decode cX9_init 354 = .ok (.bipush 40, 2) := by decide +kernel
theorem dX9_init_356 : decode cX9_init 356 = .ok (.newarray .int, 2) := by decide +kernel
theorem dX9_init_358 : decode cX9_init 358 = .ok (.putfield 109, 3) := by decide +kernel
theorem dX9_init_361 : decode cX9_init 361 = .ok (.aload_n 0, 1) := by decide +kernel
theorem dX9_init_362 : decode cX9_init 362 = .ok (.bipush 40, 2) := by decide +kernel
theorem dX9_init_364 : decode cX9_init 364 = .ok (.newarray .int, 2) := by decide +kernel
theorem dX9_init_366 : decode cX9_init 366 = .ok (.putfield 112, 3) := by decide +kernel
theorem dX9_init_369 : decode cX9_init 369 = .ok (.aload_n 0, 1) := by decide +kernel
theorem dX9_init_370 : decode cX9_init 370 = .ok (.bipush 40, 2) := by decide +kernel
theorem dX9_init_372 : decode cX9_init 372 = .ok (.newarray .int, 2) := by decide +kernel
theorem dX9_init_374 : decode cX9_init 374 = .ok (.putfield 115, 3) := by decide +kernel
theorem dX9_init_377 : decode cX9_init 377 = .ok (.aload_n 0, 1) := by decide +kernel
theorem dX9_init_378 : decode cX9_init 378 = .ok (.bipush 40, 2) := by decide +kernel
theorem dX9_init_380 : decode cX9_init 380 = .ok (.newarray .int, 2) := by decide +kernel
theorem dX9_init_382 : decode cX9_init 382 = .ok (.putfield 118, 3) := by decide +kernel
theorem dX9_init_385 : decode cX9_init 385 = .ok (.aload_n 0, 1) := by decide +kernel
theorem dX9_init_386 : decode cX9_init 386 = .ok (.bipush 40, 2) := by decide +kernel
theorem dX9_init_388 : decode cX9_init 388 = .ok (.newarray .int, 2) := by decide +kernel
theorem dX9_init_390 : decode cX9_init 390 = .ok (.putfield 121, 3) := by decide +kernel
theorem dX9_init_393 : decode cX9_init 393 = .ok (.aload_n 0, 1) := by decide +kernel
theorem dX9_init_394 : decode cX9_init 394 = .ok (.bipush 40, 2) := by decide +kernel
theorem dX9_init_396 : decode cX9_init 396 = .ok (.newarray .int, 2) := by decide +kernel
theorem dX9_init_398 : decode cX9_init 398 = .ok (.putfield 124, 3) := by decide +kernel
theorem dX9_init_401 : decode cX9_init 401 = .ok (.aload_n 0, 1) := by decide +kernel
theorem dX9_init_402 : decode cX9_init 402 = .ok (.bipush 120, 2) := by decide +kernel
theorem dX9_init_404 : decode cX9_init 404 = .ok (.newarray .int, 2) := by decide +kernel
theorem dX9_init_406 : decode cX9_init 406 = .ok (.putfield 127, 3) := by decide +kernel
theorem dX9_init_409 : decode cX9_init 409 = .ok (.iconst 0, 1) := by decide +kernel
theorem dX9_init_410 : decode cX9_init 410 = .ok (.istore_n 1, 1) := by decide +kernel
theorem dX9_init_411 : decode cX9_init 411 = .ok (.iload_n 1, 1) := by decide +kernel
theorem dX9_init_412 : decode cX9_init 412 = .ok (.sipush 128, 3) := by decide +kernel
theorem dX9_init_415 : decode cX9_init 415 = .ok (.if_icmp .ge 23, 3) := by decide +kernel
theorem dX9_init_418 : decode cX9_init 418 = .ok (.aload_n 0, 1) := by decide +kernel
theorem dX9_init_419 : decode cX9_init 419 = .ok (.getfield 70, 3) := by decide +kernel
theorem dX9_init_422 : decode cX9_init 422 = .ok (.iload_n 1, 1) := by decide +kernel
theorem dX9_init_423 : decode cX9_init 423 = .ok (.iconst (-1), 1) := by decide +kernel
theorem dX9_init_424 : decode cX9_init 424 = .ok (.iastore, 1) := by decide +kernel
theorem dX9_init_425 : decode cX9_init 425 = .ok (.aload_n 0, 1) := by decide +kernel
theorem dX9_init_426 : decode cX9_init 426 = .ok (.getfield 76, 3) := by decide +kernel
theorem dX9_init_429 : decode cX9_init 429 = .ok (.iload_n 1, 1) := by decide +kernel
theorem dX9_init_430 : decode cX9_init 430 = .ok (.iconst (-1), 1) := by decide +kernel
theorem dX9_init_431 : decode cX9_init 431 = .ok (.iastore, 1) := by decide +kernel
theorem dX9_init_432 : decode cX9_init 432 = .ok (.iinc 1 1, 3) := by decide +kernel
theorem dX9_init_435 : decode cX9_init 435 = .ok (.goto (-24), 3) := by decide +kernel
theorem dX9_init_438 : decode cX9_init 438 = .ok (.return_, 1) := by decide +kernel
theorem dX9_thrown_0 : decode cX9_thrown 0 = .ok (.aload_n 0, 1) := by decide +kernel
theorem dX9_thrown_1 : decode cX9_thrown 1 = .ok (.getfield 130, 3) := by decide +kernel
theorem dX9_thrown_4 : decode cX9_thrown 4 = .ok (.ireturn, 1) := by decide +kernel
theorem dX9_goesWell_0 : decode cX9_goesWell 0 = .ok (.aload_n 0, 1) := by decide +kernel
theorem dX9_goesWell_1 : decode cX9_goesWell 1 = .ok (.iload_n 1, 1) := by decide +kernel
theorem dX9_goesWell_2 : decode cX9_goesWell 2 = .ok (.putfield 130, 3) := by decide +kernel
theorem dX9_goesWell_5 : decode cX9_goesWell 5 = .ok (.iload_n 1, 1) := by decide +kernel
theorem dX9_goesWell_6 : decode cX9_goesWell 6 = .ok (.ifCond .ne 7, 3) := by decide +kernel
theorem dX9_goesWell_9 : decode cX9_goesWell 9 = .ok (.iconst 1, 1) := by decide +kernel
theorem dX9_goesWell_10 : decode cX9_goesWell 10 = .ok (.goto 4, 3) := by decide +kernel
theorem dX9_goesWell_13 : decode cX9_goesWell 13 = .ok (.iconst 0, 1) := by decide +kernel
theorem dX9_goesWell_14 : decode cX9_goesWell 14 = .ok (.ireturn, 1) := by decide +kernel
theorem dX9_in_0 : decode cX9_in 0 = .ok (.iload_n 0, 1) := by decide +kernel
theorem dX9_in_1 : decode cX9_in 1 = .ok (.iload_n 1, 1) := by decide +kernel
theorem dX9_in_2 : decode cX9_in 2 = .ok (.if_icmp .lt 12, 3) := by decide +kernel
theorem dX9_in_5 : decode cX9_in 5 = .ok (.iload_n 0, 1) := by decide +kernel
theorem dX9_in_6 : decode cX9_in 6 = .ok (.iload_n 2, 1) := by decide +kernel
theorem dX9_in_7 : decode cX9_in 7 = .ok (.if_icmp .gt 7, 3) := by decide +kernel
theorem dX9_in_10 : decode cX9_in 10 = .ok (.iconst 1, 1) := by decide +kernel
theorem dX9_in_11 : decode cX9_in 11 = .ok (.goto 4, 3) := by decide +kernel
theorem dX9_in_14 : decode cX9_in 14 = .ok (.iconst 0, 1) := by decide +kernel
theorem dX9_in_15 : decode cX9_in 15 = .ok (.ireturn, 1) := by decide +kernel
theorem dX9_has_0 : decode cX9_has 0 = .ok (.iload_n 0, 1) := by decide +kernel
theorem dX9_has_1 : decode cX9_has 1 = .ok (.iload_n 1, 1) := by decide +kernel
theorem dX9_has_2 : decode cX9_has 2 = .ok (.ishr, 1) := by decide +kernel
theorem dX9_has_3 : decode cX9_has 3 = .ok (.iconst 1, 1) := by decide +kernel
theorem dX9_has_4 : decode cX9_has 4 = .ok (.iand, 1) := by decide +kernel
theorem dX9_has_5 : decode cX9_has 5 = .ok (.iconst 1, 1) := by decide +kernel
theorem dX9_has_6 : decode cX9_has 6 = .ok (.if_icmp .ne 7, 3) := by decide +kernel
theorem dX9_has_9 : decode cX9_has 9 = .ok (.iconst 1, 1) := by decide +kernel
theorem dX9_has_10 : decode cX9_has 10 = .ok (.goto 4, 3) := by decide +kernel
theorem dX9_has_13 : decode cX9_has 13 = .ok (.iconst 0, 1) := by decide +kernel
theorem dX9_has_14 : decode cX9_has 14 = .ok (.ireturn, 1) := by decide +kernel
set_option maxRecDepth 20000 in
theorem ggX9_isLand_X9_in : GoodIn wsX9_isLand wsX9_in := goodIn_r _ [5] (by decide +kernel) (by decide +kernel)
set_option maxRecDepth 20000 in
theorem gX9_isLand_X9_in : GoodIn wsX9_isLand (va_wsS RX9 136 yX9_in wsX9_in) := goodIn_app (goodIn_of _ (by decide +kernel)) ggX9_isLand_X9_in
theorem dX9_isLand_0 : decode cX9_isLand 0 = .ok (.iload_n 1, 1) := by decide +kernel
theorem dX9_isLand_1 : decode cX9_isLand 1 = .ok (.iconst 0, 1) := by decide +kernel
theorem dX9_isLand_2 : decode cX9_isLand 2 = .ok (.aload_n 0, 1) := by decide +kernel
theorem dX9_isLand_3 : decode cX9_isLand 3 = .ok (.getfield 133, 3) := by decide +kernel
theorem dX9_isLand_6 : decode cX9_isLand 6 = .ok (.iconst 1, 1) := by decide +kernel
theorem dX9_isLand_7 : decode cX9_isLand 7 = .ok (.isub, 1) := by decide +kernel
theorem dX9_isLand_8 : decode cX9_isLand 8 = .ok (.invokestatic 136, 3) := by decide +kernel
theorem dX9_isLand_11 : decode cX9_isLand 11 = .ok (.ireturn, 1) := by decide +kernel
set_option maxRecDepth 20000 in
theorem ggX9_isPerson_X9_in : GoodIn wsX9_isPerson wsX9_in := goodIn_r _ [5] (by decide +kernel) (by decide +kernel)
set_option maxRecDepth 20000 in
theorem gX9_isPerson_X9_in : GoodIn wsX9_isPerson (va_wsS RX9 136 yX9_in wsX9_in) := goodIn_app (goodIn_of _ (by decide +kernel)) ggX9_isPerson_X9_in
theorem dX9_isPerson_0 : decode cX9_isPerson 0 = .ok (.iload_n 1, 1) := by decide +kernel
theorem dX9_isPerson_1 : decode cX9_isPerson 1 = .ok (.iconst 0, 1) := by decide +kernel
theorem dX9_isPerson_2 : decode cX9_isPerson 2 = .ok (.aload_n 0, 1) := by decide +kernel
theorem dX9_isPerson_3 : decode cX9_isPerson 3 = .ok (.getfield 140, 3) := by decide +kernel
theorem dX9_isPerson_6 : decode cX9_isPerson 6 = .ok (.iconst 1, 1) := by decide +kernel
theorem dX9_isPerson_7 : decode cX9_isPerson 7 = .ok (.isub, 1) := by decide +kernel
theorem dX9_isPerson_8 : decode cX9_isPerson 8 = .ok (.invokestatic 136, 3) := by decide +kernel
theorem dX9_isPerson_11 : decode cX9_isPerson 11 = .ok (.ireturn, 1) := by decide +kernel
set_option maxRecDepth 20000 in
theorem ggX9_isRequest_X9_in : GoodIn wsX9_isRequest wsX9_in := goodIn_r _ [5] (by decide +kernel) (by decide +kernel)
set_option maxRecDepth 20000 in
theorem gX9_isRequest_X9_in : GoodIn wsX9_isRequest (va_wsS RX9 136 yX9_in wsX9_in) := goodIn_app (goodIn_of _ (by decide +kernel)) ggX9_isRequest_X9_in
theorem dX9_isRequest_0 : decode cX9_isRequest 0 = .ok (.iload_n 1, 1) := by decide +kernel
theorem dX9_isRequest_1 : decode cX9_isRequest 1 = .ok (.iconst 0, 1) := by decide +kernel
theorem dX9_isRequest_2 : decode cX9_isRequest 2 = .ok (.aload_n 0, 1) := by decide +kernel
theorem dX9_isRequest_3 : decode cX9_isRequest 3 = .ok (.getfield 143, 3) := by decide +kernel
theorem dX9_isRequest_6 : decode cX9_isRequest 6 = .ok (.iconst 1, 1) := by decide +kernel
theorem dX9_isRequest_7 : decode cX9_isRequest 7 = .ok (.isub, 1) := by decide +kernel
theorem dX9_isRequest_8 : decode cX9_isRequest 8 = .ok (.invokestatic 136, 3) := by decide +kernel
theorem dX9_isRequest_11 : decode cX9_isRequest 11 = .ok (.ireturn, 1) := by decide +kernel
set_option maxRecDepth 20000 in
theorem ggX9_land_X9_in : GoodIn wsX9_land wsX9_in := goodIn_r _ [9] (by decide +kernel) (by decide +kernel)
set_option maxRecDepth 20000 in
theorem gX9_land_X9_in : GoodIn wsX9_land (va_wsS RX9 136 yX9_in wsX9_in) := goodIn_app (goodIn_of _ (by decide +kernel)) ggX9_land_X9_in
set_option maxRecDepth 20000 in
theorem ggX9_land_X9_goesWell : GoodIn wsX9_land wsX9_goesWell := goodIn_r _ [13, 14, 15, 16, 17, 18, 19, 20, 21, 22, 23, 24, 25, 26, 27, 28, 29, 30, 31, 32, 33, 34, 35, 36, 37, 38, 39, 40, 41, 42, 43, 44, 45, 46, 47, 48, 49, 50, 51, 52, 53, 54, 55, 56, 57, 58, 59] (by decide +kernel) (by decide +kernel)
set_option maxRecDepth 20000 in
theorem gX9_land_X9_goesWell : GoodIn wsX9_land (wsV RX9 146 RX9 yX9_goesWell wsX9_goesWell) := goodIn_app (goodIn_of _ (by decide +kernel)) ggX9_land_X9_goesWell
theorem dX9_land_0 : decode cX9_land 0 = .ok (.aload_n 0, 1) := by decide +kernel
theorem dX9_land_1 : decode cX9_land 1 = .ok (.iload 4, 2) := by decide +kernel
theorem dX9_land_3 : decode cX9_land 3 = .ok (.iconst 0, 1) := by decide +kernel
theorem dX9_land_4 : decode cX9_land 4 = .ok (.bipush 30, 2) := by decide +kernel
theorem dX9_land_6 : decode cX9_land 6 = .ok (.invokestatic 136, 3) := by decide +kernel
theorem dX9_land_9 : decode cX9_land 9 = .ok (.ifCond .ne 7, 3) := by decide +kernel
theorem dX9_land_12 : decode cX9_land 12 = .ok (.iconst 1, 1) := by decide +kernel
theorem dX9_land_13 : decode cX9_land 13 = .ok (.goto 17, 3) := by decide +kernel
theorem dX9_land_16 : decode cX9_land 16 = .ok (.aload_n 0, 1) := by decide +kernel
theorem dX9_land_17 : decode cX9_land 17 = .ok (.getfield 133, 3) := by decide +kernel
theorem dX9_land_20 : decode cX9_land 20 = .ok (.bipush 8, 2) := by decide +kernel
theorem dX9_land_22 : decode cX9_land 22 = .ok (.if_icmp .ne 7, 3) := by decide +kernel
theorem dX9_land_25 : decode cX9_land 25 = .ok (.iconst 2, 1) := by decide +kernel
theorem dX9_land_26 : decode cX9_land 26 = .ok (.goto 4, 3) := by decide +kernel
theorem dX9_land_29 : decode cX9_land 29 = .ok (.iconst 0, 1) := by decide +kernel
theorem dX9_land_30 : decode cX9_land 30 = .ok (.invokevirtual 146, 3) := by decide +kernel
theorem dX9_land_33 : decode cX9_land 33 = .ok (.ifCond .ne 5, 3) := by decide +kernel
theorem dX9_land_36 : decode cX9_land 36 = .ok (.iconst 0, 1) := by decide +kernel
theorem dX9_land_37 : decode cX9_land 37 = .ok (.ireturn, 1) := by decide +kernel
theorem dX9_land_38 : decode cX9_land 38 = .ok (.aload_n 0, 1) := by decide +kernel
theorem dX9_land_39 : decode cX9_land 39 = .ok (.getfield 7, 3) := by decide +kernel
theorem dX9_land_42 : decode cX9_land 42 = .ok (.aload_n 0, 1) := by decide +kernel
theorem dX9_land_43 : decode cX9_land 43 = .ok (.getfield 133, 3) := by decide +kernel
theorem dX9_land_46 : decode cX9_land 46 = .ok (.iload_n 1, 1) := by decide +kernel
theorem dX9_land_47 : decode cX9_land 47 = .ok (.bastore, 1) := by decide +kernel
theorem dX9_land_48 : decode cX9_land 48 = .ok (.aload_n 0, 1) := by decide +kernel
theorem dX9_land_49 : decode cX9_land 49 = .ok (.getfield 13, 3) := by decide +kernel
theorem dX9_land_52 : decode cX9_land 52 = .ok (.aload_n 0, 1) := by decide +kernel
theorem dX9_land_53 : decode cX9_land 53 = .ok (.getfield 133, 3) := by decide +kernel
theorem dX9_land_56 : decode cX9_land 56 = .ok (.iload_n 2, 1) := by decide +kernel
theorem dX9_land_57 : decode cX9_land 57 = .ok (.bastore, 1) := by decide +kernel
theorem dX9_land_58 : decode cX9_land 58 = .ok (.aload_n 0, 1) := by decide +kernel
theorem dX9_land_59 : decode cX9_land 59 = .ok (.getfield 16, 3) := by decide +kernel
theorem dX9_land_62 : decode cX9_land 62 = .ok (.aload_n 0, 1) := by decide +kernel
theorem dX9_land_63 : decode cX9_land 63 = .ok (.getfield 133, 3) := by decide +kernel
theorem dX9_land_66 : decode cX9_land 66 = .ok (.iload_n 3, 1) := by decide +kernel
theorem dX9_land_67 : decode cX9_land 67 = .ok (.bastore, 1) := by decide +kernel
theorem dX9_land_68 : decode cX9_land 68 = .ok (.aload_n 0, 1) := by decide +kernel
theorem dX9_land_69 : decode cX9_land 69 = .ok (.getfield 19, 3) := by decide +kernel
theorem dX9_land_72 : decode cX9_land 72 = .ok (.aload_n 0, 1) := by decide +kernel
theorem dX9_land_73 : decode cX9_land 73 = .ok (.getfield 133, 3) := by decide +kernel
theorem dX9_land_76 : decode cX9_land 76 = .ok (.iload 4, 2) := by decide +kernel
theorem dX9_land_78 : decode cX9_land 78 = .ok (.iastore, 1) := by decide +kernel
theorem dX9_land_79 : decode cX9_land 79 = .ok (.aload_n 0, 1) := by decide +kernel
theorem dX9_land_80 : decode cX9_land 80 = .ok (.dup, 1) := by decide +kernel
theorem dX9_land_81 : decode cX9_land 81 = .ok (.getfield 133, 3) := by decide +kernel
theorem dX9_land_84 : decode cX9_land 84 = .ok (.iconst 1, 1) := by decide +kernel
theorem dX9_land_85 : decode cX9_land 85 = .ok (.iadd, 1) := by decide +kernel
theorem dX9_land_86 : decode cX9_land 86 = .ok (.putfield 133, 3) := by decide +kernel
theorem dX9_land_89 : decode cX9_land 89 = .ok (.aload_n 0, 1) := by decide +kernel
theorem dX9_land_90 : decode cX9_land 90 = .ok (.getfield 133, 3) := by decide +kernel
theorem dX9_land_93 : decode cX9_land 93 = .ok (.iconst 1, 1) := by decide +kernel
theorem dX9_land_94 : decode cX9_land 94 = .ok (.isub, 1) := by decide +kernel
theorem dX9_land_95 : decode cX9_land 95 = .ok (.ireturn, 1) := by decide +kernel
set_option maxRecDepth 20000 in
theorem ggX9_waive_X9_isLand : GoodIn wsX9_waive wsX9_isLand := goodIn_r _ [6, 7, 8, 9, 5, 10, 16, 17, 18, 19, 20, 21, 22, 23, 24, 25, 26, 27, 28, 29, 30, 31, 32, 33, 34, 35, 36, 37, 38, 39, 40, 41, 42, 43, 44, 45, 46, 47, 48, 49, 50, 51, 52, 53, 54, 55, 56, 57, 58, 59, 60] (by decide +kernel) (by decide +kernel)
set_option maxRecDepth 20000 in
theorem gX9_waive_X9_isLand : GoodIn wsX9_waive (wsV RX9 150 RX9 yX9_isLand wsX9_isLand) := goodIn_app (goodIn_of _ (by decide +kernel)) ggX9_waive_X9_isLand
set_option maxRecDepth 20000 in
theorem ggX9_waive_X9_goesWell : GoodIn wsX9_waive wsX9_goesWell := goodIn_r _ [14, 15, 16, 17, 18, 19, 20, 21, 22, 23, 24, 25, 26, 27, 28, 29, 30, 31, 32, 33, 34, 35, 36, 37, 38, 39, 40, 41, 42, 43, 44, 45, 46, 47, 48, 49, 50, 51, 52, 53, 54, 55, 56, 57, 58, 59, 60] (by decide +kernel) (by decide +kernel)
set_option maxRecDepth 20000 in
theorem gX9_waive_X9_goesWell : GoodIn wsX9_waive (wsV RX9 146 RX9 yX9_goesWell wsX9_goesWell) := goodIn_app (goodIn_of _ (by decide +kernel)) ggX9_waive_X9_goesWell
theorem dX9_waive_0 : decode cX9_waive 0 = .ok (.aload_n 0, 1) := by decide +kernel
theorem dX9_waive_1 : decode cX9_waive 1 = .ok (.iload_n 1, 1) := by decide +kernel
theorem dX9_waive_2 : decode cX9_waive 2 = .ok (.invokevirtual 150, 3) := by decide +kernel
theorem dX9_waive_5 : decode cX9_waive 5 = .ok (.ifCond .eq 15, 3) := by decide +kernel
theorem dX9_waive_8 : decode cX9_waive 8 = .ok (.aload_n 0, 1) := by decide +kernel
theorem dX9_waive_9 : decode cX9_waive 9 = .ok (.iload_n 2, 1) := by decide +kernel
theorem dX9_waive_10 : decode cX9_waive 10 = .ok (.invokevirtual 150, 3) := by decide +kernel
theorem dX9_waive_13 : decode cX9_waive 13 = .ok (.ifCond .eq 7, 3) := by decide +kernel
theorem dX9_waive_16 : decode cX9_waive 16 = .ok (.iconst 1, 1) := by decide +kernel
theorem dX9_waive_17 : decode cX9_waive 17 = .ok (.goto 4, 3) := by decide +kernel
theorem dX9_waive_20 : decode cX9_waive 20 = .ok (.iconst 0, 1) := by decide +kernel
theorem dX9_waive_21 : decode cX9_waive 21 = .ok (.istore 4, 2) := by decide +kernel
theorem dX9_waive_23 : decode cX9_waive 23 = .ok (.aload_n 0, 1) := by decide +kernel
theorem dX9_waive_24 : decode cX9_waive 24 = .ok (.iload 4, 2) := by decide +kernel
theorem dX9_waive_26 : decode cX9_waive 26 = .ok (.ifCond .ne 7, 3) := by decide +kernel
theorem dX9_waive_29 : decode cX9_waive 29 = .ok (.iconst 1, 1) := by decide +kernel
theorem dX9_waive_30 : decode cX9_waive 30 = .ok (.goto 13, 3) := by decide +kernel
theorem dX9_waive_33 : decode cX9_waive 33 = .ok (.iload_n 1, 1) := by decide +kernel
theorem dX9_waive_34 : decode cX9_waive 34 = .ok (.iload_n 2, 1) := by decide +kernel
theorem dX9_waive_35 : decode cX9_waive 35 = .ok (.if_icmp .ne 7, 3) := by decide +kernel
theorem dX9_waive_38 : decode cX9_waive 38 = .ok (.iconst 2, 1) := by decide +kernel
theorem dX9_waive_39 : decode cX9_waive 39 = .ok (.goto 4, 3) := by decide +kernel
theorem dX9_waive_42 : decode cX9_waive 42 = .ok (.iconst 0, 1) := by decide +kernel
theorem dX9_waive_43 : decode cX9_waive 43 = .ok (.invokevirtual 146, 3) := by decide +kernel
theorem dX9_waive_46 : decode cX9_waive 46 = .ok (.ifCond .ne 5, 3) := by decide +kernel
theorem dX9_waive_49 : decode cX9_waive 49 = .ok (.iconst 0, 1) := by decide +kernel
theorem dX9_waive_50 : decode cX9_waive 50 = .ok (.ireturn, 1) := by decide +kernel
theorem dX9_waive_51 : decode cX9_waive 51 = .ok (.aload_n 0, 1) := by decide +kernel
theorem dX9_waive_52 : decode cX9_waive 52 = .ok (.getfield 23, 3) := by decide +kernel
theorem dX9_waive_55 : decode cX9_waive 55 = .ok (.bipush 8, 2) := by decide +kernel
theorem dX9_waive_57 : decode cX9_waive 57 = .ok (.iload_n 1, 1) := by decide +kernel
theorem dX9_waive_58 : decode cX9_waive 58 = .ok (.imul, 1) := by decide +kernel
theorem dX9_waive_59 : decode cX9_waive 59 = .ok (.iload_n 2, 1) := by decide +kernel
theorem dX9_waive_60 : decode cX9_waive 60 = .ok (.iadd, 1) := by decide +kernel
theorem dX9_waive_61 : decode cX9_waive 61 = .ok (.baload, 1) := by decide +kernel
theorem dX9_waive_62 : decode cX9_waive 62 = .ok (.istore 5, 2) := by decide +kernel
theorem dX9_waive_64 : decode cX9_waive 64 = .ok (.aload_n 0, 1) := by decide +kernel
theorem dX9_waive_65 : decode cX9_waive 65 = .ok (.getfield 23, 3) := by decide +kernel
theorem dX9_waive_68 : decode cX9_waive 68 = .ok (.bipush 8, 2) := by decide +kernel
theorem dX9_waive_70 : decode cX9_waive 70 = .ok (.iload_n 1, 1) := by decide +kernel
theorem dX9_waive_71 : decode cX9_waive 71 = .ok (.imul, 1) := by decide +kernel
theorem dX9_waive_72 : decode cX9_waive 72 = .ok (.iload_n 2, 1) := by decide +kernel
theorem dX9_waive_73 : decode cX9_waive 73 = .ok (.iadd, 1) := by decide +kernel
theorem dX9_waive_74 : decode cX9_waive 74 = .ok (.iload_n 3, 1) := by decide +kernel
theorem dX9_waive_75 : decode cX9_waive 75 = .ok (.bastore, 1) := by decide +kernel
theorem dX9_waive_76 : decode cX9_waive 76 = .ok (.iload 5, 2) := by decide +kernel
theorem dX9_waive_78 : decode cX9_waive 78 = .ok (.ireturn, 1) := by decide +kernel
set_option maxRecDepth 20000 in
theorem ggX9_rule_X9_in : GoodIn wsX9_rule wsX9_in := goodIn_r _ [9] (by decide +kernel) (by decide +kernel)
set_option maxRecDepth 20000 in
theorem gX9_rule_X9_in : GoodIn wsX9_rule (va_wsS RX9 136 yX9_in wsX9_in) := goodIn_app (goodIn_of _ (by decide +kernel)) ggX9_rule_X9_in
set_option maxRecDepth 20000 in
theorem ggX9_rule_X9_goesWell : GoodIn wsX9_rule wsX9_goesWell := goodIn_r _ [13, 14, 15, 16, 17, 18, 19, 20, 21, 22, 23, 24, 25, 26, 27, 28, 29, 30, 31, 32, 33, 34, 35, 36, 37, 38, 39, 40, 41, 42, 43, 44, 45, 46, 47, 48, 49, 50, 51, 52, 53, 54, 55, 56, 57, 58, 59] (by decide +kernel) (by decide +kernel)
set_option maxRecDepth 20000 in
theorem gX9_rule_X9_goesWell : GoodIn wsX9_rule (wsV RX9 146 RX9 yX9_goesWell wsX9_goesWell) := goodIn_app (goodIn_of _ (by decide +kernel)) ggX9_rule_X9_goesWell
theorem dX9_rule_0 : decode cX9_rule 0 = .ok (.iload_n 1, 1) := by decide +kernel
theorem dX9_rule_1 : decode cX9_rule 1 = .ok (.aload_n 0, 1) := by decide +kernel
theorem dX9_rule_2 : decode cX9_rule 2 = .ok (.getfield 153, 3) := by decide +kernel
theorem dX9_rule_5 : decode cX9_rule 5 = .ok (.sipush 3600, 3) := by decide +kernel
theorem dX9_rule_8 : decode cX9_rule 8 = .ok (.invokestatic 136, 3) := by decide +kernel
theorem dX9_rule_11 : decode cX9_rule 11 = .ok (.ifCond .eq 29, 3) := by decide +kernel
theorem dX9_rule_14 : decode cX9_rule 14 = .ok (.iload_n 2, 1) := by decide +kernel
theorem dX9_rule_15 : decode cX9_rule 15 = .ok (.iconst 0, 1) := by decide +kernel
theorem dX9_rule_16 : decode cX9_rule 16 = .ok (.sipush 180, 3) := by decide +kernel
theorem dX9_rule_19 : decode cX9_rule 19 = .ok (.invokestatic 136, 3) := by decide +kernel
theorem dX9_rule_22 : decode cX9_rule 22 = .ok (.ifCond .eq 18, 3) := by decide +kernel
theorem dX9_rule_25 : decode cX9_rule 25 = .ok (.iload_n 3, 1) := by decide +kernel
theorem dX9_rule_26 : decode cX9_rule 26 = .ok (.iconst 1, 1) := by decide +kernel
theorem dX9_rule_27 : decode cX9_rule 27 = .ok (.sipush 360, 3) := by decide +kernel
theorem dX9_rule_30 : decode cX9_rule 30 = .ok (.invokestatic 136, 3) := by decide +kernel
theorem dX9_rule_33 : decode cX9_rule 33 = .ok (.ifCond .eq 7, 3) := by decide +kernel
theorem dX9_rule_36 : decode cX9_rule 36 = .ok (.iconst 1, 1) := by decide +kernel
theorem dX9_rule_37 : decode cX9_rule 37 = .ok (.goto 4, 3) := by decide +kernel
theorem dX9_rule_40 : decode cX9_rule 40 = .ok (.iconst 0, 1) := by decide +kernel
theorem dX9_rule_41 : decode cX9_rule 41 = .ok (.istore 4, 2) := by decide +kernel
theorem dX9_rule_43 : decode cX9_rule 43 = .ok (.aload_n 0, 1) := by decide +kernel
theorem dX9_rule_44 : decode cX9_rule 44 = .ok (.iload 4, 2) := by decide +kernel
theorem dX9_rule_46 : decode cX9_rule 46 = .ok (.ifCond .ne 7, 3) := by decide +kernel
theorem dX9_rule_49 : decode cX9_rule 49 = .ok (.iconst 1, 1) := by decide +kernel
theorem dX9_rule_50 : decode cX9_rule 50 = .ok (.goto 17, 3) := by decide +kernel
theorem dX9_rule_53 : decode cX9_rule 53 = .ok (.aload_n 0, 1) := by decide +kernel
theorem dX9_rule_54 : decode cX9_rule 54 = .ok (.getfield 29, 3) := by decide +kernel
theorem dX9_rule_57 : decode cX9_rule 57 = .ok (.bipush 10, 2) := by decide +kernel
theorem dX9_rule_59 : decode cX9_rule 59 = .ok (.if_icmp .ne 7, 3) := by decide +kernel
theorem dX9_rule_62 : decode cX9_rule 62 = .ok (.iconst 2, 1) := by decide +kernel
theorem dX9_rule_63 : decode cX9_rule 63 = .ok (.goto 4, 3) := by decide +kernel
theorem dX9_rule_66 : decode cX9_rule 66 = .ok (.iconst 0, 1) := by decide +kernel
theorem dX9_rule_67 : decode cX9_rule 67 = .ok (.invokevirtual 146, 3) := by decide +kernel
theorem dX9_rule_70 : decode cX9_rule 70 = .ok (.ifCond .ne 5, 3) := by decide +kernel
theorem dX9_rule_73 : decode cX9_rule 73 = .ok (.iconst 0, 1) := by decide +kernel
theorem dX9_rule_74 : decode cX9_rule 74 = .ok (.ireturn, 1) := by decide +kernel
theorem dX9_rule_75 : decode cX9_rule 75 = .ok (.aload_n 0, 1) := by decide +kernel
theorem dX9_rule_76 : decode cX9_rule 76 = .ok (.getfield 33, 3) := by decide +kernel
theorem dX9_rule_79 : decode cX9_rule 79 = .ok (.aload_n 0, 1) := by decide +kernel
theorem dX9_rule_80 : decode cX9_rule 80 = .ok (.getfield 29, 3) := by decide +kernel
theorem dX9_rule_83 : decode cX9_rule 83 = .ok (.iload_n 1, 1) := by decide +kernel
theorem dX9_rule_84 : decode cX9_rule 84 = .ok (.iastore, 1) := by decide +kernel
theorem dX9_rule_85 : decode cX9_rule 85 = .ok (.aload_n 0, 1) := by decide +kernel
theorem dX9_rule_86 : decode cX9_rule 86 = .ok (.getfield 36, 3) := by decide +kernel
theorem dX9_rule_89 : decode cX9_rule 89 = .ok (.aload_n 0, 1) := by decide +kernel
theorem dX9_rule_90 : decode cX9_rule 90 = .ok (.getfield 29, 3) := by decide +kernel
theorem dX9_rule_93 : decode cX9_rule 93 = .ok (.iload_n 2, 1) := by decide +kernel
theorem dX9_rule_94 : decode cX9_rule 94 = .ok (.iastore, 1) := by decide +kernel
theorem dX9_rule_95 : decode cX9_rule 95 = .ok (.aload_n 0, 1) := by decide +kernel
theorem dX9_rule_96 : decode cX9_rule 96 = .ok (.getfield 39, 3) := by decide +kernel
theorem dX9_rule_99 : decode cX9_rule 99 = .ok (.aload_n 0, 1) := by decide +kernel
theorem dX9_rule_100 : decode cX9_rule 100 = .ok (.getfield 29, 3) := by decide +kernel
theorem dX9_rule_103 : decode cX9_rule 103 = .ok (.iload_n 3, 1) := by decide +kernel
theorem dX9_rule_104 : decode cX9_rule 104 = .ok (.iastore, 1) := by decide +kernel
theorem dX9_rule_105 : decode cX9_rule 105 = .ok (.aload_n 0, 1) := by decide +kernel
theorem dX9_rule_106 : decode cX9_rule 106 = .ok (.dup, 1) := by decide +kernel
theorem dX9_rule_107 : decode cX9_rule 107 = .ok (.getfield 29, 3) := by decide +kernel
theorem dX9_rule_110 : decode cX9_rule 110 = .ok (.iconst 1, 1) := by decide +kernel
theorem dX9_rule_111 : decode cX9_rule 111 = .ok (.iadd, 1) := by decide +kernel
theorem dX9_rule_112 : decode cX9_rule 112 = .ok (.putfield 29, 3) := by decide +kernel
theorem dX9_rule_115 : decode cX9_rule 115 = .ok (.aload_n 0, 1) := by decide +kernel
theorem dX9_rule_116 : decode cX9_rule 116 = .ok (.getfield 29, 3) := by decide +kernel
theorem dX9_rule_119 : decode cX9_rule 119 = .ok (.ireturn, 1) := by decide +kernel
theorem dX9_make_0 : decode cX9_make 0 = .ok (.aload_n 0, 1) := by decide +kernel
theorem dX9_make_1 : decode cX9_make 1 = .ok (.getfield 45, 3) := by decide +kernel
theorem dX9_make_4 : decode cX9_make 4 = .ok (.aload_n 0, 1) := by decide +kernel
theorem dX9_make_5 : decode cX9_make 5 = .ok (.getfield 140, 3) := by decide +kernel
theorem dX9_make_8 : decode cX9_make 8 = .ok (.iload_n 1, 1) := by decide +kernel
theorem dX9_make_9 : decode cX9_make 9 = .ok (.iastore, 1) := by decide +kernel
theorem dX9_make_10 : decode cX9_make 10 = .ok (.aload_n 0, 1) := by decide +kernel
theorem dX9_make_11 : decode cX9_make 11 = .ok (.getfield 42, 3) := by decide +kernel
theorem dX9_make_14 : decode cX9_make 14 = .ok (.aload_n 0, 1) := by decide +kernel
theorem dX9_make_15 : decode cX9_make 15 = .ok (.getfield 140, 3) := by decide +kernel
theorem dX9_make_18 : decode cX9_make 18 = .ok (.iload_n 2, 1) := by decide +kernel
theorem dX9_make_19 : decode cX9_make 19 = .ok (.iastore, 1) := by decide +kernel
theorem dX9_make_20 : decode cX9_make 20 = .ok (.aload_n 0, 1) := by decide +kernel
theorem dX9_make_21 : decode cX9_make 21 = .ok (.getfield 48, 3) := by decide +kernel
theorem dX9_make_24 : decode cX9_make 24 = .ok (.aload_n 0, 1) := by decide +kernel
theorem dX9_make_25 : decode cX9_make 25 = .ok (.getfield 140, 3) := by decide +kernel
theorem dX9_make_28 : decode cX9_make 28 = .ok (.iconst (-1), 1) := by decide +kernel
theorem dX9_make_29 : decode cX9_make 29 = .ok (.iastore, 1) := by decide +kernel
theorem dX9_make_30 : decode cX9_make 30 = .ok (.aload_n 0, 1) := by decide +kernel
theorem dX9_make_31 : decode cX9_make 31 = .ok (.getfield 51, 3) := by decide +kernel
theorem dX9_make_34 : decode cX9_make 34 = .ok (.aload_n 0, 1) := by decide +kernel
theorem dX9_make_35 : decode cX9_make 35 = .ok (.getfield 140, 3) := by decide +kernel
theorem dX9_make_38 : decode cX9_make 38 = .ok (.iconst (-1), 1) := by decide +kernel
theorem dX9_make_39 : decode cX9_make 39 = .ok (.iastore, 1) := by decide +kernel
theorem dX9_make_40 : decode cX9_make 40 = .ok (.aload_n 0, 1) := by decide +kernel
theorem dX9_make_41 : decode cX9_make 41 = .ok (.getfield 54, 3) := by decide +kernel
theorem dX9_make_44 : decode cX9_make 44 = .ok (.aload_n 0, 1) := by decide +kernel
theorem dX9_make_45 : decode cX9_make 45 = .ok (.getfield 140, 3) := by decide +kernel
theorem dX9_make_48 : decode cX9_make 48 = .ok (.iconst (-1), 1) := by decide +kernel
theorem dX9_make_49 : decode cX9_make 49 = .ok (.iastore, 1) := by decide +kernel
theorem dX9_make_50 : decode cX9_make 50 = .ok (.aload_n 0, 1) := by decide +kernel
theorem dX9_make_51 : decode cX9_make 51 = .ok (.getfield 60, 3) := by decide +kernel
theorem dX9_make_54 : decode cX9_make 54 = .ok (.aload_n 0, 1) := by decide +kernel
theorem dX9_make_55 : decode cX9_make 55 = .ok (.getfield 140, 3) := by decide +kernel
theorem dX9_make_58 : decode cX9_make 58 = .ok (.iconst (-1), 1) := by decide +kernel
theorem dX9_make_59 : decode cX9_make 59 = .ok (.iastore, 1) := by decide +kernel
theorem dX9_make_60 : decode cX9_make 60 = .ok (.aload_n 0, 1) := by decide +kernel
theorem dX9_make_61 : decode cX9_make 61 = .ok (.dup, 1) := by decide +kernel
theorem dX9_make_62 : decode cX9_make 62 = .ok (.getfield 140, 3) := by decide +kernel
theorem dX9_make_65 : decode cX9_make 65 = .ok (.iconst 1, 1) := by decide +kernel
theorem dX9_make_66 : decode cX9_make 66 = .ok (.iadd, 1) := by decide +kernel
theorem dX9_make_67 : decode cX9_make 67 = .ok (.putfield 140, 3) := by decide +kernel
theorem dX9_make_70 : decode cX9_make 70 = .ok (.aload_n 0, 1) := by decide +kernel
theorem dX9_make_71 : decode cX9_make 71 = .ok (.getfield 140, 3) := by decide +kernel
theorem dX9_make_74 : decode cX9_make 74 = .ok (.iconst 1, 1) := by decide +kernel
theorem dX9_make_75 : decode cX9_make 75 = .ok (.isub, 1) := by decide +kernel
theorem dX9_make_76 : decode cX9_make 76 = .ok (.ireturn, 1) := by decide +kernel
set_option maxRecDepth 20000 in
theorem ggX9_person_X9_isLand : GoodIn wsX9_person wsX9_isLand := goodIn_r _ [7, 8, 9, 10, 6, 11, 27, 28, 29, 30, 31, 32, 33, 34, 35, 36, 37, 38, 39, 40, 41, 42, 43, 44, 45, 46, 47, 48, 49, 50, 51, 52, 53, 54, 55, 56, 57, 58, 59, 60, 61, 62, 63, 64, 65, 66, 67, 68, 69, 70, 71] (by decide +kernel) (by decide +kernel)
set_option maxRecDepth 20000 in
theorem gX9_person_X9_isLand : GoodIn wsX9_person (wsV RX9 150 RX9 yX9_isLand wsX9_isLand) := goodIn_app (goodIn_of _ (by decide +kernel)) ggX9_person_X9_isLand
set_option maxRecDepth 20000 in
theorem ggX9_person_X9_in : GoodIn wsX9_person wsX9_in := goodIn_r _ [11] (by decide +kernel) (by decide +kernel)
set_option maxRecDepth 20000 in
theorem gX9_person_X9_in : GoodIn wsX9_person (va_wsS RX9 136 yX9_in wsX9_in) := goodIn_app (goodIn_of _ (by decide +kernel)) ggX9_person_X9_in
set_option maxRecDepth 20000 in
theorem ggX9_person_X9_goesWell : GoodIn wsX9_person wsX9_goesWell := goodIn_r _ [15, 16, 27, 28, 29, 30, 31, 32, 33, 34, 35, 36, 37, 38, 39, 40, 41, 42, 43, 44, 45, 46, 47, 48, 49, 50, 51, 52, 53, 54, 55, 56, 57, 58, 59, 60, 61, 62, 63, 64, 65, 66, 67, 68, 69, 70, 71] (by decide +kernel) (by decide +kernel)
set_option maxRecDepth 20000 in
theorem gX9_person_X9_goesWell : GoodIn wsX9_person (wsV RX9 146 RX9 yX9_goesWell wsX9_goesWell) := goodIn_app (goodIn_of _ (by decide +kernel)) ggX9_person_X9_goesWell
set_option maxRecDepth 20000 in
theorem ggX9_person_X9_make : GoodIn wsX9_person wsX9_make := goodIn_r _ [20, 21, 1, 22, 23, 24, 25, 26, 27, 28, 29, 30, 31, 32, 33, 34, 35, 36, 37, 38, 39, 40, 41, 42, 43, 44, 45, 46, 47, 48, 49, 50, 51, 52, 53, 54, 55, 56, 57, 58, 59, 60, 61, 62, 63, 64, 65, 66, 67, 68, 69, 70, 71] (by decide +kernel) (by decide +kernel)
set_option maxRecDepth 20000 in
theorem gX9_person_X9_make : GoodIn wsX9_person (wsV RX9 156 RX9 yX9_make wsX9_make) := goodIn_app (goodIn_of _ (by decide +kernel)) ggX9_person_X9_make
theorem dX9_person_0 : decode cX9_person 0 = .ok (.iload_n 1, 1) := by decide +kernel
theorem dX9_person_1 : decode cX9_person 1 = .ok (.iconst (-1), 1) := by decide +kernel
theorem dX9_person_2 : decode cX9_person 2 = .ok (.if_icmp .eq 11, 3) := by decide +kernel
theorem dX9_person_5 : decode cX9_person 5 = .ok (.aload_n 0, 1) := by decide +kernel
theorem dX9_person_6 : decode cX9_person 6 = .ok (.iload_n 1, 1) := by decide +kernel
theorem dX9_person_7 : decode cX9_person 7 = .ok (.invokevirtual 150, 3) := by decide +kernel
theorem dX9_person_10 : decode cX9_person 10 = .ok (.ifCond .eq 7, 3) := by decide +kernel
theorem dX9_person_13 : decode cX9_person 13 = .ok (.iconst 1, 1) := by decide +kernel
theorem dX9_person_14 : decode cX9_person 14 = .ok (.goto 4, 3) := by decide +kernel
theorem dX9_person_17 : decode cX9_person 17 = .ok (.iconst 0, 1) := by decide +kernel
theorem dX9_person_18 : decode cX9_person 18 = .ok (.istore_n 3, 1) := by decide +kernel
theorem dX9_person_19 : decode cX9_person 19 = .ok (.aload_n 0, 1) := by decide +kernel
theorem dX9_person_20 : decode cX9_person 20 = .ok (.iload_n 3, 1) := by decide +kernel
theorem dX9_person_21 : decode cX9_person 21 = .ok (.ifCond .ne 7, 3) := by decide +kernel
theorem dX9_person_24 : decode cX9_person 24 = .ok (.iconst 1, 1) := by decide +kernel
theorem dX9_person_25 : decode cX9_person 25 = .ok (.goto 31, 3) := by decide +kernel
theorem dX9_person_28 : decode cX9_person 28 = .ok (.iload_n 2, 1) := by decide +kernel
theorem dX9_person_29 : decode cX9_person 29 = .ok (.iconst 0, 1) := by decide +kernel
theorem dX9_person_30 : decode cX9_person 30 = .ok (.bipush 99, 2) := by decide +kernel
theorem dX9_person_32 : decode cX9_person 32 = .ok (.invokestatic 136, 3) := by decide +kernel
theorem dX9_person_35 : decode cX9_person 35 = .ok (.ifCond .ne 7, 3) := by decide +kernel
theorem dX9_person_38 : decode cX9_person 38 = .ok (.iconst 2, 1) := by decide +kernel
theorem dX9_person_39 : decode cX9_person 39 = .ok (.goto 17, 3) := by decide +kernel
theorem dX9_person_42 : decode cX9_person 42 = .ok (.aload_n 0, 1) := by decide +kernel
theorem dX9_person_43 : decode cX9_person 43 = .ok (.getfield 140, 3) := by decide +kernel
theorem dX9_person_46 : decode cX9_person 46 = .ok (.bipush 16, 2) := by decide +kernel
theorem dX9_person_48 : decode cX9_person 48 = .ok (.if_icmp .ne 7, 3) := by decide +kernel
theorem dX9_person_51 : decode cX9_person 51 = .ok (.iconst 3, 1) := by decide +kernel
theorem dX9_person_52 : decode cX9_person 52 = .ok (.goto 4, 3) := by decide +kernel
theorem dX9_person_55 : decode cX9_person 55 = .ok (.iconst 0, 1) := by decide +kernel
theorem dX9_person_56 : decode cX9_person 56 = .ok (.invokevirtual 146, 3) := by decide +kernel
theorem dX9_person_59 : decode cX9_person 59 = .ok (.ifCond .ne 5, 3) := by decide +kernel
theorem dX9_person_62 : decode cX9_person 62 = .ok (.iconst 0, 1) := by decide +kernel
theorem dX9_person_63 : decode cX9_person 63 = .ok (.ireturn, 1) := by decide +kernel
theorem dX9_person_64 : decode cX9_person 64 = .ok (.aload_n 0, 1) := by decide +kernel
theorem dX9_person_65 : decode cX9_person 65 = .ok (.iload_n 1, 1) := by decide +kernel
theorem dX9_person_66 : decode cX9_person 66 = .ok (.iconst (-1), 1) := by decide +kernel
theorem dX9_person_67 : decode cX9_person 67 = .ok (.if_icmp .ne 7, 3) := by decide +kernel
theorem dX9_person_70 : decode cX9_person 70 = .ok (.iconst 0, 1) := by decide +kernel
theorem dX9_person_71 : decode cX9_person 71 = .ok (.goto 6, 3) := by decide +kernel
theorem dX9_person_74 : decode cX9_person 74 = .ok (.iconst 1, 1) := by decide +kernel
theorem dX9_person_75 : decode cX9_person 75 = .ok (.iload_n 1, 1) := by decide +kernel
theorem dX9_person_76 : decode cX9_person 76 = .ok (.ishl, 1) := by decide +kernel
theorem dX9_person_77 : decode cX9_person 77 = .ok (.aload_n 0, 1) := by decide +kernel
theorem dX9_person_78 : decode cX9_person 78 = .ok (.getfield 153, 3) := by decide +kernel
theorem dX9_person_81 : decode cX9_person 81 = .ok (.sipush 360, 3) := by decide +kernel
theorem dX9_person_84 : decode cX9_person 84 = .ok (.iload_n 2, 1) := by decide +kernel
theorem dX9_person_85 : decode cX9_person 85 = .ok (.imul, 1) := by decide +kernel
theorem dX9_person_86 : decode cX9_person 86 = .ok (.isub, 1) := by decide +kernel
theorem dX9_person_87 : decode cX9_person 87 = .ok (.invokevirtual 156, 3) := by decide +kernel
theorem dX9_person_90 : decode cX9_person 90 = .ok (.ireturn, 1) := by decide +kernel
theorem dX9_hasPermit_0 : decode cX9_hasPermit 0 = .ok (.aload_n 0, 1) := by decide +kernel
theorem dX9_hasPermit_1 : decode cX9_hasPermit 1 = .ok (.getfield 70, 3) := by decide +kernel
theorem dX9_hasPermit_4 : decode cX9_hasPermit 4 = .ok (.bipush 8, 2) := by decide +kernel
theorem dX9_hasPermit_6 : decode cX9_hasPermit 6 = .ok (.iload_n 1, 1) := by decide +kernel
theorem dX9_hasPermit_7 : decode cX9_hasPermit 7 = .ok (.imul, 1) := by decide +kernel
theorem dX9_hasPermit_8 : decode cX9_hasPermit 8 = .ok (.iload_n 2, 1) := by decide +kernel
theorem dX9_hasPermit_9 : decode cX9_hasPermit 9 = .ok (.iadd, 1) := by decide +kernel
theorem dX9_hasPermit_10 : decode cX9_hasPermit 10 = .ok (.iaload, 1) := by decide +kernel
theorem dX9_hasPermit_11 : decode cX9_hasPermit 11 = .ok (.aload_n 0, 1) := by decide +kernel
theorem dX9_hasPermit_12 : decode cX9_hasPermit 12 = .ok (.getfield 153, 3) := by decide +kernel
theorem dX9_hasPermit_15 : decode cX9_hasPermit 15 = .ok (.if_icmp .lt 7, 3) := by decide +kernel
theorem dX9_hasPermit_18 : decode cX9_hasPermit 18 = .ok (.iconst 1, 1) := by decide +kernel
theorem dX9_hasPermit_19 : decode cX9_hasPermit 19 = .ok (.goto 4, 3) := by decide +kernel
theorem dX9_hasPermit_22 : decode cX9_hasPermit 22 = .ok (.iconst 0, 1) := by decide +kernel
theorem dX9_hasPermit_23 : decode cX9_hasPermit 23 = .ok (.ireturn, 1) := by decide +kernel
set_option maxRecDepth 20000 in
theorem ggX9_belongs_X9_has : GoodIn wsX9_belongs wsX9_has := goodIn_r _ [5] (by decide +kernel) (by decide +kernel)
set_option maxRecDepth 20000 in
theorem gX9_belongs_X9_has : GoodIn wsX9_belongs (va_wsS RX9 160 yX9_has wsX9_has) := goodIn_app (goodIn_of _ (by decide +kernel)) ggX9_belongs_X9_has
set_option maxRecDepth 20000 in
theorem ggX9_belongs_X9_hasPermit : GoodIn wsX9_belongs wsX9_hasPermit := goodIn_r _ [9, 10, 11, 12, 13, 14, 15, 16, 17, 18, 19, 20, 21, 22, 23, 24, 25, 26, 27, 28, 29, 30, 31, 32, 33, 34, 35, 36, 37, 38, 39, 40, 41, 42, 43, 44, 45, 46, 47, 48, 49, 50, 51, 52, 53, 54, 55, 56] (by decide +kernel) (by decide +kernel)
set_option maxRecDepth 20000 in
theorem gX9_belongs_X9_hasPermit : GoodIn wsX9_belongs (wsV RX9 164 RX9 yX9_hasPermit wsX9_hasPermit) := goodIn_app (goodIn_of _ (by decide +kernel)) ggX9_belongs_X9_hasPermit
theorem dX9_belongs_0 : decode cX9_belongs 0 = .ok (.iload_n 1, 1) := by decide +kernel
theorem dX9_belongs_1 : decode cX9_belongs 1 = .ok (.iconst (-1), 1) := by decide +kernel
theorem dX9_belongs_2 : decode cX9_belongs 2 = .ok (.if_icmp .eq 29, 3) := by decide +kernel
theorem dX9_belongs_5 : decode cX9_belongs 5 = .ok (.aload_n 0, 1) := by decide +kernel
theorem dX9_belongs_6 : decode cX9_belongs 6 = .ok (.getfield 45, 3) := by decide +kernel
theorem dX9_belongs_9 : decode cX9_belongs 9 = .ok (.iload_n 1, 1) := by decide +kernel
theorem dX9_belongs_10 : decode cX9_belongs 10 = .ok (.iaload, 1) := by decide +kernel
theorem dX9_belongs_11 : decode cX9_belongs 11 = .ok (.iload_n 2, 1) := by decide +kernel
theorem dX9_belongs_12 : decode cX9_belongs 12 = .ok (.invokestatic 160, 3) := by decide +kernel
theorem dX9_belongs_15 : decode cX9_belongs 15 = .ok (.ifCond .ne 12, 3) := by decide +kernel
theorem dX9_belongs_18 : decode cX9_belongs 18 = .ok (.aload_n 0, 1) := by decide +kernel
theorem dX9_belongs_19 : decode cX9_belongs 19 = .ok (.iload_n 1, 1) := by decide +kernel
theorem dX9_belongs_20 : decode cX9_belongs 20 = .ok (.iload_n 2, 1) := by decide +kernel
theorem dX9_belongs_21 : decode cX9_belongs 21 = .ok (.invokevirtual 164, 3) := by decide +kernel
theorem dX9_belongs_24 : decode cX9_belongs 24 = .ok (.ifCond .eq 7, 3) := by decide +kernel
theorem dX9_belongs_27 : decode cX9_belongs 27 = .ok (.iconst 1, 1) := by decide +kernel
theorem dX9_belongs_28 : decode cX9_belongs 28 = .ok (.goto 4, 3) := by decide +kernel
theorem dX9_belongs_31 : decode cX9_belongs 31 = .ok (.iconst 0, 1) := by decide +kernel
theorem dX9_belongs_32 : decode cX9_belongs 32 = .ok (.ireturn, 1) := by decide +kernel
set_option maxRecDepth 20000 in
theorem ggX9_birth_X9_isPerson : GoodIn wsX9_birth wsX9_isPerson := goodIn_r _ [14, 2, 15, 16, 13, 17, 91, 92, 93, 94, 95, 96, 97, 98, 99, 100, 101, 102, 103, 104, 105, 106, 107, 108, 109, 110, 111, 112, 113, 114, 115, 116, 117, 118, 119, 120, 121, 122, 123, 124, 125, 126, 127, 128, 129, 130, 131, 132, 133, 134, 135] (by decide +kernel) (by decide +kernel)
set_option maxRecDepth 20000 in
theorem gX9_birth_X9_isPerson : GoodIn wsX9_birth (wsV RX9 167 RX9 yX9_isPerson wsX9_isPerson) := goodIn_app (goodIn_of _ (by decide +kernel)) ggX9_birth_X9_isPerson
set_option maxRecDepth 20000 in
theorem ggX9_birth_X9_goesWell : GoodIn wsX9_birth wsX9_goesWell := goodIn_r _ [21, 22, 91, 92, 93, 94, 95, 96, 97, 98, 99, 100, 101, 102, 103, 104, 105, 106, 107, 108, 109, 110, 111, 112, 113, 114, 115, 116, 117, 118, 119, 120, 121, 122, 123, 124, 125, 126, 127, 128, 129, 130, 131, 132, 133, 134, 135] (by decide +kernel) (by decide +kernel)
set_option maxRecDepth 20000 in
theorem gX9_birth_X9_goesWell : GoodIn wsX9_birth (wsV RX9 146 RX9 yX9_goesWell wsX9_goesWell) := goodIn_app (goodIn_of _ (by decide +kernel)) ggX9_birth_X9_goesWell
set_option maxRecDepth 20000 in
theorem ggX9_birth_X9_belongs : GoodIn wsX9_birth wsX9_belongs := goodIn_r _ [26, 3, 27, 28, 13, 29, 30, 31, 32, 33, 34, 7, 91, 92, 93, 94, 95, 96, 97, 98, 99, 100, 101, 102, 103, 104, 105, 106, 107, 108, 109, 110, 111, 112, 113, 114, 115, 116, 117, 118, 119, 120, 121, 122, 123, 124, 125, 126, 127, 128, 129, 130, 131, 132, 133, 134, 135] (by decide +kernel) (by decide +kernel)
set_option maxRecDepth 20000 in
theorem gX9_birth_X9_belongs : GoodIn wsX9_birth (wsV RX9 170 RX9 yX9_belongs wsX9_belongs) := goodIn_app (goodIn_of _ (by decide +kernel)) ggX9_birth_X9_belongs
set_option maxRecDepth 20000 in
theorem ggX9_birth_X9_has : GoodIn wsX9_birth wsX9_has := goodIn_r _ [29] (by decide +kernel) (by decide +kernel)
set_option maxRecDepth 20000 in
theorem gX9_birth_X9_has : GoodIn wsX9_birth (va_wsS RX9 160 yX9_has wsX9_has) := goodIn_app (goodIn_of _ (by decide +kernel)) ggX9_birth_X9_has
set_option maxRecDepth 20000 in
theorem ggX9_birth_X9_make : GoodIn wsX9_birth wsX9_make := goodIn_r _ [38, 3, 2, 39, 8, 9, 1, 40, 91, 92, 93, 94, 95, 96, 97, 98, 99, 100, 101, 102, 103, 104, 105, 106, 107, 108, 109, 110, 111, 112, 113, 114, 115, 116, 117, 118, 119, 120, 121, 122, 123, 124, 125, 126, 127, 128, 129, 130, 131, 132, 133, 134, 135] (by decide +kernel) (by decide +kernel)
set_option maxRecDepth 20000 in
theorem gX9_birth_X9_make : GoodIn wsX9_birth (wsV RX9 156 RX9 yX9_make wsX9_make) := goodIn_app (goodIn_of _ (by decide +kernel)) ggX9_birth_X9_make
set_option maxRecDepth 20000 in
theorem ggX9_birth_X9_come : GoodIn wsX9_birth wsX9_come := goodIn_r _ [44, 1, 45, 7, 40, 46, 47, 48, 49, 13, 50, 51, 52, 53, 54, 55, 3, 56, 57, 23, 24, 25, 26, 27, 28, 29, 30, 31, 32, 33, 34, 58, 59, 60, 61, 4, 62, 63, 64, 65, 66, 67, 68, 69, 70, 15, 16, 17, 71, 72, 73, 74, 75, 76, 77, 78, 79, 80, 81, 82, 83, 84, 85, 86, 87, 88, 89, 90, 91, 92, 93, 94, 95, 96, 97, 98, 99, 100, 101, 102, 103, 104, 105, 106, 107, 108, 109, 110, 111, 112, 113, 114, 115, 116, 117, 118, 119, 120, 121, 122, 123, 124, 125, 126, 127, 128, 129, 130, 131, 132, 133, 134, 135] (by decide +kernel) (by decide +kernel)
set_option maxRecDepth 20000 in
theorem gX9_birth_X9_come : GoodIn wsX9_birth (wsV RX9 173 RX9 yX9_come wsX9_come) := goodIn_app (goodIn_of _ (by decide +kernel)) ggX9_birth_X9_come
theorem dX9_birth_0 : decode cX9_birth 0 = .ok (.aload_n 0, 1) := by decide +kernel
theorem dX9_birth_1 : decode cX9_birth 1 = .ok (.iload_n 1, 1) := by decide +kernel
theorem dX9_birth_2 : decode cX9_birth 2 = .ok (.invokevirtual 167, 3) := by decide +kernel
theorem dX9_birth_5 : decode cX9_birth 5 = .ok (.ifCond .eq 20, 3) := by decide +kernel
theorem dX9_birth_8 : decode cX9_birth 8 = .ok (.iload_n 2, 1) := by decide +kernel
theorem dX9_birth_9 : decode cX9_birth 9 = .ok (.iconst (-1), 1) := by decide +kernel
theorem dX9_birth_10 : decode cX9_birth 10 = .ok (.if_icmp .eq 11, 3) := by decide +kernel
theorem dX9_birth_13 : decode cX9_birth 13 = .ok (.aload_n 0, 1) := by decide +kernel
theorem dX9_birth_14 : decode cX9_birth 14 = .ok (.iload_n 2, 1) := by decide +kernel
theorem dX9_birth_15 : decode cX9_birth 15 = .ok (.invokevirtual 167, 3) := by decide +kernel
theorem dX9_birth_18 : decode cX9_birth 18 = .ok (.ifCond .eq 7, 3) := by decide +kernel
theorem dX9_birth_21 : decode cX9_birth 21 = .ok (.iconst 1, 1) := by decide +kernel
theorem dX9_birth_22 : decode cX9_birth 22 = .ok (.goto 4, 3) := by decide +kernel
theorem dX9_birth_25 : decode cX9_birth 25 = .ok (.iconst 0, 1) := by decide +kernel
theorem dX9_birth_26 : decode cX9_birth 26 = .ok (.istore_n 3, 1) := by decide +kernel
theorem dX9_birth_27 : decode cX9_birth 27 = .ok (.iload_n 3, 1) := by decide +kernel
theorem dX9_birth_28 : decode cX9_birth 28 = .ok (.ifCond .eq 26, 3) := by decide +kernel
theorem dX9_birth_31 : decode cX9_birth 31 = .ok (.aload_n 0, 1) := by decide +kernel
theorem dX9_birth_32 : decode cX9_birth 32 = .ok (.getfield 54, 3) := by decide +kernel
theorem dX9_birth_35 : decode cX9_birth 35 = .ok (.iload_n 1, 1) := by decide +kernel
theorem dX9_birth_36 : decode cX9_birth 36 = .ok (.iaload, 1) := by decide +kernel
theorem dX9_birth_37 : decode cX9_birth 37 = .ok (.iconst (-1), 1) := by decide +kernel
theorem dX9_birth_38 : decode cX9_birth 38 = .ok (.if_icmp .eq 16, 3) := by decide +kernel
theorem dX9_birth_41 : decode cX9_birth 41 = .ok (.aload_n 0, 1) := by decide +kernel
theorem dX9_birth_42 : decode cX9_birth 42 = .ok (.getfield 140, 3) := by decide +kernel
theorem dX9_birth_45 : decode cX9_birth 45 = .ok (.bipush 16, 2) := by decide +kernel
theorem dX9_birth_47 : decode cX9_birth 47 = .ok (.if_icmp .ge 7, 3) := by decide +kernel
theorem dX9_birth_50 : decode cX9_birth 50 = .ok (.iconst 1, 1) := by decide +kernel
theorem dX9_birth_51 : decode cX9_birth 51 = .ok (.goto 4, 3) := by decide +kernel
theorem dX9_birth_54 : decode cX9_birth 54 = .ok (.iconst 0, 1) := by decide +kernel
theorem dX9_birth_55 : decode cX9_birth 55 = .ok (.istore 4, 2) := by decide +kernel
theorem dX9_birth_57 : decode cX9_birth 57 = .ok (.aload_n 0, 1) := by decide +kernel
theorem dX9_birth_58 : decode cX9_birth 58 = .ok (.iload_n 3, 1) := by decide +kernel
theorem dX9_birth_59 : decode cX9_birth 59 = .ok (.ifCond .ne 7, 3) := by decide +kernel
theorem dX9_birth_62 : decode cX9_birth 62 = .ok (.iconst 1, 1) := by decide +kernel
theorem dX9_birth_63 : decode cX9_birth 63 = .ok (.goto 22, 3) := by decide +kernel
theorem dX9_birth_66 : decode cX9_birth 66 = .ok (.iload_n 1, 1) := by decide +kernel
theorem dX9_birth_67 : decode cX9_birth 67 = .ok (.iload_n 2, 1) := by decide +kernel
theorem dX9_birth_68 : decode cX9_birth 68 = .ok (.if_icmp .ne 7, 3) := by decide +kernel
theorem dX9_birth_71 : decode cX9_birth 71 = .ok (.iconst 2, 1) := by decide +kernel
theorem dX9_birth_72 : decode cX9_birth 72 = .ok (.goto 13, 3) := by decide +kernel
theorem dX9_birth_75 : decode cX9_birth 75 = .ok (.iload 4, 2) := by decide +kernel
theorem dX9_birth_77 : decode cX9_birth 77 = .ok (.ifCond .eq 7, 3) := by decide +kernel
theorem dX9_birth_80 : decode cX9_birth 80 = .ok (.iconst 0, 1) := by decide +kernel
theorem dX9_birth_81 : decode cX9_birth 81 = .ok (.goto 4, 3) := by decide +kernel
theorem dX9_birth_84 : decode cX9_birth 84 = .ok (.iconst 3, 1) := by decide +kernel
theorem dX9_birth_85 : decode cX9_birth 85 = .ok (.invokevirtual 146, 3) := by decide +kernel
theorem dX9_birth_88 : decode cX9_birth 88 = .ok (.ifCond .ne 5, 3) := by decide +kernel
theorem dX9_birth_91 : decode cX9_birth 91 = .ok (.iconst 0, 1) := by decide +kernel
theorem dX9_birth_92 : decode cX9_birth 92 = .ok (.ireturn, 1) := by decide +kernel
theorem dX9_birth_93 : decode cX9_birth 93 = .ok (.aload_n 0, 1) := by decide +kernel
theorem dX9_birth_94 : decode cX9_birth 94 = .ok (.getfield 54, 3) := by decide +kernel
theorem dX9_birth_97 : decode cX9_birth 97 = .ok (.iload_n 1, 1) := by decide +kernel
theorem dX9_birth_98 : decode cX9_birth 98 = .ok (.iaload, 1) := by decide +kernel
theorem dX9_birth_99 : decode cX9_birth 99 = .ok (.istore 5, 2) := by decide +kernel
theorem dX9_birth_101 : decode cX9_birth 101 = .ok (.iconst 0, 1) := by decide +kernel
theorem dX9_birth_102 : decode cX9_birth 102 = .ok (.istore 6, 2) := by decide +kernel
theorem dX9_birth_104 : decode cX9_birth 104 = .ok (.aload_n 0, 1) := by decide +kernel
theorem dX9_birth_105 : decode cX9_birth 105 = .ok (.getfield 45, 3) := by decide +kernel
theorem dX9_birth_108 : decode cX9_birth 108 = .ok (.iload_n 1, 1) := by decide +kernel
theorem dX9_birth_109 : decode cX9_birth 109 = .ok (.iaload, 1) := by decide +kernel
theorem dX9_birth_110 : decode cX9_birth 110 = .ok (.iload_n 2, 1) := by decide +kernel
theorem dX9_birth_111 : decode cX9_birth 111 = .ok (.iconst (-1), 1) := by decide +kernel
theorem dX9_birth_112 : decode cX9_birth 112 = .ok (.if_icmp .ne 7, 3) := by decide +kernel
theorem dX9_birth_115 : decode cX9_birth 115 = .ok (.iconst 0, 1) := by decide +kernel
theorem dX9_birth_116 : decode cX9_birth 116 = .ok (.goto 9, 3) := by decide +kernel
theorem dX9_birth_119 : decode cX9_birth 119 = .ok (.aload_n 0, 1) := by decide +kernel
theorem dX9_birth_120 : decode cX9_birth 120 = .ok (.getfield 45, 3) := by decide +kernel
theorem dX9_birth_123 : decode cX9_birth 123 = .ok (.iload_n 2, 1) := by decide +kernel
theorem dX9_birth_124 : decode cX9_birth 124 = .ok (.iaload, 1) := by decide +kernel
theorem dX9_birth_125 : decode cX9_birth 125 = .ok (.ior, 1) := by decide +kernel
theorem dX9_birth_126 : decode cX9_birth 126 = .ok (.istore 7, 2) := by decide +kernel
theorem dX9_birth_128 : decode cX9_birth 128 = .ok (.iconst 0, 1) := by decide +kernel
theorem dX9_birth_129 : decode cX9_birth 129 = .ok (.istore 8, 2) := by decide +kernel
theorem dX9_birth_131 : decode cX9_birth 131 = .ok (.iload 8, 2) := by decide +kernel
theorem dX9_birth_133 : decode cX9_birth 133 = .ok (.aload_n 0, 1) := by decide +kernel
theorem dX9_birth_134 : decode cX9_birth 134 = .ok (.getfield 133, 3) := by decide +kernel
theorem dX9_birth_137 : decode cX9_birth 137 = .ok (.if_icmp .ge 91, 3) := by decide +kernel
theorem dX9_birth_140 : decode cX9_birth 140 = .ok (.iload 8, 2) := by decide +kernel
theorem dX9_birth_142 : decode cX9_birth 142 = .ok (.iload 5, 2) := by decide +kernel
theorem dX9_birth_144 : decode cX9_birth 144 = .ok (.if_icmp .ne 37, 3) := by decide +kernel
theorem dX9_birth_147 : decode cX9_birth 147 = .ok (.aload_n 0, 1) := by decide +kernel
theorem dX9_birth_148 : decode cX9_birth 148 = .ok (.getfield 13, 3) := by decide +kernel
theorem dX9_birth_151 : decode cX9_birth 151 = .ok (.iload 8, 2) := by decide +kernel
theorem dX9_birth_153 : decode cX9_birth 153 = .ok (.baload, 1) := by decide +kernel
theorem dX9_birth_154 : decode cX9_birth 154 = .ok (.ifCond .eq 27, 3) := by decide +kernel
theorem dX9_birth_157 : decode cX9_birth 157 = .ok (.aload_n 0, 1) := by decide +kernel
theorem dX9_birth_158 : decode cX9_birth 158 = .ok (.iload_n 1, 1) := by decide +kernel
theorem dX9_birth_159 : decode cX9_birth 159 = .ok (.iload 8, 2) := by decide +kernel
theorem dX9_birth_161 : decode cX9_birth 161 = .ok (.invokevirtual 170, 3) := by decide +kernel
theorem dX9_birth_164 : decode cX9_birth 164 = .ok (.ifCond .ne 13, 3) := by decide +kernel
theorem dX9_birth_167 : decode cX9_birth 167 = .ok (.aload_n 0, 1) := by decide +kernel
theorem dX9_birth_168 : decode cX9_birth 168 = .ok (.iload_n 2, 1) := by decide +kernel
theorem dX9_birth_169 : decode cX9_birth 169 = .ok (.iload 8, 2) := by decide +kernel
theorem dX9_birth_171 : decode cX9_birth 171 = .ok (.invokevirtual 170, 3) := by decide +kernel
theorem dX9_birth_174 : decode cX9_birth 174 = .ok (.ifCond .eq 7, 3) := by decide +kernel
theorem dX9_birth_177 : decode cX9_birth 177 = .ok (.iconst 1, 1) := by decide +kernel
theorem dX9_birth_178 : decode cX9_birth 178 = .ok (.goto 4, 3) := by decide +kernel
theorem dX9_birth_181 : decode cX9_birth 181 = .ok (.iconst 0, 1) := by decide +kernel
theorem dX9_birth_182 : decode cX9_birth 182 = .ok (.istore 9, 2) := by decide +kernel
theorem dX9_birth_184 : decode cX9_birth 184 = .ok (.iload 6, 2) := by decide +kernel
theorem dX9_birth_186 : decode cX9_birth 186 = .ok (.aload_n 0, 1) := by decide +kernel
theorem dX9_birth_187 : decode cX9_birth 187 = .ok (.getfield 16, 3) := by decide +kernel
theorem dX9_birth_190 : decode cX9_birth 190 = .ok (.iload 8, 2) := by decide +kernel
theorem dX9_birth_192 : decode cX9_birth 192 = .ok (.baload, 1) := by decide +kernel
theorem dX9_birth_193 : decode cX9_birth 193 = .ok (.ifCond .eq 13, 3) := by decide +kernel
theorem dX9_birth_196 : decode cX9_birth 196 = .ok (.iload 7, 2) := by decide +kernel
theorem dX9_birth_198 : decode cX9_birth 198 = .ok (.iload 8, 2) := by decide +kernel
theorem dX9_birth_200 : decode cX9_birth 200 = .ok (.invokestatic 160, 3) := by decide +kernel
theorem dX9_birth_203 : decode cX9_birth 203 = .ok (.ifCond .ne 8, 3) := by decide +kernel
theorem dX9_birth_206 : decode cX9_birth 206 = .ok (.iload 9, 2) := by decide +kernel
theorem dX9_birth_208 : decode cX9_birth 208 = .ok (.ifCond .eq 10, 3) := by decide +kernel
theorem dX9_birth_211 : decode cX9_birth 211 = .ok (.iconst 1, 1) := by decide +kernel
theorem dX9_birth_212 : decode cX9_birth 212 = .ok (.iload 8, 2) := by decide +kernel
theorem dX9_birth_214 : decode cX9_birth 214 = .ok (.ishl, 1) := by decide +kernel
theorem dX9_birth_215 : decode cX9_birth 215 = .ok (.goto 4, 3) := by decide +kernel
theorem dX9_birth_218 : decode cX9_birth 218 = .ok (.iconst 0, 1) := by decide +kernel
theorem dX9_birth_219 : decode cX9_birth 219 = .ok (.ior, 1) := by decide +kernel
theorem dX9_birth_220 : decode cX9_birth 220 = .ok (.istore 6, 2) := by decide +kernel
theorem dX9_birth_222 : decode cX9_birth 222 = .ok (.iinc 8 1, 3) := by decide +kernel
theorem dX9_birth_225 : decode cX9_birth 225 = .ok (.goto (-94), 3) := by decide +kernel
theorem dX9_birth_228 : decode cX9_birth 228 = .ok (.aload_n 0, 1) := by decide +kernel
theorem dX9_birth_229 : decode cX9_birth 229 = .ok (.iload 6, 2) := by decide +kernel
theorem dX9_birth_231 : decode cX9_birth 231 = .ok (.aload_n 0, 1) := by decide +kernel
theorem dX9_birth_232 : decode cX9_birth 232 = .ok (.getfield 153, 3) := by decide +kernel
theorem dX9_birth_235 : decode cX9_birth 235 = .ok (.invokevirtual 156, 3) := by decide +kernel
theorem dX9_birth_238 : decode cX9_birth 238 = .ok (.istore 8, 2) := by decide +kernel
theorem dX9_birth_240 : decode cX9_birth 240 = .ok (.aload_n 0, 1) := by decide +kernel
theorem dX9_birth_241 : decode cX9_birth 241 = .ok (.getfield 48, 3) := by decide +kernel
theorem dX9_birth_244 : decode cX9_birth 244 = .ok (.iload 8, 2) := by decide +kernel
theorem dX9_birth_246 : decode cX9_birth 246 = .ok (.iload_n 1, 1) := by decide +kernel
theorem dX9_birth_247 : decode cX9_birth 247 = .ok (.iastore, 1) := by decide +kernel
theorem dX9_birth_248 : decode cX9_birth 248 = .ok (.aload_n 0, 1) := by decide +kernel
theorem dX9_birth_249 : decode cX9_birth 249 = .ok (.getfield 51, 3) := by decide +kernel
theorem dX9_birth_252 : decode cX9_birth 252 = .ok (.iload 8, 2) := by decide +kernel
theorem dX9_birth_254 : decode cX9_birth 254 = .ok (.iload_n 2, 1) := by decide +kernel
theorem dX9_birth_255 : decode cX9_birth 255 = .ok (.iastore, 1) := by decide +kernel
theorem dX9_birth_256 : decode cX9_birth 256 = .ok (.aload_n 0, 1) := by decide +kernel
theorem dX9_birth_257 : decode cX9_birth 257 = .ok (.iload 8, 2) := by decide +kernel
theorem dX9_birth_259 : decode cX9_birth 259 = .ok (.iload 5, 2) := by decide +kernel
theorem dX9_birth_261 : decode cX9_birth 261 = .ok (.iconst (-1), 1) := by decide +kernel
theorem dX9_birth_262 : decode cX9_birth 262 = .ok (.iconst 0, 1) := by decide +kernel
theorem dX9_birth_263 : decode cX9_birth 263 = .ok (.invokevirtual 173, 3) := by decide +kernel
theorem dX9_birth_266 : decode cX9_birth 266 = .ok (.pop, 1) := by decide +kernel
theorem dX9_birth_267 : decode cX9_birth 267 = .ok (.iload 8, 2) := by decide +kernel
theorem dX9_birth_269 : decode cX9_birth 269 = .ok (.ireturn, 1) := by decide +kernel
set_option maxRecDepth 20000 in
theorem ggX9_nation_X9_isPerson : GoodIn wsX9_nation wsX9_isPerson := goodIn_r _ [6, 7, 8, 9, 5, 10, 21, 22, 23, 24, 25, 26, 27, 28, 29, 30, 31, 32, 33, 34, 35, 36, 37, 38, 39, 40, 41, 42, 43, 44, 45, 46, 47, 48, 49, 50, 51, 52, 53, 54, 55, 56, 57, 58, 59, 60, 61, 62, 63, 64, 65] (by decide +kernel) (by decide +kernel)
set_option maxRecDepth 20000 in
theorem gX9_nation_X9_isPerson : GoodIn wsX9_nation (wsV RX9 167 RX9 yX9_isPerson wsX9_isPerson) := goodIn_app (goodIn_of _ (by decide +kernel)) ggX9_nation_X9_isPerson
set_option maxRecDepth 20000 in
theorem ggX9_nation_X9_isLand : GoodIn wsX9_nation wsX9_isLand := goodIn_r _ [14, 15, 8, 9, 5, 10, 21, 22, 23, 24, 25, 26, 27, 28, 29, 30, 31, 32, 33, 34, 35, 36, 37, 38, 39, 40, 41, 42, 43, 44, 45, 46, 47, 48, 49, 50, 51, 52, 53, 54, 55, 56, 57, 58, 59, 60, 61, 62, 63, 64, 65] (by decide +kernel) (by decide +kernel)
set_option maxRecDepth 20000 in
theorem gX9_nation_X9_isLand : GoodIn wsX9_nation (wsV RX9 150 RX9 yX9_isLand wsX9_isLand) := goodIn_app (goodIn_of _ (by decide +kernel)) ggX9_nation_X9_isLand
set_option maxRecDepth 20000 in
theorem ggX9_nation_X9_goesWell : GoodIn wsX9_nation wsX9_goesWell := goodIn_r _ [19, 20, 21, 22, 23, 24, 25, 26, 27, 28, 29, 30, 31, 32, 33, 34, 35, 36, 37, 38, 39, 40, 41, 42, 43, 44, 45, 46, 47, 48, 49, 50, 51, 52, 53, 54, 55, 56, 57, 58, 59, 60, 61, 62, 63, 64, 65] (by decide +kernel) (by decide +kernel)
set_option maxRecDepth 20000 in
theorem gX9_nation_X9_goesWell : GoodIn wsX9_nation (wsV RX9 146 RX9 yX9_goesWell wsX9_goesWell) := goodIn_app (goodIn_of _ (by decide +kernel)) ggX9_nation_X9_goesWell
theorem dX9_nation_0 : decode cX9_nation 0 = .ok (.aload_n 0, 1) := by decide +kernel
theorem dX9_nation_1 : decode cX9_nation 1 = .ok (.aload_n 0, 1) := by decide +kernel
theorem dX9_nation_2 : decode cX9_nation 2 = .ok (.iload_n 1, 1) := by decide +kernel
theorem dX9_nation_3 : decode cX9_nation 3 = .ok (.invokevirtual 167, 3) := by decide +kernel
theorem dX9_nation_6 : decode cX9_nation 6 = .ok (.ifCond .eq 15, 3) := by decide +kernel
theorem dX9_nation_9 : decode cX9_nation 9 = .ok (.aload_n 0, 1) := by decide +kernel
theorem dX9_nation_10 : decode cX9_nation 10 = .ok (.iload_n 2, 1) := by decide +kernel
theorem dX9_nation_11 : decode cX9_nation 11 = .ok (.invokevirtual 150, 3) := by decide +kernel
theorem dX9_nation_14 : decode cX9_nation 14 = .ok (.ifCond .eq 7, 3) := by decide +kernel
theorem dX9_nation_17 : decode cX9_nation 17 = .ok (.iconst 0, 1) := by decide +kernel
theorem dX9_nation_18 : decode cX9_nation 18 = .ok (.goto 4, 3) := by decide +kernel
theorem dX9_nation_21 : decode cX9_nation 21 = .ok (.iconst 1, 1) := by decide +kernel
theorem dX9_nation_22 : decode cX9_nation 22 = .ok (.invokevirtual 146, 3) := by decide +kernel
theorem dX9_nation_25 : decode cX9_nation 25 = .ok (.ifCond .ne 5, 3) := by decide +kernel
theorem dX9_nation_28 : decode cX9_nation 28 = .ok (.iconst 0, 1) := by decide +kernel
theorem dX9_nation_29 : decode cX9_nation 29 = .ok (.ireturn, 1) := by decide +kernel
theorem dX9_nation_30 : decode cX9_nation 30 = .ok (.aload_n 0, 1) := by decide +kernel
theorem dX9_nation_31 : decode cX9_nation 31 = .ok (.getfield 45, 3) := by decide +kernel
theorem dX9_nation_34 : decode cX9_nation 34 = .ok (.iload_n 1, 1) := by decide +kernel
theorem dX9_nation_35 : decode cX9_nation 35 = .ok (.iload_n 3, 1) := by decide +kernel
theorem dX9_nation_36 : decode cX9_nation 36 = .ok (.ifCond .eq 16, 3) := by decide +kernel
theorem dX9_nation_39 : decode cX9_nation 39 = .ok (.aload_n 0, 1) := by decide +kernel
theorem dX9_nation_40 : decode cX9_nation 40 = .ok (.getfield 45, 3) := by decide +kernel
theorem dX9_nation_43 : decode cX9_nation 43 = .ok (.iload_n 1, 1) := by decide +kernel
theorem dX9_nation_44 : decode cX9_nation 44 = .ok (.iaload, 1) := by decide +kernel
theorem dX9_nation_45 : decode cX9_nation 45 = .ok (.iconst 1, 1) := by decide +kernel
theorem dX9_nation_46 : decode cX9_nation 46 = .ok (.iload_n 2, 1) := by decide +kernel
theorem dX9_nation_47 : decode cX9_nation 47 = .ok (.ishl, 1) := by decide +kernel
theorem dX9_nation_48 : decode cX9_nation 48 = .ok (.ior, 1) := by decide +kernel
theorem dX9_nation_49 : decode cX9_nation 49 = .ok (.goto 15, 3) := by decide +kernel
theorem dX9_nation_52 : decode cX9_nation 52 = .ok (.aload_n 0, 1) := by decide +kernel
theorem dX9_nation_53 : decode cX9_nation 53 = .ok (.getfield 45, 3) := by decide +kernel
theorem dX9_nation_56 : decode cX9_nation 56 = .ok (.iload_n 1, 1) := by decide +kernel
theorem dX9_nation_57 : decode cX9_nation 57 = .ok (.iaload, 1) := by decide +kernel
theorem dX9_nation_58 : decode cX9_nation 58 = .ok (.iconst 1, 1) := by decide +kernel
theorem dX9_nation_59 : decode cX9_nation 59 = .ok (.iload_n 2, 1) := by decide +kernel
theorem dX9_nation_60 : decode cX9_nation 60 = .ok (.ishl, 1) := by decide +kernel
theorem dX9_nation_61 : decode cX9_nation 61 = .ok (.iconst (-1), 1) := by decide +kernel
theorem dX9_nation_62 : decode cX9_nation 62 = .ok (.ixor, 1) := by decide +kernel
theorem dX9_nation_63 : decode cX9_nation 63 = .ok (.iand, 1) := by decide +kernel
theorem dX9_nation_64 : decode cX9_nation 64 = .ok (.iastore, 1) := by decide +kernel
theorem dX9_nation_65 : decode cX9_nation 65 = .ok (.aload_n 0, 1) := by decide +kernel
theorem dX9_nation_66 : decode cX9_nation 66 = .ok (.getfield 45, 3) := by decide +kernel
theorem dX9_nation_69 : decode cX9_nation 69 = .ok (.iload_n 1, 1) := by decide +kernel
theorem dX9_nation_70 : decode cX9_nation 70 = .ok (.iaload, 1) := by decide +kernel
theorem dX9_nation_71 : decode cX9_nation 71 = .ok (.ireturn, 1) := by decide +kernel
set_option maxRecDepth 20000 in
theorem ggX9_visa_X9_isPerson : GoodIn wsX9_visa wsX9_isPerson := goodIn_r _ [14, 15, 16, 17, 13, 18, 29, 30, 31, 32, 33, 34, 35, 36, 37, 38, 39, 40, 41, 42, 43, 44, 45, 46, 47, 48, 49, 50, 51, 52, 53, 54, 55, 56, 57, 58, 59, 60, 61, 62, 63, 64, 65, 66, 67, 68, 69, 70, 71, 72, 73] (by decide +kernel) (by decide +kernel)
set_option maxRecDepth 20000 in
theorem gX9_visa_X9_isPerson : GoodIn wsX9_visa (wsV RX9 167 RX9 yX9_isPerson wsX9_isPerson) := goodIn_app (goodIn_of _ (by decide +kernel)) ggX9_visa_X9_isPerson
set_option maxRecDepth 20000 in
theorem ggX9_visa_X9_isLand : GoodIn wsX9_visa wsX9_isLand := goodIn_r _ [22, 23, 16, 17, 13, 18, 29, 30, 31, 32, 33, 34, 35, 36, 37, 38, 39, 40, 41, 42, 43, 44, 45, 46, 47, 48, 49, 50, 51, 52, 53, 54, 55, 56, 57, 58, 59, 60, 61, 62, 63, 64, 65, 66, 67, 68, 69, 70, 71, 72, 73] (by decide +kernel) (by decide +kernel)
set_option maxRecDepth 20000 in
theorem gX9_visa_X9_isLand : GoodIn wsX9_visa (wsV RX9 150 RX9 yX9_isLand wsX9_isLand) := goodIn_app (goodIn_of _ (by decide +kernel)) ggX9_visa_X9_isLand
set_option maxRecDepth 20000 in
theorem ggX9_visa_X9_in : GoodIn wsX9_visa wsX9_in := goodIn_r _ [18] (by decide +kernel) (by decide +kernel)
set_option maxRecDepth 20000 in
theorem gX9_visa_X9_in : GoodIn wsX9_visa (va_wsS RX9 136 yX9_in wsX9_in) := goodIn_app (goodIn_of _ (by decide +kernel)) ggX9_visa_X9_in
set_option maxRecDepth 20000 in
theorem ggX9_visa_X9_goesWell : GoodIn wsX9_visa wsX9_goesWell := goodIn_r _ [27, 28, 29, 30, 31, 32, 33, 34, 35, 36, 37, 38, 39, 40, 41, 42, 43, 44, 45, 46, 47, 48, 49, 50, 51, 52, 53, 54, 55, 56, 57, 58, 59, 60, 61, 62, 63, 64, 65, 66, 67, 68, 69, 70, 71, 72, 73] (by decide +kernel) (by decide +kernel)
set_option maxRecDepth 20000 in
theorem gX9_visa_X9_goesWell : GoodIn wsX9_visa (wsV RX9 146 RX9 yX9_goesWell wsX9_goesWell) := goodIn_app (goodIn_of _ (by decide +kernel)) ggX9_visa_X9_goesWell
theorem dX9_visa_0 : decode cX9_visa 0 = .ok (.aload_n 0, 1) := by decide +kernel
theorem dX9_visa_1 : decode cX9_visa 1 = .ok (.iload_n 1, 1) := by decide +kernel
theorem dX9_visa_2 : decode cX9_visa 2 = .ok (.invokevirtual 167, 3) := by decide +kernel
theorem dX9_visa_5 : decode cX9_visa 5 = .ok (.ifCond .eq 15, 3) := by decide +kernel
theorem dX9_visa_8 : decode cX9_visa 8 = .ok (.aload_n 0, 1) := by decide +kernel
theorem dX9_visa_9 : decode cX9_visa 9 = .ok (.iload_n 2, 1) := by decide +kernel
theorem dX9_visa_10 : decode cX9_visa 10 = .ok (.invokevirtual 150, 3) := by decide +kernel
theorem dX9_visa_13 : decode cX9_visa 13 = .ok (.ifCond .eq 7, 3) := by decide +kernel
theorem dX9_visa_16 : decode cX9_visa 16 = .ok (.iconst 1, 1) := by decide +kernel
theorem dX9_visa_17 : decode cX9_visa 17 = .ok (.goto 4, 3) := by decide +kernel
theorem dX9_visa_20 : decode cX9_visa 20 = .ok (.iconst 0, 1) := by decide +kernel
theorem dX9_visa_21 : decode cX9_visa 21 = .ok (.istore 7, 2) := by decide +kernel
theorem dX9_visa_23 : decode cX9_visa 23 = .ok (.iload_n 3, 1) := by decide +kernel
theorem dX9_visa_24 : decode cX9_visa 24 = .ok (.aload_n 0, 1) := by decide +kernel
theorem dX9_visa_25 : decode cX9_visa 25 = .ok (.getfield 153, 3) := by decide +kernel
theorem dX9_visa_28 : decode cX9_visa 28 = .ok (.sipush 3600, 3) := by decide +kernel
theorem dX9_visa_31 : decode cX9_visa 31 = .ok (.invokestatic 136, 3) := by decide +kernel
theorem dX9_visa_34 : decode cX9_visa 34 = .ok (.ifCond .eq 41, 3) := by decide +kernel
theorem dX9_visa_37 : decode cX9_visa 37 = .ok (.iload 4, 2) := by decide +kernel
theorem dX9_visa_39 : decode cX9_visa 39 = .ok (.iload_n 3, 1) := by decide +kernel
theorem dX9_visa_40 : decode cX9_visa 40 = .ok (.sipush 3600, 3) := by decide +kernel
theorem dX9_visa_43 : decode cX9_visa 43 = .ok (.invokestatic 136, 3) := by decide +kernel
theorem dX9_visa_46 : decode cX9_visa 46 = .ok (.ifCond .eq 29, 3) := by decide +kernel
theorem dX9_visa_49 : decode cX9_visa 49 = .ok (.iload 5, 2) := by decide +kernel
theorem dX9_visa_51 : decode cX9_visa 51 = .ok (.iconst 1, 1) := by decide +kernel
theorem dX9_visa_52 : decode cX9_visa 52 = .ok (.bipush 9, 2) := by decide +kernel
theorem dX9_visa_54 : decode cX9_visa 54 = .ok (.invokestatic 136, 3) := by decide +kernel
theorem dX9_visa_57 : decode cX9_visa 57 = .ok (.ifCond .eq 18, 3) := by decide +kernel
theorem dX9_visa_60 : decode cX9_visa 60 = .ok (.iload 6, 2) := by decide +kernel
theorem dX9_visa_62 : decode cX9_visa 62 = .ok (.iconst 1, 1) := by decide +kernel
theorem dX9_visa_63 : decode cX9_visa 63 = .ok (.bipush 90, 2) := by decide +kernel
theorem dX9_visa_65 : decode cX9_visa 65 = .ok (.invokestatic 136, 3) := by decide +kernel
theorem dX9_visa_68 : decode cX9_visa 68 = .ok (.ifCond .eq 7, 3) := by decide +kernel
theorem dX9_visa_71 : decode cX9_visa 71 = .ok (.iconst 1, 1) := by decide +kernel
theorem dX9_visa_72 : decode cX9_visa 72 = .ok (.goto 4, 3) := by decide +kernel
theorem dX9_visa_75 : decode cX9_visa 75 = .ok (.iconst 0, 1) := by decide +kernel
theorem dX9_visa_76 : decode cX9_visa 76 = .ok (.istore 8, 2) := by decide +kernel
theorem dX9_visa_78 : decode cX9_visa 78 = .ok (.aload_n 0, 1) := by decide +kernel
theorem dX9_visa_79 : decode cX9_visa 79 = .ok (.iload 7, 2) := by decide +kernel
theorem dX9_visa_81 : decode cX9_visa 81 = .ok (.ifCond .ne 7, 3) := by decide +kernel
theorem dX9_visa_84 : decode cX9_visa 84 = .ok (.iconst 1, 1) := by decide +kernel
theorem dX9_visa_85 : decode cX9_visa 85 = .ok (.goto 26, 3) := by decide +kernel
theorem dX9_visa_88 : decode cX9_visa 88 = .ok (.iload 8, 2) := by decide +kernel
theorem dX9_visa_90 : decode cX9_visa 90 = .ok (.ifCond .ne 7, 3) := by decide +kernel
theorem dX9_visa_93 : decode cX9_visa 93 = .ok (.iconst 2, 1) := by decide +kernel
theorem dX9_visa_94 : decode cX9_visa 94 = .ok (.goto 17, 3) := by decide +kernel
theorem dX9_visa_97 : decode cX9_visa 97 = .ok (.aload_n 0, 1) := by decide +kernel
theorem dX9_visa_98 : decode cX9_visa 98 = .ok (.getfield 177, 3) := by decide +kernel
theorem dX9_visa_101 : decode cX9_visa 101 = .ok (.bipush 60, 2) := by decide +kernel
theorem dX9_visa_103 : decode cX9_visa 103 = .ok (.if_icmp .ne 7, 3) := by decide +kernel
theorem dX9_visa_106 : decode cX9_visa 106 = .ok (.iconst 3, 1) := by decide +kernel
theorem dX9_visa_107 : decode cX9_visa 107 = .ok (.goto 4, 3) := by decide +kernel
theorem dX9_visa_110 : decode cX9_visa 110 = .ok (.iconst 0, 1) := by decide +kernel
theorem dX9_visa_111 : decode cX9_visa 111 = .ok (.invokevirtual 146, 3) := by decide +kernel
theorem dX9_visa_114 : decode cX9_visa 114 = .ok (.ifCond .ne 5, 3) := by decide +kernel
theorem dX9_visa_117 : decode cX9_visa 117 = .ok (.iconst 0, 1) := by decide +kernel
theorem dX9_visa_118 : decode cX9_visa 118 = .ok (.ireturn, 1) := by decide +kernel
theorem dX9_visa_119 : decode cX9_visa 119 = .ok (.aload_n 0, 1) := by decide +kernel
theorem dX9_visa_120 : decode cX9_visa 120 = .ok (.getfield 85, 3) := by decide +kernel
theorem dX9_visa_123 : decode cX9_visa 123 = .ok (.aload_n 0, 1) := by decide +kernel
theorem dX9_visa_124 : decode cX9_visa 124 = .ok (.getfield 177, 3) := by decide +kernel
theorem dX9_visa_127 : decode cX9_visa 127 = .ok (.iload_n 1, 1) := by decide +kernel
theorem dX9_visa_128 : decode cX9_visa 128 = .ok (.iastore, 1) := by decide +kernel
theorem dX9_visa_129 : decode cX9_visa 129 = .ok (.aload_n 0, 1) := by decide +kernel
theorem dX9_visa_130 : decode cX9_visa 130 = .ok (.getfield 88, 3) := by decide +kernel
theorem dX9_visa_133 : decode cX9_visa 133 = .ok (.aload_n 0, 1) := by decide +kernel
theorem dX9_visa_134 : decode cX9_visa 134 = .ok (.getfield 177, 3) := by decide +kernel
theorem dX9_visa_137 : decode cX9_visa 137 = .ok (.iload_n 2, 1) := by decide +kernel
theorem dX9_visa_138 : decode cX9_visa 138 = .ok (.iastore, 1) := by decide +kernel
theorem dX9_visa_139 : decode cX9_visa 139 = .ok (.aload_n 0, 1) := by decide +kernel
theorem dX9_visa_140 : decode cX9_visa 140 = .ok (.getfield 91, 3) := by decide +kernel
theorem dX9_visa_143 : decode cX9_visa 143 = .ok (.aload_n 0, 1) := by decide +kernel
theorem dX9_visa_144 : decode cX9_visa 144 = .ok (.getfield 177, 3) := by decide +kernel
theorem dX9_visa_147 : decode cX9_visa 147 = .ok (.iload_n 3, 1) := by decide +kernel
theorem dX9_visa_148 : decode cX9_visa 148 = .ok (.iastore, 1) := by decide +kernel
theorem dX9_visa_149 : decode cX9_visa 149 = .ok (.aload_n 0, 1) := by decide +kernel
theorem dX9_visa_150 : decode cX9_visa 150 = .ok (.getfield 94, 3) := by decide +kernel
theorem dX9_visa_153 : decode cX9_visa 153 = .ok (.aload_n 0, 1) := by decide +kernel
theorem dX9_visa_154 : decode cX9_visa 154 = .ok (.getfield 177, 3) := by decide +kernel
theorem dX9_visa_157 : decode cX9_visa 157 = .ok (.iload 4, 2) := by decide +kernel
theorem dX9_visa_159 : decode cX9_visa 159 = .ok (.iastore, 1) := by decide +kernel
theorem dX9_visa_160 : decode cX9_visa 160 = .ok (.aload_n 0, 1) := by decide +kernel
theorem dX9_visa_161 : decode cX9_visa 161 = .ok (.getfield 97, 3) := by decide +kernel
theorem dX9_visa_164 : decode cX9_visa 164 = .ok (.aload_n 0, 1) := by decide +kernel
theorem dX9_visa_165 : decode cX9_visa 165 = .ok (.getfield 177, 3) := by decide +kernel
theorem dX9_visa_168 : decode cX9_visa 168 = .ok (.iload 5, 2) := by decide +kernel
theorem dX9_visa_170 : decode cX9_visa 170 = .ok (.iastore, 1) := by decide +kernel
theorem dX9_visa_171 : decode cX9_visa 171 = .ok (.aload_n 0, 1) := by decide +kernel
theorem dX9_visa_172 : decode cX9_visa 172 = .ok (.getfield 100, 3) := by decide +kernel
theorem dX9_visa_175 : decode cX9_visa 175 = .ok (.aload_n 0, 1) := by decide +kernel
theorem dX9_visa_176 : decode cX9_visa 176 = .ok (.getfield 177, 3) := by decide +kernel
theorem dX9_visa_179 : decode cX9_visa 179 = .ok (.iload 6, 2) := by decide +kernel
theorem dX9_visa_181 : decode cX9_visa 181 = .ok (.iastore, 1) := by decide +kernel
theorem dX9_visa_182 : decode cX9_visa 182 = .ok (.aload_n 0, 1) := by decide +kernel
theorem dX9_visa_183 : decode cX9_visa 183 = .ok (.getfield 103, 3) := by decide +kernel
theorem dX9_visa_186 : decode cX9_visa 186 = .ok (.aload_n 0, 1) := by decide +kernel
theorem dX9_visa_187 : decode cX9_visa 187 = .ok (.getfield 177, 3) := by decide +kernel
theorem dX9_visa_190 : decode cX9_visa 190 = .ok (.iconst (-1), 1) := by decide +kernel
theorem dX9_visa_191 : decode cX9_visa 191 = .ok (.iastore, 1) := by decide +kernel
theorem dX9_visa_192 : decode cX9_visa 192 = .ok (.aload_n 0, 1) := by decide +kernel
theorem dX9_visa_193 : decode cX9_visa 193 = .ok (.dup, 1) := by decide +kernel
theorem dX9_visa_194 : decode cX9_visa 194 = .ok (.getfield 177, 3) := by decide +kernel
theorem dX9_visa_197 : decode cX9_visa 197 = .ok (.iconst 1, 1) := by decide +kernel
theorem dX9_visa_198 : decode cX9_visa 198 = .ok (.iadd, 1) := by decide +kernel
theorem dX9_visa_199 : decode cX9_visa 199 = .ok (.putfield 177, 3) := by decide +kernel
theorem dX9_visa_202 : decode cX9_visa 202 = .ok (.aload_n 0, 1) := by decide +kernel
theorem dX9_visa_203 : decode cX9_visa 203 = .ok (.getfield 177, 3) := by decide +kernel
theorem dX9_visa_206 : decode cX9_visa 206 = .ok (.iconst 1, 1) := by decide +kernel
theorem dX9_visa_207 : decode cX9_visa 207 = .ok (.isub, 1) := by decide +kernel
theorem dX9_visa_208 : decode cX9_visa 208 = .ok (.ireturn, 1) := by decide +kernel
theorem dX9_ruleOf_0 : decode cX9_ruleOf 0 = .ok (.iconst 0, 1) := by decide +kernel
theorem dX9_ruleOf_1 : decode cX9_ruleOf 1 = .ok (.istore_n 2, 1) := by decide +kernel
theorem dX9_ruleOf_2 : decode cX9_ruleOf 2 = .ok (.iconst 1, 1) := by decide +kernel
theorem dX9_ruleOf_3 : decode cX9_ruleOf 3 = .ok (.istore_n 3, 1) := by decide +kernel
theorem dX9_ruleOf_4 : decode cX9_ruleOf 4 = .ok (.iload_n 3, 1) := by decide +kernel
theorem dX9_ruleOf_5 : decode cX9_ruleOf 5 = .ok (.aload_n 0, 1) := by decide +kernel
theorem dX9_ruleOf_6 : decode cX9_ruleOf 6 = .ok (.getfield 29, 3) := by decide +kernel
theorem dX9_ruleOf_9 : decode cX9_ruleOf 9 = .ok (.if_icmp .ge 40, 3) := by decide +kernel
theorem dX9_ruleOf_12 : decode cX9_ruleOf 12 = .ok (.aload_n 0, 1) := by decide +kernel
theorem dX9_ruleOf_13 : decode cX9_ruleOf 13 = .ok (.getfield 33, 3) := by decide +kernel
theorem dX9_ruleOf_16 : decode cX9_ruleOf 16 = .ok (.iload_n 3, 1) := by decide +kernel
theorem dX9_ruleOf_17 : decode cX9_ruleOf 17 = .ok (.iaload, 1) := by decide +kernel
theorem dX9_ruleOf_18 : decode cX9_ruleOf 18 = .ok (.iload_n 1, 1) := by decide +kernel
theorem dX9_ruleOf_19 : decode cX9_ruleOf 19 = .ok (.if_icmp .gt 22, 3) := by decide +kernel
theorem dX9_ruleOf_22 : decode cX9_ruleOf 22 = .ok (.aload_n 0, 1) := by decide +kernel
theorem dX9_ruleOf_23 : decode cX9_ruleOf 23 = .ok (.getfield 33, 3) := by decide +kernel
theorem dX9_ruleOf_26 : decode cX9_ruleOf 26 = .ok (.iload_n 3, 1) := by decide +kernel
theorem dX9_ruleOf_27 : decode cX9_ruleOf 27 = .ok (.iaload, 1) := by decide +kernel
theorem dX9_ruleOf_28 : decode cX9_ruleOf 28 = .ok (.aload_n 0, 1) := by decide +kernel
theorem dX9_ruleOf_29 : decode cX9_ruleOf 29 = .ok (.getfield 33, 3) := by decide +kernel
theorem dX9_ruleOf_32 : decode cX9_ruleOf 32 = .ok (.iload_n 2, 1) := by decide +kernel
theorem dX9_ruleOf_33 : decode cX9_ruleOf 33 = .ok (.iaload, 1) := by decide +kernel
theorem dX9_ruleOf_34 : decode cX9_ruleOf 34 = .ok (.if_icmp .lt 7, 3) := by decide +kernel
theorem dX9_ruleOf_37 : decode cX9_ruleOf 37 = .ok (.iload_n 3, 1) := by decide +kernel
theorem dX9_ruleOf_38 : decode cX9_ruleOf 38 = .ok (.goto 4, 3) := by decide +kernel
theorem dX9_ruleOf_41 : decode cX9_ruleOf 41 = .ok (.iload_n 2, 1) := by decide +kernel
theorem dX9_ruleOf_42 : decode cX9_ruleOf 42 = .ok (.istore_n 2, 1) := by decide +kernel
theorem dX9_ruleOf_43 : decode cX9_ruleOf 43 = .ok (.iinc 3 1, 3) := by decide +kernel
theorem dX9_ruleOf_46 : decode cX9_ruleOf 46 = .ok (.goto (-42), 3) := by decide +kernel
theorem dX9_ruleOf_49 : decode cX9_ruleOf 49 = .ok (.iload_n 2, 1) := by decide +kernel
theorem dX9_ruleOf_50 : decode cX9_ruleOf 50 = .ok (.ireturn, 1) := by decide +kernel
theorem dX9_counts_0 : decode cX9_counts 0 = .ok (.aload_n 0, 1) := by decide +kernel
theorem dX9_counts_1 : decode cX9_counts 1 = .ok (.getfield 67, 3) := by decide +kernel
theorem dX9_counts_4 : decode cX9_counts 4 = .ok (.sipush 3601, 3) := by decide +kernel
theorem dX9_counts_7 : decode cX9_counts 7 = .ok (.iload_n 1, 1) := by decide +kernel
theorem dX9_counts_8 : decode cX9_counts 8 = .ok (.imul, 1) := by decide +kernel
theorem dX9_counts_9 : decode cX9_counts 9 = .ok (.iload_n 2, 1) := by decide +kernel
theorem dX9_counts_10 : decode cX9_counts 10 = .ok (.iadd, 1) := by decide +kernel
theorem dX9_counts_11 : decode cX9_counts 11 = .ok (.iaload, 1) := by decide +kernel
theorem dX9_counts_12 : decode cX9_counts 12 = .ok (.istore_n 3, 1) := by decide +kernel
theorem dX9_counts_13 : decode cX9_counts 13 = .ok (.iload_n 3, 1) := by decide +kernel
theorem dX9_counts_14 : decode cX9_counts 14 = .ok (.bipush 10, 2) := by decide +kernel
theorem dX9_counts_16 : decode cX9_counts 16 = .ok (.irem, 1) := by decide +kernel
theorem dX9_counts_17 : decode cX9_counts 17 = .ok (.istore 4, 2) := by decide +kernel
theorem dX9_counts_19 : decode cX9_counts 19 = .ok (.iload_n 3, 1) := by decide +kernel
theorem dX9_counts_20 : decode cX9_counts 20 = .ok (.ifCond .le 31, 3) := by decide +kernel
theorem dX9_counts_23 : decode cX9_counts 23 = .ok (.iload 4, 2) := by decide +kernel
theorem dX9_counts_25 : decode cX9_counts 25 = .ok (.iconst 3, 1) := by decide +kernel
theorem dX9_counts_26 : decode cX9_counts 26 = .ok (.if_icmp .eq 9, 3) := by decide +kernel
theorem dX9_counts_29 : decode cX9_counts 29 = .ok (.iload 4, 2) := by decide +kernel
theorem dX9_counts_31 : decode cX9_counts 31 = .ok (.iconst 4, 1) := by decide +kernel
theorem dX9_counts_32 : decode cX9_counts 32 = .ok (.if_icmp .ne 19, 3) := by decide +kernel
theorem dX9_counts_35 : decode cX9_counts 35 = .ok (.aload_n 0, 1) := by decide +kernel
theorem dX9_counts_36 : decode cX9_counts 36 = .ok (.getfield 7, 3) := by decide +kernel
theorem dX9_counts_39 : decode cX9_counts 39 = .ok (.iload_n 3, 1) := by decide +kernel
theorem dX9_counts_40 : decode cX9_counts 40 = .ok (.bipush 10, 2) := by decide +kernel
theorem dX9_counts_42 : decode cX9_counts 42 = .ok (.idiv, 1) := by decide +kernel
theorem dX9_counts_43 : decode cX9_counts 43 = .ok (.baload, 1) := by decide +kernel
theorem dX9_counts_44 : decode cX9_counts 44 = .ok (.ifCond .eq 7, 3) := by decide +kernel
theorem dX9_counts_47 : decode cX9_counts 47 = .ok (.iconst 1, 1) := by decide +kernel
theorem dX9_counts_48 : decode cX9_counts 48 = .ok (.goto 4, 3) := by decide +kernel
theorem dX9_counts_51 : decode cX9_counts 51 = .ok (.iconst 0, 1) := by decide +kernel
theorem dX9_counts_52 : decode cX9_counts 52 = .ok (.ireturn, 1) := by decide +kernel
set_option maxRecDepth 20000 in
theorem ggX9_countTo_X9_ruleOf : GoodIn wsX9_countTo wsX9_ruleOf := goodIn_r _ [7, 8, 9, 16, 17, 18, 19, 20, 21, 22, 23, 24, 25, 26, 27, 28, 29, 30, 31, 32, 33, 34, 35, 36, 37, 38, 39, 40, 41, 42, 43, 44, 45, 46, 47, 48, 49, 50, 51, 52, 53, 54, 55, 56, 57, 58, 59, 60] (by decide +kernel) (by decide +kernel)
set_option maxRecDepth 20000 in
theorem gX9_countTo_X9_ruleOf : GoodIn wsX9_countTo (wsV RX9 180 RX9 yX9_ruleOf wsX9_ruleOf) := goodIn_app (goodIn_of _ (by decide +kernel)) ggX9_countTo_X9_ruleOf
set_option maxRecDepth 20000 in
theorem ggX9_countTo_X9_counts : GoodIn wsX9_countTo wsX9_counts := goodIn_r _ [13, 14, 15, 16, 17, 18, 19, 20, 21, 22, 23, 24, 25, 26, 27, 28, 29, 30, 31, 32, 33, 34, 35, 36, 37, 38, 39, 40, 41, 42, 43, 44, 45, 46, 47, 48, 49, 50, 51, 52, 53, 54, 55, 56, 57, 58, 59, 60] (by decide +kernel) (by decide +kernel)
set_option maxRecDepth 20000 in
theorem gX9_countTo_X9_counts : GoodIn wsX9_countTo (wsV RX9 184 RX9 yX9_counts wsX9_counts) := goodIn_app (goodIn_of _ (by decide +kernel)) ggX9_countTo_X9_counts
theorem dX9_countTo_0 : decode cX9_countTo 0 = .ok (.iconst 0, 1) := by decide +kernel
theorem dX9_countTo_1 : decode cX9_countTo 1 = .ok (.istore_n 3, 1) := by decide +kernel
theorem dX9_countTo_2 : decode cX9_countTo 2 = .ok (.aload_n 0, 1) := by decide +kernel
theorem dX9_countTo_3 : decode cX9_countTo 3 = .ok (.getfield 153, 3) := by decide +kernel
theorem dX9_countTo_6 : decode cX9_countTo 6 = .ok (.aload_n 0, 1) := by decide +kernel
theorem dX9_countTo_7 : decode cX9_countTo 7 = .ok (.getfield 39, 3) := by decide +kernel
theorem dX9_countTo_10 : decode cX9_countTo 10 = .ok (.aload_n 0, 1) := by decide +kernel
theorem dX9_countTo_11 : decode cX9_countTo 11 = .ok (.aload_n 0, 1) := by decide +kernel
theorem dX9_countTo_12 : decode cX9_countTo 12 = .ok (.getfield 153, 3) := by decide +kernel
theorem dX9_countTo_15 : decode cX9_countTo 15 = .ok (.invokevirtual 180, 3) := by decide +kernel
theorem dX9_countTo_18 : decode cX9_countTo 18 = .ok (.iaload, 1) := by decide +kernel
theorem dX9_countTo_19 : decode cX9_countTo 19 = .ok (.isub, 1) := by decide +kernel
theorem dX9_countTo_20 : decode cX9_countTo 20 = .ok (.iconst 1, 1) := by decide +kernel
theorem dX9_countTo_21 : decode cX9_countTo 21 = .ok (.iadd, 1) := by decide +kernel
theorem dX9_countTo_22 : decode cX9_countTo 22 = .ok (.istore 4, 2) := by decide +kernel
theorem dX9_countTo_24 : decode cX9_countTo 24 = .ok (.iload 4, 2) := by decide +kernel
theorem dX9_countTo_26 : decode cX9_countTo 26 = .ok (.ifCond .ge 7, 3) := by decide +kernel
theorem dX9_countTo_29 : decode cX9_countTo 29 = .ok (.iconst 0, 1) := by decide +kernel
theorem dX9_countTo_30 : decode cX9_countTo 30 = .ok (.goto 5, 3) := by decide +kernel
theorem dX9_countTo_33 : decode cX9_countTo 33 = .ok (.iload 4, 2) := by decide +kernel
theorem dX9_countTo_35 : decode cX9_countTo 35 = .ok (.istore 5, 2) := by decide +kernel
theorem dX9_countTo_37 : decode cX9_countTo 37 = .ok (.iload 5, 2) := by decide +kernel
theorem dX9_countTo_39 : decode cX9_countTo 39 = .ok (.iload_n 2, 1) := by decide +kernel
theorem dX9_countTo_40 : decode cX9_countTo 40 = .ok (.if_icmp .gt 27, 3) := by decide +kernel
theorem dX9_countTo_43 : decode cX9_countTo 43 = .ok (.iload_n 3, 1) := by decide +kernel
theorem dX9_countTo_44 : decode cX9_countTo 44 = .ok (.aload_n 0, 1) := by decide +kernel
theorem dX9_countTo_45 : decode cX9_countTo 45 = .ok (.iload_n 1, 1) := by decide +kernel
theorem dX9_countTo_46 : decode cX9_countTo 46 = .ok (.iload 5, 2) := by decide +kernel
theorem dX9_countTo_48 : decode cX9_countTo 48 = .ok (.invokevirtual 184, 3) := by decide +kernel
theorem dX9_countTo_51 : decode cX9_countTo 51 = .ok (.ifCond .eq 7, 3) := by decide +kernel
theorem dX9_countTo_54 : decode cX9_countTo 54 = .ok (.iconst 1, 1) := by decide +kernel
theorem dX9_countTo_55 : decode cX9_countTo 55 = .ok (.goto 4, 3) := by decide +kernel
theorem dX9_countTo_58 : decode cX9_countTo 58 = .ok (.iconst 0, 1) := by decide +kernel
theorem dX9_countTo_59 : decode cX9_countTo 59 = .ok (.iadd, 1) := by decide +kernel
theorem dX9_countTo_60 : decode cX9_countTo 60 = .ok (.istore_n 3, 1) := by decide +kernel
theorem dX9_countTo_61 : decode cX9_countTo 61 = .ok (.iinc 5 1, 3) := by decide +kernel
theorem dX9_countTo_64 : decode cX9_countTo 64 = .ok (.goto (-27), 3) := by decide +kernel
theorem dX9_countTo_67 : decode cX9_countTo 67 = .ok (.iload_n 3, 1) := by decide +kernel
theorem dX9_countTo_68 : decode cX9_countTo 68 = .ok (.ireturn, 1) := by decide +kernel
set_option maxRecDepth 20000 in
theorem ggX9_hasDays_X9_countTo : GoodIn wsX9_hasDays wsX9_countTo := goodIn_r _ [8, 2, 9, 10, 11, 12, 7, 13, 14, 15, 16, 17, 18, 19, 20, 1, 21, 22, 23, 24, 25, 26, 27, 28, 29, 30, 31, 32, 33, 34, 35, 36, 37, 38, 39, 40, 41, 42, 43, 44, 45, 46, 47, 48, 49, 50, 51, 52, 53, 54, 55, 56, 57, 58, 59, 60, 61, 62, 63, 64, 65] (by decide +kernel) (by decide +kernel)
set_option maxRecDepth 20000 in
theorem gX9_hasDays_X9_countTo : GoodIn wsX9_hasDays (wsV RX9 187 RX9 yX9_countTo wsX9_countTo) := goodIn_app (goodIn_of _ (by decide +kernel)) ggX9_hasDays_X9_countTo
set_option maxRecDepth 20000 in
theorem ggX9_hasDays_X9_ruleOf : GoodIn wsX9_hasDays wsX9_ruleOf := goodIn_r _ [13, 14, 15, 21, 22, 23, 24, 25, 26, 27, 28, 29, 30, 31, 32, 33, 34, 35, 36, 37, 38, 39, 40, 41, 42, 43, 44, 45, 46, 47, 48, 49, 50, 51, 52, 53, 54, 55, 56, 57, 58, 59, 60, 61, 62, 63, 64, 65] (by decide +kernel) (by decide +kernel)
set_option maxRecDepth 20000 in
theorem gX9_hasDays_X9_ruleOf : GoodIn wsX9_hasDays (wsV RX9 180 RX9 yX9_ruleOf wsX9_ruleOf) := goodIn_app (goodIn_of _ (by decide +kernel)) ggX9_hasDays_X9_ruleOf
theorem dX9_hasDays_0 : decode cX9_hasDays 0 = .ok (.aload_n 0, 1) := by decide +kernel
theorem dX9_hasDays_1 : decode cX9_hasDays 1 = .ok (.getfield 7, 3) := by decide +kernel
theorem dX9_hasDays_4 : decode cX9_hasDays 4 = .ok (.iload_n 2, 1) := by decide +kernel
theorem dX9_hasDays_5 : decode cX9_hasDays 5 = .ok (.baload, 1) := by decide +kernel
theorem dX9_hasDays_6 : decode cX9_hasDays 6 = .ok (.ifCond .eq 40, 3) := by decide +kernel
theorem dX9_hasDays_9 : decode cX9_hasDays 9 = .ok (.aload_n 0, 1) := by decide +kernel
theorem dX9_hasDays_10 : decode cX9_hasDays 10 = .ok (.iload_n 1, 1) := by decide +kernel
theorem dX9_hasDays_11 : decode cX9_hasDays 11 = .ok (.aload_n 0, 1) := by decide +kernel
theorem dX9_hasDays_12 : decode cX9_hasDays 12 = .ok (.getfield 153, 3) := by decide +kernel
theorem dX9_hasDays_15 : decode cX9_hasDays 15 = .ok (.iconst 1, 1) := by decide +kernel
theorem dX9_hasDays_16 : decode cX9_hasDays 16 = .ok (.isub, 1) := by decide +kernel
theorem dX9_hasDays_17 : decode cX9_hasDays 17 = .ok (.invokevirtual 187, 3) := by decide +kernel
theorem dX9_hasDays_20 : decode cX9_hasDays 20 = .ok (.iconst 1, 1) := by decide +kernel
theorem dX9_hasDays_21 : decode cX9_hasDays 21 = .ok (.iadd, 1) := by decide +kernel
theorem dX9_hasDays_22 : decode cX9_hasDays 22 = .ok (.aload_n 0, 1) := by decide +kernel
theorem dX9_hasDays_23 : decode cX9_hasDays 23 = .ok (.getfield 36, 3) := by decide +kernel
theorem dX9_hasDays_26 : decode cX9_hasDays 26 = .ok (.aload_n 0, 1) := by decide +kernel
theorem dX9_hasDays_27 : decode cX9_hasDays 27 = .ok (.aload_n 0, 1) := by decide +kernel
theorem dX9_hasDays_28 : decode cX9_hasDays 28 = .ok (.getfield 153, 3) := by decide +kernel
theorem dX9_hasDays_31 : decode cX9_hasDays 31 = .ok (.invokevirtual 180, 3) := by decide +kernel
theorem dX9_hasDays_34 : decode cX9_hasDays 34 = .ok (.iaload, 1) := by decide +kernel
theorem dX9_hasDays_35 : decode cX9_hasDays 35 = .ok (.if_icmp .gt 7, 3) := by decide +kernel
theorem dX9_hasDays_38 : decode cX9_hasDays 38 = .ok (.iconst 1, 1) := by decide +kernel
theorem dX9_hasDays_39 : decode cX9_hasDays 39 = .ok (.goto 23, 3) := by decide +kernel
theorem dX9_hasDays_42 : decode cX9_hasDays 42 = .ok (.iconst 0, 1) := by decide +kernel
theorem dX9_hasDays_43 : decode cX9_hasDays 43 = .ok (.goto 19, 3) := by decide +kernel
theorem dX9_hasDays_46 : decode cX9_hasDays 46 = .ok (.aload_n 0, 1) := by decide +kernel
theorem dX9_hasDays_47 : decode cX9_hasDays 47 = .ok (.getfield 153, 3) := by decide +kernel
theorem dX9_hasDays_50 : decode cX9_hasDays 50 = .ok (.iload_n 3, 1) := by decide +kernel
theorem dX9_hasDays_51 : decode cX9_hasDays 51 = .ok (.isub, 1) := by decide +kernel
theorem dX9_hasDays_52 : decode cX9_hasDays 52 = .ok (.bipush 60, 2) := by decide +kernel
theorem dX9_hasDays_54 : decode cX9_hasDays 54 = .ok (.if_icmp .ge 7, 3) := by decide +kernel
theorem dX9_hasDays_57 : decode cX9_hasDays 57 = .ok (.iconst 1, 1) := by decide +kernel
theorem dX9_hasDays_58 : decode cX9_hasDays 58 = .ok (.goto 4, 3) := by decide +kernel
theorem dX9_hasDays_61 : decode cX9_hasDays 61 = .ok (.iconst 0, 1) := by decide +kernel
theorem dX9_hasDays_62 : decode cX9_hasDays 62 = .ok (.ireturn, 1) := by decide +kernel
set_option maxRecDepth 20000 in
theorem ggX9_isFree_X9_has : GoodIn wsX9_isFree wsX9_has := goodIn_r _ [8] (by decide +kernel) (by decide +kernel)
set_option maxRecDepth 20000 in
theorem gX9_isFree_X9_has : GoodIn wsX9_isFree (va_wsS RX9 160 yX9_has wsX9_has) := goodIn_app (goodIn_of _ (by decide +kernel)) ggX9_isFree_X9_has
set_option maxRecDepth 20000 in
theorem ggX9_isFree_X9_hasPermit : GoodIn wsX9_isFree wsX9_hasPermit := goodIn_r _ [12, 13, 14, 15, 16, 17, 18, 19, 20, 21, 22, 23, 24, 25, 26, 27, 28, 29, 30, 31, 32, 33, 34, 35, 36, 37, 38, 39, 40, 41, 42, 43, 44, 45, 46, 47, 48, 49, 50, 51, 52, 53, 54, 55, 56, 57, 58, 59] (by decide +kernel) (by decide +kernel)
set_option maxRecDepth 20000 in
theorem gX9_isFree_X9_hasPermit : GoodIn wsX9_isFree (wsV RX9 164 RX9 yX9_hasPermit wsX9_hasPermit) := goodIn_app (goodIn_of _ (by decide +kernel)) ggX9_isFree_X9_hasPermit
theorem dX9_isFree_0 : decode cX9_isFree 0 = .ok (.iconst 0, 1) := by decide +kernel
theorem dX9_isFree_1 : decode cX9_isFree 1 = .ok (.istore_n 3, 1) := by decide +kernel
theorem dX9_isFree_2 : decode cX9_isFree 2 = .ok (.iconst 0, 1) := by decide +kernel
theorem dX9_isFree_3 : decode cX9_isFree 3 = .ok (.istore 4, 2) := by decide +kernel
theorem dX9_isFree_5 : decode cX9_isFree 5 = .ok (.iload 4, 2) := by decide +kernel
theorem dX9_isFree_7 : decode cX9_isFree 7 = .ok (.aload_n 0, 1) := by decide +kernel
theorem dX9_isFree_8 : decode cX9_isFree 8 = .ok (.getfield 133, 3) := by decide +kernel
theorem dX9_isFree_11 : decode cX9_isFree 11 = .ok (.if_icmp .ge 77, 3) := by decide +kernel
theorem dX9_isFree_14 : decode cX9_isFree 14 = .ok (.iload_n 3, 1) := by decide +kernel
theorem dX9_isFree_15 : decode cX9_isFree 15 = .ok (.ifCond .ne 61, 3) := by decide +kernel
theorem dX9_isFree_18 : decode cX9_isFree 18 = .ok (.aload_n 0, 1) := by decide +kernel
theorem dX9_isFree_19 : decode cX9_isFree 19 = .ok (.getfield 45, 3) := by decide +kernel
theorem dX9_isFree_22 : decode cX9_isFree 22 = .ok (.iload_n 1, 1) := by decide +kernel
theorem dX9_isFree_23 : decode cX9_isFree 23 = .ok (.iaload, 1) := by decide +kernel
theorem dX9_isFree_24 : decode cX9_isFree 24 = .ok (.iload 4, 2) := by decide +kernel
theorem dX9_isFree_26 : decode cX9_isFree 26 = .ok (.invokestatic 160, 3) := by decide +kernel
theorem dX9_isFree_29 : decode cX9_isFree 29 = .ok (.ifCond .eq 18, 3) := by decide +kernel
theorem dX9_isFree_32 : decode cX9_isFree 32 = .ok (.aload_n 0, 1) := by decide +kernel
theorem dX9_isFree_33 : decode cX9_isFree 33 = .ok (.getfield 23, 3) := by decide +kernel
theorem dX9_isFree_36 : decode cX9_isFree 36 = .ok (.bipush 8, 2) := by decide +kernel
theorem dX9_isFree_38 : decode cX9_isFree 38 = .ok (.iload_n 2, 1) := by decide +kernel
theorem dX9_isFree_39 : decode cX9_isFree 39 = .ok (.imul, 1) := by decide +kernel
theorem dX9_isFree_40 : decode cX9_isFree 40 = .ok (.iload 4, 2) := by decide +kernel
theorem dX9_isFree_42 : decode cX9_isFree 42 = .ok (.iadd, 1) := by decide +kernel
theorem dX9_isFree_43 : decode cX9_isFree 43 = .ok (.baload, 1) := by decide +kernel
theorem dX9_isFree_44 : decode cX9_isFree 44 = .ok (.ifCond .ne 32, 3) := by decide +kernel
theorem dX9_isFree_47 : decode cX9_isFree 47 = .ok (.aload_n 0, 1) := by decide +kernel
theorem dX9_isFree_48 : decode cX9_isFree 48 = .ok (.getfield 7, 3) := by decide +kernel
theorem dX9_isFree_51 : decode cX9_isFree 51 = .ok (.iload_n 2, 1) := by decide +kernel
theorem dX9_isFree_52 : decode cX9_isFree 52 = .ok (.baload, 1) := by decide +kernel
theorem dX9_isFree_53 : decode cX9_isFree 53 = .ok (.ifCond .eq 27, 3) := by decide +kernel
theorem dX9_isFree_56 : decode cX9_isFree 56 = .ok (.aload_n 0, 1) := by decide +kernel
theorem dX9_isFree_57 : decode cX9_isFree 57 = .ok (.getfield 7, 3) := by decide +kernel
theorem dX9_isFree_60 : decode cX9_isFree 60 = .ok (.iload 4, 2) := by decide +kernel
theorem dX9_isFree_62 : decode cX9_isFree 62 = .ok (.baload, 1) := by decide +kernel
theorem dX9_isFree_63 : decode cX9_isFree 63 = .ok (.ifCond .eq 17, 3) := by decide +kernel
theorem dX9_isFree_66 : decode cX9_isFree 66 = .ok (.aload_n 0, 1) := by decide +kernel
theorem dX9_isFree_67 : decode cX9_isFree 67 = .ok (.iload_n 1, 1) := by decide +kernel
theorem dX9_isFree_68 : decode cX9_isFree 68 = .ok (.iload 4, 2) := by decide +kernel
theorem dX9_isFree_70 : decode cX9_isFree 70 = .ok (.invokevirtual 164, 3) := by decide +kernel
theorem dX9_isFree_73 : decode cX9_isFree 73 = .ok (.ifCond .eq 7, 3) := by decide +kernel
theorem dX9_isFree_76 : decode cX9_isFree 76 = .ok (.iconst 1, 1) := by decide +kernel
theorem dX9_isFree_77 : decode cX9_isFree 77 = .ok (.goto 4, 3) := by decide +kernel
theorem dX9_isFree_80 : decode cX9_isFree 80 = .ok (.iconst 0, 1) := by decide +kernel
theorem dX9_isFree_81 : decode cX9_isFree 81 = .ok (.istore_n 3, 1) := by decide +kernel
theorem dX9_isFree_82 : decode cX9_isFree 82 = .ok (.iinc 4 1, 3) := by decide +kernel
theorem dX9_isFree_85 : decode cX9_isFree 85 = .ok (.goto (-80), 3) := by decide +kernel
theorem dX9_isFree_88 : decode cX9_isFree 88 = .ok (.iload_n 3, 1) := by decide +kernel
theorem dX9_isFree_89 : decode cX9_isFree 89 = .ok (.ireturn, 1) := by decide +kernel
set_option maxRecDepth 20000 in
theorem ggX9_isGood_X9_in : GoodIn wsX9_isGood wsX9_in := goodIn_r _ [11] (by decide +kernel) (by decide +kernel)
set_option maxRecDepth 20000 in
theorem gX9_isGood_X9_in : GoodIn wsX9_isGood (va_wsS RX9 136 yX9_in wsX9_in) := goodIn_app (goodIn_of _ (by decide +kernel)) ggX9_isGood_X9_in
theorem dX9_isGood_0 : decode cX9_isGood 0 = .ok (.aload_n 0, 1) := by decide +kernel
theorem dX9_isGood_1 : decode cX9_isGood 1 = .ok (.getfield 88, 3) := by decide +kernel
theorem dX9_isGood_4 : decode cX9_isGood 4 = .ok (.iload_n 1, 1) := by decide +kernel
theorem dX9_isGood_5 : decode cX9_isGood 5 = .ok (.iaload, 1) := by decide +kernel
theorem dX9_isGood_6 : decode cX9_isGood 6 = .ok (.iload_n 2, 1) := by decide +kernel
theorem dX9_isGood_7 : decode cX9_isGood 7 = .ok (.if_icmp .eq 26, 3) := by decide +kernel
theorem dX9_isGood_10 : decode cX9_isGood 10 = .ok (.aload_n 0, 1) := by decide +kernel
theorem dX9_isGood_11 : decode cX9_isGood 11 = .ok (.getfield 7, 3) := by decide +kernel
theorem dX9_isGood_14 : decode cX9_isGood 14 = .ok (.aload_n 0, 1) := by decide +kernel
theorem dX9_isGood_15 : decode cX9_isGood 15 = .ok (.getfield 88, 3) := by decide +kernel
theorem dX9_isGood_18 : decode cX9_isGood 18 = .ok (.iload_n 1, 1) := by decide +kernel
theorem dX9_isGood_19 : decode cX9_isGood 19 = .ok (.iaload, 1) := by decide +kernel
theorem dX9_isGood_20 : decode cX9_isGood 20 = .ok (.baload, 1) := by decide +kernel
theorem dX9_isGood_21 : decode cX9_isGood 21 = .ok (.ifCond .eq 16, 3) := by decide +kernel
theorem dX9_isGood_24 : decode cX9_isGood 24 = .ok (.aload_n 0, 1) := by decide +kernel
theorem dX9_isGood_25 : decode cX9_isGood 25 = .ok (.getfield 7, 3) := by decide +kernel
theorem dX9_isGood_28 : decode cX9_isGood 28 = .ok (.iload_n 2, 1) := by decide +kernel
theorem dX9_isGood_29 : decode cX9_isGood 29 = .ok (.baload, 1) := by decide +kernel
theorem dX9_isGood_30 : decode cX9_isGood 30 = .ok (.ifCond .eq 7, 3) := by decide +kernel
theorem dX9_isGood_33 : decode cX9_isGood 33 = .ok (.iconst 1, 1) := by decide +kernel
theorem dX9_isGood_34 : decode cX9_isGood 34 = .ok (.goto 4, 3) := by decide +kernel
theorem dX9_isGood_37 : decode cX9_isGood 37 = .ok (.iconst 0, 1) := by decide +kernel
theorem dX9_isGood_38 : decode cX9_isGood 38 = .ok (.istore_n 3, 1) := by decide +kernel
theorem dX9_isGood_39 : decode cX9_isGood 39 = .ok (.iload_n 3, 1) := by decide +kernel
theorem dX9_isGood_40 : decode cX9_isGood 40 = .ok (.ifCond .eq 51, 3) := by decide +kernel
theorem dX9_isGood_43 : decode cX9_isGood 43 = .ok (.aload_n 0, 1) := by decide +kernel
theorem dX9_isGood_44 : decode cX9_isGood 44 = .ok (.getfield 153, 3) := by decide +kernel
theorem dX9_isGood_47 : decode cX9_isGood 47 = .ok (.aload_n 0, 1) := by decide +kernel
theorem dX9_isGood_48 : decode cX9_isGood 48 = .ok (.getfield 91, 3) := by decide +kernel
theorem dX9_isGood_51 : decode cX9_isGood 51 = .ok (.iload_n 1, 1) := by decide +kernel
theorem dX9_isGood_52 : decode cX9_isGood 52 = .ok (.iaload, 1) := by decide +kernel
theorem dX9_isGood_53 : decode cX9_isGood 53 = .ok (.aload_n 0, 1) := by decide +kernel
theorem dX9_isGood_54 : decode cX9_isGood 54 = .ok (.getfield 94, 3) := by decide +kernel
theorem dX9_isGood_57 : decode cX9_isGood 57 = .ok (.iload_n 1, 1) := by decide +kernel
theorem dX9_isGood_58 : decode cX9_isGood 58 = .ok (.iaload, 1) := by decide +kernel
theorem dX9_isGood_59 : decode cX9_isGood 59 = .ok (.invokestatic 136, 3) := by decide +kernel
theorem dX9_isGood_62 : decode cX9_isGood 62 = .ok (.ifCond .eq 29, 3) := by decide +kernel
theorem dX9_isGood_65 : decode cX9_isGood 65 = .ok (.aload_n 0, 1) := by decide +kernel
theorem dX9_isGood_66 : decode cX9_isGood 66 = .ok (.getfield 100, 3) := by decide +kernel
theorem dX9_isGood_69 : decode cX9_isGood 69 = .ok (.iload_n 1, 1) := by decide +kernel
theorem dX9_isGood_70 : decode cX9_isGood 70 = .ok (.iaload, 1) := by decide +kernel
theorem dX9_isGood_71 : decode cX9_isGood 71 = .ok (.ifCond .gt 16, 3) := by decide +kernel
theorem dX9_isGood_74 : decode cX9_isGood 74 = .ok (.aload_n 0, 1) := by decide +kernel
theorem dX9_isGood_75 : decode cX9_isGood 75 = .ok (.getfield 103, 3) := by decide +kernel
theorem dX9_isGood_78 : decode cX9_isGood 78 = .ok (.iload_n 1, 1) := by decide +kernel
theorem dX9_isGood_79 : decode cX9_isGood 79 = .ok (.iaload, 1) := by decide +kernel
theorem dX9_isGood_80 : decode cX9_isGood 80 = .ok (.aload_n 0, 1) := by decide +kernel
theorem dX9_isGood_81 : decode cX9_isGood 81 = .ok (.getfield 153, 3) := by decide +kernel
theorem dX9_isGood_84 : decode cX9_isGood 84 = .ok (.if_icmp .ne 7, 3) := by decide +kernel
theorem dX9_isGood_87 : decode cX9_isGood 87 = .ok (.iconst 1, 1) := by decide +kernel
theorem dX9_isGood_88 : decode cX9_isGood 88 = .ok (.goto 4, 3) := by decide +kernel
theorem dX9_isGood_91 : decode cX9_isGood 91 = .ok (.iconst 0, 1) := by decide +kernel
theorem dX9_isGood_92 : decode cX9_isGood 92 = .ok (.ireturn, 1) := by decide +kernel
set_option maxRecDepth 20000 in
theorem ggX9_statusIn_X9_belongs : GoodIn wsX9_statusIn wsX9_belongs := goodIn_r _ [12, 1, 13, 14, 11, 15, 16, 17, 18, 19, 20, 6, 59, 60, 61, 62, 63, 64, 65, 66, 67, 68, 69, 70, 71, 72, 73, 74, 75, 76, 77, 78, 79, 80, 81, 82, 83, 84, 85, 86, 87, 88, 89, 90, 91, 92, 93, 94, 95, 96, 97, 98, 99, 100, 101, 102, 103] (by decide +kernel) (by decide +kernel)
set_option maxRecDepth 20000 in
theorem gX9_statusIn_X9_belongs : GoodIn wsX9_statusIn (wsV RX9 170 RX9 yX9_belongs wsX9_belongs) := goodIn_app (goodIn_of _ (by decide +kernel)) ggX9_statusIn_X9_belongs
set_option maxRecDepth 20000 in
theorem ggX9_statusIn_X9_has : GoodIn wsX9_statusIn wsX9_has := goodIn_r _ [15] (by decide +kernel) (by decide +kernel)
set_option maxRecDepth 20000 in
theorem gX9_statusIn_X9_has : GoodIn wsX9_statusIn (va_wsS RX9 160 yX9_has wsX9_has) := goodIn_app (goodIn_of _ (by decide +kernel)) ggX9_statusIn_X9_has
set_option maxRecDepth 20000 in
theorem ggX9_statusIn_X9_isFree : GoodIn wsX9_statusIn wsX9_isFree := goodIn_r _ [24, 25, 1, 26, 27, 13, 14, 11, 15, 16, 17, 18, 19, 20, 6, 59, 60, 61, 62, 63, 64, 65, 66, 67, 68, 69, 70, 71, 72, 73, 74, 75, 76, 77, 78, 79, 80, 81, 82, 83, 84, 85, 86, 87, 88, 89, 90, 91, 92, 93, 94, 95, 96, 97, 98, 99, 100, 101, 102, 103] (by decide +kernel) (by decide +kernel)
set_option maxRecDepth 20000 in
theorem gX9_statusIn_X9_isFree : GoodIn wsX9_statusIn (wsV RX9 190 RX9 yX9_isFree wsX9_isFree) := goodIn_app (goodIn_of _ (by decide +kernel)) ggX9_statusIn_X9_isFree
set_option maxRecDepth 20000 in
theorem ggX9_statusIn_X9_isGood : GoodIn wsX9_statusIn wsX9_isGood := goodIn_r _ [31, 32, 27, 6, 33, 34, 7, 5, 35, 36, 11, 37, 59, 60, 61, 62, 63, 64, 65, 66, 67, 68, 69, 70, 71, 72, 73, 74, 75, 76, 77, 78, 79, 80, 81, 82, 83, 84, 85, 86, 87, 88, 89, 90, 91, 92, 93, 94, 95, 96, 97, 98, 99, 100, 101, 102, 103] (by decide +kernel) (by decide +kernel)
set_option maxRecDepth 20000 in
theorem gX9_statusIn_X9_isGood : GoodIn wsX9_statusIn (wsV RX9 193 RX9 yX9_isGood wsX9_isGood) := goodIn_app (goodIn_of _ (by decide +kernel)) ggX9_statusIn_X9_isGood
set_option maxRecDepth 20000 in
theorem ggX9_statusIn_X9_hasDays : GoodIn wsX9_statusIn wsX9_hasDays := goodIn_r _ [41, 27, 6, 42, 43, 44, 45, 11, 46, 47, 48, 49, 50, 51, 52, 53, 54, 55, 56, 57, 58, 59, 60, 61, 62, 63, 64, 65, 66, 67, 68, 69, 70, 71, 72, 73, 74, 75, 76, 77, 78, 79, 80, 81, 82, 83, 84, 85, 86, 87, 88, 89, 90, 91, 92, 93, 94, 95, 96, 97, 98, 99, 100, 101, 102, 103] (by decide +kernel) (by decide +kernel)
set_option maxRecDepth 20000 in
theorem gX9_statusIn_X9_hasDays : GoodIn wsX9_statusIn (wsV RX9 196 RX9 yX9_hasDays wsX9_hasDays) := goodIn_app (goodIn_of _ (by decide +kernel)) ggX9_statusIn_X9_hasDays
theorem dX9_statusIn_0 : decode cX9_statusIn 0 = .ok (.aload_n 0, 1) := by decide +kernel
theorem dX9_statusIn_1 : decode cX9_statusIn 1 = .ok (.iload_n 1, 1) := by decide +kernel
theorem dX9_statusIn_2 : decode cX9_statusIn 2 = .ok (.iload_n 2, 1) := by decide +kernel
theorem dX9_statusIn_3 : decode cX9_statusIn 3 = .ok (.invokevirtual 170, 3) := by decide +kernel
theorem dX9_statusIn_6 : decode cX9_statusIn 6 = .ok (.ifCond .eq 22, 3) := by decide +kernel
theorem dX9_statusIn_9 : decode cX9_statusIn 9 = .ok (.aload_n 0, 1) := by decide +kernel
theorem dX9_statusIn_10 : decode cX9_statusIn 10 = .ok (.getfield 45, 3) := by decide +kernel
theorem dX9_statusIn_13 : decode cX9_statusIn 13 = .ok (.iload_n 1, 1) := by decide +kernel
theorem dX9_statusIn_14 : decode cX9_statusIn 14 = .ok (.iaload, 1) := by decide +kernel
theorem dX9_statusIn_15 : decode cX9_statusIn 15 = .ok (.iload_n 2, 1) := by decide +kernel
theorem dX9_statusIn_16 : decode cX9_statusIn 16 = .ok (.invokestatic 160, 3) := by decide +kernel
theorem dX9_statusIn_19 : decode cX9_statusIn 19 = .ok (.ifCond .eq 7, 3) := by decide +kernel
theorem dX9_statusIn_22 : decode cX9_statusIn 22 = .ok (.iconst 1, 1) := by decide +kernel
theorem dX9_statusIn_23 : decode cX9_statusIn 23 = .ok (.goto 4, 3) := by decide +kernel
theorem dX9_statusIn_26 : decode cX9_statusIn 26 = .ok (.iconst 2, 1) := by decide +kernel
theorem dX9_statusIn_27 : decode cX9_statusIn 27 = .ok (.ireturn, 1) := by decide +kernel
theorem dX9_statusIn_28 : decode cX9_statusIn 28 = .ok (.aload_n 0, 1) := by decide +kernel
theorem dX9_statusIn_29 : decode cX9_statusIn 29 = .ok (.iload_n 1, 1) := by decide +kernel
theorem dX9_statusIn_30 : decode cX9_statusIn 30 = .ok (.iload_n 2, 1) := by decide +kernel
theorem dX9_statusIn_31 : decode cX9_statusIn 31 = .ok (.invokevirtual 190, 3) := by decide +kernel
theorem dX9_statusIn_34 : decode cX9_statusIn 34 = .ok (.istore_n 3, 1) := by decide +kernel
theorem dX9_statusIn_35 : decode cX9_statusIn 35 = .ok (.iload_n 3, 1) := by decide +kernel
theorem dX9_statusIn_36 : decode cX9_statusIn 36 = .ok (.ifCond .ne 27, 3) := by decide +kernel
theorem dX9_statusIn_39 : decode cX9_statusIn 39 = .ok (.aload_n 0, 1) := by decide +kernel
theorem dX9_statusIn_40 : decode cX9_statusIn 40 = .ok (.getfield 60, 3) := by decide +kernel
theorem dX9_statusIn_43 : decode cX9_statusIn 43 = .ok (.iload_n 1, 1) := by decide +kernel
theorem dX9_statusIn_44 : decode cX9_statusIn 44 = .ok (.iaload, 1) := by decide +kernel
theorem dX9_statusIn_45 : decode cX9_statusIn 45 = .ok (.iconst (-1), 1) := by decide +kernel
theorem dX9_statusIn_46 : decode cX9_statusIn 46 = .ok (.if_icmp .eq 21, 3) := by decide +kernel
theorem dX9_statusIn_49 : decode cX9_statusIn 49 = .ok (.aload_n 0, 1) := by decide +kernel
theorem dX9_statusIn_50 : decode cX9_statusIn 50 = .ok (.aload_n 0, 1) := by decide +kernel
theorem dX9_statusIn_51 : decode cX9_statusIn 51 = .ok (.getfield 60, 3) := by decide +kernel
theorem dX9_statusIn_54 : decode cX9_statusIn 54 = .ok (.iload_n 1, 1) := by decide +kernel
theorem dX9_statusIn_55 : decode cX9_statusIn 55 = .ok (.iaload, 1) := by decide +kernel
theorem dX9_statusIn_56 : decode cX9_statusIn 56 = .ok (.iload_n 2, 1) := by decide +kernel
theorem dX9_statusIn_57 : decode cX9_statusIn 57 = .ok (.invokevirtual 193, 3) := by decide +kernel
theorem dX9_statusIn_60 : decode cX9_statusIn 60 = .ok (.ifCond .eq 7, 3) := by decide +kernel
theorem dX9_statusIn_63 : decode cX9_statusIn 63 = .ok (.iconst 1, 1) := by decide +kernel
theorem dX9_statusIn_64 : decode cX9_statusIn 64 = .ok (.goto 4, 3) := by decide +kernel
theorem dX9_statusIn_67 : decode cX9_statusIn 67 = .ok (.iconst 0, 1) := by decide +kernel
theorem dX9_statusIn_68 : decode cX9_statusIn 68 = .ok (.istore 4, 2) := by decide +kernel
theorem dX9_statusIn_70 : decode cX9_statusIn 70 = .ok (.aload_n 0, 1) := by decide +kernel
theorem dX9_statusIn_71 : decode cX9_statusIn 71 = .ok (.getfield 57, 3) := by decide +kernel
theorem dX9_statusIn_74 : decode cX9_statusIn 74 = .ok (.iload_n 1, 1) := by decide +kernel
theorem dX9_statusIn_75 : decode cX9_statusIn 75 = .ok (.baload, 1) := by decide +kernel
theorem dX9_statusIn_76 : decode cX9_statusIn 76 = .ok (.ifCond .ne 23, 3) := by decide +kernel
theorem dX9_statusIn_79 : decode cX9_statusIn 79 = .ok (.aload_n 0, 1) := by decide +kernel
theorem dX9_statusIn_80 : decode cX9_statusIn 80 = .ok (.iload_n 1, 1) := by decide +kernel
theorem dX9_statusIn_81 : decode cX9_statusIn 81 = .ok (.iload_n 2, 1) := by decide +kernel
theorem dX9_statusIn_82 : decode cX9_statusIn 82 = .ok (.aload_n 0, 1) := by decide +kernel
theorem dX9_statusIn_83 : decode cX9_statusIn 83 = .ok (.getfield 63, 3) := by decide +kernel
theorem dX9_statusIn_86 : decode cX9_statusIn 86 = .ok (.iload_n 1, 1) := by decide +kernel
theorem dX9_statusIn_87 : decode cX9_statusIn 87 = .ok (.iaload, 1) := by decide +kernel
theorem dX9_statusIn_88 : decode cX9_statusIn 88 = .ok (.invokevirtual 196, 3) := by decide +kernel
theorem dX9_statusIn_91 : decode cX9_statusIn 91 = .ok (.ifCond .eq 8, 3) := by decide +kernel
theorem dX9_statusIn_94 : decode cX9_statusIn 94 = .ok (.iload 4, 2) := by decide +kernel
theorem dX9_statusIn_96 : decode cX9_statusIn 96 = .ok (.ifCond .ne 5, 3) := by decide +kernel
theorem dX9_statusIn_99 : decode cX9_statusIn 99 = .ok (.iconst 4, 1) := by decide +kernel
theorem dX9_statusIn_100 : decode cX9_statusIn 100 = .ok (.ireturn, 1) := by decide +kernel
theorem dX9_statusIn_101 : decode cX9_statusIn 101 = .ok (.iload_n 3, 1) := by decide +kernel
theorem dX9_statusIn_102 : decode cX9_statusIn 102 = .ok (.ifCond .ne 51, 3) := by decide +kernel
theorem dX9_statusIn_105 : decode cX9_statusIn 105 = .ok (.aload_n 0, 1) := by decide +kernel
theorem dX9_statusIn_106 : decode cX9_statusIn 106 = .ok (.getfield 103, 3) := by decide +kernel
theorem dX9_statusIn_109 : decode cX9_statusIn 109 = .ok (.aload_n 0, 1) := by decide +kernel
theorem dX9_statusIn_110 : decode cX9_statusIn 110 = .ok (.getfield 60, 3) := by decide +kernel
theorem dX9_statusIn_113 : decode cX9_statusIn 113 = .ok (.iload_n 1, 1) := by decide +kernel
theorem dX9_statusIn_114 : decode cX9_statusIn 114 = .ok (.iaload, 1) := by decide +kernel
theorem dX9_statusIn_115 : decode cX9_statusIn 115 = .ok (.iaload, 1) := by decide +kernel
theorem dX9_statusIn_116 : decode cX9_statusIn 116 = .ok (.aload_n 0, 1) := by decide +kernel
theorem dX9_statusIn_117 : decode cX9_statusIn 117 = .ok (.getfield 153, 3) := by decide +kernel
theorem dX9_statusIn_120 : decode cX9_statusIn 120 = .ok (.if_icmp .eq 33, 3) := by decide +kernel
theorem dX9_statusIn_123 : decode cX9_statusIn 123 = .ok (.aload_n 0, 1) := by decide +kernel
theorem dX9_statusIn_124 : decode cX9_statusIn 124 = .ok (.getfield 103, 3) := by decide +kernel
theorem dX9_statusIn_127 : decode cX9_statusIn 127 = .ok (.aload_n 0, 1) := by decide +kernel
theorem dX9_statusIn_128 : decode cX9_statusIn 128 = .ok (.getfield 60, 3) := by decide +kernel
theorem dX9_statusIn_131 : decode cX9_statusIn 131 = .ok (.iload_n 1, 1) := by decide +kernel
theorem dX9_statusIn_132 : decode cX9_statusIn 132 = .ok (.iaload, 1) := by decide +kernel
theorem dX9_statusIn_133 : decode cX9_statusIn 133 = .ok (.aload_n 0, 1) := by decide +kernel
theorem dX9_statusIn_134 : decode cX9_statusIn 134 = .ok (.getfield 153, 3) := by decide +kernel
theorem dX9_statusIn_137 : decode cX9_statusIn 137 = .ok (.iastore, 1) := by decide +kernel
theorem dX9_statusIn_138 : decode cX9_statusIn 138 = .ok (.aload_n 0, 1) := by decide +kernel
theorem dX9_statusIn_139 : decode cX9_statusIn 139 = .ok (.getfield 100, 3) := by decide +kernel
theorem dX9_statusIn_142 : decode cX9_statusIn 142 = .ok (.aload_n 0, 1) := by decide +kernel
theorem dX9_statusIn_143 : decode cX9_statusIn 143 = .ok (.getfield 60, 3) := by decide +kernel
theorem dX9_statusIn_146 : decode cX9_statusIn 146 = .ok (.iload_n 1, 1) := by decide +kernel
theorem dX9_statusIn_147 : decode cX9_statusIn 147 = .ok (.iaload, 1) := by decide +kernel
theorem dX9_statusIn_148 : decode cX9_statusIn 148 = .ok (.dup2, 1) := by decide +kernel
theorem dX9_statusIn_149 : decode cX9_statusIn 149 = .ok (.iaload, 1) := by decide +kernel
theorem dX9_statusIn_150 : decode cX9_statusIn 150 = .ok (.iconst 1, 1) := by decide +kernel
theorem dX9_statusIn_151 : decode cX9_statusIn 151 = .ok (.isub, 1) := by decide +kernel
theorem dX9_statusIn_152 : decode cX9_statusIn 152 = .ok (.iastore, 1) := by decide +kernel
theorem dX9_statusIn_153 : decode cX9_statusIn 153 = .ok (.iconst 3, 1) := by decide +kernel
theorem dX9_statusIn_154 : decode cX9_statusIn 154 = .ok (.ireturn, 1) := by decide +kernel
set_option maxRecDepth 20000 in
theorem ggX9_look_X9_statusIn : GoodIn wsX9_look wsX9_statusIn := goodIn_r _ [8, 9, 10, 11, 12, 13, 3, 14, 15, 16, 17, 7, 18, 19, 20, 21, 22, 23, 24, 25, 26, 27, 28, 29, 30, 31, 32, 33, 34, 35, 36, 37, 38, 39, 40, 41, 42, 43, 44, 45, 46, 47, 48, 49, 50, 51, 52, 53, 54, 55, 56, 57, 58, 59, 60, 61, 62, 63, 2, 64, 65, 66, 67, 68, 69, 70, 71, 72, 73, 74, 75, 76, 77, 78, 79, 80, 81, 82, 83, 84, 85, 86, 87, 88, 89, 90, 91, 92, 93, 94, 95, 96, 97, 98, 99, 100, 101, 102, 103, 104, 105, 106, 107, 108] (by decide +kernel) (by decide +kernel)
set_option maxRecDepth 20000 in
theorem gX9_look_X9_statusIn : GoodIn wsX9_look (wsV RX9 199 RX9 yX9_statusIn wsX9_statusIn) := goodIn_app (goodIn_of _ (by decide +kernel)) ggX9_look_X9_statusIn
theorem dX9_look_0 : decode cX9_look 0 = .ok (.aload_n 0, 1) := by decide +kernel
theorem dX9_look_1 : decode cX9_look 1 = .ok (.iload_n 1, 1) := by decide +kernel
theorem dX9_look_2 : decode cX9_look 2 = .ok (.aload_n 0, 1) := by decide +kernel
theorem dX9_look_3 : decode cX9_look 3 = .ok (.getfield 54, 3) := by decide +kernel
theorem dX9_look_6 : decode cX9_look 6 = .ok (.iload_n 1, 1) := by decide +kernel
theorem dX9_look_7 : decode cX9_look 7 = .ok (.iaload, 1) := by decide +kernel
theorem dX9_look_8 : decode cX9_look 8 = .ok (.invokevirtual 199, 3) := by decide +kernel
theorem dX9_look_11 : decode cX9_look 11 = .ok (.istore_n 2, 1) := by decide +kernel
theorem dX9_look_12 : decode cX9_look 12 = .ok (.aload_n 0, 1) := by decide +kernel
theorem dX9_look_13 : decode cX9_look 13 = .ok (.getfield 67, 3) := by decide +kernel
theorem dX9_look_16 : decode cX9_look 16 = .ok (.sipush 3601, 3) := by decide +kernel
theorem dX9_look_19 : decode cX9_look 19 = .ok (.iload_n 1, 1) := by decide +kernel
theorem dX9_look_20 : decode cX9_look 20 = .ok (.imul, 1) := by decide +kernel
theorem dX9_look_21 : decode cX9_look 21 = .ok (.aload_n 0, 1) := by decide +kernel
theorem dX9_look_22 : decode cX9_look 22 = .ok (.getfield 153, 3) := by decide +kernel
theorem dX9_look_25 : decode cX9_look 25 = .ok (.iadd, 1) := by decide +kernel
theorem dX9_look_26 : decode cX9_look 26 = .ok (.bipush 10, 2) := by decide +kernel
theorem dX9_look_28 : decode cX9_look 28 = .ok (.aload_n 0, 1) := by decide +kernel
theorem dX9_look_29 : decode cX9_look 29 = .ok (.getfield 54, 3) := by decide +kernel
theorem dX9_look_32 : decode cX9_look 32 = .ok (.iload_n 1, 1) := by decide +kernel
theorem dX9_look_33 : decode cX9_look 33 = .ok (.iaload, 1) := by decide +kernel
theorem dX9_look_34 : decode cX9_look 34 = .ok (.imul, 1) := by decide +kernel
theorem dX9_look_35 : decode cX9_look 35 = .ok (.iload_n 2, 1) := by decide +kernel
theorem dX9_look_36 : decode cX9_look 36 = .ok (.iadd, 1) := by decide +kernel
theorem dX9_look_37 : decode cX9_look 37 = .ok (.iastore, 1) := by decide +kernel
theorem dX9_look_38 : decode cX9_look 38 = .ok (.iload_n 2, 1) := by decide +kernel
theorem dX9_look_39 : decode cX9_look 39 = .ok (.ireturn, 1) := by decide +kernel
set_option maxRecDepth 20000 in
theorem ggX9_come_X9_look : GoodIn wsX9_come wsX9_look := goodIn_r _ [10, 1, 11, 3, 12, 13, 14, 9, 15, 16, 4, 5, 2, 17, 18, 19, 20, 21, 22, 23, 24, 25, 26, 27, 28, 29, 30, 31, 32, 33, 34, 35, 36, 37, 38, 39, 40, 41, 42, 43, 44, 45, 46, 47, 48, 49, 50, 51, 52, 53, 54, 55, 56, 57, 58, 59, 60, 61, 62, 63, 64, 65, 66, 67, 68, 69, 70, 71, 72, 73, 74, 75, 76, 77, 78, 79, 80, 81, 82, 83, 84, 85, 86, 87, 88, 89, 90, 91, 92, 93, 94, 95, 96, 97, 98, 99, 100, 101, 102, 103, 104, 105, 106, 107, 108, 109, 110, 111, 112] (by decide +kernel) (by decide +kernel)
set_option maxRecDepth 20000 in
theorem gX9_come_X9_look : GoodIn wsX9_come (wsV RX9 202 RX9 yX9_look wsX9_look) := goodIn_app (goodIn_of _ (by decide +kernel)) ggX9_come_X9_look
theorem dX9_come_0 : decode cX9_come 0 = .ok (.aload_n 0, 1) := by decide +kernel
theorem dX9_come_1 : decode cX9_come 1 = .ok (.getfield 54, 3) := by decide +kernel
theorem dX9_come_4 : decode cX9_come 4 = .ok (.iload_n 1, 1) := by decide +kernel
theorem dX9_come_5 : decode cX9_come 5 = .ok (.iload_n 2, 1) := by decide +kernel
theorem dX9_come_6 : decode cX9_come 6 = .ok (.iastore, 1) := by decide +kernel
theorem dX9_come_7 : decode cX9_come 7 = .ok (.aload_n 0, 1) := by decide +kernel
theorem dX9_come_8 : decode cX9_come 8 = .ok (.getfield 63, 3) := by decide +kernel
theorem dX9_come_11 : decode cX9_come 11 = .ok (.iload_n 1, 1) := by decide +kernel
theorem dX9_come_12 : decode cX9_come 12 = .ok (.aload_n 0, 1) := by decide +kernel
theorem dX9_come_13 : decode cX9_come 13 = .ok (.getfield 153, 3) := by decide +kernel
theorem dX9_come_16 : decode cX9_come 16 = .ok (.iastore, 1) := by decide +kernel
theorem dX9_come_17 : decode cX9_come 17 = .ok (.aload_n 0, 1) := by decide +kernel
theorem dX9_come_18 : decode cX9_come 18 = .ok (.getfield 60, 3) := by decide +kernel
theorem dX9_come_21 : decode cX9_come 21 = .ok (.iload_n 1, 1) := by decide +kernel
theorem dX9_come_22 : decode cX9_come 22 = .ok (.iload_n 3, 1) := by decide +kernel
theorem dX9_come_23 : decode cX9_come 23 = .ok (.iastore, 1) := by decide +kernel
theorem dX9_come_24 : decode cX9_come 24 = .ok (.aload_n 0, 1) := by decide +kernel
theorem dX9_come_25 : decode cX9_come 25 = .ok (.getfield 57, 3) := by decide +kernel
theorem dX9_come_28 : decode cX9_come 28 = .ok (.iload_n 1, 1) := by decide +kernel
theorem dX9_come_29 : decode cX9_come 29 = .ok (.iload 4, 2) := by decide +kernel
theorem dX9_come_31 : decode cX9_come 31 = .ok (.bastore, 1) := by decide +kernel
theorem dX9_come_32 : decode cX9_come 32 = .ok (.aload_n 0, 1) := by decide +kernel
theorem dX9_come_33 : decode cX9_come 33 = .ok (.iload_n 1, 1) := by decide +kernel
theorem dX9_come_34 : decode cX9_come 34 = .ok (.invokevirtual 202, 3) := by decide +kernel
theorem dX9_come_37 : decode cX9_come 37 = .ok (.ireturn, 1) := by decide +kernel
theorem dX9_knows_0 : decode cX9_knows 0 = .ok (.bipush 8, 2) := by decide +kernel
theorem dX9_knows_2 : decode cX9_knows 2 = .ok (.iload_n 2, 1) := by decide +kernel
theorem dX9_knows_3 : decode cX9_knows 3 = .ok (.imul, 1) := by decide +kernel
theorem dX9_knows_4 : decode cX9_knows 4 = .ok (.iload_n 1, 1) := by decide +kernel
theorem dX9_knows_5 : decode cX9_knows 5 = .ok (.iadd, 1) := by decide +kernel
theorem dX9_knows_6 : decode cX9_knows 6 = .ok (.istore 4, 2) := by decide +kernel
theorem dX9_knows_8 : decode cX9_knows 8 = .ok (.iload_n 1, 1) := by decide +kernel
theorem dX9_knows_9 : decode cX9_knows 9 = .ok (.iload_n 3, 1) := by decide +kernel
theorem dX9_knows_10 : decode cX9_knows 10 = .ok (.if_icmp .eq 21, 3) := by decide +kernel
theorem dX9_knows_13 : decode cX9_knows 13 = .ok (.aload_n 0, 1) := by decide +kernel
theorem dX9_knows_14 : decode cX9_knows 14 = .ok (.getfield 7, 3) := by decide +kernel
theorem dX9_knows_17 : decode cX9_knows 17 = .ok (.iload_n 1, 1) := by decide +kernel
theorem dX9_knows_18 : decode cX9_knows 18 = .ok (.baload, 1) := by decide +kernel
theorem dX9_knows_19 : decode cX9_knows 19 = .ok (.ifCond .eq 16, 3) := by decide +kernel
theorem dX9_knows_22 : decode cX9_knows 22 = .ok (.aload_n 0, 1) := by decide +kernel
theorem dX9_knows_23 : decode cX9_knows 23 = .ok (.getfield 7, 3) := by decide +kernel
theorem dX9_knows_26 : decode cX9_knows 26 = .ok (.iload_n 3, 1) := by decide +kernel
theorem dX9_knows_27 : decode cX9_knows 27 = .ok (.baload, 1) := by decide +kernel
theorem dX9_knows_28 : decode cX9_knows 28 = .ok (.ifCond .eq 7, 3) := by decide +kernel
theorem dX9_knows_31 : decode cX9_knows 31 = .ok (.iconst 1, 1) := by decide +kernel
theorem dX9_knows_32 : decode cX9_knows 32 = .ok (.goto 4, 3) := by decide +kernel
theorem dX9_knows_35 : decode cX9_knows 35 = .ok (.iconst 0, 1) := by decide +kernel
theorem dX9_knows_36 : decode cX9_knows 36 = .ok (.istore 5, 2) := by decide +kernel
theorem dX9_knows_38 : decode cX9_knows 38 = .ok (.aload_n 0, 1) := by decide +kernel
theorem dX9_knows_39 : decode cX9_knows 39 = .ok (.getfield 76, 3) := by decide +kernel
theorem dX9_knows_42 : decode cX9_knows 42 = .ok (.iload 4, 2) := by decide +kernel
theorem dX9_knows_44 : decode cX9_knows 44 = .ok (.iaload, 1) := by decide +kernel
theorem dX9_knows_45 : decode cX9_knows 45 = .ok (.aload_n 0, 1) := by decide +kernel
theorem dX9_knows_46 : decode cX9_knows 46 = .ok (.getfield 153, 3) := by decide +kernel
theorem dX9_knows_49 : decode cX9_knows 49 = .ok (.if_icmp .lt 33, 3) := by decide +kernel
theorem dX9_knows_52 : decode cX9_knows 52 = .ok (.iload 5, 2) := by decide +kernel
theorem dX9_knows_54 : decode cX9_knows 54 = .ok (.ifCond .ne 24, 3) := by decide +kernel
theorem dX9_knows_57 : decode cX9_knows 57 = .ok (.aload_n 0, 1) := by decide +kernel
theorem dX9_knows_58 : decode cX9_knows 58 = .ok (.getfield 82, 3) := by decide +kernel
theorem dX9_knows_61 : decode cX9_knows 61 = .ok (.iload 4, 2) := by decide +kernel
theorem dX9_knows_63 : decode cX9_knows 63 = .ok (.iaload, 1) := by decide +kernel
theorem dX9_knows_64 : decode cX9_knows 64 = .ok (.aload_n 0, 1) := by decide +kernel
theorem dX9_knows_65 : decode cX9_knows 65 = .ok (.getfield 19, 3) := by decide +kernel
theorem dX9_knows_68 : decode cX9_knows 68 = .ok (.iload_n 3, 1) := by decide +kernel
theorem dX9_knows_69 : decode cX9_knows 69 = .ok (.iaload, 1) := by decide +kernel
theorem dX9_knows_70 : decode cX9_knows 70 = .ok (.iadd, 1) := by decide +kernel
theorem dX9_knows_71 : decode cX9_knows 71 = .ok (.aload_n 0, 1) := by decide +kernel
theorem dX9_knows_72 : decode cX9_knows 72 = .ok (.getfield 153, 3) := by decide +kernel
theorem dX9_knows_75 : decode cX9_knows 75 = .ok (.if_icmp .gt 7, 3) := by decide +kernel
theorem dX9_knows_78 : decode cX9_knows 78 = .ok (.iconst 1, 1) := by decide +kernel
theorem dX9_knows_79 : decode cX9_knows 79 = .ok (.goto 4, 3) := by decide +kernel
theorem dX9_knows_82 : decode cX9_knows 82 = .ok (.iconst 0, 1) := by decide +kernel
theorem dX9_knows_83 : decode cX9_knows 83 = .ok (.ireturn, 1) := by decide +kernel
set_option maxRecDepth 20000 in
theorem ggX9_isBanned_X9_knows : GoodIn wsX9_isBanned wsX9_knows := goodIn_r _ [8, 9, 10, 3, 11, 12, 13, 14, 15, 16, 17, 18, 19, 20, 21, 22, 23, 24, 25, 26, 27, 28, 29, 30, 31, 32, 33, 34, 35, 36, 37, 38, 39, 40, 41, 42, 43, 44, 45, 46, 47, 48, 49, 50, 51, 52, 53, 54, 55, 56, 57] (by decide +kernel) (by decide +kernel)
set_option maxRecDepth 20000 in
theorem gX9_isBanned_X9_knows : GoodIn wsX9_isBanned (wsV RX9 205 RX9 yX9_knows wsX9_knows) := goodIn_app (goodIn_of _ (by decide +kernel)) ggX9_isBanned_X9_knows
theorem dX9_isBanned_0 : decode cX9_isBanned 0 = .ok (.iconst 0, 1) := by decide +kernel
theorem dX9_isBanned_1 : decode cX9_isBanned 1 = .ok (.istore_n 3, 1) := by decide +kernel
theorem dX9_isBanned_2 : decode cX9_isBanned 2 = .ok (.iconst 0, 1) := by decide +kernel
theorem dX9_isBanned_3 : decode cX9_isBanned 3 = .ok (.istore 4, 2) := by decide +kernel
theorem dX9_isBanned_5 : decode cX9_isBanned 5 = .ok (.iload 4, 2) := by decide +kernel
theorem dX9_isBanned_7 : decode cX9_isBanned 7 = .ok (.aload_n 0, 1) := by decide +kernel
theorem dX9_isBanned_8 : decode cX9_isBanned 8 = .ok (.getfield 133, 3) := by decide +kernel
theorem dX9_isBanned_11 : decode cX9_isBanned 11 = .ok (.if_icmp .ge 49, 3) := by decide +kernel
theorem dX9_isBanned_14 : decode cX9_isBanned 14 = .ok (.iload_n 3, 1) := by decide +kernel
theorem dX9_isBanned_15 : decode cX9_isBanned 15 = .ok (.ifCond .ne 33, 3) := by decide +kernel
theorem dX9_isBanned_18 : decode cX9_isBanned 18 = .ok (.aload_n 0, 1) := by decide +kernel
theorem dX9_isBanned_19 : decode cX9_isBanned 19 = .ok (.iload 4, 2) := by decide +kernel
theorem dX9_isBanned_21 : decode cX9_isBanned 21 = .ok (.iload_n 1, 1) := by decide +kernel
theorem dX9_isBanned_22 : decode cX9_isBanned 22 = .ok (.iload_n 2, 1) := by decide +kernel
theorem dX9_isBanned_23 : decode cX9_isBanned 23 = .ok (.invokevirtual 205, 3) := by decide +kernel
theorem dX9_isBanned_26 : decode cX9_isBanned 26 = .ok (.ifCond .eq 26, 3) := by decide +kernel
theorem dX9_isBanned_29 : decode cX9_isBanned 29 = .ok (.aload_n 0, 1) := by decide +kernel
theorem dX9_isBanned_30 : decode cX9_isBanned 30 = .ok (.getfield 79, 3) := by decide +kernel
theorem dX9_isBanned_33 : decode cX9_isBanned 33 = .ok (.bipush 8, 2) := by decide +kernel
theorem dX9_isBanned_35 : decode cX9_isBanned 35 = .ok (.iload_n 1, 1) := by decide +kernel
theorem dX9_isBanned_36 : decode cX9_isBanned 36 = .ok (.imul, 1) := by decide +kernel
theorem dX9_isBanned_37 : decode cX9_isBanned 37 = .ok (.iload 4, 2) := by decide +kernel
theorem dX9_isBanned_39 : decode cX9_isBanned 39 = .ok (.iadd, 1) := by decide +kernel
theorem dX9_isBanned_40 : decode cX9_isBanned 40 = .ok (.iaload, 1) := by decide +kernel
theorem dX9_isBanned_41 : decode cX9_isBanned 41 = .ok (.aload_n 0, 1) := by decide +kernel
theorem dX9_isBanned_42 : decode cX9_isBanned 42 = .ok (.getfield 153, 3) := by decide +kernel
theorem dX9_isBanned_45 : decode cX9_isBanned 45 = .ok (.if_icmp .gt 7, 3) := by decide +kernel
theorem dX9_isBanned_48 : decode cX9_isBanned 48 = .ok (.iconst 1, 1) := by decide +kernel
theorem dX9_isBanned_49 : decode cX9_isBanned 49 = .ok (.goto 4, 3) := by decide +kernel
theorem dX9_isBanned_52 : decode cX9_isBanned 52 = .ok (.iconst 0, 1) := by decide +kernel
theorem dX9_isBanned_53 : decode cX9_isBanned 53 = .ok (.istore_n 3, 1) := by decide +kernel
theorem dX9_isBanned_54 : decode cX9_isBanned 54 = .ok (.iinc 4 1, 3) := by decide +kernel
theorem dX9_isBanned_57 : decode cX9_isBanned 57 = .ok (.goto (-52), 3) := by decide +kernel
theorem dX9_isBanned_60 : decode cX9_isBanned 60 = .ok (.iload_n 3, 1) := by decide +kernel
theorem dX9_isBanned_61 : decode cX9_isBanned 61 = .ok (.ireturn, 1) := by decide +kernel
set_option maxRecDepth 20000 in
theorem ggX9_visaFor_X9_isGood : GoodIn wsX9_visaFor wsX9_isGood := goodIn_r _ [8, 9, 10, 11, 12, 13, 14, 15, 16, 17, 7, 18, 19, 20, 21, 22, 23, 24, 25, 26, 27, 28, 29, 30, 31, 32, 33, 34, 35, 36, 37, 38, 39, 40, 41, 42, 43, 44, 45, 46, 47, 48, 49, 50, 51, 52, 53, 54, 55, 56, 57, 58, 59, 60, 61, 62, 63] (by decide +kernel) (by decide +kernel)
set_option maxRecDepth 20000 in
theorem gX9_visaFor_X9_isGood : GoodIn wsX9_visaFor (wsV RX9 193 RX9 yX9_isGood wsX9_isGood) := goodIn_app (goodIn_of _ (by decide +kernel)) ggX9_visaFor_X9_isGood
theorem dX9_visaFor_0 : decode cX9_visaFor 0 = .ok (.iconst 0, 1) := by decide +kernel
theorem dX9_visaFor_1 : decode cX9_visaFor 1 = .ok (.istore_n 3, 1) := by decide +kernel
theorem dX9_visaFor_2 : decode cX9_visaFor 2 = .ok (.iload_n 3, 1) := by decide +kernel
theorem dX9_visaFor_3 : decode cX9_visaFor 3 = .ok (.aload_n 0, 1) := by decide +kernel
theorem dX9_visaFor_4 : decode cX9_visaFor 4 = .ok (.getfield 177, 3) := by decide +kernel
theorem dX9_visaFor_7 : decode cX9_visaFor 7 = .ok (.if_icmp .ge 39, 3) := by decide +kernel
theorem dX9_visaFor_10 : decode cX9_visaFor 10 = .ok (.aload_n 0, 1) := by decide +kernel
theorem dX9_visaFor_11 : decode cX9_visaFor 11 = .ok (.getfield 85, 3) := by decide +kernel
theorem dX9_visaFor_14 : decode cX9_visaFor 14 = .ok (.iload_n 3, 1) := by decide +kernel
theorem dX9_visaFor_15 : decode cX9_visaFor 15 = .ok (.iaload, 1) := by decide +kernel
theorem dX9_visaFor_16 : decode cX9_visaFor 16 = .ok (.iload_n 1, 1) := by decide +kernel
theorem dX9_visaFor_17 : decode cX9_visaFor 17 = .ok (.if_icmp .ne 23, 3) := by decide +kernel
theorem dX9_visaFor_20 : decode cX9_visaFor 20 = .ok (.aload_n 0, 1) := by decide +kernel
theorem dX9_visaFor_21 : decode cX9_visaFor 21 = .ok (.getfield 97, 3) := by decide +kernel
theorem dX9_visaFor_24 : decode cX9_visaFor 24 = .ok (.iload_n 3, 1) := by decide +kernel
theorem dX9_visaFor_25 : decode cX9_visaFor 25 = .ok (.iaload, 1) := by decide +kernel
theorem dX9_visaFor_26 : decode cX9_visaFor 26 = .ok (.ifCond .le 14, 3) := by decide +kernel
theorem dX9_visaFor_29 : decode cX9_visaFor 29 = .ok (.aload_n 0, 1) := by decide +kernel
theorem dX9_visaFor_30 : decode cX9_visaFor 30 = .ok (.iload_n 3, 1) := by decide +kernel
theorem dX9_visaFor_31 : decode cX9_visaFor 31 = .ok (.iload_n 2, 1) := by decide +kernel
theorem dX9_visaFor_32 : decode cX9_visaFor 32 = .ok (.invokevirtual 193, 3) := by decide +kernel
theorem dX9_visaFor_35 : decode cX9_visaFor 35 = .ok (.ifCond .eq 5, 3) := by decide +kernel
theorem dX9_visaFor_38 : decode cX9_visaFor 38 = .ok (.iload_n 3, 1) := by decide +kernel
theorem dX9_visaFor_39 : decode cX9_visaFor 39 = .ok (.ireturn, 1) := by decide +kernel
theorem dX9_visaFor_40 : decode cX9_visaFor 40 = .ok (.iinc 3 1, 3) := by decide +kernel
theorem dX9_visaFor_43 : decode cX9_visaFor 43 = .ok (.goto (-41), 3) := by decide +kernel
theorem dX9_visaFor_46 : decode cX9_visaFor 46 = .ok (.iconst (-1), 1) := by decide +kernel
theorem dX9_visaFor_47 : decode cX9_visaFor 47 = .ok (.ireturn, 1) := by decide +kernel
set_option maxRecDepth 20000 in
theorem ggX9_reasonOf_X9_belongs : GoodIn wsX9_reasonOf wsX9_belongs := goodIn_r _ [6, 7, 8, 9, 5, 10, 11, 12, 13, 14, 15, 1, 75, 76, 77, 78, 79, 80, 81, 82, 83, 84, 85, 86, 87, 88, 89, 90, 91, 92, 93, 94, 95, 96, 97, 98, 99, 100, 101, 102, 103, 104, 105, 106, 107, 108, 109, 110, 111, 112, 113, 114, 115, 116, 117, 118, 119] (by decide +kernel) (by decide +kernel)
set_option maxRecDepth 20000 in
theorem gX9_reasonOf_X9_belongs : GoodIn wsX9_reasonOf (wsV RX9 170 RX9 yX9_belongs wsX9_belongs) := goodIn_app (goodIn_of _ (by decide +kernel)) ggX9_reasonOf_X9_belongs
set_option maxRecDepth 20000 in
theorem ggX9_reasonOf_X9_isBanned : GoodIn wsX9_reasonOf wsX9_isBanned := goodIn_r _ [19, 20, 21, 1, 22, 23, 24, 5, 25, 26, 27, 28, 29, 75, 76, 77, 78, 79, 80, 81, 82, 83, 84, 85, 86, 87, 88, 89, 90, 91, 92, 93, 94, 95, 96, 97, 98, 99, 100, 101, 102, 103, 104, 105, 106, 107, 108, 109, 110, 111, 112, 113, 114, 115, 116, 117, 118, 119] (by decide +kernel) (by decide +kernel)
set_option maxRecDepth 20000 in
theorem gX9_reasonOf_X9_isBanned : GoodIn wsX9_reasonOf (wsV RX9 208 RX9 yX9_isBanned wsX9_isBanned) := goodIn_app (goodIn_of _ (by decide +kernel)) ggX9_reasonOf_X9_isBanned
set_option maxRecDepth 20000 in
theorem ggX9_reasonOf_X9_isFree : GoodIn wsX9_reasonOf wsX9_isFree := goodIn_r _ [33, 20, 7, 34, 26, 8, 9, 5, 10, 11, 12, 13, 14, 15, 1, 75, 76, 77, 78, 79, 80, 81, 82, 83, 84, 85, 86, 87, 88, 89, 90, 91, 92, 93, 94, 95, 96, 97, 98, 99, 100, 101, 102, 103, 104, 105, 106, 107, 108, 109, 110, 111, 112, 113, 114, 115, 116, 117, 118, 119] (by decide +kernel) (by decide +kernel)
set_option maxRecDepth 20000 in
theorem gX9_reasonOf_X9_isFree : GoodIn wsX9_reasonOf (wsV RX9 190 RX9 yX9_isFree wsX9_isFree) := goodIn_app (goodIn_of _ (by decide +kernel)) ggX9_reasonOf_X9_isFree
set_option maxRecDepth 20000 in
theorem ggX9_reasonOf_X9_visaFor : GoodIn wsX9_reasonOf wsX9_visaFor := goodIn_r _ [38, 39, 40, 41, 42, 43, 44, 5, 45, 46, 26, 1, 47, 48, 49, 50, 51, 52, 53, 75, 76, 77, 78, 79, 80, 81, 82, 83, 84, 85, 86, 87, 88, 89, 90, 91, 92, 93, 94, 95, 96, 97, 98, 99, 100, 101, 102, 103, 104, 105, 106, 107, 108, 109, 110, 111, 112, 113, 114, 115, 116, 117, 118, 119] (by decide +kernel) (by decide +kernel)
set_option maxRecDepth 20000 in
theorem gX9_reasonOf_X9_visaFor : GoodIn wsX9_reasonOf (wsV RX9 211 RX9 yX9_visaFor wsX9_visaFor) := goodIn_app (goodIn_of _ (by decide +kernel)) ggX9_reasonOf_X9_visaFor
set_option maxRecDepth 20000 in
theorem ggX9_reasonOf_X9_hasDays : GoodIn wsX9_reasonOf wsX9_hasDays := goodIn_r _ [57, 26, 1, 58, 59, 60, 61, 5, 62, 63, 64, 65, 66, 67, 68, 69, 70, 71, 72, 73, 74, 75, 76, 77, 78, 79, 80, 81, 82, 83, 84, 85, 86, 87, 88, 89, 90, 91, 92, 93, 94, 95, 96, 97, 98, 99, 100, 101, 102, 103, 104, 105, 106, 107, 108, 109, 110, 111, 112, 113, 114, 115, 116, 117, 118, 119] (by decide +kernel) (by decide +kernel)
set_option maxRecDepth 20000 in
theorem gX9_reasonOf_X9_hasDays : GoodIn wsX9_reasonOf (wsV RX9 196 RX9 yX9_hasDays wsX9_hasDays) := goodIn_app (goodIn_of _ (by decide +kernel)) ggX9_reasonOf_X9_hasDays
theorem dX9_reasonOf_0 : decode cX9_reasonOf 0 = .ok (.aload_n 0, 1) := by decide +kernel
theorem dX9_reasonOf_1 : decode cX9_reasonOf 1 = .ok (.iload_n 1, 1) := by decide +kernel
theorem dX9_reasonOf_2 : decode cX9_reasonOf 2 = .ok (.iload_n 2, 1) := by decide +kernel
theorem dX9_reasonOf_3 : decode cX9_reasonOf 3 = .ok (.invokevirtual 170, 3) := by decide +kernel
theorem dX9_reasonOf_6 : decode cX9_reasonOf 6 = .ok (.ifCond .eq 5, 3) := by decide +kernel
theorem dX9_reasonOf_9 : decode cX9_reasonOf 9 = .ok (.iconst 0, 1) := by decide +kernel
theorem dX9_reasonOf_10 : decode cX9_reasonOf 10 = .ok (.ireturn, 1) := by decide +kernel
theorem dX9_reasonOf_11 : decode cX9_reasonOf 11 = .ok (.aload_n 0, 1) := by decide +kernel
theorem dX9_reasonOf_12 : decode cX9_reasonOf 12 = .ok (.iload_n 1, 1) := by decide +kernel
theorem dX9_reasonOf_13 : decode cX9_reasonOf 13 = .ok (.iload_n 2, 1) := by decide +kernel
theorem dX9_reasonOf_14 : decode cX9_reasonOf 14 = .ok (.invokevirtual 208, 3) := by decide +kernel
theorem dX9_reasonOf_17 : decode cX9_reasonOf 17 = .ok (.ifCond .eq 7, 3) := by decide +kernel
theorem dX9_reasonOf_20 : decode cX9_reasonOf 20 = .ok (.iconst 1, 1) := by decide +kernel
theorem dX9_reasonOf_21 : decode cX9_reasonOf 21 = .ok (.goto 44, 3) := by decide +kernel
theorem dX9_reasonOf_24 : decode cX9_reasonOf 24 = .ok (.aload_n 0, 1) := by decide +kernel
theorem dX9_reasonOf_25 : decode cX9_reasonOf 25 = .ok (.iload_n 1, 1) := by decide +kernel
theorem dX9_reasonOf_26 : decode cX9_reasonOf 26 = .ok (.iload_n 2, 1) := by decide +kernel
theorem dX9_reasonOf_27 : decode cX9_reasonOf 27 = .ok (.invokevirtual 190, 3) := by decide +kernel
theorem dX9_reasonOf_30 : decode cX9_reasonOf 30 = .ok (.ifCond .ne 17, 3) := by decide +kernel
theorem dX9_reasonOf_33 : decode cX9_reasonOf 33 = .ok (.aload_n 0, 1) := by decide +kernel
theorem dX9_reasonOf_34 : decode cX9_reasonOf 34 = .ok (.iload_n 1, 1) := by decide +kernel
theorem dX9_reasonOf_35 : decode cX9_reasonOf 35 = .ok (.iload_n 2, 1) := by decide +kernel
theorem dX9_reasonOf_36 : decode cX9_reasonOf 36 = .ok (.invokevirtual 211, 3) := by decide +kernel
theorem dX9_reasonOf_39 : decode cX9_reasonOf 39 = .ok (.iconst (-1), 1) := by decide +kernel
theorem dX9_reasonOf_40 : decode cX9_reasonOf 40 = .ok (.if_icmp .ne 7, 3) := by decide +kernel
theorem dX9_reasonOf_43 : decode cX9_reasonOf 43 = .ok (.iconst 2, 1) := by decide +kernel
theorem dX9_reasonOf_44 : decode cX9_reasonOf 44 = .ok (.goto 21, 3) := by decide +kernel
theorem dX9_reasonOf_47 : decode cX9_reasonOf 47 = .ok (.aload_n 0, 1) := by decide +kernel
theorem dX9_reasonOf_48 : decode cX9_reasonOf 48 = .ok (.iload_n 1, 1) := by decide +kernel
theorem dX9_reasonOf_49 : decode cX9_reasonOf 49 = .ok (.iload_n 2, 1) := by decide +kernel
theorem dX9_reasonOf_50 : decode cX9_reasonOf 50 = .ok (.aload_n 0, 1) := by decide +kernel
theorem dX9_reasonOf_51 : decode cX9_reasonOf 51 = .ok (.getfield 153, 3) := by decide +kernel
theorem dX9_reasonOf_54 : decode cX9_reasonOf 54 = .ok (.invokevirtual 196, 3) := by decide +kernel
theorem dX9_reasonOf_57 : decode cX9_reasonOf 57 = .ok (.ifCond .eq 7, 3) := by decide +kernel
theorem dX9_reasonOf_60 : decode cX9_reasonOf 60 = .ok (.iconst 0, 1) := by decide +kernel
theorem dX9_reasonOf_61 : decode cX9_reasonOf 61 = .ok (.goto 4, 3) := by decide +kernel
theorem dX9_reasonOf_64 : decode cX9_reasonOf 64 = .ok (.iconst 3, 1) := by decide +kernel
theorem dX9_reasonOf_65 : decode cX9_reasonOf 65 = .ok (.ireturn, 1) := by decide +kernel
set_option maxRecDepth 20000 in
theorem ggX9_enter_X9_isPerson : GoodIn wsX9_enter wsX9_isPerson := goodIn_r _ [7, 8, 9, 10, 6, 11, 109, 110, 111, 112, 113, 114, 115, 116, 117, 118, 119, 120, 121, 122, 123, 124, 125, 126, 127, 128, 129, 130, 131, 132, 133, 134, 135, 136, 137, 138, 139, 140, 141, 142, 143, 144, 145, 146, 147, 148, 149, 150, 151, 152, 153] (by decide +kernel) (by decide +kernel)
set_option maxRecDepth 20000 in
theorem gX9_enter_X9_isPerson : GoodIn wsX9_enter (wsV RX9 167 RX9 yX9_isPerson wsX9_isPerson) := goodIn_app (goodIn_of _ (by decide +kernel)) ggX9_enter_X9_isPerson
set_option maxRecDepth 20000 in
theorem ggX9_enter_X9_isLand : GoodIn wsX9_enter wsX9_isLand := goodIn_r _ [15, 16, 9, 10, 6, 11, 109, 110, 111, 112, 113, 114, 115, 116, 117, 118, 119, 120, 121, 122, 123, 124, 125, 126, 127, 128, 129, 130, 131, 132, 133, 134, 135, 136, 137, 138, 139, 140, 141, 142, 143, 144, 145, 146, 147, 148, 149, 150, 151, 152, 153] (by decide +kernel) (by decide +kernel)
set_option maxRecDepth 20000 in
theorem gX9_enter_X9_isLand : GoodIn wsX9_enter (wsV RX9 150 RX9 yX9_isLand wsX9_isLand) := goodIn_app (goodIn_of _ (by decide +kernel)) ggX9_enter_X9_isLand
set_option maxRecDepth 20000 in
theorem ggX9_enter_X9_goesWell : GoodIn wsX9_enter wsX9_goesWell := goodIn_r _ [20, 21, 109, 110, 111, 112, 113, 114, 115, 116, 117, 118, 119, 120, 121, 122, 123, 124, 125, 126, 127, 128, 129, 130, 131, 132, 133, 134, 135, 136, 137, 138, 139, 140, 141, 142, 143, 144, 145, 146, 147, 148, 149, 150, 151, 152, 153] (by decide +kernel) (by decide +kernel)
set_option maxRecDepth 20000 in
theorem gX9_enter_X9_goesWell : GoodIn wsX9_enter (wsV RX9 146 RX9 yX9_goesWell wsX9_goesWell) := goodIn_app (goodIn_of _ (by decide +kernel)) ggX9_enter_X9_goesWell
set_option maxRecDepth 20000 in
theorem ggX9_enter_X9_reasonOf : GoodIn wsX9_enter wsX9_reasonOf := goodIn_r _ [25, 26, 27, 28, 29, 6, 30, 31, 32, 33, 34, 35, 36, 37, 38, 39, 40, 41, 42, 43, 16, 44, 45, 46, 47, 48, 49, 50, 51, 52, 53, 54, 55, 56, 57, 58, 59, 60, 61, 62, 63, 2, 64, 65, 66, 67, 68, 69, 70, 71, 72, 9, 10, 11, 73, 74, 75, 76, 77, 78, 79, 80, 81, 82, 83, 84, 85, 86, 87, 88, 89, 90, 91, 92, 93, 109, 110, 111, 112, 113, 114, 115, 116, 117, 118, 119, 120, 121, 122, 123, 124, 125, 126, 127, 128, 129, 130, 131, 132, 133, 134, 135, 136, 137, 138, 139, 140, 141, 142, 143, 144, 145, 146, 147, 148, 149, 150, 151, 152, 153] (by decide +kernel) (by decide +kernel)
set_option maxRecDepth 20000 in
theorem gX9_enter_X9_reasonOf : GoodIn wsX9_enter (wsV RX9 214 RX9 yX9_reasonOf wsX9_reasonOf) := goodIn_app (goodIn_of _ (by decide +kernel)) ggX9_enter_X9_reasonOf
set_option maxRecDepth 20000 in
theorem ggX9_enter_X9_belongs : GoodIn wsX9_enter wsX9_belongs := goodIn_r _ [30, 31, 32, 33, 6, 34, 35, 36, 37, 38, 39, 26, 109, 110, 111, 112, 113, 114, 115, 116, 117, 118, 119, 120, 121, 122, 123, 124, 125, 126, 127, 128, 129, 130, 131, 132, 133, 134, 135, 136, 137, 138, 139, 140, 141, 142, 143, 144, 145, 146, 147, 148, 149, 150, 151, 152, 153] (by decide +kernel) (by decide +kernel)
set_option maxRecDepth 20000 in
theorem gX9_enter_X9_belongs : GoodIn wsX9_enter (wsV RX9 170 RX9 yX9_belongs wsX9_belongs) := goodIn_app (goodIn_of _ (by decide +kernel)) ggX9_enter_X9_belongs
set_option maxRecDepth 20000 in
theorem ggX9_enter_X9_isFree : GoodIn wsX9_enter wsX9_isFree := goodIn_r _ [56, 16, 31, 57, 49, 32, 33, 6, 34, 35, 36, 37, 38, 39, 26, 109, 110, 111, 112, 113, 114, 115, 116, 117, 118, 119, 120, 121, 122, 123, 124, 125, 126, 127, 128, 129, 130, 131, 132, 133, 134, 135, 136, 137, 138, 139, 140, 141, 142, 143, 144, 145, 146, 147, 148, 149, 150, 151, 152, 153] (by decide +kernel) (by decide +kernel)
set_option maxRecDepth 20000 in
theorem gX9_enter_X9_isFree : GoodIn wsX9_enter (wsV RX9 190 RX9 yX9_isFree wsX9_isFree) := goodIn_app (goodIn_of _ (by decide +kernel)) ggX9_enter_X9_isFree
set_option maxRecDepth 20000 in
theorem ggX9_enter_X9_visaFor : GoodIn wsX9_enter wsX9_visaFor := goodIn_r _ [61, 62, 63, 2, 64, 65, 66, 6, 67, 68, 49, 26, 69, 70, 71, 72, 9, 10, 11, 109, 110, 111, 112, 113, 114, 115, 116, 117, 118, 119, 120, 121, 122, 123, 124, 125, 126, 127, 128, 129, 130, 131, 132, 133, 134, 135, 136, 137, 138, 139, 140, 141, 142, 143, 144, 145, 146, 147, 148, 149, 150, 151, 152, 153] (by decide +kernel) (by decide +kernel)
set_option maxRecDepth 20000 in
theorem gX9_enter_X9_visaFor : GoodIn wsX9_enter (wsV RX9 211 RX9 yX9_visaFor wsX9_visaFor) := goodIn_app (goodIn_of _ (by decide +kernel)) ggX9_enter_X9_visaFor
set_option maxRecDepth 20000 in
theorem ggX9_enter_X9_come : GoodIn wsX9_enter wsX9_come := goodIn_r _ [97, 1, 98, 26, 99, 100, 101, 102, 103, 6, 104, 93, 105, 106, 107, 108, 31, 72, 71, 27, 28, 29, 30, 32, 33, 34, 35, 36, 37, 38, 39, 53, 54, 55, 56, 16, 57, 49, 64, 65, 66, 67, 68, 69, 70, 9, 10, 11, 73, 74, 75, 76, 77, 78, 79, 80, 81, 82, 83, 84, 85, 86, 87, 88, 89, 90, 91, 92, 109, 110, 111, 112, 113, 114, 115, 116, 117, 118, 119, 120, 121, 122, 123, 124, 125, 126, 127, 128, 129, 130, 131, 132, 133, 134, 135, 136, 137, 138, 139, 140, 141, 142, 143, 144, 145, 146, 147, 148, 149, 150, 151, 152, 153] (by decide +kernel) (by decide +kernel)
set_option maxRecDepth 20000 in
theorem gX9_enter_X9_come : GoodIn wsX9_enter (wsV RX9 173 RX9 yX9_come wsX9_come) := goodIn_app (goodIn_of _ (by decide +kernel)) ggX9_enter_X9_come
theorem dX9_enter_0 : decode cX9_enter 0 = .ok (.aload_n 0, 1) := by decide +kernel
theorem dX9_enter_1 : decode cX9_enter 1 = .ok (.iload_n 1, 1) := by decide +kernel
theorem dX9_enter_2 : decode cX9_enter 2 = .ok (.invokevirtual 167, 3) := by decide +kernel
theorem dX9_enter_5 : decode cX9_enter 5 = .ok (.ifCond .eq 15, 3) := by decide +kernel
theorem dX9_enter_8 : decode cX9_enter 8 = .ok (.aload_n 0, 1) := by decide +kernel
theorem dX9_enter_9 : decode cX9_enter 9 = .ok (.iload_n 2, 1) := by decide +kernel
theorem dX9_enter_10 : decode cX9_enter 10 = .ok (.invokevirtual 150, 3) := by decide +kernel
theorem dX9_enter_13 : decode cX9_enter 13 = .ok (.ifCond .eq 7, 3) := by decide +kernel
theorem dX9_enter_16 : decode cX9_enter 16 = .ok (.iconst 1, 1) := by decide +kernel
theorem dX9_enter_17 : decode cX9_enter 17 = .ok (.goto 4, 3) := by decide +kernel
theorem dX9_enter_20 : decode cX9_enter 20 = .ok (.iconst 0, 1) := by decide +kernel
theorem dX9_enter_21 : decode cX9_enter 21 = .ok (.istore_n 3, 1) := by decide +kernel
theorem dX9_enter_22 : decode cX9_enter 22 = .ok (.aload_n 0, 1) := by decide +kernel
theorem dX9_enter_23 : decode cX9_enter 23 = .ok (.iload_n 3, 1) := by decide +kernel
theorem dX9_enter_24 : decode cX9_enter 24 = .ok (.ifCond .ne 7, 3) := by decide +kernel
theorem dX9_enter_27 : decode cX9_enter 27 = .ok (.iconst 1, 1) := by decide +kernel
theorem dX9_enter_28 : decode cX9_enter 28 = .ok (.goto 18, 3) := by decide +kernel
theorem dX9_enter_31 : decode cX9_enter 31 = .ok (.aload_n 0, 1) := by decide +kernel
theorem dX9_enter_32 : decode cX9_enter 32 = .ok (.getfield 54, 3) := by decide +kernel
theorem dX9_enter_35 : decode cX9_enter 35 = .ok (.iload_n 1, 1) := by decide +kernel
theorem dX9_enter_36 : decode cX9_enter 36 = .ok (.iaload, 1) := by decide +kernel
theorem dX9_enter_37 : decode cX9_enter 37 = .ok (.iconst (-1), 1) := by decide +kernel
theorem dX9_enter_38 : decode cX9_enter 38 = .ok (.if_icmp .eq 7, 3) := by decide +kernel
theorem dX9_enter_41 : decode cX9_enter 41 = .ok (.iconst 2, 1) := by decide +kernel
theorem dX9_enter_42 : decode cX9_enter 42 = .ok (.goto 4, 3) := by decide +kernel
theorem dX9_enter_45 : decode cX9_enter 45 = .ok (.iconst 0, 1) := by decide +kernel
theorem dX9_enter_46 : decode cX9_enter 46 = .ok (.invokevirtual 146, 3) := by decide +kernel
theorem dX9_enter_49 : decode cX9_enter 49 = .ok (.ifCond .ne 5, 3) := by decide +kernel
theorem dX9_enter_52 : decode cX9_enter 52 = .ok (.iconst 0, 1) := by decide +kernel
theorem dX9_enter_53 : decode cX9_enter 53 = .ok (.ireturn, 1) := by decide +kernel
theorem dX9_enter_54 : decode cX9_enter 54 = .ok (.aload_n 0, 1) := by decide +kernel
theorem dX9_enter_55 : decode cX9_enter 55 = .ok (.iload_n 1, 1) := by decide +kernel
theorem dX9_enter_56 : decode cX9_enter 56 = .ok (.iload_n 2, 1) := by decide +kernel
theorem dX9_enter_57 : decode cX9_enter 57 = .ok (.invokevirtual 214, 3) := by decide +kernel
theorem dX9_enter_60 : decode cX9_enter 60 = .ok (.istore 4, 2) := by decide +kernel
theorem dX9_enter_62 : decode cX9_enter 62 = .ok (.iload 4, 2) := by decide +kernel
theorem dX9_enter_64 : decode cX9_enter 64 = .ok (.ifCond .ne 61, 3) := by decide +kernel
theorem dX9_enter_67 : decode cX9_enter 67 = .ok (.aload_n 0, 1) := by decide +kernel
theorem dX9_enter_68 : decode cX9_enter 68 = .ok (.iload_n 1, 1) := by decide +kernel
theorem dX9_enter_69 : decode cX9_enter 69 = .ok (.iload_n 2, 1) := by decide +kernel
theorem dX9_enter_70 : decode cX9_enter 70 = .ok (.invokevirtual 170, 3) := by decide +kernel
theorem dX9_enter_73 : decode cX9_enter 73 = .ok (.ifCond .ne 12, 3) := by decide +kernel
theorem dX9_enter_76 : decode cX9_enter 76 = .ok (.aload_n 0, 1) := by decide +kernel
theorem dX9_enter_77 : decode cX9_enter 77 = .ok (.iload_n 1, 1) := by decide +kernel
theorem dX9_enter_78 : decode cX9_enter 78 = .ok (.iload_n 2, 1) := by decide +kernel
theorem dX9_enter_79 : decode cX9_enter 79 = .ok (.invokevirtual 190, 3) := by decide +kernel
theorem dX9_enter_82 : decode cX9_enter 82 = .ok (.ifCond .eq 7, 3) := by decide +kernel
theorem dX9_enter_85 : decode cX9_enter 85 = .ok (.iconst (-1), 1) := by decide +kernel
theorem dX9_enter_86 : decode cX9_enter 86 = .ok (.goto 9, 3) := by decide +kernel
theorem dX9_enter_89 : decode cX9_enter 89 = .ok (.aload_n 0, 1) := by decide +kernel
theorem dX9_enter_90 : decode cX9_enter 90 = .ok (.iload_n 1, 1) := by decide +kernel
theorem dX9_enter_91 : decode cX9_enter 91 = .ok (.iload_n 2, 1) := by decide +kernel
theorem dX9_enter_92 : decode cX9_enter 92 = .ok (.invokevirtual 211, 3) := by decide +kernel
theorem dX9_enter_95 : decode cX9_enter 95 = .ok (.istore 5, 2) := by decide +kernel
theorem dX9_enter_97 : decode cX9_enter 97 = .ok (.iload 5, 2) := by decide +kernel
theorem dX9_enter_99 : decode cX9_enter 99 = .ok (.iconst (-1), 1) := by decide +kernel
theorem dX9_enter_100 : decode cX9_enter 100 = .ok (.if_icmp .eq 14, 3) := by decide +kernel
theorem dX9_enter_103 : decode cX9_enter 103 = .ok (.aload_n 0, 1) := by decide +kernel
theorem dX9_enter_104 : decode cX9_enter 104 = .ok (.getfield 97, 3) := by decide +kernel
theorem dX9_enter_107 : decode cX9_enter 107 = .ok (.iload 5, 2) := by decide +kernel
theorem dX9_enter_109 : decode cX9_enter 109 = .ok (.dup2, 1) := by decide +kernel
theorem dX9_enter_110 : decode cX9_enter 110 = .ok (.iaload, 1) := by decide +kernel
theorem dX9_enter_111 : decode cX9_enter 111 = .ok (.iconst 1, 1) := by decide +kernel
theorem dX9_enter_112 : decode cX9_enter 112 = .ok (.isub, 1) := by decide +kernel
theorem dX9_enter_113 : decode cX9_enter 113 = .ok (.iastore, 1) := by decide +kernel
theorem dX9_enter_114 : decode cX9_enter 114 = .ok (.aload_n 0, 1) := by decide +kernel
theorem dX9_enter_115 : decode cX9_enter 115 = .ok (.iload_n 1, 1) := by decide +kernel
theorem dX9_enter_116 : decode cX9_enter 116 = .ok (.iload_n 2, 1) := by decide +kernel
theorem dX9_enter_117 : decode cX9_enter 117 = .ok (.iload 5, 2) := by decide +kernel
theorem dX9_enter_119 : decode cX9_enter 119 = .ok (.iconst 0, 1) := by decide +kernel
theorem dX9_enter_120 : decode cX9_enter 120 = .ok (.invokevirtual 173, 3) := by decide +kernel
theorem dX9_enter_123 : decode cX9_enter 123 = .ok (.istore 6, 2) := by decide +kernel
theorem dX9_enter_125 : decode cX9_enter 125 = .ok (.iload 4, 2) := by decide +kernel
theorem dX9_enter_127 : decode cX9_enter 127 = .ok (.ireturn, 1) := by decide +kernel
set_option maxRecDepth 20000 in
theorem ggX9_slip_X9_isPerson : GoodIn wsX9_slip wsX9_isPerson := goodIn_r _ [6, 7, 8, 9, 5, 10, 86, 87, 88, 89, 90, 91, 92, 93, 94, 95, 96, 97, 98, 99, 100, 101, 102, 103, 104, 105, 106, 107, 108, 109, 110, 111, 112, 113, 114, 115, 116, 117, 118, 119, 120, 121, 122, 123, 124, 125, 126, 127, 128, 129, 130] (by decide +kernel) (by decide +kernel)
set_option maxRecDepth 20000 in
theorem gX9_slip_X9_isPerson : GoodIn wsX9_slip (wsV RX9 167 RX9 yX9_isPerson wsX9_isPerson) := goodIn_app (goodIn_of _ (by decide +kernel)) ggX9_slip_X9_isPerson
set_option maxRecDepth 20000 in
theorem ggX9_slip_X9_isLand : GoodIn wsX9_slip wsX9_isLand := goodIn_r _ [14, 15, 8, 9, 5, 10, 86, 87, 88, 89, 90, 91, 92, 93, 94, 95, 96, 97, 98, 99, 100, 101, 102, 103, 104, 105, 106, 107, 108, 109, 110, 111, 112, 113, 114, 115, 116, 117, 118, 119, 120, 121, 122, 123, 124, 125, 126, 127, 128, 129, 130] (by decide +kernel) (by decide +kernel)
set_option maxRecDepth 20000 in
theorem gX9_slip_X9_isLand : GoodIn wsX9_slip (wsV RX9 150 RX9 yX9_isLand wsX9_isLand) := goodIn_app (goodIn_of _ (by decide +kernel)) ggX9_slip_X9_isLand
set_option maxRecDepth 20000 in
theorem ggX9_slip_X9_goesWell : GoodIn wsX9_slip wsX9_goesWell := goodIn_r _ [19, 20, 86, 87, 88, 89, 90, 91, 92, 93, 94, 95, 96, 97, 98, 99, 100, 101, 102, 103, 104, 105, 106, 107, 108, 109, 110, 111, 112, 113, 114, 115, 116, 117, 118, 119, 120, 121, 122, 123, 124, 125, 126, 127, 128, 129, 130] (by decide +kernel) (by decide +kernel)
set_option maxRecDepth 20000 in
theorem gX9_slip_X9_goesWell : GoodIn wsX9_slip (wsV RX9 146 RX9 yX9_goesWell wsX9_goesWell) := goodIn_app (goodIn_of _ (by decide +kernel)) ggX9_slip_X9_goesWell
set_option maxRecDepth 20000 in
theorem ggX9_slip_X9_come : GoodIn wsX9_slip wsX9_come := goodIn_r _ [24, 1, 25, 26, 27, 28, 29, 30, 31, 5, 32, 33, 34, 35, 36, 37, 38, 39, 40, 41, 42, 43, 44, 45, 46, 47, 48, 49, 50, 51, 52, 53, 54, 55, 56, 15, 57, 58, 59, 60, 61, 62, 63, 64, 65, 8, 9, 10, 66, 67, 68, 69, 70, 71, 72, 73, 74, 75, 76, 77, 78, 79, 80, 81, 82, 83, 84, 85, 86, 87, 88, 89, 90, 91, 92, 93, 94, 95, 96, 97, 98, 99, 100, 101, 102, 103, 104, 105, 106, 107, 108, 109, 110, 111, 112, 113, 114, 115, 116, 117, 118, 119, 120, 121, 122, 123, 124, 125, 126, 127, 128, 129, 130] (by decide +kernel) (by decide +kernel)
set_option maxRecDepth 20000 in
theorem gX9_slip_X9_come : GoodIn wsX9_slip (wsV RX9 173 RX9 yX9_come wsX9_come) := goodIn_app (goodIn_of _ (by decide +kernel)) ggX9_slip_X9_come
theorem dX9_slip_0 : decode cX9_slip 0 = .ok (.aload_n 0, 1) := by decide +kernel
theorem dX9_slip_1 : decode cX9_slip 1 = .ok (.iload_n 1, 1) := by decide +kernel
theorem dX9_slip_2 : decode cX9_slip 2 = .ok (.invokevirtual 167, 3) := by decide +kernel
theorem dX9_slip_5 : decode cX9_slip 5 = .ok (.ifCond .eq 15, 3) := by decide +kernel
theorem dX9_slip_8 : decode cX9_slip 8 = .ok (.aload_n 0, 1) := by decide +kernel
theorem dX9_slip_9 : decode cX9_slip 9 = .ok (.iload_n 2, 1) := by decide +kernel
theorem dX9_slip_10 : decode cX9_slip 10 = .ok (.invokevirtual 150, 3) := by decide +kernel
theorem dX9_slip_13 : decode cX9_slip 13 = .ok (.ifCond .eq 7, 3) := by decide +kernel
theorem dX9_slip_16 : decode cX9_slip 16 = .ok (.iconst 1, 1) := by decide +kernel
theorem dX9_slip_17 : decode cX9_slip 17 = .ok (.goto 4, 3) := by decide +kernel
theorem dX9_slip_20 : decode cX9_slip 20 = .ok (.iconst 0, 1) := by decide +kernel
theorem dX9_slip_21 : decode cX9_slip 21 = .ok (.istore_n 3, 1) := by decide +kernel
theorem dX9_slip_22 : decode cX9_slip 22 = .ok (.aload_n 0, 1) := by decide +kernel
theorem dX9_slip_23 : decode cX9_slip 23 = .ok (.iload_n 3, 1) := by decide +kernel
theorem dX9_slip_24 : decode cX9_slip 24 = .ok (.ifCond .ne 7, 3) := by decide +kernel
theorem dX9_slip_27 : decode cX9_slip 27 = .ok (.iconst 1, 1) := by decide +kernel
theorem dX9_slip_28 : decode cX9_slip 28 = .ok (.goto 18, 3) := by decide +kernel
theorem dX9_slip_31 : decode cX9_slip 31 = .ok (.aload_n 0, 1) := by decide +kernel
theorem dX9_slip_32 : decode cX9_slip 32 = .ok (.getfield 54, 3) := by decide +kernel
theorem dX9_slip_35 : decode cX9_slip 35 = .ok (.iload_n 1, 1) := by decide +kernel
theorem dX9_slip_36 : decode cX9_slip 36 = .ok (.iaload, 1) := by decide +kernel
theorem dX9_slip_37 : decode cX9_slip 37 = .ok (.iconst (-1), 1) := by decide +kernel
theorem dX9_slip_38 : decode cX9_slip 38 = .ok (.if_icmp .eq 7, 3) := by decide +kernel
theorem dX9_slip_41 : decode cX9_slip 41 = .ok (.iconst 2, 1) := by decide +kernel
theorem dX9_slip_42 : decode cX9_slip 42 = .ok (.goto 4, 3) := by decide +kernel
theorem dX9_slip_45 : decode cX9_slip 45 = .ok (.iconst 0, 1) := by decide +kernel
theorem dX9_slip_46 : decode cX9_slip 46 = .ok (.invokevirtual 146, 3) := by decide +kernel
theorem dX9_slip_49 : decode cX9_slip 49 = .ok (.ifCond .eq 14, 3) := by decide +kernel
theorem dX9_slip_52 : decode cX9_slip 52 = .ok (.aload_n 0, 1) := by decide +kernel
theorem dX9_slip_53 : decode cX9_slip 53 = .ok (.iload_n 1, 1) := by decide +kernel
theorem dX9_slip_54 : decode cX9_slip 54 = .ok (.iload_n 2, 1) := by decide +kernel
theorem dX9_slip_55 : decode cX9_slip 55 = .ok (.iconst (-1), 1) := by decide +kernel
theorem dX9_slip_56 : decode cX9_slip 56 = .ok (.iconst 1, 1) := by decide +kernel
theorem dX9_slip_57 : decode cX9_slip 57 = .ok (.invokevirtual 173, 3) := by decide +kernel
theorem dX9_slip_60 : decode cX9_slip 60 = .ok (.goto 4, 3) := by decide +kernel
theorem dX9_slip_63 : decode cX9_slip 63 = .ok (.iconst 0, 1) := by decide +kernel
theorem dX9_slip_64 : decode cX9_slip 64 = .ok (.ireturn, 1) := by decide +kernel
set_option maxRecDepth 20000 in
theorem ggX9_move_X9_isPerson : GoodIn wsX9_move wsX9_isPerson := goodIn_r _ [7, 8, 9, 10, 6, 11, 82, 83, 84, 85, 86, 87, 88, 89, 90, 91, 92, 93, 94, 95, 96, 97, 98, 99, 100, 101, 102, 103, 104, 105, 106, 107, 108, 109, 110, 111, 112, 113, 114, 115, 116, 117, 118, 119, 120, 121, 122, 123, 124, 125, 126] (by decide +kernel) (by decide +kernel)
set_option maxRecDepth 20000 in
theorem gX9_move_X9_isPerson : GoodIn wsX9_move (wsV RX9 167 RX9 yX9_isPerson wsX9_isPerson) := goodIn_app (goodIn_of _ (by decide +kernel)) ggX9_move_X9_isPerson
set_option maxRecDepth 20000 in
theorem ggX9_move_X9_isLand : GoodIn wsX9_move wsX9_isLand := goodIn_r _ [15, 16, 9, 10, 6, 11, 82, 83, 84, 85, 86, 87, 88, 89, 90, 91, 92, 93, 94, 95, 96, 97, 98, 99, 100, 101, 102, 103, 104, 105, 106, 107, 108, 109, 110, 111, 112, 113, 114, 115, 116, 117, 118, 119, 120, 121, 122, 123, 124, 125, 126] (by decide +kernel) (by decide +kernel)
set_option maxRecDepth 20000 in
theorem gX9_move_X9_isLand : GoodIn wsX9_move (wsV RX9 150 RX9 yX9_isLand wsX9_isLand) := goodIn_app (goodIn_of _ (by decide +kernel)) ggX9_move_X9_isLand
set_option maxRecDepth 20000 in
theorem ggX9_move_X9_goesWell : GoodIn wsX9_move wsX9_goesWell := goodIn_r _ [20, 21, 82, 83, 84, 85, 86, 87, 88, 89, 90, 91, 92, 93, 94, 95, 96, 97, 98, 99, 100, 101, 102, 103, 104, 105, 106, 107, 108, 109, 110, 111, 112, 113, 114, 115, 116, 117, 118, 119, 120, 121, 122, 123, 124, 125, 126] (by decide +kernel) (by decide +kernel)
set_option maxRecDepth 20000 in
theorem gX9_move_X9_goesWell : GoodIn wsX9_move (wsV RX9 146 RX9 yX9_goesWell wsX9_goesWell) := goodIn_app (goodIn_of _ (by decide +kernel)) ggX9_move_X9_goesWell
set_option maxRecDepth 20000 in
theorem ggX9_move_X9_look : GoodIn wsX9_move wsX9_look := goodIn_r _ [25, 1, 26, 27, 28, 29, 30, 6, 31, 32, 33, 34, 35, 36, 37, 38, 39, 40, 41, 42, 43, 44, 45, 46, 47, 48, 49, 50, 51, 52, 53, 16, 54, 2, 55, 56, 57, 58, 59, 60, 61, 9, 10, 11, 62, 63, 64, 65, 66, 67, 68, 69, 70, 71, 72, 73, 74, 75, 76, 77, 78, 79, 80, 81, 82, 83, 84, 85, 86, 87, 88, 89, 90, 91, 92, 93, 94, 95, 96, 97, 98, 99, 100, 101, 102, 103, 104, 105, 106, 107, 108, 109, 110, 111, 112, 113, 114, 115, 116, 117, 118, 119, 120, 121, 122, 123, 124, 125, 126] (by decide +kernel) (by decide +kernel)
set_option maxRecDepth 20000 in
theorem gX9_move_X9_look : GoodIn wsX9_move (wsV RX9 202 RX9 yX9_look wsX9_look) := goodIn_app (goodIn_of _ (by decide +kernel)) ggX9_move_X9_look
theorem dX9_move_0 : decode cX9_move 0 = .ok (.aload_n 0, 1) := by decide +kernel
theorem dX9_move_1 : decode cX9_move 1 = .ok (.iload_n 1, 1) := by decide +kernel
theorem dX9_move_2 : decode cX9_move 2 = .ok (.invokevirtual 167, 3) := by decide +kernel
theorem dX9_move_5 : decode cX9_move 5 = .ok (.ifCond .eq 15, 3) := by decide +kernel
theorem dX9_move_8 : decode cX9_move 8 = .ok (.aload_n 0, 1) := by decide +kernel
theorem dX9_move_9 : decode cX9_move 9 = .ok (.iload_n 2, 1) := by decide +kernel
theorem dX9_move_10 : decode cX9_move 10 = .ok (.invokevirtual 150, 3) := by decide +kernel
theorem dX9_move_13 : decode cX9_move 13 = .ok (.ifCond .eq 7, 3) := by decide +kernel
theorem dX9_move_16 : decode cX9_move 16 = .ok (.iconst 1, 1) := by decide +kernel
theorem dX9_move_17 : decode cX9_move 17 = .ok (.goto 4, 3) := by decide +kernel
theorem dX9_move_20 : decode cX9_move 20 = .ok (.iconst 0, 1) := by decide +kernel
theorem dX9_move_21 : decode cX9_move 21 = .ok (.istore_n 3, 1) := by decide +kernel
theorem dX9_move_22 : decode cX9_move 22 = .ok (.iload_n 3, 1) := by decide +kernel
theorem dX9_move_23 : decode cX9_move 23 = .ok (.ifCond .eq 50, 3) := by decide +kernel
theorem dX9_move_26 : decode cX9_move 26 = .ok (.aload_n 0, 1) := by decide +kernel
theorem dX9_move_27 : decode cX9_move 27 = .ok (.getfield 54, 3) := by decide +kernel
theorem dX9_move_30 : decode cX9_move 30 = .ok (.iload_n 1, 1) := by decide +kernel
theorem dX9_move_31 : decode cX9_move 31 = .ok (.iaload, 1) := by decide +kernel
theorem dX9_move_32 : decode cX9_move 32 = .ok (.iconst (-1), 1) := by decide +kernel
theorem dX9_move_33 : decode cX9_move 33 = .ok (.if_icmp .eq 40, 3) := by decide +kernel
theorem dX9_move_36 : decode cX9_move 36 = .ok (.aload_n 0, 1) := by decide +kernel
theorem dX9_move_37 : decode cX9_move 37 = .ok (.getfield 54, 3) := by decide +kernel
theorem dX9_move_40 : decode cX9_move 40 = .ok (.iload_n 1, 1) := by decide +kernel
theorem dX9_move_41 : decode cX9_move 41 = .ok (.iaload, 1) := by decide +kernel
theorem dX9_move_42 : decode cX9_move 42 = .ok (.iload_n 2, 1) := by decide +kernel
