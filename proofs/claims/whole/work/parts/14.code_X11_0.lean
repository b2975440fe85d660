theorem dX11_init_0 : decode cX11_init 0 = .ok (.aload_n 0, 1) := by decide +kernel
theorem dX11_init_1 : decode cX11_init 1 = .ok (.invokespecial 1, 3) := by decide +kernel
theorem dX11_init_4 : decode cX11_init 4 = .ok (.aload_n 0, 1) := by decide +kernel
theorem dX11_init_5 : decode cX11_init 5 = .ok (.bipush 100, 2) := by decide +kernel
theorem dX11_init_7 : decode cX11_init 7 = .ok (.newarray .int, 2) := by decide +kernel
theorem dX11_init_9 : decode cX11_init 9 = .ok (.putfield 7, 3) := by decide +kernel
theorem dX11_init_12 : decode cX11_init 12 = .ok (.aload_n 0, 1) := by decide +kernel
theorem dX11_init_13 : decode cX11_init 13 = .ok (.bipush 100, 2) := by decide +kernel
theorem dX11_init_15 : decode cX11_init 15 = .ok (.newarray .int, 2) := by decide +kernel
theorem dX11_init_17 : decode cX11_init 17 = .ok (.putfield 13, 3) := by decide +kernel
theorem dX11_init_20 : decode cX11_init 20 = .ok (.aload_n 0, 1) := by decide +kernel
theorem dX11_init_21 : decode cX11_init 21 = .ok (.bipush 100, 2) := by decide +kernel
theorem dX11_init_23 : decode cX11_init 23 = .ok (.newarray .int, 2) := by decide +kernel
theorem dX11_init_25 : decode cX11_init 25 = .ok (.putfield 16, 3) := by decide +kernel
theorem dX11_init_28 : decode cX11_init 28 = .ok (.aload_n 0, 1) := by decide +kernel
theorem dX11_init_29 : decode cX11_init 29 = .ok (.ldc 19, 2) := by decide +kernel
theorem dX11_init_31 : decode cX11_init 31 = .ok (.newarray .byte, 2) := by decide +kernel
theorem dX11_init_33 : decode cX11_init 33 = .ok (.putfield 20, 3) := by decide +kernel
theorem dX11_init_36 : decode cX11_init 36 = .ok (.aload_n 0, 1) := by decide +kernel
theorem dX11_init_37 : decode cX11_init 37 = .ok (.sipush 6000, 3) := by decide +kernel
theorem dX11_init_40 : decode cX11_init 40 = .ok (.putfield 24, 3) := by decide +kernel
theorem dX11_init_43 : decode cX11_init 43 = .ok (.aload_n 0, 1) := by decide +kernel
theorem dX11_init_44 : decode cX11_init 44 = .ok (.iconst 3, 1) := by decide +kernel
theorem dX11_init_45 : decode cX11_init 45 = .ok (.putfield 28, 3) := by decide +kernel
theorem dX11_init_48 : decode cX11_init 48 = .ok (.aload_n 0, 1) := by decide +kernel
theorem dX11_init_49 : decode cX11_init 49 = .ok (.sipush 1500, 3) := by decide +kernel
theorem dX11_init_52 : decode cX11_init 52 = .ok (.newarray .byte, 2) := by decide +kernel
theorem dX11_init_54 : decode cX11_init 54 = .ok (.putfield 31, 3) := by decide +kernel
theorem dX11_init_57 : decode cX11_init 57 = .ok (.aload_n 0, 1) := by decide +kernel
theorem dX11_init_58 : decode cX11_init 58 = .ok (.sipush 144, 3) := by decide +kernel
theorem dX11_init_61 : decode cX11_init 61 = .ok (.newarray .int, 2) := by decide +kernel
theorem dX11_init_63 : decode cX11_init 63 = .ok (.putfield 34, 3) := by decide +kernel
theorem dX11_init_66 : decode cX11_init 66 = .ok (.aload_n 0, 1) := by decide +kernel
theorem dX11_init_67 : decode cX11_init 67 = .ok (.iconst 3, 1) := by decide +kernel
theorem dX11_init_68 : decode cX11_init 68 = .ok (.newarray .boolean, 2) := by decide +kernel
theorem dX11_init_70 : decode cX11_init 70 = .ok (.putfield 37, 3) := by decide +kernel
theorem dX11_init_73 : decode cX11_init 73 = .ok (.aload_n 0, 1) := by decide +kernel
theorem dX11_init_74 : decode cX11_init 74 = .ok (.iconst 3, 1) := by decide +kernel
theorem dX11_init_75 : decode cX11_init 75 = .ok (.newarray .int, 2) := by decide +kernel
theorem dX11_init_77 : decode cX11_init 77 = .ok (.putfield 41, 3) := by decide +kernel
theorem dX11_init_80 : decode cX11_init 80 = .ok (.aload_n 0, 1) := by decide +kernel
theorem dX11_init_81 : decode cX11_init 81 = .ok (.iconst 3, 1) := by decide +kernel
theorem dX11_init_82 : decode cX11_init 82 = .ok (.newarray .int, 2) := by decide +kernel
theorem dX11_init_84 : decode cX11_init 84 = .ok (.putfield 44, 3) := by decide +kernel
theorem dX11_init_87 : decode cX11_init 87 = .ok (.aload_n 0, 1) := by decide +kernel
theorem dX11_init_88 : decode cX11_init 88 = .ok (.bipush 48, 2) := by decide +kernel
theorem dX11_init_90 : decode cX11_init 90 = .ok (.newarray .int, 2) := by decide +kernel
theorem dX11_init_92 : decode cX11_init 92 = .ok (.putfield 47, 3) := by decide +kernel
theorem dX11_init_95 : decode cX11_init 95 = .ok (.aload_n 0, 1) := by decide +kernel
theorem dX11_init_96 : decode cX11_init 96 = .ok (.sipush 256, 3) := by decide +kernel
theorem dX11_init_99 : decode cX11_init 99 = .ok (.newarray .int, 2) := by decide +kernel
theorem dX11_init_101 : decode cX11_init 101 = .ok (.putfield 50, 3) := by decide +kernel
theorem dX11_init_104 : decode cX11_init 104 = .ok (.aload_n 0, 1) := by decide +kernel
theorem dX11_init_105 : decode cX11_init 105 = .ok (.sipush 256, 3) := by decide +kernel
theorem dX11_init_108 : decode cX11_init 108 = .ok (.newarray .int, 2) := by decide +kernel
theorem dX11_init_110 : decode cX11_init 110 = .ok (.putfield 53, 3) := by decide +kernel
theorem dX11_init_113 : decode cX11_init 113 = .ok (.aload_n 0, 1) := by decide +kernel
theorem dX11_init_114 : decode cX11_init 114 = .ok (.sipush 256, 3) := by decide +kernel
theorem dX11_init_117 : decode cX11_init 117 = .ok (.newarray .int, 2) := by decide +kernel
theorem dX11_init_119 : decode cX11_init 119 = .ok (.putfield 56, 3) := by decide +kernel
theorem dX11_init_122 : decode cX11_init 122 = .ok (.aload_n 0, 1) := by decide +kernel
theorem dX11_init_123 : decode cX11_init 123 = .ok (.sipush 260, 3) := by decide +kernel
theorem dX11_init_126 : decode cX11_init 126 = .ok (.newarray .int, 2) := by decide +kernel
theorem dX11_init_128 : decode cX11_init 128 = .ok (.putfield 59, 3) := by decide +kernel
theorem dX11_init_131 : decode cX11_init 131 = .ok (.aload_n 0, 1) := by decide +kernel
theorem dX11_init_132 : decode cX11_init 132 = .ok (.sipush 260, 3) := by decide +kernel
theorem dX11_init_135 : decode cX11_init 135 = .ok (.newarray .int, 2) := by decide +kernel
theorem dX11_init_137 : decode cX11_init 137 = .ok (.putfield 62, 3) := by decide +kernel
theorem dX11_init_140 : decode cX11_init 140 = .ok (.aload_n 0, 1) := by decide +kernel
theorem dX11_init_141 : decode cX11_init 141 = .ok (.iconst 4, 1) := by decide +kernel
theorem dX11_init_142 : decode cX11_init 142 = .ok (.newarray .boolean, 2) := by decide +kernel
theorem dX11_init_144 : decode cX11_init 144 = .ok (.putfield 65, 3) := by decide +kernel
theorem dX11_init_147 : decode cX11_init 147 = .ok (.aload_n 0, 1) := by decide +kernel
theorem dX11_init_148 : decode cX11_init 148 = .ok (.iconst 4, 1) := by decide +kernel
theorem dX11_init_149 : decode cX11_init 149 = .ok (.newarray .boolean, 2) := by decide +kernel
theorem dX11_init_151 : decode cX11_init 151 = .ok (.putfield 68, 3) := by decide +kernel
theorem dX11_init_154 : decode cX11_init 154 = .ok (.aload_n 0, 1) := by decide +kernel
theorem dX11_init_155 : decode cX11_init 155 = .ok (.iconst 4, 1) := by decide +kernel
theorem dX11_init_156 : decode cX11_init 156 = .ok (.newarray .int, 2) := by decide +kernel
theorem dX11_init_158 : decode cX11_init 158 = .ok (.putfield 71, 3) := by decide +kernel
theorem dX11_init_161 : decode cX11_init 161 = .ok (.aload_n 0, 1) := by decide +kernel
theorem dX11_init_162 : decode cX11_init 162 = .ok (.iconst 4, 1) := by decide +kernel
theorem dX11_init_163 : decode cX11_init 163 = .ok (.newarray .int, 2) := by decide +kernel
theorem dX11_init_165 : decode cX11_init 165 = .ok (.dup, 1) := by decide +kernel
theorem dX11_init_166 : decode cX11_init 166 = .ok (.iconst 0, 1) := by decide +kernel
theorem dX11_init_167 : decode cX11_init 167 = .ok (.iconst (-1), 1) := by decide +kernel
theorem dX11_init_168 : decode cX11_init 168 = .ok (.iastore, 1) := by decide +kernel
theorem dX11_init_169 : decode cX11_init 169 = .ok (.dup, 1) := by decide +kernel
theorem dX11_init_170 : decode cX11_init 170 = .ok (.iconst 1, 1) := by decide +kernel
theorem dX11_init_171 : decode cX11_init 171 = .ok (.iconst (-1), 1) := by decide +kernel
theorem dX11_init_172 : decode cX11_init 172 = .ok (.iastore, 1) := by decide +kernel
theorem dX11_init_173 : decode cX11_init 173 = .ok (.dup, 1) := by decide +kernel
theorem dX11_init_174 : decode cX11_init 174 = .ok (.iconst 2, 1) := by decide +kernel
theorem dX11_init_175 : decode cX11_init 175 = .ok (.iconst (-1), 1) := by decide +kernel
theorem dX11_init_176 : decode cX11_init 176 = .ok (.iastore, 1) := by decide +kernel
theorem dX11_init_177 : decode cX11_init 177 = .ok (.dup, 1) := by decide +kernel
theorem dX11_init_178 : decode cX11_init 178 = .ok (.iconst 3, 1) := by decide +kernel
theorem dX11_init_179 : decode cX11_init 179 = .ok (.iconst (-1), 1) := by decide +kernel
theorem dX11_init_180 : decode cX11_init 180 = .ok (.iastore, 1) := by decide +kernel
theorem dX11_init_181 : decode cX11_init 181 = .ok (.putfield 74, 3) := by decide +kernel
theorem dX11_init_184 : decode cX11_init 184 = .ok (.aload_n 0, 1) := by decide +kernel
theorem dX11_init_185 : decode cX11_init 185 = .ok (.iconst 4, 1) := by decide +kernel
theorem dX11_init_186 : decode cX11_init 186 = .ok (.newarray .int, 2) := by decide +kernel
theorem dX11_init_188 : decode cX11_init 188 = .ok (.putfield 77, 3) := by decide +kernel
theorem dX11_init_191 : decode cX11_init 191 = .ok (.aload_n 0, 1) := by decide +kernel
theorem dX11_init_192 : decode cX11_init 192 = .ok (.iconst 4, 1) := by decide +kernel
theorem dX11_init_193 : decode cX11_init 193 = .ok (.newarray .int, 2) := by decide +kernel
theorem dX11_init_195 : decode cX11_init 195 = .ok (.putfield 80, 3) := by decide +kernel
theorem dX11_init_198 : decode cX11_init 198 = .ok (.aload_n 0, 1) := by decide +kernel
theorem dX11_init_199 : decode cX11_init 199 = .ok (.iconst 4, 1) := by decide +kernel
theorem dX11_init_200 : decode cX11_init 200 = .ok (.newarray .int, 2) := by decide +kernel
theorem dX11_init_202 : decode cX11_init 202 = .ok (.dup, 1) := by decide +kernel
theorem dX11_init_203 : decode cX11_init 203 = .ok (.iconst 0, 1) := by decide +kernel
theorem dX11_init_204 : decode cX11_init 204 = .ok (.iconst (-1), 1) := by decide +kernel
theorem dX11_init_205 : decode cX11_init 205 = .ok (.iastore, 1) := by decide +kernel
theorem dX11_init_206 : decode cX11_init 206 = .ok (.dup, 1) := by decide +kernel
theorem dX11_init_207 : decode cX11_init 207 = .ok (.iconst 1, 1) := by decide +kernel
theorem dX11_init_208 : decode cX11_init 208 = .ok (.iconst (-1), 1) := by decide +kernel
theorem dX11_init_209 : decode cX11_init 209 = .ok (.iastore, 1) := by decide +kernel
theorem dX11_init_210 : decode cX11_init 210 = .ok (.dup, 1) := by decide +kernel
theorem dX11_init_211 : decode cX11_init 211 = .ok (.iconst 2, 1) := by decide +kernel
theorem dX11_init_212 : decode cX11_init 212 = .ok (.iconst (-1), 1) := by decide +kernel
theorem dX11_init_213 : decode cX11_init 213 = .ok (.iastore, 1) := by decide +kernel
theorem dX11_init_214 : decode cX11_init 214 = .ok (.dup, 1) := by decide +kernel
theorem dX11_init_215 : decode cX11_init 215 = .ok (.iconst 3, 1) := by decide +kernel
theorem dX11_init_216 : decode cX11_init 216 = .ok (.iconst (-1), 1) := by decide +kernel
theorem dX11_init_217 : decode cX11_init 217 = .ok (.iastore, 1) := by decide +kernel
theorem dX11_init_218 : decode cX11_init 218 = .ok (.putfield 83, 3) := by decide +kernel
theorem dX11_init_221 : decode cX11_init 221 = .ok (.aload_n 0, 1) := by decide +kernel
theorem dX11_init_222 : decode cX11_init 222 = .ok (.iconst 4, 1) := by decide +kernel
theorem dX11_init_223 : decode cX11_init 223 = .ok (.newarray .boolean, 2) := by decide +kernel
theorem dX11_init_225 : decode cX11_init 225 = .ok (.putfield 86, 3) := by decide +kernel
theorem dX11_init_228 : decode cX11_init 228 = .ok (.aload_n 0, 1) := by decide +kernel
theorem dX11_init_229 : decode cX11_init 229 = .ok (.iconst 4, 1) := by decide +kernel
theorem dX11_init_230 : decode cX11_init 230 = .ok (.newarray .int, 2) := by decide +kernel
theorem dX11_init_232 : decode cX11_init 232 = .ok (.putfield 89, 3) := by decide +kernel
theorem dX11_init_235 : decode cX11_init 235 = .ok (.aload_n 0, 1) := by decide +kernel
theorem dX11_init_236 : decode cX11_init 236 = .ok (.iconst 4, 1) := by decide +kernel
theorem dX11_init_237 : decode cX11_init 237 = .ok (.newarray .int, 2) := by decide +kernel
theorem dX11_init_239 : decode cX11_init 239 = .ok (.putfield 92, 3) := by decide +kernel
theorem dX11_init_242 : decode cX11_init 242 = .ok (.aload_n 0, 1) := by decide +kernel
theorem dX11_init_243 : decode cX11_init 243 = .ok (.iconst 4, 1) := by decide +kernel
theorem dX11_init_244 : decode cX11_init 244 = .ok (.newarray .int, 2) := by decide +kernel
theorem dX11_init_246 : decode cX11_init 246 = .ok (.putfield 95, 3) := by decide +kernel
theorem dX11_init_249 : decode cX11_init 249 = .ok (.aload_n 0, 1) := by decide +kernel
theorem dX11_init_250 : decode cX11_init 250 = .ok (.iconst 4, 1) := by decide +kernel
theorem dX11_init_251 : decode cX11_init 251 = .ok (.newarray .int, 2) := by decide +kernel
theorem dX11_init_253 : decode cX11_init 253 = .ok (.putfield 98, 3) := by decide +kernel
theorem dX11_init_256 : decode cX11_init 256 = .ok (.aload_n 0, 1) := by decide +kernel
theorem dX11_init_257 : decode cX11_init 257 = .ok (.ldc 101, 2) := by decide +kernel
theorem dX11_init_259 : decode cX11_init 259 = .ok (.newarray .int, 2) := by decide +kernel
theorem dX11_init_261 : decode cX11_init 261 = .ok (.putfield 102, 3) := by decide +kernel
theorem dX11_init_264 : decode cX11_init 264 = .ok (.aload_n 0, 1) := by decide +kernel
theorem dX11_init_265 : decode cX11_init 265 = .ok (.sipush 19200, 3) := by decide +kernel
theorem dX11_init_268 : decode cX11_init 268 = .ok (.newarray .int, 2) := by decide +kernel
theorem dX11_init_270 : decode cX11_init 270 = .ok (.putfield 105, 3) := by decide +kernel
theorem dX11_init_273 : decode cX11_init 273 = .ok (.aload_n 0, 1) := by decide +kernel
theorem dX11_init_274 : decode cX11_init 274 = .ok (.iconst 4, 1) := by decide +kernel
theorem dX11_init_275 : decode cX11_init 275 = .ok (.newarray .int, 2) := by decide +kernel
theorem dX11_init_277 : decode cX11_init 277 = .ok (.putfield 108, 3) := by decide +kernel
theorem dX11_init_280 : decode cX11_init 280 = .ok (.aload_n 0, 1) := by decide +kernel
theorem dX11_init_281 : decode cX11_init 281 = .ok (.iconst 4, 1) := by decide +kernel
theorem dX11_init_282 : decode cX11_init 282 = .ok (.newarray .int, 2) := by decide +kernel
theorem dX11_init_284 : decode cX11_init 284 = .ok (.putfield 111, 3) := by decide +kernel
theorem dX11_init_287 : decode cX11_init 287 = .ok (.aload_n 0, 1) := by decide +kernel
theorem dX11_init_288 : decode cX11_init 288 = .ok (.sipush 800, 3) := by decide +kernel
theorem dX11_init_291 : decode cX11_init 291 = .ok (.newarray .int, 2) := by decide +kernel
theorem dX11_init_293 : decode cX11_init 293 = .ok (.putfield 114, 3) := by decide +kernel
theorem dX11_init_296 : decode cX11_init 296 = .ok (.aload_n 0, 1) := by decide +kernel
theorem dX11_init_297 : decode cX11_init 297 = .ok (.sipush 800, 3) := by decide +kernel
theorem dX11_init_300 : decode cX11_init 300 = .ok (.newarray .int, 2) := by decide +kernel
theorem dX11_init_302 : decode cX11_init 302 = .ok (.putfield 117, 3) := by decide +kernel
theorem dX11_init_305 : decode cX11_init 305 = .ok (.aload_n 0, 1) := by decide +kernel
theorem dX11_init_306 : decode cX11_init 306 = .ok (.sipush 800, 3) := by decide +kernel
theorem dX11_init_309 : decode cX11_init 309 = .ok (.newarray .int, 2) := by decide +kernel
theorem dX11_init_311 : decode cX11_init 311 = .ok (.putfield 120, 3) := by decide +kernel
theorem dX11_init_314 : decode cX11_init 314 = .ok (.aload_n 0, 1) := by decide +kernel
theorem dX11_init_315 : decode cX11_init 315 = .ok (.sipush 800, 3) := by decide +kernel
theorem dX11_init_318 : decode cX11_init 318 = .ok (.newarray .int, 2) := by decide +kernel
theorem dX11_init_320 : decode cX11_init 320 = .ok (.putfield 123, 3) := by decide +kernel
theorem dX11_init_323 : decode cX11_init 323 = .ok (.aload_n 0, 1) := by decide +kernel
theorem dX11_init_324 : decode cX11_init 324 = .ok (.iconst 4, 1) := by decide +kernel
theorem dX11_init_325 : decode cX11_init 325 = .ok (.newarray .int, 2) := by decide +kernel
theorem dX11_init_327 : decode cX11_init 327 = .ok (.putfield 126, 3) := by decide +kernel
theorem dX11_init_330 : decode cX11_init 330 = .ok (.aload_n 0, 1) := by decide +kernel
theorem dX11_init_331 : decode cX11_init 331 = .ok (.iconst 4, 1) := by decide +kernel
theorem dX11_init_332 : decode cX11_init 332 = .ok (.newarray .int, 2) := by decide +kernel
theorem dX11_init_334 : decode cX11_init 334 = .ok (.putfield 129, 3) := by decide +kernel
theorem dX11_init_337 : decode cX11_init 337 = .ok (.aload_n 0, 1) := by decide +kernel
theorem dX11_init_338 : decode cX11_init 338 = .ok (.sipush 800, 3) := by decide +kernel
theorem dX11_init_341 : decode cX11_init 341 = .ok (.newarray .int, 2) := by decide +kernel
theorem dX11_init_343 : decode cX11_init 343 = .ok (.putfield 132, 3) := by decide +kernel
theorem dX11_init_346 : decode cX11_init 346 = .ok (.aload_n 0, 1) := by decide +kernel
theorem dX11_init_347 : decode cX11_init 347 = .ok (.iconst 4, 1) := by decide +kernel
theorem dX11_init_348 : decode cX11_init 348 = .ok (.newarray .int, 2) := by decide +kernel
theorem dX11_init_350 : decode cX11_init 350 = .ok (.putfield 135, 3) := by decide +kernel
theorem dX11_init_353 : decode cX11_init 353 = .ok (.aload_n 0, 1) := by decide +kernel
theorem dX11_init_354 : decode cX11_init 354 = .ok (.sipush 800, 3) := by decide +kernel
theorem dX11_init_357 : decode cX11_init 357 = .ok (.newarray .int, 2) := by decide +kernel
theorem dX11_init_359 : decode cX11_init 359 = .ok (.putfield 138, 3) := by decide +kernel
theorem dX11_init_362 : decode cX11_init 362 = .ok (.aload_n 0, 1) := by decide +kernel
theorem dX11_init_363 : decode cX11_init 363 = .ok (.sipush 288, 3) := by decide +kernel
theorem dX11_init_366 : decode cX11_init 366 = .ok (.newarray .int, 2) := by decide +kernel
theorem dX11_init_368 : decode cX11_init 368 = .ok (.putfield 141, 3) := by decide +kernel
theorem dX11_init_371 : decode cX11_init 371 = .ok (.aload_n 0, 1) := by decide +kernel
theorem dX11_init_372 : decode cX11_init 372 = .ok (.bipush 100, 2) := by decide +kernel
theorem dX11_init_374 : decode cX11_init 374 = .ok (.newarray .boolean, 2) := by decide +kernel
theorem dX11_init_376 : decode cX11_init 376 = .ok (.putfield 144, 3) := by decide +kernel
theorem dX11_init_379 : decode cX11_init 379 = .ok (.aload_n 0, 1) := by decide +kernel
theorem dX11_init_380 : decode cX11_init 380 = .ok (.iconst 4, 1) := by decide +kernel
theorem dX11_init_381 : decode cX11_init 381 = .ok (.newarray .int, 2) := by decide +kernel
theorem dX11_init_383 : decode cX11_init 383 = .ok (.putfield 147, 3) := by decide +kernel
theorem dX11_init_386 : decode cX11_init 386 = .ok (.return_, 1) := by decide +kernel
theorem dX11_place_0 : decode cX11_place 0 = .ok (.iconst 0, 1) := by decide +kernel
theorem dX11_place_1 : decode cX11_place 1 = .ok (.istore_n 3, 1) := by decide +kernel
theorem dX11_place_2 : decode cX11_place 2 = .ok (.iload_n 3, 1) := by decide +kernel
theorem dX11_place_3 : decode cX11_place 3 = .ok (.aload_n 0, 1) := by decide +kernel
theorem dX11_place_4 : decode cX11_place 4 = .ok (.getfield 150, 3) := by decide +kernel
theorem dX11_place_7 : decode cX11_place 7 = .ok (.if_icmp .ge 31, 3) := by decide +kernel
theorem dX11_place_10 : decode cX11_place 10 = .ok (.aload_n 0, 1) := by decide +kernel
theorem dX11_place_11 : decode cX11_place 11 = .ok (.getfield 7, 3) := by decide +kernel
theorem dX11_place_14 : decode cX11_place 14 = .ok (.iload_n 3, 1) := by decide +kernel
theorem dX11_place_15 : decode cX11_place 15 = .ok (.iaload, 1) := by decide +kernel
theorem dX11_place_16 : decode cX11_place 16 = .ok (.iload_n 1, 1) := by decide +kernel
theorem dX11_place_17 : decode cX11_place 17 = .ok (.if_icmp .ne 15, 3) := by decide +kernel
theorem dX11_place_20 : decode cX11_place 20 = .ok (.aload_n 0, 1) := by decide +kernel
theorem dX11_place_21 : decode cX11_place 21 = .ok (.getfield 13, 3) := by decide +kernel
theorem dX11_place_24 : decode cX11_place 24 = .ok (.iload_n 3, 1) := by decide +kernel
theorem dX11_place_25 : decode cX11_place 25 = .ok (.iaload, 1) := by decide +kernel
theorem dX11_place_26 : decode cX11_place 26 = .ok (.iload_n 2, 1) := by decide +kernel
theorem dX11_place_27 : decode cX11_place 27 = .ok (.if_icmp .ne 5, 3) := by decide +kernel
theorem dX11_place_30 : decode cX11_place 30 = .ok (.iload_n 3, 1) := by decide +kernel
theorem dX11_place_31 : decode cX11_place 31 = .ok (.ireturn, 1) := by decide +kernel
theorem dX11_place_32 : decode cX11_place 32 = .ok (.iinc 3 1, 3) := by decide +kernel
theorem dX11_place_35 : decode cX11_place 35 = .ok (.goto (-33), 3) := by decide +kernel
theorem dX11_place_38 : decode cX11_place 38 = .ok (.iconst (-1), 1) := by decide +kernel
theorem dX11_place_39 : decode cX11_place 39 = .ok (.ireturn, 1) := by decide +kernel
theorem dX11_u_0 : decode cX11_u 0 = .ok (.bipush 8, 2) := by decide +kernel
theorem dX11_u_2 : decode cX11_u 2 = .ok (.iload_n 3, 1) := by decide +kernel
theorem dX11_u_3 : decode cX11_u 3 = .ok (.imul, 1) := by decide +kernel
theorem dX11_u_4 : decode cX11_u 4 = .ok (.bipush 8, 2) := by decide +kernel
theorem dX11_u_6 : decode cX11_u 6 = .ok (.isub, 1) := by decide +kernel
theorem dX11_u_7 : decode cX11_u 7 = .ok (.istore 4, 2) := by decide +kernel
theorem dX11_u_9 : decode cX11_u 9 = .ok (.iload 4, 2) := by decide +kernel
theorem dX11_u_11 : decode cX11_u 11 = .ok (.ifCond .lt 34, 3) := by decide +kernel
theorem dX11_u_14 : decode cX11_u 14 = .ok (.aload_n 0, 1) := by decide +kernel
theorem dX11_u_15 : decode cX11_u 15 = .ok (.getfield 31, 3) := by decide +kernel
theorem dX11_u_18 : decode cX11_u 18 = .ok (.aload_n 0, 1) := by decide +kernel
theorem dX11_u_19 : decode cX11_u 19 = .ok (.getfield 153, 3) := by decide +kernel
theorem dX11_u_22 : decode cX11_u 22 = .ok (.lload_n 1, 1) := by decide +kernel
theorem dX11_u_23 : decode cX11_u 23 = .ok (.iload 4, 2) := by decide +kernel
theorem dX11_u_25 : decode cX11_u 25 = .ok (.lshr, 1) := by decide +kernel
theorem dX11_u_26 : decode cX11_u 26 = .ok (.l2i, 1) := by decide +kernel
theorem dX11_u_27 : decode cX11_u 27 = .ok (.i2b, 1) := by decide +kernel
theorem dX11_u_28 : decode cX11_u 28 = .ok (.bastore, 1) := by decide +kernel
theorem dX11_u_29 : decode cX11_u 29 = .ok (.aload_n 0, 1) := by decide +kernel
theorem dX11_u_30 : decode cX11_u 30 = .ok (.dup, 1) := by decide +kernel
theorem dX11_u_31 : decode cX11_u 31 = .ok (.getfield 153, 3) := by decide +kernel
theorem dX11_u_34 : decode cX11_u 34 = .ok (.iconst 1, 1) := by decide +kernel
theorem dX11_u_35 : decode cX11_u 35 = .ok (.iadd, 1) := by decide +kernel
theorem dX11_u_36 : decode cX11_u 36 = .ok (.putfield 153, 3) := by decide +kernel
theorem dX11_u_39 : decode cX11_u 39 = .ok (.iinc 4 (-8), 3) := by decide +kernel
theorem dX11_u_42 : decode cX11_u 42 = .ok (.goto (-33), 3) := by decide +kernel
theorem dX11_u_45 : decode cX11_u 45 = .ok (.return_, 1) := by decide +kernel
theorem dX11_check_0 : decode cX11_check 0 = .ok (.iconst (-1), 1) := by decide +kernel
theorem dX11_check_1 : decode cX11_check 1 = .ok (.istore 4, 2) := by decide +kernel
theorem dX11_check_3 : decode cX11_check 3 = .ok (.iload_n 2, 1) := by decide +kernel
theorem dX11_check_4 : decode cX11_check 4 = .ok (.istore 5, 2) := by decide +kernel
theorem dX11_check_6 : decode cX11_check 6 = .ok (.iload 5, 2) := by decide +kernel
theorem dX11_check_8 : decode cX11_check 8 = .ok (.iload_n 3, 1) := by decide +kernel
theorem dX11_check_9 : decode cX11_check 9 = .ok (.if_icmp .ge 62, 3) := by decide +kernel
theorem dX11_check_12 : decode cX11_check 12 = .ok (.iload 4, 2) := by decide +kernel
theorem dX11_check_14 : decode cX11_check 14 = .ok (.aload_n 1, 1) := by decide +kernel
theorem dX11_check_15 : decode cX11_check 15 = .ok (.iload 5, 2) := by decide +kernel
theorem dX11_check_17 : decode cX11_check 17 = .ok (.baload, 1) := by decide +kernel
theorem dX11_check_18 : decode cX11_check 18 = .ok (.sipush 255, 3) := by decide +kernel
theorem dX11_check_21 : decode cX11_check 21 = .ok (.iand, 1) := by decide +kernel
theorem dX11_check_22 : decode cX11_check 22 = .ok (.ixor, 1) := by decide +kernel
theorem dX11_check_23 : decode cX11_check 23 = .ok (.istore 4, 2) := by decide +kernel
theorem dX11_check_25 : decode cX11_check 25 = .ok (.iconst 0, 1) := by decide +kernel
theorem dX11_check_26 : decode cX11_check 26 = .ok (.istore 6, 2) := by decide +kernel
theorem dX11_check_28 : decode cX11_check 28 = .ok (.iload 6, 2) := by decide +kernel
theorem dX11_check_30 : decode cX11_check 30 = .ok (.bipush 8, 2) := by decide +kernel
theorem dX11_check_32 : decode cX11_check 32 = .ok (.if_icmp .ge 33, 3) := by decide +kernel
theorem dX11_check_35 : decode cX11_check 35 = .ok (.iload 4, 2) := by decide +kernel
theorem dX11_check_37 : decode cX11_check 37 = .ok (.iconst 1, 1) := by decide +kernel
theorem dX11_check_38 : decode cX11_check 38 = .ok (.iand, 1) := by decide +kernel
theorem dX11_check_39 : decode cX11_check 39 = .ok (.iconst 1, 1) := by decide +kernel
theorem dX11_check_40 : decode cX11_check 40 = .ok (.if_icmp .ne 13, 3) := by decide +kernel
theorem dX11_check_43 : decode cX11_check 43 = .ok (.iload 4, 2) := by decide +kernel
theorem dX11_check_45 : decode cX11_check 45 = .ok (.iconst 1, 1) := by decide +kernel
theorem dX11_check_46 : decode cX11_check 46 = .ok (.iushr, 1) := by decide +kernel
theorem dX11_check_47 : decode cX11_check 47 = .ok (.ldc 156, 2) := by decide +kernel
theorem dX11_check_49 : decode cX11_check 49 = .ok (.ixor, 1) := by decide +kernel
theorem dX11_check_50 : decode cX11_check 50 = .ok (.goto 7, 3) := by decide +kernel
theorem dX11_check_53 : decode cX11_check 53 = .ok (.iload 4, 2) := by decide +kernel
theorem dX11_check_55 : decode cX11_check 55 = .ok (.iconst 1, 1) := by decide +kernel
theorem dX11_check_56 : decode cX11_check 56 = .ok (.iushr, 1) := by decide +kernel
theorem dX11_check_57 : decode cX11_check 57 = .ok (.istore 4, 2) := by decide +kernel
theorem dX11_check_59 : decode cX11_check 59 = .ok (.iinc 6 1, 3) := by decide +kernel
theorem dX11_check_62 : decode cX11_check 62 = .ok (.goto (-34), 3) := by decide +kernel
theorem dX11_check_65 : decode cX11_check 65 = .ok (.iinc 5 1, 3) := by decide +kernel
theorem dX11_check_68 : decode cX11_check 68 = .ok (.goto (-62), 3) := by decide +kernel
theorem dX11_check_71 : decode cX11_check 71 = .ok (.iload 4, 2) := by decide +kernel
theorem dX11_check_73 : decode cX11_check 73 = .ok (.iconst (-1), 1) := by decide +kernel
theorem dX11_check_74 : decode cX11_check 74 = .ok (.ixor, 1) := by decide +kernel
theorem dX11_check_75 : decode cX11_check 75 = .ok (.ireturn, 1) := by decide +kernel
theorem dX11_ends_0 : decode cX11_ends 0 = .ok (.aload_n 0, 1) := by decide +kernel
theorem dX11_ends_1 : decode cX11_ends 1 = .ok (.aload_n 0, 1) := by decide +kernel
theorem dX11_ends_2 : decode cX11_ends 2 = .ok (.aload_n 0, 1) := by decide +kernel
theorem dX11_ends_3 : decode cX11_ends 3 = .ok (.getfield 31, 3) := by decide +kernel
theorem dX11_ends_6 : decode cX11_ends 6 = .ok (.iconst 0, 1) := by decide +kernel
theorem dX11_ends_7 : decode cX11_ends 7 = .ok (.aload_n 0, 1) := by decide +kernel
theorem dX11_ends_8 : decode cX11_ends 8 = .ok (.getfield 153, 3) := by decide +kernel
theorem dX11_ends_11 : decode cX11_ends 11 = .ok (.invokevirtual 157, 3) := by decide +kernel
theorem dX11_ends_14 : decode cX11_ends 14 = .ok (.i2l, 1) := by decide +kernel
theorem dX11_ends_15 : decode cX11_ends 15 = .ok (.iconst 4, 1) := by decide +kernel
theorem dX11_ends_16 : decode cX11_ends 16 = .ok (.invokevirtual 161, 3) := by decide +kernel
theorem dX11_ends_19 : decode cX11_ends 19 = .ok (.return_, 1) := by decide +kernel
theorem dX11_put_0 : decode cX11_put 0 = .ok (.aload_n 0, 1) := by decide +kernel
theorem dX11_put_1 : decode cX11_put 1 = .ok (.iload_n 1, 1) := by decide +kernel
theorem dX11_put_2 : decode cX11_put 2 = .ok (.iload_n 2, 1) := by decide +kernel
theorem dX11_put_3 : decode cX11_put 3 = .ok (.invokevirtual 165, 3) := by decide +kernel
theorem dX11_put_6 : decode cX11_put 6 = .ok (.ifCond .ge 28, 3) := by decide +kernel
theorem dX11_put_9 : decode cX11_put 9 = .ok (.aload_n 0, 1) := by decide +kernel
theorem dX11_put_10 : decode cX11_put 10 = .ok (.getfield 150, 3) := by decide +kernel
theorem dX11_put_13 : decode cX11_put 13 = .ok (.bipush 100, 2) := by decide +kernel
theorem dX11_put_15 : decode cX11_put 15 = .ok (.if_icmp .eq 19, 3) := by decide +kernel
theorem dX11_put_18 : decode cX11_put 18 = .ok (.aload_n 0, 1) := by decide +kernel
theorem dX11_put_19 : decode cX11_put 19 = .ok (.getfield 169, 3) := by decide +kernel
theorem dX11_put_22 : decode cX11_put 22 = .ok (.aload_n 0, 1) := by decide +kernel
theorem dX11_put_23 : decode cX11_put 23 = .ok (.getfield 153, 3) := by decide +kernel
theorem dX11_put_26 : decode cX11_put 26 = .ok (.iadd, 1) := by decide +kernel
theorem dX11_put_27 : decode cX11_put 27 = .ok (.aload_n 0, 1) := by decide +kernel
theorem dX11_put_28 : decode cX11_put 28 = .ok (.getfield 24, 3) := by decide +kernel
theorem dX11_put_31 : decode cX11_put 31 = .ok (.if_icmp .le 5, 3) := by decide +kernel
theorem dX11_put_34 : decode cX11_put 34 = .ok (.iconst 0, 1) := by decide +kernel
theorem dX11_put_35 : decode cX11_put 35 = .ok (.ireturn, 1) := by decide +kernel
theorem dX11_put_36 : decode cX11_put 36 = .ok (.aload_n 0, 1) := by decide +kernel
theorem dX11_put_37 : decode cX11_put 37 = .ok (.getfield 7, 3) := by decide +kernel
theorem dX11_put_40 : decode cX11_put 40 = .ok (.aload_n 0, 1) := by decide +kernel
theorem dX11_put_41 : decode cX11_put 41 = .ok (.getfield 150, 3) := by decide +kernel
theorem dX11_put_44 : decode cX11_put 44 = .ok (.iload_n 1, 1) := by decide +kernel
theorem dX11_put_45 : decode cX11_put 45 = .ok (.iastore, 1) := by decide +kernel
theorem dX11_put_46 : decode cX11_put 46 = .ok (.aload_n 0, 1) := by decide +kernel
theorem dX11_put_47 : decode cX11_put 47 = .ok (.getfield 13, 3) := by decide +kernel
theorem dX11_put_50 : decode cX11_put 50 = .ok (.aload_n 0, 1) := by decide +kernel
theorem dX11_put_51 : decode cX11_put 51 = .ok (.getfield 150, 3) := by decide +kernel
theorem dX11_put_54 : decode cX11_put 54 = .ok (.iload_n 2, 1) := by decide +kernel
theorem dX11_put_55 : decode cX11_put 55 = .ok (.iastore, 1) := by decide +kernel
theorem dX11_put_56 : decode cX11_put 56 = .ok (.aload_n 0, 1) := by decide +kernel
theorem dX11_put_57 : decode cX11_put 57 = .ok (.getfield 16, 3) := by decide +kernel
theorem dX11_put_60 : decode cX11_put 60 = .ok (.aload_n 0, 1) := by decide +kernel
theorem dX11_put_61 : decode cX11_put 61 = .ok (.getfield 150, 3) := by decide +kernel
theorem dX11_put_64 : decode cX11_put 64 = .ok (.aload_n 0, 1) := by decide +kernel
theorem dX11_put_65 : decode cX11_put 65 = .ok (.getfield 153, 3) := by decide +kernel
theorem dX11_put_68 : decode cX11_put 68 = .ok (.iastore, 1) := by decide +kernel
theorem dX11_put_69 : decode cX11_put 69 = .ok (.iconst 0, 1) := by decide +kernel
theorem dX11_put_70 : decode cX11_put 70 = .ok (.istore_n 3, 1) := by decide +kernel
theorem dX11_put_71 : decode cX11_put 71 = .ok (.iload_n 3, 1) := by decide +kernel
theorem dX11_put_72 : decode cX11_put 72 = .ok (.aload_n 0, 1) := by decide +kernel
theorem dX11_put_73 : decode cX11_put 73 = .ok (.getfield 153, 3) := by decide +kernel
theorem dX11_put_76 : decode cX11_put 76 = .ok (.if_icmp .ge 30, 3) := by decide +kernel
theorem dX11_put_79 : decode cX11_put 79 = .ok (.aload_n 0, 1) := by decide +kernel
theorem dX11_put_80 : decode cX11_put 80 = .ok (.getfield 20, 3) := by decide +kernel
theorem dX11_put_83 : decode cX11_put 83 = .ok (.sipush 1400, 3) := by decide +kernel
theorem dX11_put_86 : decode cX11_put 86 = .ok (.aload_n 0, 1) := by decide +kernel
theorem dX11_put_87 : decode cX11_put 87 = .ok (.getfield 150, 3) := by decide +kernel
theorem dX11_put_90 : decode cX11_put 90 = .ok (.imul, 1) := by decide +kernel
theorem dX11_put_91 : decode cX11_put 91 = .ok (.iload_n 3, 1) := by decide +kernel
theorem dX11_put_92 : decode cX11_put 92 = .ok (.iadd, 1) := by decide +kernel
theorem dX11_put_93 : decode cX11_put 93 = .ok (.aload_n 0, 1) := by decide +kernel
theorem dX11_put_94 : decode cX11_put 94 = .ok (.getfield 31, 3) := by decide +kernel
theorem dX11_put_97 : decode cX11_put 97 = .ok (.iload_n 3, 1) := by decide +kernel
theorem dX11_put_98 : decode cX11_put 98 = .ok (.baload, 1) := by decide +kernel
theorem dX11_put_99 : decode cX11_put 99 = .ok (.bastore, 1) := by decide +kernel
theorem dX11_put_100 : decode cX11_put 100 = .ok (.iinc 3 1, 3) := by decide +kernel
theorem dX11_put_103 : decode cX11_put 103 = .ok (.goto (-32), 3) := by decide +kernel
theorem dX11_put_106 : decode cX11_put 106 = .ok (.aload_n 0, 1) := by decide +kernel
theorem dX11_put_107 : decode cX11_put 107 = .ok (.dup, 1) := by decide +kernel
theorem dX11_put_108 : decode cX11_put 108 = .ok (.getfield 169, 3) := by decide +kernel
theorem dX11_put_111 : decode cX11_put 111 = .ok (.aload_n 0, 1) := by decide +kernel
theorem dX11_put_112 : decode cX11_put 112 = .ok (.getfield 153, 3) := by decide +kernel
theorem dX11_put_115 : decode cX11_put 115 = .ok (.iadd, 1) := by decide +kernel
theorem dX11_put_116 : decode cX11_put 116 = .ok (.putfield 169, 3) := by decide +kernel
theorem dX11_put_119 : decode cX11_put 119 = .ok (.aload_n 0, 1) := by decide +kernel
theorem dX11_put_120 : decode cX11_put 120 = .ok (.dup, 1) := by decide +kernel
theorem dX11_put_121 : decode cX11_put 121 = .ok (.getfield 150, 3) := by decide +kernel
theorem dX11_put_124 : decode cX11_put 124 = .ok (.iconst 1, 1) := by decide +kernel
theorem dX11_put_125 : decode cX11_put 125 = .ok (.iadd, 1) := by decide +kernel
theorem dX11_put_126 : decode cX11_put 126 = .ok (.putfield 150, 3) := by decide +kernel
theorem dX11_put_129 : decode cX11_put 129 = .ok (.iconst 1, 1) := by decide +kernel
theorem dX11_put_130 : decode cX11_put 130 = .ok (.ireturn, 1) := by decide +kernel
theorem dX11_goes_0 : decode cX11_goes 0 = .ok (.aload_n 0, 1) := by decide +kernel
theorem dX11_goes_1 : decode cX11_goes 1 = .ok (.dup, 1) := by decide +kernel
theorem dX11_goes_2 : decode cX11_goes 2 = .ok (.getfield 169, 3) := by decide +kernel
theorem dX11_goes_5 : decode cX11_goes 5 = .ok (.aload_n 0, 1) := by decide +kernel
theorem dX11_goes_6 : decode cX11_goes 6 = .ok (.getfield 16, 3) := by decide +kernel
theorem dX11_goes_9 : decode cX11_goes 9 = .ok (.iload_n 1, 1) := by decide +kernel
theorem dX11_goes_10 : decode cX11_goes 10 = .ok (.iaload, 1) := by decide +kernel
theorem dX11_goes_11 : decode cX11_goes 11 = .ok (.isub, 1) := by decide +kernel
theorem dX11_goes_12 : decode cX11_goes 12 = .ok (.putfield 169, 3) := by decide +kernel
theorem dX11_goes_15 : decode cX11_goes 15 = .ok (.aload_n 0, 1) := by decide +kernel
theorem dX11_goes_16 : decode cX11_goes 16 = .ok (.dup, 1) := by decide +kernel
theorem dX11_goes_17 : decode cX11_goes 17 = .ok (.getfield 150, 3) := by decide +kernel
theorem dX11_goes_20 : decode cX11_goes 20 = .ok (.iconst 1, 1) := by decide +kernel
theorem dX11_goes_21 : decode cX11_goes 21 = .ok (.isub, 1) := by decide +kernel
theorem dX11_goes_22 : decode cX11_goes 22 = .ok (.putfield 150, 3) := by decide +kernel
theorem dX11_goes_25 : decode cX11_goes 25 = .ok (.aload_n 0, 1) := by decide +kernel
theorem dX11_goes_26 : decode cX11_goes 26 = .ok (.getfield 7, 3) := by decide +kernel
theorem dX11_goes_29 : decode cX11_goes 29 = .ok (.iload_n 1, 1) := by decide +kernel
theorem dX11_goes_30 : decode cX11_goes 30 = .ok (.aload_n 0, 1) := by decide +kernel
theorem dX11_goes_31 : decode cX11_goes 31 = .ok (.getfield 7, 3) := by decide +kernel
theorem dX11_goes_34 : decode cX11_goes 34 = .ok (.aload_n 0, 1) := by decide +kernel
theorem dX11_goes_35 : decode cX11_goes 35 = .ok (.getfield 150, 3) := by decide +kernel
theorem dX11_goes_38 : decode cX11_goes 38 = .ok (.iaload, 1) := by decide +kernel
theorem dX11_goes_39 : decode cX11_goes 39 = .ok (.iastore, 1) := by decide +kernel
theorem dX11_goes_40 : decode cX11_goes 40 = .ok (.aload_n 0, 1) := by decide +kernel
theorem dX11_goes_41 : decode cX11_goes 41 = .ok (.getfield 13, 3) := by decide +kernel
theorem dX11_goes_44 : decode cX11_goes 44 = .ok (.iload_n 1, 1) := by decide +kernel
theorem dX11_goes_45 : decode cX11_goes 45 = .ok (.aload_n 0, 1) := by decide +kernel
theorem dX11_goes_46 : decode cX11_goes 46 = .ok (.getfield 13, 3) := by decide +kernel
theorem dX11_goes_49 : decode cX11_goes 49 = .ok (.aload_n 0, 1) := by decide +kernel
theorem dX11_goes_50 : decode cX11_goes 50 = .ok (.getfield 150, 3) := by decide +kernel
theorem dX11_goes_53 : decode cX11_goes 53 = .ok (.iaload, 1) := by decide +kernel
theorem dX11_goes_54 : decode cX11_goes 54 = .ok (.iastore, 1) := by decide +kernel
theorem dX11_goes_55 : decode cX11_goes 55 = .ok (.aload_n 0, 1) := by decide +kernel
theorem dX11_goes_56 : decode cX11_goes 56 = .ok (.getfield 16, 3) := by decide +kernel
theorem dX11_goes_59 : decode cX11_goes 59 = .ok (.iload_n 1, 1) := by decide +kernel
theorem dX11_goes_60 : decode cX11_goes 60 = .ok (.aload_n 0, 1) := by decide +kernel
theorem dX11_goes_61 : decode cX11_goes 61 = .ok (.getfield 16, 3) := by decide +kernel
theorem dX11_goes_64 : decode cX11_goes 64 = .ok (.aload_n 0, 1) := by decide +kernel
theorem dX11_goes_65 : decode cX11_goes 65 = .ok (.getfield 150, 3) := by decide +kernel
theorem dX11_goes_68 : decode cX11_goes 68 = .ok (.iaload, 1) := by decide +kernel
theorem dX11_goes_69 : decode cX11_goes 69 = .ok (.iastore, 1) := by decide +kernel
theorem dX11_goes_70 : decode cX11_goes 70 = .ok (.iconst 0, 1) := by decide +kernel
theorem dX11_goes_71 : decode cX11_goes 71 = .ok (.istore_n 2, 1) := by decide +kernel
theorem dX11_goes_72 : decode cX11_goes 72 = .ok (.iload_n 2, 1) := by decide +kernel
theorem dX11_goes_73 : decode cX11_goes 73 = .ok (.aload_n 0, 1) := by decide +kernel
theorem dX11_goes_74 : decode cX11_goes 74 = .ok (.getfield 16, 3) := by decide +kernel
theorem dX11_goes_77 : decode cX11_goes 77 = .ok (.iload_n 1, 1) := by decide +kernel
theorem dX11_goes_78 : decode cX11_goes 78 = .ok (.iaload, 1) := by decide +kernel
theorem dX11_goes_79 : decode cX11_goes 79 = .ok (.if_icmp .ge 36, 3) := by decide +kernel
theorem dX11_goes_82 : decode cX11_goes 82 = .ok (.aload_n 0, 1) := by decide +kernel
theorem dX11_goes_83 : decode cX11_goes 83 = .ok (.getfield 20, 3) := by decide +kernel
theorem dX11_goes_86 : decode cX11_goes 86 = .ok (.sipush 1400, 3) := by decide +kernel
theorem dX11_goes_89 : decode cX11_goes 89 = .ok (.iload_n 1, 1) := by decide +kernel
theorem dX11_goes_90 : decode cX11_goes 90 = .ok (.imul, 1) := by decide +kernel
theorem dX11_goes_91 : decode cX11_goes 91 = .ok (.iload_n 2, 1) := by decide +kernel
theorem dX11_goes_92 : decode cX11_goes 92 = .ok (.iadd, 1) := by decide +kernel
theorem dX11_goes_93 : decode cX11_goes 93 = .ok (.aload_n 0, 1) := by decide +kernel
theorem dX11_goes_94 : decode cX11_goes 94 = .ok (.getfield 20, 3) := by decide +kernel
theorem dX11_goes_97 : decode cX11_goes 97 = .ok (.sipush 1400, 3) := by decide +kernel
theorem dX11_goes_100 : decode cX11_goes 100 = .ok (.aload_n 0, 1) := by decide +kernel
theorem dX11_goes_101 : decode cX11_goes 101 = .ok (.getfield 150, 3) := by decide +kernel
theorem dX11_goes_104 : decode cX11_goes 104 = .ok (.imul, 1) := by decide +kernel
theorem dX11_goes_105 : decode cX11_goes 105 = .ok (.iload_n 2, 1) := by decide +kernel
theorem dX11_goes_106 : decode cX11_goes 106 = .ok (.iadd, 1) := by decide +kernel
theorem dX11_goes_107 : decode cX11_goes 107 = .ok (.baload, 1) := by decide +kernel
theorem dX11_goes_108 : decode cX11_goes 108 = .ok (.bastore, 1) := by decide +kernel
theorem dX11_goes_109 : decode cX11_goes 109 = .ok (.iinc 2 1, 3) := by decide +kernel
theorem dX11_goes_112 : decode cX11_goes 112 = .ok (.goto (-40), 3) := by decide +kernel
theorem dX11_goes_115 : decode cX11_goes 115 = .ok (.aload_n 0, 1) := by decide +kernel
theorem dX11_goes_116 : decode cX11_goes 116 = .ok (.dup, 1) := by decide +kernel
theorem dX11_goes_117 : decode cX11_goes 117 = .ok (.getfield 172, 3) := by decide +kernel
theorem dX11_goes_120 : decode cX11_goes 120 = .ok (.iconst 1, 1) := by decide +kernel
theorem dX11_goes_121 : decode cX11_goes 121 = .ok (.iadd, 1) := by decide +kernel
theorem dX11_goes_122 : decode cX11_goes 122 = .ok (.putfield 172, 3) := by decide +kernel
theorem dX11_goes_125 : decode cX11_goes 125 = .ok (.return_, 1) := by decide +kernel
theorem dX11_take_0 : decode cX11_take 0 = .ok (.lconst 0, 1) := by decide +kernel
theorem dX11_take_1 : decode cX11_take 1 = .ok (.lstore_n 2, 1) := by decide +kernel
theorem dX11_take_2 : decode cX11_take 2 = .ok (.iconst 0, 1) := by decide +kernel
theorem dX11_take_3 : decode cX11_take 3 = .ok (.istore 4, 2) := by decide +kernel
theorem dX11_take_5 : decode cX11_take 5 = .ok (.iload 4, 2) := by decide +kernel
theorem dX11_take_7 : decode cX11_take 7 = .ok (.iload_n 1, 1) := by decide +kernel
theorem dX11_take_8 : decode cX11_take 8 = .ok (.if_icmp .ge 77, 3) := by decide +kernel
theorem dX11_take_11 : decode cX11_take 11 = .ok (.aload_n 0, 1) := by decide +kernel
theorem dX11_take_12 : decode cX11_take 12 = .ok (.aload_n 0, 1) := by decide +kernel
theorem dX11_take_13 : decode cX11_take 13 = .ok (.getfield 175, 3) := by decide +kernel
theorem dX11_take_16 : decode cX11_take 16 = .ok (.ifCond .eq 18, 3) := by decide +kernel
theorem dX11_take_19 : decode cX11_take 19 = .ok (.aload_n 0, 1) := by decide +kernel
theorem dX11_take_20 : decode cX11_take 20 = .ok (.getfield 179, 3) := by decide +kernel
theorem dX11_take_23 : decode cX11_take 23 = .ok (.aload_n 0, 1) := by decide +kernel
theorem dX11_take_24 : decode cX11_take 24 = .ok (.getfield 182, 3) := by decide +kernel
theorem dX11_take_27 : decode cX11_take 27 = .ok (.if_icmp .ge 7, 3) := by decide +kernel
theorem dX11_take_30 : decode cX11_take 30 = .ok (.iconst 1, 1) := by decide +kernel
theorem dX11_take_31 : decode cX11_take 31 = .ok (.goto 4, 3) := by decide +kernel
theorem dX11_take_34 : decode cX11_take 34 = .ok (.iconst 0, 1) := by decide +kernel
theorem dX11_take_35 : decode cX11_take 35 = .ok (.putfield 175, 3) := by decide +kernel
theorem dX11_take_38 : decode cX11_take 38 = .ok (.lload_n 2, 1) := by decide +kernel
theorem dX11_take_39 : decode cX11_take 39 = .ok (.bipush 8, 2) := by decide +kernel
theorem dX11_take_41 : decode cX11_take 41 = .ok (.lshl, 1) := by decide +kernel
theorem dX11_take_42 : decode cX11_take 42 = .ok (.aload_n 0, 1) := by decide +kernel
theorem dX11_take_43 : decode cX11_take 43 = .ok (.getfield 175, 3) := by decide +kernel
theorem dX11_take_46 : decode cX11_take 46 = .ok (.ifCond .eq 20, 3) := by decide +kernel
theorem dX11_take_49 : decode cX11_take 49 = .ok (.aload_n 0, 1) := by decide +kernel
theorem dX11_take_50 : decode cX11_take 50 = .ok (.getfield 20, 3) := by decide +kernel
theorem dX11_take_53 : decode cX11_take 53 = .ok (.aload_n 0, 1) := by decide +kernel
theorem dX11_take_54 : decode cX11_take 54 = .ok (.getfield 179, 3) := by decide +kernel
theorem dX11_take_57 : decode cX11_take 57 = .ok (.baload, 1) := by decide +kernel
theorem dX11_take_58 : decode cX11_take 58 = .ok (.i2l, 1) := by decide +kernel
theorem dX11_take_59 : decode cX11_take 59 = .ok (.ldc2_w 185, 3) := by decide +kernel
theorem dX11_take_62 : decode cX11_take 62 = .ok (.land, 1) := by decide +kernel
theorem dX11_take_63 : decode cX11_take 63 = .ok (.goto 4, 3) := by decide +kernel
theorem dX11_take_66 : decode cX11_take 66 = .ok (.lconst 0, 1) := by decide +kernel
theorem dX11_take_67 : decode cX11_take 67 = .ok (.lor, 1) := by decide +kernel
theorem dX11_take_68 : decode cX11_take 68 = .ok (.lstore_n 2, 1) := by decide +kernel
theorem dX11_take_69 : decode cX11_take 69 = .ok (.aload_n 0, 1) := by decide +kernel
theorem dX11_take_70 : decode cX11_take 70 = .ok (.dup, 1) := by decide +kernel
theorem dX11_take_71 : decode cX11_take 71 = .ok (.getfield 179, 3) := by decide +kernel
theorem dX11_take_74 : decode cX11_take 74 = .ok (.iconst 1, 1) := by decide +kernel
theorem dX11_take_75 : decode cX11_take 75 = .ok (.iadd, 1) := by decide +kernel
theorem dX11_take_76 : decode cX11_take 76 = .ok (.putfield 179, 3) := by decide +kernel
theorem dX11_take_79 : decode cX11_take 79 = .ok (.iinc 4 1, 3) := by decide +kernel
theorem dX11_take_82 : decode cX11_take 82 = .ok (.goto (-77), 3) := by decide +kernel
theorem dX11_take_85 : decode cX11_take 85 = .ok (.lload_n 2, 1) := by decide +kernel
theorem dX11_take_86 : decode cX11_take 86 = .ok (.lreturn, 1) := by decide +kernel
theorem dX11_opens_0 : decode cX11_opens 0 = .ok (.aload_n 0, 1) := by decide +kernel
theorem dX11_opens_1 : decode cX11_opens 1 = .ok (.sipush 1400, 3) := by decide +kernel
theorem dX11_opens_4 : decode cX11_opens 4 = .ok (.iload_n 1, 1) := by decide +kernel
theorem dX11_opens_5 : decode cX11_opens 5 = .ok (.imul, 1) := by decide +kernel
theorem dX11_opens_6 : decode cX11_opens 6 = .ok (.putfield 179, 3) := by decide +kernel
theorem dX11_opens_9 : decode cX11_opens 9 = .ok (.aload_n 0, 1) := by decide +kernel
theorem dX11_opens_10 : decode cX11_opens 10 = .ok (.aload_n 0, 1) := by decide +kernel
theorem dX11_opens_11 : decode cX11_opens 11 = .ok (.getfield 179, 3) := by decide +kernel
theorem dX11_opens_14 : decode cX11_opens 14 = .ok (.aload_n 0, 1) := by decide +kernel
theorem dX11_opens_15 : decode cX11_opens 15 = .ok (.getfield 16, 3) := by decide +kernel
theorem dX11_opens_18 : decode cX11_opens 18 = .ok (.iload_n 1, 1) := by decide +kernel
theorem dX11_opens_19 : decode cX11_opens 19 = .ok (.iaload, 1) := by decide +kernel
theorem dX11_opens_20 : decode cX11_opens 20 = .ok (.iadd, 1) := by decide +kernel
theorem dX11_opens_21 : decode cX11_opens 21 = .ok (.iconst 4, 1) := by decide +kernel
theorem dX11_opens_22 : decode cX11_opens 22 = .ok (.isub, 1) := by decide +kernel
theorem dX11_opens_23 : decode cX11_opens 23 = .ok (.putfield 182, 3) := by decide +kernel
theorem dX11_opens_26 : decode cX11_opens 26 = .ok (.aload_n 0, 1) := by decide +kernel
theorem dX11_opens_27 : decode cX11_opens 27 = .ok (.aload_n 0, 1) := by decide +kernel
theorem dX11_opens_28 : decode cX11_opens 28 = .ok (.getfield 16, 3) := by decide +kernel
theorem dX11_opens_31 : decode cX11_opens 31 = .ok (.iload_n 1, 1) := by decide +kernel
theorem dX11_opens_32 : decode cX11_opens 32 = .ok (.iaload, 1) := by decide +kernel
theorem dX11_opens_33 : decode cX11_opens 33 = .ok (.iconst 4, 1) := by decide +kernel
theorem dX11_opens_34 : decode cX11_opens 34 = .ok (.if_icmp .le 34, 3) := by decide +kernel
theorem dX11_opens_37 : decode cX11_opens 37 = .ok (.aload_n 0, 1) := by decide +kernel
theorem dX11_opens_38 : decode cX11_opens 38 = .ok (.aload_n 0, 1) := by decide +kernel
theorem dX11_opens_39 : decode cX11_opens 39 = .ok (.getfield 20, 3) := by decide +kernel
theorem dX11_opens_42 : decode cX11_opens 42 = .ok (.aload_n 0, 1) := by decide +kernel
theorem dX11_opens_43 : decode cX11_opens 43 = .ok (.getfield 179, 3) := by decide +kernel
theorem dX11_opens_46 : decode cX11_opens 46 = .ok (.aload_n 0, 1) := by decide +kernel
theorem dX11_opens_47 : decode cX11_opens 47 = .ok (.getfield 182, 3) := by decide +kernel
theorem dX11_opens_50 : decode cX11_opens 50 = .ok (.invokevirtual 157, 3) := by decide +kernel
theorem dX11_opens_53 : decode cX11_opens 53 = .ok (.aload_n 0, 1) := by decide +kernel
theorem dX11_opens_54 : decode cX11_opens 54 = .ok (.aload_n 0, 1) := by decide +kernel
theorem dX11_opens_55 : decode cX11_opens 55 = .ok (.getfield 182, 3) := by decide +kernel
theorem dX11_opens_58 : decode cX11_opens 58 = .ok (.invokevirtual 187, 3) := by decide +kernel
theorem dX11_opens_61 : decode cX11_opens 61 = .ok (.if_icmp .ne 7, 3) := by decide +kernel
theorem dX11_opens_64 : decode cX11_opens 64 = .ok (.iconst 1, 1) := by decide +kernel
theorem dX11_opens_65 : decode cX11_opens 65 = .ok (.goto 4, 3) := by decide +kernel
theorem dX11_opens_68 : decode cX11_opens 68 = .ok (.iconst 0, 1) := by decide +kernel
theorem dX11_opens_69 : decode cX11_opens 69 = .ok (.putfield 175, 3) := by decide +kernel
theorem dX11_opens_72 : decode cX11_opens 72 = .ok (.return_, 1) := by decide +kernel
theorem dX11_whole_0 : decode cX11_whole 0 = .ok (.aload_n 0, 1) := by decide +kernel
theorem dX11_whole_1 : decode cX11_whole 1 = .ok (.getfield 20, 3) := by decide +kernel
theorem dX11_whole_4 : decode cX11_whole 4 = .ok (.iload_n 1, 1) := by decide +kernel
theorem dX11_whole_5 : decode cX11_whole 5 = .ok (.baload, 1) := by decide +kernel
theorem dX11_whole_6 : decode cX11_whole 6 = .ok (.sipush 255, 3) := by decide +kernel
theorem dX11_whole_9 : decode cX11_whole 9 = .ok (.iand, 1) := by decide +kernel
theorem dX11_whole_10 : decode cX11_whole 10 = .ok (.bipush 24, 2) := by decide +kernel
theorem dX11_whole_12 : decode cX11_whole 12 = .ok (.ishl, 1) := by decide +kernel
theorem dX11_whole_13 : decode cX11_whole 13 = .ok (.aload_n 0, 1) := by decide +kernel
theorem dX11_whole_14 : decode cX11_whole 14 = .ok (.getfield 20, 3) := by decide +kernel
theorem dX11_whole_17 : decode cX11_whole 17 = .ok (.iload_n 1, 1) := by decide +kernel
theorem dX11_whole_18 : decode cX11_whole 18 = .ok (.iconst 1, 1) := by decide +kernel
theorem dX11_whole_19 : decode cX11_whole 19 = .ok (.iadd, 1) := by decide +kernel
theorem dX11_whole_20 : decode cX11_whole 20 = .ok (.baload, 1) := by decide +kernel
theorem dX11_whole_21 : decode cX11_whole 21 = .ok (.sipush 255, 3) := by decide +kernel
theorem dX11_whole_24 : decode cX11_whole 24 = .ok (.iand, 1) := by decide +kernel
theorem dX11_whole_25 : decode cX11_whole 25 = .ok (.bipush 16, 2) := by decide +kernel
theorem dX11_whole_27 : decode cX11_whole 27 = .ok (.ishl, 1) := by decide +kernel
theorem dX11_whole_28 : decode cX11_whole 28 = .ok (.ior, 1) := by decide +kernel
theorem dX11_whole_29 : decode cX11_whole 29 = .ok (.aload_n 0, 1) := by decide +kernel
theorem dX11_whole_30 : decode cX11_whole 30 = .ok (.getfield 20, 3) := by decide +kernel
theorem dX11_whole_33 : decode cX11_whole 33 = .ok (.iload_n 1, 1) := by decide +kernel
theorem dX11_whole_34 : decode cX11_whole 34 = .ok (.iconst 2, 1) := by decide +kernel
theorem dX11_whole_35 : decode cX11_whole 35 = .ok (.iadd, 1) := by decide +kernel
theorem dX11_whole_36 : decode cX11_whole 36 = .ok (.baload, 1) := by decide +kernel
theorem dX11_whole_37 : decode cX11_whole 37 = .ok (.sipush 255, 3) := by decide +kernel
theorem dX11_whole_40 : decode cX11_whole 40 = .ok (.iand, 1) := by decide +kernel
theorem dX11_whole_41 : decode cX11_whole 41 = .ok (.bipush 8, 2) := by decide +kernel
theorem dX11_whole_43 : decode cX11_whole 43 = .ok (.ishl, 1) := by decide +kernel
theorem dX11_whole_44 : decode cX11_whole 44 = .ok (.ior, 1) := by decide +kernel
theorem dX11_whole_45 : decode cX11_whole 45 = .ok (.aload_n 0, 1) := by decide +kernel
theorem dX11_whole_46 : decode cX11_whole 46 = .ok (.getfield 20, 3) := by decide +kernel
theorem dX11_whole_49 : decode cX11_whole 49 = .ok (.iload_n 1, 1) := by decide +kernel
theorem dX11_whole_50 : decode cX11_whole 50 = .ok (.iconst 3, 1) := by decide +kernel
theorem dX11_whole_51 : decode cX11_whole 51 = .ok (.iadd, 1) := by decide +kernel
theorem dX11_whole_52 : decode cX11_whole 52 = .ok (.baload, 1) := by decide +kernel
theorem dX11_whole_53 : decode cX11_whole 53 = .ok (.sipush 255, 3) := by decide +kernel
theorem dX11_whole_56 : decode cX11_whole 56 = .ok (.iand, 1) := by decide +kernel
theorem dX11_whole_57 : decode cX11_whole 57 = .ok (.ior, 1) := by decide +kernel
theorem dX11_whole_58 : decode cX11_whole 58 = .ok (.ireturn, 1) := by decide +kernel
theorem dX11_isMade_0 : decode cX11_isMade 0 = .ok (.aload_n 0, 1) := by decide +kernel
theorem dX11_isMade_1 : decode cX11_isMade 1 = .ok (.getfield 175, 3) := by decide +kernel
theorem dX11_isMade_4 : decode cX11_isMade 4 = .ok (.ifCond .eq 20, 3) := by decide +kernel
theorem dX11_isMade_7 : decode cX11_isMade 7 = .ok (.aload_n 0, 1) := by decide +kernel
theorem dX11_isMade_8 : decode cX11_isMade 8 = .ok (.getfield 16, 3) := by decide +kernel
theorem dX11_isMade_11 : decode cX11_isMade 11 = .ok (.iload_n 1, 1) := by decide +kernel
theorem dX11_isMade_12 : decode cX11_isMade 12 = .ok (.iaload, 1) := by decide +kernel
theorem dX11_isMade_13 : decode cX11_isMade 13 = .ok (.aload_n 0, 1) := by decide +kernel
theorem dX11_isMade_14 : decode cX11_isMade 14 = .ok (.getfield 153, 3) := by decide +kernel
theorem dX11_isMade_17 : decode cX11_isMade 17 = .ok (.if_icmp .ne 7, 3) := by decide +kernel
theorem dX11_isMade_20 : decode cX11_isMade 20 = .ok (.iconst 1, 1) := by decide +kernel
theorem dX11_isMade_21 : decode cX11_isMade 21 = .ok (.goto 4, 3) := by decide +kernel
theorem dX11_isMade_24 : decode cX11_isMade 24 = .ok (.iconst 0, 1) := by decide +kernel
theorem dX11_isMade_25 : decode cX11_isMade 25 = .ok (.istore_n 2, 1) := by decide +kernel
theorem dX11_isMade_26 : decode cX11_isMade 26 = .ok (.iconst 0, 1) := by decide +kernel
theorem dX11_isMade_27 : decode cX11_isMade 27 = .ok (.istore_n 3, 1) := by decide +kernel
theorem dX11_isMade_28 : decode cX11_isMade 28 = .ok (.iload_n 2, 1) := by decide +kernel
theorem dX11_isMade_29 : decode cX11_isMade 29 = .ok (.ifCond .eq 44, 3) := by decide +kernel
theorem dX11_isMade_32 : decode cX11_isMade 32 = .ok (.iload_n 3, 1) := by decide +kernel
theorem dX11_isMade_33 : decode cX11_isMade 33 = .ok (.aload_n 0, 1) := by decide +kernel
theorem dX11_isMade_34 : decode cX11_isMade 34 = .ok (.getfield 153, 3) := by decide +kernel
theorem dX11_isMade_37 : decode cX11_isMade 37 = .ok (.if_icmp .ge 36, 3) := by decide +kernel
theorem dX11_isMade_40 : decode cX11_isMade 40 = .ok (.aload_n 0, 1) := by decide +kernel
theorem dX11_isMade_41 : decode cX11_isMade 41 = .ok (.getfield 20, 3) := by decide +kernel
theorem dX11_isMade_44 : decode cX11_isMade 44 = .ok (.sipush 1400, 3) := by decide +kernel
theorem dX11_isMade_47 : decode cX11_isMade 47 = .ok (.iload_n 1, 1) := by decide +kernel
theorem dX11_isMade_48 : decode cX11_isMade 48 = .ok (.imul, 1) := by decide +kernel
theorem dX11_isMade_49 : decode cX11_isMade 49 = .ok (.iload_n 3, 1) := by decide +kernel
theorem dX11_isMade_50 : decode cX11_isMade 50 = .ok (.iadd, 1) := by decide +kernel
theorem dX11_isMade_51 : decode cX11_isMade 51 = .ok (.baload, 1) := by decide +kernel
theorem dX11_isMade_52 : decode cX11_isMade 52 = .ok (.aload_n 0, 1) := by decide +kernel
theorem dX11_isMade_53 : decode cX11_isMade 53 = .ok (.getfield 31, 3) := by decide +kernel
theorem dX11_isMade_56 : decode cX11_isMade 56 = .ok (.iload_n 3, 1) := by decide +kernel
theorem dX11_isMade_57 : decode cX11_isMade 57 = .ok (.baload, 1) := by decide +kernel
theorem dX11_isMade_58 : decode cX11_isMade 58 = .ok (.if_icmp .ne 7, 3) := by decide +kernel
theorem dX11_isMade_61 : decode cX11_isMade 61 = .ok (.iconst 1, 1) := by decide +kernel
theorem dX11_isMade_62 : decode cX11_isMade 62 = .ok (.goto 4, 3) := by decide +kernel
theorem dX11_isMade_65 : decode cX11_isMade 65 = .ok (.iconst 0, 1) := by decide +kernel
theorem dX11_isMade_66 : decode cX11_isMade 66 = .ok (.istore_n 2, 1) := by decide +kernel
theorem dX11_isMade_67 : decode cX11_isMade 67 = .ok (.iinc 3 1, 3) := by decide +kernel
theorem dX11_isMade_70 : decode cX11_isMade 70 = .ok (.goto (-42), 3) := by decide +kernel
theorem dX11_isMade_73 : decode cX11_isMade 73 = .ok (.iload_n 2, 1) := by decide +kernel
theorem dX11_isMade_74 : decode cX11_isMade 74 = .ok (.ireturn, 1) := by decide +kernel
theorem dX11_bytesOf_0 : decode cX11_bytesOf 0 = .ok (.iload_n 0, 1) := by decide +kernel
theorem dX11_bytesOf_1 : decode cX11_bytesOf 1 = .ok (.iconst 1, 1) := by decide +kernel
theorem dX11_bytesOf_2 : decode cX11_bytesOf 2 = .ok (.ishl, 1) := by decide +kernel
theorem dX11_bytesOf_3 : decode cX11_bytesOf 3 = .ok (.iload_n 0, 1) := by decide +kernel
theorem dX11_bytesOf_4 : decode cX11_bytesOf 4 = .ok (.bipush 31, 2) := by decide +kernel
theorem dX11_bytesOf_6 : decode cX11_bytesOf 6 = .ok (.ishr, 1) := by decide +kernel
theorem dX11_bytesOf_7 : decode cX11_bytesOf 7 = .ok (.ixor, 1) := by decide +kernel
theorem dX11_bytesOf_8 : decode cX11_bytesOf 8 = .ok (.istore_n 1, 1) := by decide +kernel
theorem dX11_bytesOf_9 : decode cX11_bytesOf 9 = .ok (.iconst 1, 1) := by decide +kernel
theorem dX11_bytesOf_10 : decode cX11_bytesOf 10 = .ok (.istore_n 2, 1) := by decide +kernel
theorem dX11_bytesOf_11 : decode cX11_bytesOf 11 = .ok (.iload_n 1, 1) := by decide +kernel
theorem dX11_bytesOf_12 : decode cX11_bytesOf 12 = .ok (.bipush 7, 2) := by decide +kernel
theorem dX11_bytesOf_14 : decode cX11_bytesOf 14 = .ok (.iushr, 1) := by decide +kernel
theorem dX11_bytesOf_15 : decode cX11_bytesOf 15 = .ok (.ifCond .eq 14, 3) := by decide +kernel
theorem dX11_bytesOf_18 : decode cX11_bytesOf 18 = .ok (.iload_n 1, 1) := by decide +kernel
theorem dX11_bytesOf_19 : decode cX11_bytesOf 19 = .ok (.bipush 7, 2) := by decide +kernel
theorem dX11_bytesOf_21 : decode cX11_bytesOf 21 = .ok (.iushr, 1) := by decide +kernel
theorem dX11_bytesOf_22 : decode cX11_bytesOf 22 = .ok (.istore_n 1, 1) := by decide +kernel
theorem dX11_bytesOf_23 : decode cX11_bytesOf 23 = .ok (.iinc 2 1, 3) := by decide +kernel
theorem dX11_bytesOf_26 : decode cX11_bytesOf 26 = .ok (.goto (-15), 3) := by decide +kernel
theorem dX11_bytesOf_29 : decode cX11_bytesOf 29 = .ok (.iload_n 2, 1) := by decide +kernel
theorem dX11_bytesOf_30 : decode cX11_bytesOf 30 = .ok (.ireturn, 1) := by decide +kernel
theorem dX11_varint_0 : decode cX11_varint 0 = .ok (.iload_n 1, 1) := by decide +kernel
theorem dX11_varint_1 : decode cX11_varint 1 = .ok (.iconst 1, 1) := by decide +kernel
theorem dX11_varint_2 : decode cX11_varint 2 = .ok (.ishl, 1) := by decide +kernel
theorem dX11_varint_3 : decode cX11_varint 3 = .ok (.iload_n 1, 1) := by decide +kernel
theorem dX11_varint_4 : decode cX11_varint 4 = .ok (.bipush 31, 2) := by decide +kernel
theorem dX11_varint_6 : decode cX11_varint 6 = .ok (.ishr, 1) := by decide +kernel
theorem dX11_varint_7 : decode cX11_varint 7 = .ok (.ixor, 1) := by decide +kernel
theorem dX11_varint_8 : decode cX11_varint 8 = .ok (.istore_n 2, 1) := by decide +kernel
theorem dX11_varint_9 : decode cX11_varint 9 = .ok (.iload_n 2, 1) := by decide +kernel
theorem dX11_varint_10 : decode cX11_varint 10 = .ok (.bipush 7, 2) := by decide +kernel
theorem dX11_varint_12 : decode cX11_varint 12 = .ok (.iushr, 1) := by decide +kernel
theorem dX11_varint_13 : decode cX11_varint 13 = .ok (.ifCond .eq 25, 3) := by decide +kernel
theorem dX11_varint_16 : decode cX11_varint 16 = .ok (.aload_n 0, 1) := by decide +kernel
theorem dX11_varint_17 : decode cX11_varint 17 = .ok (.iload_n 2, 1) := by decide +kernel
theorem dX11_varint_18 : decode cX11_varint 18 = .ok (.bipush 127, 2) := by decide +kernel
theorem dX11_varint_20 : decode cX11_varint 20 = .ok (.iand, 1) := by decide +kernel
theorem dX11_varint_21 : decode cX11_varint 21 = .ok (.sipush 128, 3) := by decide +kernel
theorem dX11_varint_24 : decode cX11_varint 24 = .ok (.ior, 1) := by decide +kernel
theorem dX11_varint_25 : decode cX11_varint 25 = .ok (.i2l, 1) := by decide +kernel
theorem dX11_varint_26 : decode cX11_varint 26 = .ok (.iconst 1, 1) := by decide +kernel
theorem dX11_varint_27 : decode cX11_varint 27 = .ok (.invokevirtual 161, 3) := by decide +kernel
theorem dX11_varint_30 : decode cX11_varint 30 = .ok (.iload_n 2, 1) := by decide +kernel
theorem dX11_varint_31 : decode cX11_varint 31 = .ok (.bipush 7, 2) := by decide +kernel
theorem dX11_varint_33 : decode cX11_varint 33 = .ok (.iushr, 1) := by decide +kernel
theorem dX11_varint_34 : decode cX11_varint 34 = .ok (.istore_n 2, 1) := by decide +kernel
theorem dX11_varint_35 : decode cX11_varint 35 = .ok (.goto (-26), 3) := by decide +kernel
theorem dX11_varint_38 : decode cX11_varint 38 = .ok (.aload_n 0, 1) := by decide +kernel
theorem dX11_varint_39 : decode cX11_varint 39 = .ok (.iload_n 2, 1) := by decide +kernel
theorem dX11_varint_40 : decode cX11_varint 40 = .ok (.i2l, 1) := by decide +kernel
theorem dX11_varint_41 : decode cX11_varint 41 = .ok (.iconst 1, 1) := by decide +kernel
theorem dX11_varint_42 : decode cX11_varint 42 = .ok (.invokevirtual 161, 3) := by decide +kernel
theorem dX11_varint_45 : decode cX11_varint 45 = .ok (.return_, 1) := by decide +kernel
theorem dX11_makeData_0 : decode cX11_makeData 0 = .ok (.aload_n 0, 1) := by decide +kernel
theorem dX11_makeData_1 : decode cX11_makeData 1 = .ok (.iconst 0, 1) := by decide +kernel
theorem dX11_makeData_2 : decode cX11_makeData 2 = .ok (.putfield 153, 3) := by decide +kernel
theorem dX11_makeData_5 : decode cX11_makeData 5 = .ok (.aload_n 0, 1) := by decide +kernel
theorem dX11_makeData_6 : decode cX11_makeData 6 = .ok (.ldc2_w 191, 3) := by decide +kernel
theorem dX11_makeData_9 : decode cX11_makeData 9 = .ok (.iconst 1, 1) := by decide +kernel
theorem dX11_makeData_10 : decode cX11_makeData 10 = .ok (.invokevirtual 161, 3) := by decide +kernel
theorem dX11_makeData_13 : decode cX11_makeData 13 = .ok (.aload_n 0, 1) := by decide +kernel
theorem dX11_makeData_14 : decode cX11_makeData 14 = .ok (.aload_n 0, 1) := by decide +kernel
theorem dX11_makeData_15 : decode cX11_makeData 15 = .ok (.getfield 193, 3) := by decide +kernel
theorem dX11_makeData_18 : decode cX11_makeData 18 = .ok (.i2l, 1) := by decide +kernel
theorem dX11_makeData_19 : decode cX11_makeData 19 = .ok (.iconst 1, 1) := by decide +kernel
theorem dX11_makeData_20 : decode cX11_makeData 20 = .ok (.invokevirtual 161, 3) := by decide +kernel
theorem dX11_makeData_23 : decode cX11_makeData 23 = .ok (.aload_n 0, 1) := by decide +kernel
theorem dX11_makeData_24 : decode cX11_makeData 24 = .ok (.aload_n 0, 1) := by decide +kernel
theorem dX11_makeData_25 : decode cX11_makeData 25 = .ok (.getfield 196, 3) := by decide +kernel
theorem dX11_makeData_28 : decode cX11_makeData 28 = .ok (.i2l, 1) := by decide +kernel
theorem dX11_makeData_29 : decode cX11_makeData 29 = .ok (.iconst 1, 1) := by decide +kernel
theorem dX11_makeData_30 : decode cX11_makeData 30 = .ok (.invokevirtual 161, 3) := by decide +kernel
theorem dX11_makeData_33 : decode cX11_makeData 33 = .ok (.iconst 0, 1) := by decide +kernel
theorem dX11_makeData_34 : decode cX11_makeData 34 = .ok (.istore_n 1, 1) := by decide +kernel
theorem dX11_makeData_35 : decode cX11_makeData 35 = .ok (.iload_n 1, 1) := by decide +kernel
theorem dX11_makeData_36 : decode cX11_makeData 36 = .ok (.iconst 3, 1) := by decide +kernel
theorem dX11_makeData_37 : decode cX11_makeData 37 = .ok (.if_icmp .ge 14, 3) := by decide +kernel
theorem dX11_makeData_40 : decode cX11_makeData 40 = .ok (.aload_n 0, 1) := by decide +kernel
theorem dX11_makeData_41 : decode cX11_makeData 41 = .ok (.iload_n 1, 1) := by decide +kernel
theorem dX11_makeData_42 : decode cX11_makeData 42 = .ok (.invokevirtual 199, 3) := by decide +kernel
theorem dX11_makeData_45 : decode cX11_makeData 45 = .ok (.iinc 1 1, 3) := by decide +kernel
theorem dX11_makeData_48 : decode cX11_makeData 48 = .ok (.goto (-13), 3) := by decide +kernel
theorem dX11_makeData_51 : decode cX11_makeData 51 = .ok (.aload_n 0, 1) := by decide +kernel
theorem dX11_makeData_52 : decode cX11_makeData 52 = .ok (.invokevirtual 203, 3) := by decide +kernel
theorem dX11_makeData_55 : decode cX11_makeData 55 = .ok (.return_, 1) := by decide +kernel
theorem dX11_makeColumn_0 : decode cX11_makeColumn 0 = .ok (.iconst 0, 1) := by decide +kernel
theorem dX11_makeColumn_1 : decode cX11_makeColumn 1 = .ok (.istore_n 2, 1) := by decide +kernel
theorem dX11_makeColumn_2 : decode cX11_makeColumn 2 = .ok (.iconst 0, 1) := by decide +kernel
theorem dX11_makeColumn_3 : decode cX11_makeColumn 3 = .ok (.istore_n 3, 1) := by decide +kernel
theorem dX11_makeColumn_4 : decode cX11_makeColumn 4 = .ok (.iload_n 3, 1) := by decide +kernel
theorem dX11_makeColumn_5 : decode cX11_makeColumn 5 = .ok (.aload_n 0, 1) := by decide +kernel
theorem dX11_makeColumn_6 : decode cX11_makeColumn 6 = .ok (.getfield 196, 3) := by decide +kernel
theorem dX11_makeColumn_9 : decode cX11_makeColumn 9 = .ok (.if_icmp .ge 46, 3) := by decide +kernel
theorem dX11_makeColumn_12 : decode cX11_makeColumn 12 = .ok (.aload_n 0, 1) := by decide +kernel
theorem dX11_makeColumn_13 : decode cX11_makeColumn 13 = .ok (.getfield 34, 3) := by decide +kernel
theorem dX11_makeColumn_16 : decode cX11_makeColumn 16 = .ok (.iconst 3, 1) := by decide +kernel
theorem dX11_makeColumn_17 : decode cX11_makeColumn 17 = .ok (.iload_n 3, 1) := by decide +kernel
theorem dX11_makeColumn_18 : decode cX11_makeColumn 18 = .ok (.imul, 1) := by decide +kernel
theorem dX11_makeColumn_19 : decode cX11_makeColumn 19 = .ok (.iload_n 1, 1) := by decide +kernel
theorem dX11_makeColumn_20 : decode cX11_makeColumn 20 = .ok (.iadd, 1) := by decide +kernel
theorem dX11_makeColumn_21 : decode cX11_makeColumn 21 = .ok (.iaload, 1) := by decide +kernel
theorem dX11_makeColumn_22 : decode cX11_makeColumn 22 = .ok (.ldc 206, 2) := by decide +kernel
theorem dX11_makeColumn_24 : decode cX11_makeColumn 24 = .ok (.if_icmp .ne 6, 3) := by decide +kernel
theorem dX11_makeColumn_27 : decode cX11_makeColumn 27 = .ok (.goto 22, 3) := by decide +kernel
theorem dX11_makeColumn_30 : decode cX11_makeColumn 30 = .ok (.aload_n 0, 1) := by decide +kernel
theorem dX11_makeColumn_31 : decode cX11_makeColumn 31 = .ok (.getfield 47, 3) := by decide +kernel
theorem dX11_makeColumn_34 : decode cX11_makeColumn 34 = .ok (.iload_n 2, 1) := by decide +kernel
theorem dX11_makeColumn_35 : decode cX11_makeColumn 35 = .ok (.aload_n 0, 1) := by decide +kernel
theorem dX11_makeColumn_36 : decode cX11_makeColumn 36 = .ok (.getfield 34, 3) := by decide +kernel
theorem dX11_makeColumn_39 : decode cX11_makeColumn 39 = .ok (.iconst 3, 1) := by decide +kernel
theorem dX11_makeColumn_40 : decode cX11_makeColumn 40 = .ok (.iload_n 3, 1) := by decide +kernel
theorem dX11_makeColumn_41 : decode cX11_makeColumn 41 = .ok (.imul, 1) := by decide +kernel
theorem dX11_makeColumn_42 : decode cX11_makeColumn 42 = .ok (.iload_n 1, 1) := by decide +kernel
theorem dX11_makeColumn_43 : decode cX11_makeColumn 43 = .ok (.iadd, 1) := by decide +kernel
theorem dX11_makeColumn_44 : decode cX11_makeColumn 44 = .ok (.iaload, 1) := by decide +kernel
theorem dX11_makeColumn_45 : decode cX11_makeColumn 45 = .ok (.iastore, 1) := by decide +kernel
theorem dX11_makeColumn_46 : decode cX11_makeColumn 46 = .ok (.iinc 2 1, 3) := by decide +kernel
theorem dX11_makeColumn_49 : decode cX11_makeColumn 49 = .ok (.iinc 3 1, 3) := by decide +kernel
theorem dX11_makeColumn_52 : decode cX11_makeColumn 52 = .ok (.goto (-48), 3) := by decide +kernel
theorem dX11_makeColumn_55 : decode cX11_makeColumn 55 = .ok (.iconst 0, 1) := by decide +kernel
theorem dX11_makeColumn_56 : decode cX11_makeColumn 56 = .ok (.istore_n 3, 1) := by decide +kernel
theorem dX11_makeColumn_57 : decode cX11_makeColumn 57 = .ok (.iconst 0, 1) := by decide +kernel
theorem dX11_makeColumn_58 : decode cX11_makeColumn 58 = .ok (.istore 4, 2) := by decide +kernel
theorem dX11_makeColumn_60 : decode cX11_makeColumn 60 = .ok (.iconst 0, 1) := by decide +kernel
theorem dX11_makeColumn_61 : decode cX11_makeColumn 61 = .ok (.istore 5, 2) := by decide +kernel
theorem dX11_makeColumn_63 : decode cX11_makeColumn 63 = .ok (.iload 5, 2) := by decide +kernel
theorem dX11_makeColumn_65 : decode cX11_makeColumn 65 = .ok (.iload_n 2, 1) := by decide +kernel
theorem dX11_makeColumn_66 : decode cX11_makeColumn 66 = .ok (.if_icmp .ge 81, 3) := by decide +kernel
theorem dX11_makeColumn_69 : decode cX11_makeColumn 69 = .ok (.iload_n 3, 1) := by decide +kernel
theorem dX11_makeColumn_70 : decode cX11_makeColumn 70 = .ok (.iload 5, 2) := by decide +kernel
theorem dX11_makeColumn_72 : decode cX11_makeColumn 72 = .ok (.ifCond .eq 22, 3) := by decide +kernel
theorem dX11_makeColumn_75 : decode cX11_makeColumn 75 = .ok (.aload_n 0, 1) := by decide +kernel
theorem dX11_makeColumn_76 : decode cX11_makeColumn 76 = .ok (.getfield 47, 3) := by decide +kernel
theorem dX11_makeColumn_79 : decode cX11_makeColumn 79 = .ok (.iload 5, 2) := by decide +kernel
theorem dX11_makeColumn_81 : decode cX11_makeColumn 81 = .ok (.iaload, 1) := by decide +kernel
theorem dX11_makeColumn_82 : decode cX11_makeColumn 82 = .ok (.aload_n 0, 1) := by decide +kernel
theorem dX11_makeColumn_83 : decode cX11_makeColumn 83 = .ok (.getfield 47, 3) := by decide +kernel
theorem dX11_makeColumn_86 : decode cX11_makeColumn 86 = .ok (.iload 5, 2) := by decide +kernel
theorem dX11_makeColumn_88 : decode cX11_makeColumn 88 = .ok (.iconst 1, 1) := by decide +kernel
theorem dX11_makeColumn_89 : decode cX11_makeColumn 89 = .ok (.isub, 1) := by decide +kernel
theorem dX11_makeColumn_90 : decode cX11_makeColumn 90 = .ok (.iaload, 1) := by decide +kernel
theorem dX11_makeColumn_91 : decode cX11_makeColumn 91 = .ok (.if_icmp .eq 7, 3) := by decide +kernel
theorem dX11_makeColumn_94 : decode cX11_makeColumn 94 = .ok (.iconst 1, 1) := by decide +kernel
theorem dX11_makeColumn_95 : decode cX11_makeColumn 95 = .ok (.goto 4, 3) := by decide +kernel
theorem dX11_makeColumn_98 : decode cX11_makeColumn 98 = .ok (.iconst 0, 1) := by decide +kernel
theorem dX11_makeColumn_99 : decode cX11_makeColumn 99 = .ok (.iadd, 1) := by decide +kernel
theorem dX11_makeColumn_100 : decode cX11_makeColumn 100 = .ok (.istore_n 3, 1) := by decide +kernel
theorem dX11_makeColumn_101 : decode cX11_makeColumn 101 = .ok (.iload 4, 2) := by decide +kernel
theorem dX11_makeColumn_103 : decode cX11_makeColumn 103 = .ok (.iload 5, 2) := by decide +kernel
theorem dX11_makeColumn_105 : decode cX11_makeColumn 105 = .ok (.ifCond .ne 13, 3) := by decide +kernel
theorem dX11_makeColumn_108 : decode cX11_makeColumn 108 = .ok (.aload_n 0, 1) := by decide +kernel
theorem dX11_makeColumn_109 : decode cX11_makeColumn 109 = .ok (.getfield 47, 3) := by decide +kernel
theorem dX11_makeColumn_112 : decode cX11_makeColumn 112 = .ok (.iload 5, 2) := by decide +kernel
theorem dX11_makeColumn_114 : decode cX11_makeColumn 114 = .ok (.iaload, 1) := by decide +kernel
theorem dX11_makeColumn_115 : decode cX11_makeColumn 115 = .ok (.goto 20, 3) := by decide +kernel
theorem dX11_makeColumn_118 : decode cX11_makeColumn 118 = .ok (.aload_n 0, 1) := by decide +kernel
theorem dX11_makeColumn_119 : decode cX11_makeColumn 119 = .ok (.getfield 47, 3) := by decide +kernel
theorem dX11_makeColumn_122 : decode cX11_makeColumn 122 = .ok (.iload 5, 2) := by decide +kernel
theorem dX11_makeColumn_124 : decode cX11_makeColumn 124 = .ok (.iaload, 1) := by decide +kernel
theorem dX11_makeColumn_125 : decode cX11_makeColumn 125 = .ok (.aload_n 0, 1) := by decide +kernel
theorem dX11_makeColumn_126 : decode cX11_makeColumn 126 = .ok (.getfield 47, 3) := by decide +kernel
theorem dX11_makeColumn_129 : decode cX11_makeColumn 129 = .ok (.iload 5, 2) := by decide +kernel
theorem dX11_makeColumn_131 : decode cX11_makeColumn 131 = .ok (.iconst 1, 1) := by decide +kernel
theorem dX11_makeColumn_132 : decode cX11_makeColumn 132 = .ok (.isub, 1) := by decide +kernel
theorem dX11_makeColumn_133 : decode cX11_makeColumn 133 = .ok (.iaload, 1) := by decide +kernel
theorem dX11_makeColumn_134 : decode cX11_makeColumn 134 = .ok (.isub, 1) := by decide +kernel
theorem dX11_makeColumn_135 : decode cX11_makeColumn 135 = .ok (.invokestatic 207, 3) := by decide +kernel
theorem dX11_makeColumn_138 : decode cX11_makeColumn 138 = .ok (.iadd, 1) := by decide +kernel
theorem dX11_makeColumn_139 : decode cX11_makeColumn 139 = .ok (.istore 4, 2) := by decide +kernel
theorem dX11_makeColumn_141 : decode cX11_makeColumn 141 = .ok (.iinc 5 1, 3) := by decide +kernel
theorem dX11_makeColumn_144 : decode cX11_makeColumn 144 = .ok (.goto (-81), 3) := by decide +kernel
theorem dX11_makeColumn_147 : decode cX11_makeColumn 147 = .ok (.iconst 5, 1) := by decide +kernel
theorem dX11_makeColumn_148 : decode cX11_makeColumn 148 = .ok (.iload_n 3, 1) := by decide +kernel
theorem dX11_makeColumn_149 : decode cX11_makeColumn 149 = .ok (.imul, 1) := by decide +kernel
theorem dX11_makeColumn_150 : decode cX11_makeColumn 150 = .ok (.iconst 4, 1) := by decide +kernel
theorem dX11_makeColumn_151 : decode cX11_makeColumn 151 = .ok (.iload_n 2, 1) := by decide +kernel
theorem dX11_makeColumn_152 : decode cX11_makeColumn 152 = .ok (.imul, 1) := by decide +kernel
theorem dX11_makeColumn_153 : decode cX11_makeColumn 153 = .ok (.if_icmp .ge 7, 3) := by decide +kernel
theorem dX11_makeColumn_156 : decode cX11_makeColumn 156 = .ok (.iconst 1, 1) := by decide +kernel
theorem dX11_makeColumn_157 : decode cX11_makeColumn 157 = .ok (.goto 4, 3) := by decide +kernel
theorem dX11_makeColumn_160 : decode cX11_makeColumn 160 = .ok (.iconst 0, 1) := by decide +kernel
theorem dX11_makeColumn_161 : decode cX11_makeColumn 161 = .ok (.istore 5, 2) := by decide +kernel
theorem dX11_makeColumn_163 : decode cX11_makeColumn 163 = .ok (.iload 4, 2) := by decide +kernel
theorem dX11_makeColumn_165 : decode cX11_makeColumn 165 = .ok (.iload 5, 2) := by decide +kernel
theorem dX11_makeColumn_167 : decode cX11_makeColumn 167 = .ok (.iconst 1, 1) := by decide +kernel
theorem dX11_makeColumn_168 : decode cX11_makeColumn 168 = .ok (.if_icmp .ne 9, 3) := by decide +kernel
theorem dX11_makeColumn_171 : decode cX11_makeColumn 171 = .ok (.iconst 5, 1) := by decide +kernel
theorem dX11_makeColumn_172 : decode cX11_makeColumn 172 = .ok (.iload_n 3, 1) := by decide +kernel
theorem dX11_makeColumn_173 : decode cX11_makeColumn 173 = .ok (.imul, 1) := by decide +kernel
theorem dX11_makeColumn_174 : decode cX11_makeColumn 174 = .ok (.goto 6, 3) := by decide +kernel
theorem dX11_makeColumn_177 : decode cX11_makeColumn 177 = .ok (.iconst 4, 1) := by decide +kernel
theorem dX11_makeColumn_178 : decode cX11_makeColumn 178 = .ok (.iload_n 2, 1) := by decide +kernel
theorem dX11_makeColumn_179 : decode cX11_makeColumn 179 = .ok (.imul, 1) := by decide +kernel
theorem dX11_makeColumn_180 : decode cX11_makeColumn 180 = .ok (.if_icmp .ge 6, 3) := by decide +kernel
theorem dX11_makeColumn_183 : decode cX11_makeColumn 183 = .ok (.iconst 2, 1) := by decide +kernel
theorem dX11_makeColumn_184 : decode cX11_makeColumn 184 = .ok (.istore 5, 2) := by decide +kernel
theorem dX11_makeColumn_186 : decode cX11_makeColumn 186 = .ok (.aload_n 0, 1) := by decide +kernel
theorem dX11_makeColumn_187 : decode cX11_makeColumn 187 = .ok (.iload 5, 2) := by decide +kernel
theorem dX11_makeColumn_189 : decode cX11_makeColumn 189 = .ok (.i2l, 1) := by decide +kernel
theorem dX11_makeColumn_190 : decode cX11_makeColumn 190 = .ok (.iconst 1, 1) := by decide +kernel
theorem dX11_makeColumn_191 : decode cX11_makeColumn 191 = .ok (.invokevirtual 161, 3) := by decide +kernel
theorem dX11_makeColumn_194 : decode cX11_makeColumn 194 = .ok (.iconst 0, 1) := by decide +kernel
theorem dX11_makeColumn_195 : decode cX11_makeColumn 195 = .ok (.istore 6, 2) := by decide +kernel
theorem dX11_makeColumn_197 : decode cX11_makeColumn 197 = .ok (.iload 6, 2) := by decide +kernel
theorem dX11_makeColumn_199 : decode cX11_makeColumn 199 = .ok (.aload_n 0, 1) := by decide +kernel
theorem dX11_makeColumn_200 : decode cX11_makeColumn 200 = .ok (.getfield 196, 3) := by decide +kernel
theorem dX11_makeColumn_203 : decode cX11_makeColumn 203 = .ok (.if_icmp .ge 79, 3) := by decide +kernel
theorem dX11_makeColumn_206 : decode cX11_makeColumn 206 = .ok (.iconst 0, 1) := by decide +kernel
theorem dX11_makeColumn_207 : decode cX11_makeColumn 207 = .ok (.istore 7, 2) := by decide +kernel
theorem dX11_makeColumn_209 : decode cX11_makeColumn 209 = .ok (.iconst 0, 1) := by decide +kernel
theorem dX11_makeColumn_210 : decode cX11_makeColumn 210 = .ok (.istore 8, 2) := by decide +kernel
theorem dX11_makeColumn_212 : decode cX11_makeColumn 212 = .ok (.iload 8, 2) := by decide +kernel
theorem dX11_makeColumn_214 : decode cX11_makeColumn 214 = .ok (.bipush 8, 2) := by decide +kernel
theorem dX11_makeColumn_216 : decode cX11_makeColumn 216 = .ok (.if_icmp .ge 52, 3) := by decide +kernel
theorem dX11_makeColumn_219 : decode cX11_makeColumn 219 = .ok (.iconst 2, 1) := by decide +kernel
theorem dX11_makeColumn_220 : decode cX11_makeColumn 220 = .ok (.iload 7, 2) := by decide +kernel
theorem dX11_makeColumn_222 : decode cX11_makeColumn 222 = .ok (.imul, 1) := by decide +kernel
theorem dX11_makeColumn_223 : decode cX11_makeColumn 223 = .ok (.iload 6, 2) := by decide +kernel
theorem dX11_makeColumn_225 : decode cX11_makeColumn 225 = .ok (.iload 8, 2) := by decide +kernel
theorem dX11_makeColumn_227 : decode cX11_makeColumn 227 = .ok (.iadd, 1) := by decide +kernel
theorem dX11_makeColumn_228 : decode cX11_makeColumn 228 = .ok (.aload_n 0, 1) := by decide +kernel
theorem dX11_makeColumn_229 : decode cX11_makeColumn 229 = .ok (.getfield 196, 3) := by decide +kernel
theorem dX11_makeColumn_232 : decode cX11_makeColumn 232 = .ok (.if_icmp .ge 26, 3) := by decide +kernel
theorem dX11_makeColumn_235 : decode cX11_makeColumn 235 = .ok (.aload_n 0, 1) := by decide +kernel
theorem dX11_makeColumn_236 : decode cX11_makeColumn 236 = .ok (.getfield 34, 3) := by decide +kernel
theorem dX11_makeColumn_239 : decode cX11_makeColumn 239 = .ok (.iconst 3, 1) := by decide +kernel
theorem dX11_makeColumn_240 : decode cX11_makeColumn 240 = .ok (.iload 6, 2) := by decide +kernel
theorem dX11_makeColumn_242 : decode cX11_makeColumn 242 = .ok (.iload 8, 2) := by decide +kernel
theorem dX11_makeColumn_244 : decode cX11_makeColumn 244 = .ok (.iadd, 1) := by decide +kernel
theorem dX11_makeColumn_245 : decode cX11_makeColumn 245 = .ok (.imul, 1) := by decide +kernel
theorem dX11_makeColumn_246 : decode cX11_makeColumn 246 = .ok (.iload_n 1, 1) := by decide +kernel
theorem dX11_makeColumn_247 : decode cX11_makeColumn 247 = .ok (.iadd, 1) := by decide +kernel
theorem dX11_makeColumn_248 : decode cX11_makeColumn 248 = .ok (.iaload, 1) := by decide +kernel
theorem dX11_makeColumn_249 : decode cX11_makeColumn 249 = .ok (.ldc 206, 2) := by decide +kernel
theorem dX11_makeColumn_251 : decode cX11_makeColumn 251 = .ok (.if_icmp .ne 7, 3) := by decide +kernel
theorem dX11_makeColumn_254 : decode cX11_makeColumn 254 = .ok (.iconst 1, 1) := by decide +kernel
theorem dX11_makeColumn_255 : decode cX11_makeColumn 255 = .ok (.goto 4, 3) := by decide +kernel
theorem dX11_makeColumn_258 : decode cX11_makeColumn 258 = .ok (.iconst 0, 1) := by decide +kernel
theorem dX11_makeColumn_259 : decode cX11_makeColumn 259 = .ok (.iadd, 1) := by decide +kernel
theorem dX11_makeColumn_260 : decode cX11_makeColumn 260 = .ok (.istore 7, 2) := by decide +kernel
theorem dX11_makeColumn_262 : decode cX11_makeColumn 262 = .ok (.iinc 8 1, 3) := by decide +kernel
theorem dX11_makeColumn_265 : decode cX11_makeColumn 265 = .ok (.goto (-53), 3) := by decide +kernel
theorem dX11_makeColumn_268 : decode cX11_makeColumn 268 = .ok (.aload_n 0, 1) := by decide +kernel
theorem dX11_makeColumn_269 : decode cX11_makeColumn 269 = .ok (.iload 7, 2) := by decide +kernel
theorem dX11_makeColumn_271 : decode cX11_makeColumn 271 = .ok (.i2l, 1) := by decide +kernel
theorem dX11_makeColumn_272 : decode cX11_makeColumn 272 = .ok (.iconst 1, 1) := by decide +kernel
theorem dX11_makeColumn_273 : decode cX11_makeColumn 273 = .ok (.invokevirtual 161, 3) := by decide +kernel
theorem dX11_makeColumn_276 : decode cX11_makeColumn 276 = .ok (.iinc 6 8, 3) := by decide +kernel
theorem dX11_makeColumn_279 : decode cX11_makeColumn 279 = .ok (.goto (-82), 3) := by decide +kernel
theorem dX11_makeColumn_282 : decode cX11_makeColumn 282 = .ok (.iconst 0, 1) := by decide +kernel
theorem dX11_makeColumn_283 : decode cX11_makeColumn 283 = .ok (.istore 6, 2) := by decide +kernel
theorem dX11_makeColumn_285 : decode cX11_makeColumn 285 = .ok (.iload 6, 2) := by decide +kernel
theorem dX11_makeColumn_287 : decode cX11_makeColumn 287 = .ok (.iload_n 2, 1) := by decide +kernel
theorem dX11_makeColumn_288 : decode cX11_makeColumn 288 = .ok (.if_icmp .ge 158, 3) := by decide +kernel
theorem dX11_makeColumn_291 : decode cX11_makeColumn 291 = .ok (.iload 5, 2) := by decide +kernel
theorem dX11_makeColumn_293 : decode cX11_makeColumn 293 = .ok (.ifCond .ne 19, 3) := by decide +kernel
theorem dX11_makeColumn_296 : decode cX11_makeColumn 296 = .ok (.aload_n 0, 1) := by decide +kernel
theorem dX11_makeColumn_297 : decode cX11_makeColumn 297 = .ok (.aload_n 0, 1) := by decide +kernel
theorem dX11_makeColumn_298 : decode cX11_makeColumn 298 = .ok (.getfield 47, 3) := by decide +kernel
theorem dX11_makeColumn_301 : decode cX11_makeColumn 301 = .ok (.iload 6, 2) := by decide +kernel
theorem dX11_makeColumn_303 : decode cX11_makeColumn 303 = .ok (.iaload, 1) := by decide +kernel
theorem dX11_makeColumn_304 : decode cX11_makeColumn 304 = .ok (.i2l, 1) := by decide +kernel
theorem dX11_makeColumn_305 : decode cX11_makeColumn 305 = .ok (.iconst 4, 1) := by decide +kernel
theorem dX11_makeColumn_306 : decode cX11_makeColumn 306 = .ok (.invokevirtual 161, 3) := by decide +kernel
theorem dX11_makeColumn_309 : decode cX11_makeColumn 309 = .ok (.goto 131, 3) := by decide +kernel
theorem dX11_makeColumn_312 : decode cX11_makeColumn 312 = .ok (.iload 5, 2) := by decide +kernel
theorem dX11_makeColumn_314 : decode cX11_makeColumn 314 = .ok (.iconst 2, 1) := by decide +kernel
theorem dX11_makeColumn_315 : decode cX11_makeColumn 315 = .ok (.if_icmp .ne 42, 3) := by decide +kernel
theorem dX11_makeColumn_318 : decode cX11_makeColumn 318 = .ok (.aload_n 0, 1) := by decide +kernel
theorem dX11_makeColumn_319 : decode cX11_makeColumn 319 = .ok (.iload 6, 2) := by decide +kernel
theorem dX11_makeColumn_321 : decode cX11_makeColumn 321 = .ok (.ifCond .ne 13, 3) := by decide +kernel
theorem dX11_makeColumn_324 : decode cX11_makeColumn 324 = .ok (.aload_n 0, 1) := by decide +kernel
theorem dX11_makeColumn_325 : decode cX11_makeColumn 325 = .ok (.getfield 47, 3) := by decide +kernel
theorem dX11_makeColumn_328 : decode cX11_makeColumn 328 = .ok (.iload 6, 2) := by decide +kernel
theorem dX11_makeColumn_330 : decode cX11_makeColumn 330 = .ok (.iaload, 1) := by decide +kernel
theorem dX11_makeColumn_331 : decode cX11_makeColumn 331 = .ok (.goto 20, 3) := by decide +kernel
theorem dX11_makeColumn_334 : decode cX11_makeColumn 334 = .ok (.aload_n 0, 1) := by decide +kernel
theorem dX11_makeColumn_335 : decode cX11_makeColumn 335 = .ok (.getfield 47, 3) := by decide +kernel
theorem dX11_makeColumn_338 : decode cX11_makeColumn 338 = .ok (.iload 6, 2) := by decide +kernel
theorem dX11_makeColumn_340 : decode cX11_makeColumn 340 = .ok (.iaload, 1) := by decide +kernel
theorem dX11_makeColumn_341 : decode cX11_makeColumn 341 = .ok (.aload_n 0, 1) := by decide +kernel
theorem dX11_makeColumn_342 : decode cX11_makeColumn 342 = .ok (.getfield 47, 3) := by decide +kernel
theorem dX11_makeColumn_345 : decode cX11_makeColumn 345 = .ok (.iload 6, 2) := by decide +kernel
theorem dX11_makeColumn_347 : decode cX11_makeColumn 347 = .ok (.iconst 1, 1) := by decide +kernel
theorem dX11_makeColumn_348 : decode cX11_makeColumn 348 = .ok (.isub, 1) := by decide +kernel
theorem dX11_makeColumn_349 : decode cX11_makeColumn 349 = .ok (.iaload, 1) := by decide +kernel
theorem dX11_makeColumn_350 : decode cX11_makeColumn 350 = .ok (.isub, 1) := by decide +kernel
theorem dX11_makeColumn_351 : decode cX11_makeColumn 351 = .ok (.invokevirtual 210, 3) := by decide +kernel
theorem dX11_makeColumn_354 : decode cX11_makeColumn 354 = .ok (.goto 86, 3) := by decide +kernel
theorem dX11_makeColumn_357 : decode cX11_makeColumn 357 = .ok (.iload 6, 2) := by decide +kernel
theorem dX11_makeColumn_359 : decode cX11_makeColumn 359 = .ok (.ifCond .eq 22, 3) := by decide +kernel
theorem dX11_makeColumn_362 : decode cX11_makeColumn 362 = .ok (.aload_n 0, 1) := by decide +kernel
theorem dX11_makeColumn_363 : decode cX11_makeColumn 363 = .ok (.getfield 47, 3) := by decide +kernel
theorem dX11_makeColumn_366 : decode cX11_makeColumn 366 = .ok (.iload 6, 2) := by decide +kernel
theorem dX11_makeColumn_368 : decode cX11_makeColumn 368 = .ok (.iaload, 1) := by decide +kernel
theorem dX11_makeColumn_369 : decode cX11_makeColumn 369 = .ok (.aload_n 0, 1) := by decide +kernel
theorem dX11_makeColumn_370 : decode cX11_makeColumn 370 = .ok (.getfield 47, 3) := by decide +kernel
theorem dX11_makeColumn_373 : decode cX11_makeColumn 373 = .ok (.iload 6, 2) := by decide +kernel
theorem dX11_makeColumn_375 : decode cX11_makeColumn 375 = .ok (.iconst 1, 1) := by decide +kernel
theorem dX11_makeColumn_376 : decode cX11_makeColumn 376 = .ok (.isub, 1) := by decide +kernel
theorem dX11_makeColumn_377 : decode cX11_makeColumn 377 = .ok (.iaload, 1) := by decide +kernel
theorem dX11_makeColumn_378 : decode cX11_makeColumn 378 = .ok (.if_icmp .eq 62, 3) := by decide +kernel
theorem dX11_makeColumn_381 : decode cX11_makeColumn 381 = .ok (.iconst 1, 1) := by decide +kernel
theorem dX11_makeColumn_382 : decode cX11_makeColumn 382 = .ok (.istore 7, 2) := by decide +kernel
theorem dX11_makeColumn_384 : decode cX11_makeColumn 384 = .ok (.iload 6, 2) := by decide +kernel
theorem dX11_makeColumn_386 : decode cX11_makeColumn 386 = .ok (.iload 7, 2) := by decide +kernel
theorem dX11_makeColumn_388 : decode cX11_makeColumn 388 = .ok (.iadd, 1) := by decide +kernel
theorem dX11_makeColumn_389 : decode cX11_makeColumn 389 = .ok (.iload_n 2, 1) := by decide +kernel
theorem dX11_makeColumn_390 : decode cX11_makeColumn 390 = .ok (.if_icmp .ge 29, 3) := by decide +kernel
theorem dX11_makeColumn_393 : decode cX11_makeColumn 393 = .ok (.aload_n 0, 1) := by decide +kernel
theorem dX11_makeColumn_394 : decode cX11_makeColumn 394 = .ok (.getfield 47, 3) := by decide +kernel
theorem dX11_makeColumn_397 : decode cX11_makeColumn 397 = .ok (.iload 6, 2) := by decide +kernel
theorem dX11_makeColumn_399 : decode cX11_makeColumn 399 = .ok (.iload 7, 2) := by decide +kernel
theorem dX11_makeColumn_401 : decode cX11_makeColumn 401 = .ok (.iadd, 1) := by decide +kernel
theorem dX11_makeColumn_402 : decode cX11_makeColumn 402 = .ok (.iaload, 1) := by decide +kernel
theorem dX11_makeColumn_403 : decode cX11_makeColumn 403 = .ok (.aload_n 0, 1) := by decide +kernel
theorem dX11_makeColumn_404 : decode cX11_makeColumn 404 = .ok (.getfield 47, 3) := by decide +kernel
theorem dX11_makeColumn_407 : decode cX11_makeColumn 407 = .ok (.iload 6, 2) := by decide +kernel
theorem dX11_makeColumn_409 : decode cX11_makeColumn 409 = .ok (.iaload, 1) := by decide +kernel
theorem dX11_makeColumn_410 : decode cX11_makeColumn 410 = .ok (.if_icmp .ne 9, 3) := by decide +kernel
theorem dX11_makeColumn_413 : decode cX11_makeColumn 413 = .ok (.iinc 7 1, 3) := by decide +kernel
theorem dX11_makeColumn_416 : decode cX11_makeColumn 416 = .ok (.goto (-32), 3) := by decide +kernel
theorem dX11_makeColumn_419 : decode cX11_makeColumn 419 = .ok (.aload_n 0, 1) := by decide +kernel
theorem dX11_makeColumn_420 : decode cX11_makeColumn 420 = .ok (.iload 7, 2) := by decide +kernel
theorem dX11_makeColumn_422 : decode cX11_makeColumn 422 = .ok (.i2l, 1) := by decide +kernel
theorem dX11_makeColumn_423 : decode cX11_makeColumn 423 = .ok (.iconst 1, 1) := by decide +kernel
theorem dX11_makeColumn_424 : decode cX11_makeColumn 424 = .ok (.invokevirtual 161, 3) := by decide +kernel
theorem dX11_makeColumn_427 : decode cX11_makeColumn 427 = .ok (.aload_n 0, 1) := by decide +kernel
theorem dX11_makeColumn_428 : decode cX11_makeColumn 428 = .ok (.aload_n 0, 1) := by decide +kernel
theorem dX11_makeColumn_429 : decode cX11_makeColumn 429 = .ok (.getfield 47, 3) := by decide +kernel
theorem dX11_makeColumn_432 : decode cX11_makeColumn 432 = .ok (.iload 6, 2) := by decide +kernel
theorem dX11_makeColumn_434 : decode cX11_makeColumn 434 = .ok (.iaload, 1) := by decide +kernel
theorem dX11_makeColumn_435 : decode cX11_makeColumn 435 = .ok (.i2l, 1) := by decide +kernel
theorem dX11_makeColumn_436 : decode cX11_makeColumn 436 = .ok (.iconst 4, 1) := by decide +kernel
theorem dX11_makeColumn_437 : decode cX11_makeColumn 437 = .ok (.invokevirtual 161, 3) := by decide +kernel
theorem dX11_makeColumn_440 : decode cX11_makeColumn 440 = .ok (.iinc 6 1, 3) := by decide +kernel
theorem dX11_makeColumn_443 : decode cX11_makeColumn 443 = .ok (.goto (-158), 3) := by decide +kernel
theorem dX11_makeColumn_446 : decode cX11_makeColumn 446 = .ok (.aload_n 0, 1) := by decide +kernel
theorem dX11_makeColumn_447 : decode cX11_makeColumn 447 = .ok (.getfield 37, 3) := by decide +kernel
theorem dX11_makeColumn_450 : decode cX11_makeColumn 450 = .ok (.iload_n 1, 1) := by decide +kernel
theorem dX11_makeColumn_451 : decode cX11_makeColumn 451 = .ok (.iload_n 2, 1) := by decide +kernel
theorem dX11_makeColumn_452 : decode cX11_makeColumn 452 = .ok (.ifCond .le 7, 3) := by decide +kernel
theorem dX11_makeColumn_455 : decode cX11_makeColumn 455 = .ok (.iconst 1, 1) := by decide +kernel
theorem dX11_makeColumn_456 : decode cX11_makeColumn 456 = .ok (.goto 4, 3) := by decide +kernel
theorem dX11_makeColumn_459 : decode cX11_makeColumn 459 = .ok (.iconst 0, 1) := by decide +kernel
theorem dX11_makeColumn_460 : decode cX11_makeColumn 460 = .ok (.bastore, 1) := by decide +kernel
theorem dX11_makeColumn_461 : decode cX11_makeColumn 461 = .ok (.aload_n 0, 1) := by decide +kernel
theorem dX11_makeColumn_462 : decode cX11_makeColumn 462 = .ok (.getfield 41, 3) := by decide +kernel
theorem dX11_makeColumn_465 : decode cX11_makeColumn 465 = .ok (.iload_n 1, 1) := by decide +kernel
theorem dX11_makeColumn_466 : decode cX11_makeColumn 466 = .ok (.iload_n 2, 1) := by decide +kernel
theorem dX11_makeColumn_467 : decode cX11_makeColumn 467 = .ok (.ifCond .le 12, 3) := by decide +kernel
theorem dX11_makeColumn_470 : decode cX11_makeColumn 470 = .ok (.aload_n 0, 1) := by decide +kernel
theorem dX11_makeColumn_471 : decode cX11_makeColumn 471 = .ok (.getfield 47, 3) := by decide +kernel
theorem dX11_makeColumn_474 : decode cX11_makeColumn 474 = .ok (.iconst 0, 1) := by decide +kernel
theorem dX11_makeColumn_475 : decode cX11_makeColumn 475 = .ok (.iaload, 1) := by decide +kernel
theorem dX11_makeColumn_476 : decode cX11_makeColumn 476 = .ok (.goto 4, 3) := by decide +kernel
theorem dX11_makeColumn_479 : decode cX11_makeColumn 479 = .ok (.iconst 0, 1) := by decide +kernel
theorem dX11_makeColumn_480 : decode cX11_makeColumn 480 = .ok (.iastore, 1) := by decide +kernel
theorem dX11_makeColumn_481 : decode cX11_makeColumn 481 = .ok (.aload_n 0, 1) := by decide +kernel
theorem dX11_makeColumn_482 : decode cX11_makeColumn 482 = .ok (.getfield 44, 3) := by decide +kernel
theorem dX11_makeColumn_485 : decode cX11_makeColumn 485 = .ok (.iload_n 1, 1) := by decide +kernel
theorem dX11_makeColumn_486 : decode cX11_makeColumn 486 = .ok (.aload_n 0, 1) := by decide +kernel
theorem dX11_makeColumn_487 : decode cX11_makeColumn 487 = .ok (.getfield 41, 3) := by decide +kernel
theorem dX11_makeColumn_490 : decode cX11_makeColumn 490 = .ok (.iload_n 1, 1) := by decide +kernel
theorem dX11_makeColumn_491 : decode cX11_makeColumn 491 = .ok (.iaload, 1) := by decide +kernel
theorem dX11_makeColumn_492 : decode cX11_makeColumn 492 = .ok (.iastore, 1) := by decide +kernel
theorem dX11_makeColumn_493 : decode cX11_makeColumn 493 = .ok (.iconst 1, 1) := by decide +kernel
theorem dX11_makeColumn_494 : decode cX11_makeColumn 494 = .ok (.istore 6, 2) := by decide +kernel
theorem dX11_makeColumn_496 : decode cX11_makeColumn 496 = .ok (.iload 6, 2) := by decide +kernel
theorem dX11_makeColumn_498 : decode cX11_makeColumn 498 = .ok (.iload_n 2, 1) := by decide +kernel
theorem dX11_makeColumn_499 : decode cX11_makeColumn 499 = .ok (.if_icmp .ge 85, 3) := by decide +kernel
theorem dX11_makeColumn_502 : decode cX11_makeColumn 502 = .ok (.aload_n 0, 1) := by decide +kernel
theorem dX11_makeColumn_503 : decode cX11_makeColumn 503 = .ok (.getfield 41, 3) := by decide +kernel
theorem dX11_makeColumn_506 : decode cX11_makeColumn 506 = .ok (.iload_n 1, 1) := by decide +kernel
theorem dX11_makeColumn_507 : decode cX11_makeColumn 507 = .ok (.aload_n 0, 1) := by decide +kernel
theorem dX11_makeColumn_508 : decode cX11_makeColumn 508 = .ok (.getfield 47, 3) := by decide +kernel
theorem dX11_makeColumn_511 : decode cX11_makeColumn 511 = .ok (.iload 6, 2) := by decide +kernel
theorem dX11_makeColumn_513 : decode cX11_makeColumn 513 = .ok (.iaload, 1) := by decide +kernel
theorem dX11_makeColumn_514 : decode cX11_makeColumn 514 = .ok (.aload_n 0, 1) := by decide +kernel
theorem dX11_makeColumn_515 : decode cX11_makeColumn 515 = .ok (.getfield 41, 3) := by decide +kernel
theorem dX11_makeColumn_518 : decode cX11_makeColumn 518 = .ok (.iload_n 1, 1) := by decide +kernel
theorem dX11_makeColumn_519 : decode cX11_makeColumn 519 = .ok (.iaload, 1) := by decide +kernel
theorem dX11_makeColumn_520 : decode cX11_makeColumn 520 = .ok (.if_icmp .ge 13, 3) := by decide +kernel
theorem dX11_makeColumn_523 : decode cX11_makeColumn 523 = .ok (.aload_n 0, 1) := by decide +kernel
theorem dX11_makeColumn_524 : decode cX11_makeColumn 524 = .ok (.getfield 47, 3) := by decide +kernel
theorem dX11_makeColumn_527 : decode cX11_makeColumn 527 = .ok (.iload 6, 2) := by decide +kernel
theorem dX11_makeColumn_529 : decode cX11_makeColumn 529 = .ok (.iaload, 1) := by decide +kernel
theorem dX11_makeColumn_530 : decode cX11_makeColumn 530 = .ok (.goto 9, 3) := by decide +kernel
theorem dX11_makeColumn_533 : decode cX11_makeColumn 533 = .ok (.aload_n 0, 1) := by decide +kernel
theorem dX11_makeColumn_534 : decode cX11_makeColumn 534 = .ok (.getfield 41, 3) := by decide +kernel
theorem dX11_makeColumn_537 : decode cX11_makeColumn 537 = .ok (.iload_n 1, 1) := by decide +kernel
theorem dX11_makeColumn_538 : decode cX11_makeColumn 538 = .ok (.iaload, 1) := by decide +kernel
theorem dX11_makeColumn_539 : decode cX11_makeColumn 539 = .ok (.iastore, 1) := by decide +kernel
theorem dX11_makeColumn_540 : decode cX11_makeColumn 540 = .ok (.aload_n 0, 1) := by decide +kernel
theorem dX11_makeColumn_541 : decode cX11_makeColumn 541 = .ok (.getfield 44, 3) := by decide +kernel
theorem dX11_makeColumn_544 : decode cX11_makeColumn 544 = .ok (.iload_n 1, 1) := by decide +kernel
theorem dX11_makeColumn_545 : decode cX11_makeColumn 545 = .ok (.aload_n 0, 1) := by decide +kernel
theorem dX11_makeColumn_546 : decode cX11_makeColumn 546 = .ok (.getfield 47, 3) := by decide +kernel
theorem dX11_makeColumn_549 : decode cX11_makeColumn 549 = .ok (.iload 6, 2) := by decide +kernel
theorem dX11_makeColumn_551 : decode cX11_makeColumn 551 = .ok (.iaload, 1) := by decide +kernel
theorem dX11_makeColumn_552 : decode cX11_makeColumn 552 = .ok (.aload_n 0, 1) := by decide +kernel
theorem dX11_makeColumn_553 : decode cX11_makeColumn 553 = .ok (.getfield 44, 3) := by decide +kernel
theorem dX11_makeColumn_556 : decode cX11_makeColumn 556 = .ok (.iload_n 1, 1) := by decide +kernel
theorem dX11_makeColumn_557 : decode cX11_makeColumn 557 = .ok (.iaload, 1) := by decide +kernel
theorem dX11_makeColumn_558 : decode cX11_makeColumn 558 = .ok (.if_icmp .le 13, 3) := by decide +kernel
theorem dX11_makeColumn_561 : decode cX11_makeColumn 561 = .ok (.aload_n 0, 1) := by decide +kernel
theorem dX11_makeColumn_562 : decode cX11_makeColumn 562 = .ok (.getfield 47, 3) := by decide +kernel
theorem dX11_makeColumn_565 : decode cX11_makeColumn 565 = .ok (.iload 6, 2) := by decide +kernel
theorem dX11_makeColumn_567 : decode cX11_makeColumn 567 = .ok (.iaload, 1) := by decide +kernel
theorem dX11_makeColumn_568 : decode cX11_makeColumn 568 = .ok (.goto 9, 3) := by decide +kernel
theorem dX11_makeColumn_571 : decode cX11_makeColumn 571 = .ok (.aload_n 0, 1) := by decide +kernel
theorem dX11_makeColumn_572 : decode cX11_makeColumn 572 = .ok (.getfield 44, 3) := by decide +kernel
theorem dX11_makeColumn_575 : decode cX11_makeColumn 575 = .ok (.iload_n 1, 1) := by decide +kernel
theorem dX11_makeColumn_576 : decode cX11_makeColumn 576 = .ok (.iaload, 1) := by decide +kernel
theorem dX11_makeColumn_577 : decode cX11_makeColumn 577 = .ok (.iastore, 1) := by decide +kernel
theorem dX11_makeColumn_578 : decode cX11_makeColumn 578 = .ok (.iinc 6 1, 3) := by decide +kernel
theorem dX11_makeColumn_581 : decode cX11_makeColumn 581 = .ok (.goto (-85), 3) := by decide +kernel
theorem dX11_makeColumn_584 : decode cX11_makeColumn 584 = .ok (.aload_n 0, 1) := by decide +kernel
theorem dX11_makeColumn_585 : decode cX11_makeColumn 585 = .ok (.aload_n 0, 1) := by decide +kernel
theorem dX11_makeColumn_586 : decode cX11_makeColumn 586 = .ok (.getfield 41, 3) := by decide +kernel
theorem dX11_makeColumn_589 : decode cX11_makeColumn 589 = .ok (.iload_n 1, 1) := by decide +kernel
theorem dX11_makeColumn_590 : decode cX11_makeColumn 590 = .ok (.iaload, 1) := by decide +kernel
theorem dX11_makeColumn_591 : decode cX11_makeColumn 591 = .ok (.i2l, 1) := by decide +kernel
theorem dX11_makeColumn_592 : decode cX11_makeColumn 592 = .ok (.iconst 4, 1) := by decide +kernel
theorem dX11_makeColumn_593 : decode cX11_makeColumn 593 = .ok (.invokevirtual 161, 3) := by decide +kernel
theorem dX11_makeColumn_596 : decode cX11_makeColumn 596 = .ok (.aload_n 0, 1) := by decide +kernel
theorem dX11_makeColumn_597 : decode cX11_makeColumn 597 = .ok (.aload_n 0, 1) := by decide +kernel
theorem dX11_makeColumn_598 : decode cX11_makeColumn 598 = .ok (.getfield 44, 3) := by decide +kernel
theorem dX11_makeColumn_601 : decode cX11_makeColumn 601 = .ok (.iload_n 1, 1) := by decide +kernel
theorem dX11_makeColumn_602 : decode cX11_makeColumn 602 = .ok (.iaload, 1) := by decide +kernel
theorem dX11_makeColumn_603 : decode cX11_makeColumn 603 = .ok (.i2l, 1) := by decide +kernel
theorem dX11_makeColumn_604 : decode cX11_makeColumn 604 = .ok (.iconst 4, 1) := by decide +kernel
theorem dX11_makeColumn_605 : decode cX11_makeColumn 605 = .ok (.invokevirtual 161, 3) := by decide +kernel
theorem dX11_makeColumn_608 : decode cX11_makeColumn 608 = .ok (.return_, 1) := by decide +kernel
theorem dX11_takeVarint_0 : decode cX11_takeVarint 0 = .ok (.iconst 0, 1) := by decide +kernel
theorem dX11_takeVarint_1 : decode cX11_takeVarint 1 = .ok (.istore_n 1, 1) := by decide +kernel
theorem dX11_takeVarint_2 : decode cX11_takeVarint 2 = .ok (.iconst 0, 1) := by decide +kernel
theorem dX11_takeVarint_3 : decode cX11_takeVarint 3 = .ok (.istore_n 2, 1) := by decide +kernel
theorem dX11_takeVarint_4 : decode cX11_takeVarint 4 = .ok (.sipush 128, 3) := by decide +kernel
theorem dX11_takeVarint_7 : decode cX11_takeVarint 7 = .ok (.istore_n 3, 1) := by decide +kernel
theorem dX11_takeVarint_8 : decode cX11_takeVarint 8 = .ok (.aload_n 0, 1) := by decide +kernel
theorem dX11_takeVarint_9 : decode cX11_takeVarint 9 = .ok (.getfield 175, 3) := by decide +kernel
theorem dX11_takeVarint_12 : decode cX11_takeVarint 12 = .ok (.ifCond .eq 48, 3) := by decide +kernel
theorem dX11_takeVarint_15 : decode cX11_takeVarint 15 = .ok (.iload_n 3, 1) := by decide +kernel
theorem dX11_takeVarint_16 : decode cX11_takeVarint 16 = .ok (.sipush 128, 3) := by decide +kernel
theorem dX11_takeVarint_19 : decode cX11_takeVarint 19 = .ok (.if_icmp .lt 41, 3) := by decide +kernel
theorem dX11_takeVarint_22 : decode cX11_takeVarint 22 = .ok (.iload_n 2, 1) := by decide +kernel
theorem dX11_takeVarint_23 : decode cX11_takeVarint 23 = .ok (.bipush 35, 2) := by decide +kernel
theorem dX11_takeVarint_25 : decode cX11_takeVarint 25 = .ok (.if_icmp .ge 35, 3) := by decide +kernel
theorem dX11_takeVarint_28 : decode cX11_takeVarint 28 = .ok (.aload_n 0, 1) := by decide +kernel
theorem dX11_takeVarint_29 : decode cX11_takeVarint 29 = .ok (.iconst 1, 1) := by decide +kernel
theorem dX11_takeVarint_30 : decode cX11_takeVarint 30 = .ok (.invokevirtual 213, 3) := by decide +kernel
theorem dX11_takeVarint_33 : decode cX11_takeVarint 33 = .ok (.l2i, 1) := by decide +kernel
theorem dX11_takeVarint_34 : decode cX11_takeVarint 34 = .ok (.istore_n 3, 1) := by decide +kernel
theorem dX11_takeVarint_35 : decode cX11_takeVarint 35 = .ok (.iload_n 1, 1) := by decide +kernel
theorem dX11_takeVarint_36 : decode cX11_takeVarint 36 = .ok (.iload_n 2, 1) := by decide +kernel
theorem dX11_takeVarint_37 : decode cX11_takeVarint 37 = .ok (.bipush 32, 2) := by decide +kernel
theorem dX11_takeVarint_39 : decode cX11_takeVarint 39 = .ok (.if_icmp .ge 12, 3) := by decide +kernel
