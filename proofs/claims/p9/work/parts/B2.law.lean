/-! the law: one call after the other -/
theorem dL_law_0 : decode code 0 = .ok (.new 7, 3) := by decide +kernel
theorem dL_law_3 : decode code 3 = .ok (.dup, 1) := by decide +kernel
theorem dL_law_4 : decode code 4 = .ok (.invokespecial 9, 3) := by decide +kernel
theorem dL_law_7 : decode code 7 = .ok (.astore_n 1, 1) := by decide +kernel
theorem dL_law_8 : decode code 8 = .ok (.new 10, 3) := by decide +kernel
theorem dL_law_11 : decode code 11 = .ok (.dup, 1) := by decide +kernel
theorem dL_law_12 : decode code 12 = .ok (.invokespecial 12, 3) := by decide +kernel
theorem dL_law_15 : decode code 15 = .ok (.astore_n 2, 1) := by decide +kernel
theorem dL_law_16 : decode code 16 = .ok (.iconst 0, 1) := by decide +kernel
theorem dL_law_17 : decode code 17 = .ok (.istore_n 3, 1) := by decide +kernel
theorem dL_law_18 : decode code 18 = .ok (.iload_n 3, 1) := by decide +kernel
theorem dL_law_19 : decode code 19 = .ok (.aload_n 0, 1) := by decide +kernel
theorem dL_law_20 : decode code 20 = .ok (.arraylength, 1) := by decide +kernel
theorem dL_law_21 : decode code 21 = .ok (.bipush 6, 2) := by decide +kernel
theorem dL_law_23 : decode code 23 = .ok (.isub, 1) := by decide +kernel
theorem dL_law_24 : decode code 24 = .ok (.if_icmp .gt 431, 3) := by decide +kernel
theorem dL_law_27 : decode code 27 = .ok (.aload_n 0, 1) := by decide +kernel
theorem dL_law_28 : decode code 28 = .ok (.iload_n 3, 1) := by decide +kernel
theorem dL_law_29 : decode code 29 = .ok (.iaload, 1) := by decide +kernel
theorem dL_law_30 : decode code 30 = .ok (.bipush 15, 2) := by decide +kernel
theorem dL_law_32 : decode code 32 = .ok (.iand, 1) := by decide +kernel
theorem dL_law_33 : decode code 33 = .ok (.tableswitch 416 0 12 #[67, 130, 153, 176, 199, 222, 245, 268, 291, 314, 337, 370, 393], 67) := by decide +kernel
theorem dL_law_100 : decode code 100 = .ok (.aload_n 1, 1) := by decide +kernel
theorem dL_law_101 : decode code 101 = .ok (.aload_n 0, 1) := by decide +kernel
theorem dL_law_102 : decode code 102 = .ok (.iload_n 3, 1) := by decide +kernel
theorem dL_law_103 : decode code 103 = .ok (.iconst 1, 1) := by decide +kernel
theorem dL_law_104 : decode code 104 = .ok (.iadd, 1) := by decide +kernel
theorem dL_law_105 : decode code 105 = .ok (.iaload, 1) := by decide +kernel
theorem dL_law_106 : decode code 106 = .ok (.aload_n 0, 1) := by decide +kernel
theorem dL_law_107 : decode code 107 = .ok (.iload_n 3, 1) := by decide +kernel
theorem dL_law_108 : decode code 108 = .ok (.iconst 2, 1) := by decide +kernel
theorem dL_law_109 : decode code 109 = .ok (.iadd, 1) := by decide +kernel
theorem dL_law_110 : decode code 110 = .ok (.iaload, 1) := by decide +kernel
theorem dL_law_111 : decode code 111 = .ok (.aload_n 0, 1) := by decide +kernel
theorem dL_law_112 : decode code 112 = .ok (.iload_n 3, 1) := by decide +kernel
theorem dL_law_113 : decode code 113 = .ok (.iconst 3, 1) := by decide +kernel
theorem dL_law_114 : decode code 114 = .ok (.iadd, 1) := by decide +kernel
theorem dL_law_115 : decode code 115 = .ok (.iaload, 1) := by decide +kernel
theorem dL_law_116 : decode code 116 = .ok (.aload_n 0, 1) := by decide +kernel
theorem dL_law_117 : decode code 117 = .ok (.iload_n 3, 1) := by decide +kernel
theorem dL_law_118 : decode code 118 = .ok (.iconst 4, 1) := by decide +kernel
theorem dL_law_119 : decode code 119 = .ok (.iadd, 1) := by decide +kernel
theorem dL_law_120 : decode code 120 = .ok (.iaload, 1) := by decide +kernel
theorem dL_law_121 : decode code 121 = .ok (.aload_n 0, 1) := by decide +kernel
theorem dL_law_122 : decode code 122 = .ok (.iload_n 3, 1) := by decide +kernel
theorem dL_law_123 : decode code 123 = .ok (.iconst 5, 1) := by decide +kernel
theorem dL_law_124 : decode code 124 = .ok (.iadd, 1) := by decide +kernel
theorem dL_law_125 : decode code 125 = .ok (.iaload, 1) := by decide +kernel
theorem dL_law_126 : decode code 126 = .ok (.invokevirtual 13, 3) := by decide +kernel
theorem dL_law_129 : decode code 129 = .ok (.pop, 1) := by decide +kernel
theorem dL_law_130 : decode code 130 = .ok (.aload_n 2, 1) := by decide +kernel
theorem dL_law_131 : decode code 131 = .ok (.aload_n 0, 1) := by decide +kernel
theorem dL_law_132 : decode code 132 = .ok (.iload_n 3, 1) := by decide +kernel
theorem dL_law_133 : decode code 133 = .ok (.iconst 1, 1) := by decide +kernel
theorem dL_law_134 : decode code 134 = .ok (.iadd, 1) := by decide +kernel
theorem dL_law_135 : decode code 135 = .ok (.iaload, 1) := by decide +kernel
theorem dL_law_136 : decode code 136 = .ok (.aload_n 0, 1) := by decide +kernel
theorem dL_law_137 : decode code 137 = .ok (.iload_n 3, 1) := by decide +kernel
theorem dL_law_138 : decode code 138 = .ok (.iconst 2, 1) := by decide +kernel
theorem dL_law_139 : decode code 139 = .ok (.iadd, 1) := by decide +kernel
theorem dL_law_140 : decode code 140 = .ok (.iaload, 1) := by decide +kernel
theorem dL_law_141 : decode code 141 = .ok (.aload_n 0, 1) := by decide +kernel
theorem dL_law_142 : decode code 142 = .ok (.iload_n 3, 1) := by decide +kernel
theorem dL_law_143 : decode code 143 = .ok (.iconst 3, 1) := by decide +kernel
theorem dL_law_144 : decode code 144 = .ok (.iadd, 1) := by decide +kernel
theorem dL_law_145 : decode code 145 = .ok (.iaload, 1) := by decide +kernel
theorem dL_law_146 : decode code 146 = .ok (.aload_n 0, 1) := by decide +kernel
theorem dL_law_147 : decode code 147 = .ok (.iload_n 3, 1) := by decide +kernel
theorem dL_law_148 : decode code 148 = .ok (.iconst 4, 1) := by decide +kernel
theorem dL_law_149 : decode code 149 = .ok (.iadd, 1) := by decide +kernel
theorem dL_law_150 : decode code 150 = .ok (.iaload, 1) := by decide +kernel
theorem dL_law_151 : decode code 151 = .ok (.aload_n 0, 1) := by decide +kernel
theorem dL_law_152 : decode code 152 = .ok (.iload_n 3, 1) := by decide +kernel
theorem dL_law_153 : decode code 153 = .ok (.iconst 5, 1) := by decide +kernel
theorem dL_law_154 : decode code 154 = .ok (.iadd, 1) := by decide +kernel
theorem dL_law_155 : decode code 155 = .ok (.iaload, 1) := by decide +kernel
theorem dL_law_156 : decode code 156 = .ok (.invokevirtual 17, 3) := by decide +kernel
theorem dL_law_159 : decode code 159 = .ok (.pop, 1) := by decide +kernel
theorem dL_law_160 : decode code 160 = .ok (.goto 289, 3) := by decide +kernel
theorem dL_law_163 : decode code 163 = .ok (.aload_n 1, 1) := by decide +kernel
theorem dL_law_164 : decode code 164 = .ok (.aload_n 0, 1) := by decide +kernel
theorem dL_law_165 : decode code 165 = .ok (.iload_n 3, 1) := by decide +kernel
theorem dL_law_166 : decode code 166 = .ok (.iconst 1, 1) := by decide +kernel
theorem dL_law_167 : decode code 167 = .ok (.iadd, 1) := by decide +kernel
theorem dL_law_168 : decode code 168 = .ok (.iaload, 1) := by decide +kernel
theorem dL_law_169 : decode code 169 = .ok (.invokevirtual 18, 3) := by decide +kernel
theorem dL_law_172 : decode code 172 = .ok (.pop, 1) := by decide +kernel
theorem dL_law_173 : decode code 173 = .ok (.aload_n 2, 1) := by decide +kernel
theorem dL_law_174 : decode code 174 = .ok (.aload_n 0, 1) := by decide +kernel
theorem dL_law_175 : decode code 175 = .ok (.iload_n 3, 1) := by decide +kernel
theorem dL_law_176 : decode code 176 = .ok (.iconst 1, 1) := by decide +kernel
theorem dL_law_177 : decode code 177 = .ok (.iadd, 1) := by decide +kernel
theorem dL_law_178 : decode code 178 = .ok (.iaload, 1) := by decide +kernel
theorem dL_law_179 : decode code 179 = .ok (.invokevirtual 22, 3) := by decide +kernel
theorem dL_law_182 : decode code 182 = .ok (.pop, 1) := by decide +kernel
theorem dL_law_183 : decode code 183 = .ok (.goto 266, 3) := by decide +kernel
theorem dL_law_186 : decode code 186 = .ok (.aload_n 1, 1) := by decide +kernel
theorem dL_law_187 : decode code 187 = .ok (.aload_n 0, 1) := by decide +kernel
theorem dL_law_188 : decode code 188 = .ok (.iload_n 3, 1) := by decide +kernel
theorem dL_law_189 : decode code 189 = .ok (.iconst 1, 1) := by decide +kernel
theorem dL_law_190 : decode code 190 = .ok (.iadd, 1) := by decide +kernel
theorem dL_law_191 : decode code 191 = .ok (.iaload, 1) := by decide +kernel
theorem dL_law_192 : decode code 192 = .ok (.invokevirtual 23, 3) := by decide +kernel
theorem dL_law_195 : decode code 195 = .ok (.pop, 1) := by decide +kernel
theorem dL_law_196 : decode code 196 = .ok (.aload_n 2, 1) := by decide +kernel
theorem dL_law_197 : decode code 197 = .ok (.aload_n 0, 1) := by decide +kernel
theorem dL_law_198 : decode code 198 = .ok (.iload_n 3, 1) := by decide +kernel
theorem dL_law_199 : decode code 199 = .ok (.iconst 1, 1) := by decide +kernel
theorem dL_law_200 : decode code 200 = .ok (.iadd, 1) := by decide +kernel
theorem dL_law_201 : decode code 201 = .ok (.iaload, 1) := by decide +kernel
theorem dL_law_202 : decode code 202 = .ok (.invokevirtual 27, 3) := by decide +kernel
theorem dL_law_205 : decode code 205 = .ok (.pop, 1) := by decide +kernel
theorem dL_law_206 : decode code 206 = .ok (.goto 243, 3) := by decide +kernel
theorem dL_law_209 : decode code 209 = .ok (.aload_n 1, 1) := by decide +kernel
theorem dL_law_210 : decode code 210 = .ok (.aload_n 0, 1) := by decide +kernel
theorem dL_law_211 : decode code 211 = .ok (.iload_n 3, 1) := by decide +kernel
theorem dL_law_212 : decode code 212 = .ok (.iconst 1, 1) := by decide +kernel
theorem dL_law_213 : decode code 213 = .ok (.iadd, 1) := by decide +kernel
theorem dL_law_214 : decode code 214 = .ok (.iaload, 1) := by decide +kernel
theorem dL_law_215 : decode code 215 = .ok (.invokevirtual 28, 3) := by decide +kernel
theorem dL_law_218 : decode code 218 = .ok (.pop, 1) := by decide +kernel
theorem dL_law_219 : decode code 219 = .ok (.aload_n 2, 1) := by decide +kernel
theorem dL_law_220 : decode code 220 = .ok (.aload_n 0, 1) := by decide +kernel
theorem dL_law_221 : decode code 221 = .ok (.iload_n 3, 1) := by decide +kernel
theorem dL_law_222 : decode code 222 = .ok (.iconst 1, 1) := by decide +kernel
theorem dL_law_223 : decode code 223 = .ok (.iadd, 1) := by decide +kernel
theorem dL_law_224 : decode code 224 = .ok (.iaload, 1) := by decide +kernel
theorem dL_law_225 : decode code 225 = .ok (.invokevirtual 31, 3) := by decide +kernel
theorem dL_law_228 : decode code 228 = .ok (.pop, 1) := by decide +kernel
theorem dL_law_229 : decode code 229 = .ok (.goto 220, 3) := by decide +kernel
theorem dL_law_232 : decode code 232 = .ok (.aload_n 1, 1) := by decide +kernel
theorem dL_law_233 : decode code 233 = .ok (.aload_n 0, 1) := by decide +kernel
theorem dL_law_234 : decode code 234 = .ok (.iload_n 3, 1) := by decide +kernel
theorem dL_law_235 : decode code 235 = .ok (.iconst 1, 1) := by decide +kernel
theorem dL_law_236 : decode code 236 = .ok (.iadd, 1) := by decide +kernel
theorem dL_law_237 : decode code 237 = .ok (.iaload, 1) := by decide +kernel
theorem dL_law_238 : decode code 238 = .ok (.invokevirtual 32, 3) := by decide +kernel
theorem dL_law_241 : decode code 241 = .ok (.pop, 1) := by decide +kernel
theorem dL_law_242 : decode code 242 = .ok (.aload_n 2, 1) := by decide +kernel
theorem dL_law_243 : decode code 243 = .ok (.aload_n 0, 1) := by decide +kernel
theorem dL_law_244 : decode code 244 = .ok (.iload_n 3, 1) := by decide +kernel
theorem dL_law_245 : decode code 245 = .ok (.iconst 1, 1) := by decide +kernel
theorem dL_law_246 : decode code 246 = .ok (.iadd, 1) := by decide +kernel
theorem dL_law_247 : decode code 247 = .ok (.iaload, 1) := by decide +kernel
theorem dL_law_248 : decode code 248 = .ok (.invokevirtual 35, 3) := by decide +kernel
theorem dL_law_251 : decode code 251 = .ok (.pop, 1) := by decide +kernel
theorem dL_law_252 : decode code 252 = .ok (.goto 197, 3) := by decide +kernel
theorem dL_law_255 : decode code 255 = .ok (.aload_n 1, 1) := by decide +kernel
theorem dL_law_256 : decode code 256 = .ok (.aload_n 0, 1) := by decide +kernel
theorem dL_law_257 : decode code 257 = .ok (.iload_n 3, 1) := by decide +kernel
theorem dL_law_258 : decode code 258 = .ok (.iconst 1, 1) := by decide +kernel
theorem dL_law_259 : decode code 259 = .ok (.iadd, 1) := by decide +kernel
theorem dL_law_260 : decode code 260 = .ok (.iaload, 1) := by decide +kernel
theorem dL_law_261 : decode code 261 = .ok (.invokevirtual 36, 3) := by decide +kernel
theorem dL_law_264 : decode code 264 = .ok (.pop, 1) := by decide +kernel
theorem dL_law_265 : decode code 265 = .ok (.aload_n 2, 1) := by decide +kernel
theorem dL_law_266 : decode code 266 = .ok (.aload_n 0, 1) := by decide +kernel
theorem dL_law_267 : decode code 267 = .ok (.iload_n 3, 1) := by decide +kernel
theorem dL_law_268 : decode code 268 = .ok (.iconst 1, 1) := by decide +kernel
theorem dL_law_269 : decode code 269 = .ok (.iadd, 1) := by decide +kernel
theorem dL_law_270 : decode code 270 = .ok (.iaload, 1) := by decide +kernel
theorem dL_law_271 : decode code 271 = .ok (.invokevirtual 39, 3) := by decide +kernel
theorem dL_law_274 : decode code 274 = .ok (.pop, 1) := by decide +kernel
theorem dL_law_275 : decode code 275 = .ok (.goto 174, 3) := by decide +kernel
theorem dL_law_278 : decode code 278 = .ok (.aload_n 1, 1) := by decide +kernel
theorem dL_law_279 : decode code 279 = .ok (.aload_n 0, 1) := by decide +kernel
theorem dL_law_280 : decode code 280 = .ok (.iload_n 3, 1) := by decide +kernel
theorem dL_law_281 : decode code 281 = .ok (.iconst 1, 1) := by decide +kernel
theorem dL_law_282 : decode code 282 = .ok (.iadd, 1) := by decide +kernel
theorem dL_law_283 : decode code 283 = .ok (.iaload, 1) := by decide +kernel
theorem dL_law_284 : decode code 284 = .ok (.invokevirtual 40, 3) := by decide +kernel
theorem dL_law_287 : decode code 287 = .ok (.pop, 1) := by decide +kernel
theorem dL_law_288 : decode code 288 = .ok (.aload_n 2, 1) := by decide +kernel
theorem dL_law_289 : decode code 289 = .ok (.aload_n 0, 1) := by decide +kernel
theorem dL_law_290 : decode code 290 = .ok (.iload_n 3, 1) := by decide +kernel
theorem dL_law_291 : decode code 291 = .ok (.iconst 1, 1) := by decide +kernel
theorem dL_law_292 : decode code 292 = .ok (.iadd, 1) := by decide +kernel
theorem dL_law_293 : decode code 293 = .ok (.iaload, 1) := by decide +kernel
theorem dL_law_294 : decode code 294 = .ok (.invokevirtual 43, 3) := by decide +kernel
theorem dL_law_297 : decode code 297 = .ok (.pop, 1) := by decide +kernel
theorem dL_law_298 : decode code 298 = .ok (.goto 151, 3) := by decide +kernel
theorem dL_law_301 : decode code 301 = .ok (.aload_n 1, 1) := by decide +kernel
theorem dL_law_302 : decode code 302 = .ok (.aload_n 0, 1) := by decide +kernel
theorem dL_law_303 : decode code 303 = .ok (.iload_n 3, 1) := by decide +kernel
theorem dL_law_304 : decode code 304 = .ok (.iconst 1, 1) := by decide +kernel
theorem dL_law_305 : decode code 305 = .ok (.iadd, 1) := by decide +kernel
theorem dL_law_306 : decode code 306 = .ok (.iaload, 1) := by decide +kernel
theorem dL_law_307 : decode code 307 = .ok (.invokevirtual 44, 3) := by decide +kernel
theorem dL_law_310 : decode code 310 = .ok (.aload_n 2, 1) := by decide +kernel
theorem dL_law_311 : decode code 311 = .ok (.aload_n 0, 1) := by decide +kernel
theorem dL_law_312 : decode code 312 = .ok (.iload_n 3, 1) := by decide +kernel
theorem dL_law_313 : decode code 313 = .ok (.iconst 1, 1) := by decide +kernel
theorem dL_law_314 : decode code 314 = .ok (.iadd, 1) := by decide +kernel
theorem dL_law_315 : decode code 315 = .ok (.iaload, 1) := by decide +kernel
theorem dL_law_316 : decode code 316 = .ok (.invokevirtual 47, 3) := by decide +kernel
theorem dL_law_319 : decode code 319 = .ok (.if_icmp .eq 130, 3) := by decide +kernel
theorem dL_law_322 : decode code 322 = .ok (.iconst 0, 1) := by decide +kernel
theorem dL_law_323 : decode code 323 = .ok (.ireturn, 1) := by decide +kernel
theorem dL_law_324 : decode code 324 = .ok (.aload_n 1, 1) := by decide +kernel
theorem dL_law_325 : decode code 325 = .ok (.aload_n 0, 1) := by decide +kernel
theorem dL_law_326 : decode code 326 = .ok (.iload_n 3, 1) := by decide +kernel
theorem dL_law_327 : decode code 327 = .ok (.iconst 1, 1) := by decide +kernel
theorem dL_law_328 : decode code 328 = .ok (.iadd, 1) := by decide +kernel
theorem dL_law_329 : decode code 329 = .ok (.iaload, 1) := by decide +kernel
theorem dL_law_330 : decode code 330 = .ok (.invokevirtual 48, 3) := by decide +kernel
theorem dL_law_333 : decode code 333 = .ok (.pop, 1) := by decide +kernel
theorem dL_law_334 : decode code 334 = .ok (.aload_n 2, 1) := by decide +kernel
theorem dL_law_335 : decode code 335 = .ok (.aload_n 0, 1) := by decide +kernel
theorem dL_law_336 : decode code 336 = .ok (.iload_n 3, 1) := by decide +kernel
theorem dL_law_337 : decode code 337 = .ok (.iconst 1, 1) := by decide +kernel
theorem dL_law_338 : decode code 338 = .ok (.iadd, 1) := by decide +kernel
theorem dL_law_339 : decode code 339 = .ok (.iaload, 1) := by decide +kernel
theorem dL_law_340 : decode code 340 = .ok (.invokevirtual 51, 3) := by decide +kernel
theorem dL_law_343 : decode code 343 = .ok (.pop, 1) := by decide +kernel
theorem dL_law_344 : decode code 344 = .ok (.goto 105, 3) := by decide +kernel
theorem dL_law_347 : decode code 347 = .ok (.aload_n 1, 1) := by decide +kernel
theorem dL_law_348 : decode code 348 = .ok (.aload_n 0, 1) := by decide +kernel
theorem dL_law_349 : decode code 349 = .ok (.iload_n 3, 1) := by decide +kernel
theorem dL_law_350 : decode code 350 = .ok (.iconst 1, 1) := by decide +kernel
theorem dL_law_351 : decode code 351 = .ok (.iadd, 1) := by decide +kernel
theorem dL_law_352 : decode code 352 = .ok (.iaload, 1) := by decide +kernel
theorem dL_law_353 : decode code 353 = .ok (.invokevirtual 52, 3) := by decide +kernel
theorem dL_law_356 : decode code 356 = .ok (.pop, 1) := by decide +kernel
theorem dL_law_357 : decode code 357 = .ok (.aload_n 2, 1) := by decide +kernel
theorem dL_law_358 : decode code 358 = .ok (.aload_n 0, 1) := by decide +kernel
theorem dL_law_359 : decode code 359 = .ok (.iload_n 3, 1) := by decide +kernel
theorem dL_law_360 : decode code 360 = .ok (.iconst 1, 1) := by decide +kernel
theorem dL_law_361 : decode code 361 = .ok (.iadd, 1) := by decide +kernel
theorem dL_law_362 : decode code 362 = .ok (.iaload, 1) := by decide +kernel
theorem dL_law_363 : decode code 363 = .ok (.invokevirtual 55, 3) := by decide +kernel
theorem dL_law_366 : decode code 366 = .ok (.pop, 1) := by decide +kernel
theorem dL_law_367 : decode code 367 = .ok (.goto 82, 3) := by decide +kernel
theorem dL_law_370 : decode code 370 = .ok (.aload_n 1, 1) := by decide +kernel
theorem dL_law_371 : decode code 371 = .ok (.aload_n 0, 1) := by decide +kernel
theorem dL_law_372 : decode code 372 = .ok (.iload_n 3, 1) := by decide +kernel
theorem dL_law_373 : decode code 373 = .ok (.iconst 1, 1) := by decide +kernel
theorem dL_law_374 : decode code 374 = .ok (.iadd, 1) := by decide +kernel
theorem dL_law_375 : decode code 375 = .ok (.iaload, 1) := by decide +kernel
theorem dL_law_376 : decode code 376 = .ok (.aload_n 0, 1) := by decide +kernel
theorem dL_law_377 : decode code 377 = .ok (.iload_n 3, 1) := by decide +kernel
theorem dL_law_378 : decode code 378 = .ok (.iconst 2, 1) := by decide +kernel
theorem dL_law_379 : decode code 379 = .ok (.iadd, 1) := by decide +kernel
theorem dL_law_380 : decode code 380 = .ok (.iaload, 1) := by decide +kernel
theorem dL_law_381 : decode code 381 = .ok (.invokevirtual 56, 3) := by decide +kernel
theorem dL_law_384 : decode code 384 = .ok (.pop, 1) := by decide +kernel
theorem dL_law_385 : decode code 385 = .ok (.aload_n 2, 1) := by decide +kernel
theorem dL_law_386 : decode code 386 = .ok (.aload_n 0, 1) := by decide +kernel
theorem dL_law_387 : decode code 387 = .ok (.iload_n 3, 1) := by decide +kernel
theorem dL_law_388 : decode code 388 = .ok (.iconst 1, 1) := by decide +kernel
theorem dL_law_389 : decode code 389 = .ok (.iadd, 1) := by decide +kernel
theorem dL_law_390 : decode code 390 = .ok (.iaload, 1) := by decide +kernel
theorem dL_law_391 : decode code 391 = .ok (.aload_n 0, 1) := by decide +kernel
theorem dL_law_392 : decode code 392 = .ok (.iload_n 3, 1) := by decide +kernel
theorem dL_law_393 : decode code 393 = .ok (.iconst 2, 1) := by decide +kernel
theorem dL_law_394 : decode code 394 = .ok (.iadd, 1) := by decide +kernel
theorem dL_law_395 : decode code 395 = .ok (.iaload, 1) := by decide +kernel
theorem dL_law_396 : decode code 396 = .ok (.invokevirtual 60, 3) := by decide +kernel
theorem dL_law_399 : decode code 399 = .ok (.pop, 1) := by decide +kernel
theorem dL_law_400 : decode code 400 = .ok (.goto 49, 3) := by decide +kernel
theorem dL_law_403 : decode code 403 = .ok (.aload_n 1, 1) := by decide +kernel
theorem dL_law_404 : decode code 404 = .ok (.aload_n 0, 1) := by decide +kernel
theorem dL_law_405 : decode code 405 = .ok (.iload_n 3, 1) := by decide +kernel
theorem dL_law_406 : decode code 406 = .ok (.iconst 1, 1) := by decide +kernel
theorem dL_law_407 : decode code 407 = .ok (.iadd, 1) := by decide +kernel
theorem dL_law_408 : decode code 408 = .ok (.iaload, 1) := by decide +kernel
theorem dL_law_409 : decode code 409 = .ok (.invokevirtual 61, 3) := by decide +kernel
theorem dL_law_412 : decode code 412 = .ok (.pop, 1) := by decide +kernel
theorem dL_law_413 : decode code 413 = .ok (.aload_n 2, 1) := by decide +kernel
theorem dL_law_414 : decode code 414 = .ok (.aload_n 0, 1) := by decide +kernel
theorem dL_law_415 : decode code 415 = .ok (.iload_n 3, 1) := by decide +kernel
theorem dL_law_416 : decode code 416 = .ok (.iconst 1, 1) := by decide +kernel
theorem dL_law_417 : decode code 417 = .ok (.iadd, 1) := by decide +kernel
theorem dL_law_418 : decode code 418 = .ok (.iaload, 1) := by decide +kernel
theorem dL_law_419 : decode code 419 = .ok (.invokevirtual 64, 3) := by decide +kernel
theorem dL_law_422 : decode code 422 = .ok (.pop, 1) := by decide +kernel
theorem dL_law_423 : decode code 423 = .ok (.goto 26, 3) := by decide +kernel
theorem dL_law_426 : decode code 426 = .ok (.aload_n 1, 1) := by decide +kernel
theorem dL_law_427 : decode code 427 = .ok (.aload_n 0, 1) := by decide +kernel
theorem dL_law_428 : decode code 428 = .ok (.iload_n 3, 1) := by decide +kernel
theorem dL_law_429 : decode code 429 = .ok (.iconst 1, 1) := by decide +kernel
theorem dL_law_430 : decode code 430 = .ok (.iadd, 1) := by decide +kernel
theorem dL_law_431 : decode code 431 = .ok (.iaload, 1) := by decide +kernel
theorem dL_law_432 : decode code 432 = .ok (.invokevirtual 65, 3) := by decide +kernel
theorem dL_law_435 : decode code 435 = .ok (.pop, 1) := by decide +kernel
theorem dL_law_436 : decode code 436 = .ok (.aload_n 2, 1) := by decide +kernel
theorem dL_law_437 : decode code 437 = .ok (.aload_n 0, 1) := by decide +kernel
theorem dL_law_438 : decode code 438 = .ok (.iload_n 3, 1) := by decide +kernel
theorem dL_law_439 : decode code 439 = .ok (.iconst 1, 1) := by decide +kernel
theorem dL_law_440 : decode code 440 = .ok (.iadd, 1) := by decide +kernel
theorem dL_law_441 : decode code 441 = .ok (.iaload, 1) := by decide +kernel
theorem dL_law_442 : decode code 442 = .ok (.invokevirtual 68, 3) := by decide +kernel
theorem dL_law_445 : decode code 445 = .ok (.pop, 1) := by decide +kernel
theorem dL_law_446 : decode code 446 = .ok (.goto 3, 3) := by decide +kernel
theorem dL_law_449 : decode code 449 = .ok (.iinc 3 6, 3) := by decide +kernel
theorem dL_law_452 : decode code 452 = .ok (.goto (-434), 3) := by decide +kernel
theorem dL_law_455 : decode code 455 = .ok (.iconst 1, 1) := by decide +kernel
theorem dL_law_456 : decode code 456 = .ok (.ireturn, 1) := by decide +kernel
def LI (D : va_G) (t : Nat → ClassId) (s : State) (G : GE) (xx mm n : Nat) (κ : CS) (σ : HS) (H : Heap) (locs : List Loc) (cells slots : Nat) : Prop := LT room_1 D t s κ σ H locs cells slots ∧ CJ G xx n κ ∧ ∃ L, RI mm L (1000000 * (n : Int)) σ
theorem vin {i : Int32} {N : Nat} (h0 : 0 ≤ i.toInt) (h1 : i.toInt < N) : vp_in i N := fun h => by
  rcases h with h | h
  · have := i_lt h
    have k0 : (0 : Int32).toInt = 0 := rfl
    omega
  · have h : N ≤ i.toInt.toNat := h
    omega
section RB2
variable {p : Program} {l : Launch} {e : Env} {s : State} {m : MethodId} {below : List Frame} {meth : Method} {c : Code} {H : Heap} {locs : List Loc} {cells slots : Nat} {Q : State → Prop} {ls : Array Slot} {D : va_G} {t : Nat → ClassId} {κ : CS} {σ : HS} {G : GE} {bb N xx mm n : Nat} {xs : Nat → Int32} {i : Int32}
set_option maxRecDepth 100000 in
set_option maxHeartbeats 4000000 in
theorem law_feed (hF : FX p m c code 4 s #[Value.ref bb] RL D t) (hE : EZ G (lA s) s s.heap) (hX : va_X bb N xs s s.heap) (hbl : bb < s.heap.size) (hi : i.toInt = 6 * (n : Int)) (hn : n < 64) (hN : 6 * n + 6 ≤ N) (hl : lv_has ls 4 [(3, .int i), (2, .ref mm), (1, .ref xx), (0, .ref bb)]) (hI : LI D t s G xx mm n κ σ H locs cells slots) (kk : ∀ (κ' : CS) (σ' : HS) (H' : Heap) (locs' : List Loc) (cells' slots' : Nat), LI D t s G xx mm (n + 1) κ' σ' H' locs' cells' slots' → W p l e room_1 s m #[Value.ref bb] below meth c H' locs' cells' slots' Q (F0 m 449 ls [])) : W p l e room_1 s m #[Value.ref bb] below meth c H locs cells slots Q (F0 m 100 ls []) := by
  have hx := hF.1.1
  have hb := hF.1.2.1
  obtain ⟨hT, hJ, Lm, hR⟩ := hI
  have hB : 1000000 * (n : Int) + 2000000 < 4611686018427387904 := by omega
  have k1 : (1 : Int32).toInt = 1 := rfl
  have z1 := i_add (x := i) (y := 1) (z := i + 1) rfl (by omega) (by omega)
  have k2 : (2 : Int32).toInt = 2 := rfl
  have z2 := i_add (x := i) (y := 2) (z := i + 2) rfl (by omega) (by omega)
  have k3 : (3 : Int32).toInt = 3 := rfl
  have z3 := i_add (x := i) (y := 3) (z := i + 3) rfl (by omega) (by omega)
  have k4 : (4 : Int32).toInt = 4 := rfl
  have z4 := i_add (x := i) (y := 4) (z := i + 4) rfl (by omega) (by omega)
  have k5 : (5 : Int32).toInt = 5 := rfl
  have z5 := i_add (x := i) (y := 5) (z := i + 5) rfl (by omega) (by omega)
  refine lv_aload_n hx hb dL_law_100 rfl (lv_at hl 2 rfl) ?_
  refine lv_aload_n hx hb dL_law_101 rfl (lv_at hl 3 rfl) ?_
  refine lv_iload_n hx hb dL_law_102 rfl (lv_at hl 0 rfl) ?_
  refine lv_iconst (v := 1) hx hb dL_law_103 (by decide) ?_
  refine lv_iadd hx hb dL_law_104 ?_
  refine r_sld (v := (xs (i + 1).toNatClampNeg)) hF hX hbl hT.2.2.1 (vin (by omega) (by omega)) rfl dL_law_105 ?_
  refine lv_aload_n hx hb dL_law_106 rfl (lv_at hl 3 rfl) ?_
  refine lv_iload_n hx hb dL_law_107 rfl (lv_at hl 0 rfl) ?_
  refine lv_iconst (v := 2) hx hb dL_law_108 (by decide) ?_
  refine lv_iadd hx hb dL_law_109 ?_
  refine r_sld (v := (xs (i + 2).toNatClampNeg)) hF hX hbl hT.2.2.1 (vin (by omega) (by omega)) rfl dL_law_110 ?_
  refine lv_aload_n hx hb dL_law_111 rfl (lv_at hl 3 rfl) ?_
  refine lv_iload_n hx hb dL_law_112 rfl (lv_at hl 0 rfl) ?_
  refine lv_iconst (v := 3) hx hb dL_law_113 (by decide) ?_
  refine lv_iadd hx hb dL_law_114 ?_
  refine r_sld (v := (xs (i + 3).toNatClampNeg)) hF hX hbl hT.2.2.1 (vin (by omega) (by omega)) rfl dL_law_115 ?_
  refine lv_aload_n hx hb dL_law_116 rfl (lv_at hl 3 rfl) ?_
  refine lv_iload_n hx hb dL_law_117 rfl (lv_at hl 0 rfl) ?_
  refine lv_iconst (v := 4) hx hb dL_law_118 (by decide) ?_
  refine lv_iadd hx hb dL_law_119 ?_
  refine r_sld (v := (xs (i + 4).toNatClampNeg)) hF hX hbl hT.2.2.1 (vin (by omega) (by omega)) rfl dL_law_120 ?_
  refine lv_aload_n hx hb dL_law_121 rfl (lv_at hl 3 rfl) ?_
  refine lv_iload_n hx hb dL_law_122 rfl (lv_at hl 0 rfl) ?_
  refine lv_iconst (v := 5) hx hb dL_law_123 (by decide) ?_
  refine lv_iadd hx hb dL_law_124 ?_
  refine r_sld (v := (xs (i + 5).toNatClampNeg)) hF hX hbl hT.2.2.1 (vin (by omega) (by omega)) rfl dL_law_125 ?_
  refine lw_cC (post := fun r κ' => CJ G xx (n + 1) κ') (As := [.int (xs (i + 1).toNatClampNeg), .int (xs (i + 2).toNatClampNeg), .int (xs (i + 3).toNatClampNeg), .int (xs (i + 4).toNatClampNeg), .int (xs (i + 5).toNatClampNeg)]) (rest := []) hF hT hE mv_L_13 ci_X11 (by decide) (fun sz => c_X11_feed l D t G κ xx (xs (i + 1).toNatClampNeg) (xs (i + 2).toNatClampNeg) (xs (i + 3).toNatClampNeg) (xs (i + 4).toNatClampNeg) (xs (i + 5).toNatClampNeg) _ (k_feed hJ hn (xs (i + 1).toNatClampNeg) (xs (i + 2).toNatClampNeg) (xs (i + 3).toNatClampNeg) (xs (i + 4).toNatClampNeg) (xs (i + 5).toNatClampNeg) (fun _ _ h => h)) sz) dL_law_126 hJ.mm ⟨Nat.le_of_ble_eq_true rfl, Nat.le_of_ble_eq_true rfl⟩ rfl hl.1 (Nat.le_of_ble_eq_true rfl) rfl (fun r1 κ H locs cells slots hJ hT => ?_)
  refine lv_pop hx hb dL_law_129 rfl ?_
  refine lv_aload_n hx hb dL_law_130 rfl (lv_at hl 1 rfl) ?_
  refine lv_aload_n hx hb dL_law_131 rfl (lv_at hl 3 rfl) ?_
  refine lv_iload_n hx hb dL_law_132 rfl (lv_at hl 0 rfl) ?_
  refine lv_iconst (v := 1) hx hb dL_law_133 (by decide) ?_
  refine lv_iadd hx hb dL_law_134 ?_
  refine r_sld (v := (xs (i + 1).toNatClampNeg)) hF hX hbl hT.2.2.1 (vin (by omega) (by omega)) rfl dL_law_135 ?_
  refine lv_aload_n hx hb dL_law_136 rfl (lv_at hl 3 rfl) ?_
  refine lv_iload_n hx hb dL_law_137 rfl (lv_at hl 0 rfl) ?_
  refine lv_iconst (v := 2) hx hb dL_law_138 (by decide) ?_
  refine lv_iadd hx hb dL_law_139 ?_
  refine r_sld (v := (xs (i + 2).toNatClampNeg)) hF hX hbl hT.2.2.1 (vin (by omega) (by omega)) rfl dL_law_140 ?_
  refine lv_aload_n hx hb dL_law_141 rfl (lv_at hl 3 rfl) ?_
  refine lv_iload_n hx hb dL_law_142 rfl (lv_at hl 0 rfl) ?_
  refine lv_iconst (v := 3) hx hb dL_law_143 (by decide) ?_
  refine lv_iadd hx hb dL_law_144 ?_
  refine r_sld (v := (xs (i + 3).toNatClampNeg)) hF hX hbl hT.2.2.1 (vin (by omega) (by omega)) rfl dL_law_145 ?_
  refine lv_aload_n hx hb dL_law_146 rfl (lv_at hl 3 rfl) ?_
  refine lv_iload_n hx hb dL_law_147 rfl (lv_at hl 0 rfl) ?_
  refine lv_iconst (v := 4) hx hb dL_law_148 (by decide) ?_
  refine lv_iadd hx hb dL_law_149 ?_
  refine r_sld (v := (xs (i + 4).toNatClampNeg)) hF hX hbl hT.2.2.1 (vin (by omega) (by omega)) rfl dL_law_150 ?_
  refine lv_aload_n hx hb dL_law_151 rfl (lv_at hl 3 rfl) ?_
  refine lv_iload_n hx hb dL_law_152 rfl (lv_at hl 0 rfl) ?_
  refine lv_iconst (v := 5) hx hb dL_law_153 (by decide) ?_
  refine lv_iadd hx hb dL_law_154 ?_
  refine r_sld (v := (xs (i + 5).toNatClampNeg)) hF hX hbl hT.2.2.1 (vin (by omega) (by omega)) rfl dL_law_155 ?_
  refine lw_cR (post := fun r σ' => RI mm Lm (1000000 * (n : Int) + 1000000) σ') (As := [.int (xs (i + 1).toNatClampNeg), .int (xs (i + 2).toNatClampNeg), .int (xs (i + 3).toNatClampNeg), .int (xs (i + 4).toNatClampNeg), .int (xs (i + 5).toNatClampNeg)]) (rest := []) hF hT hR.1.2 mv_L_17 (fun sz => c_X12_feed l D t mm Lm σ hR.1.2 (xs (i + 1).toNatClampNeg) (xs (i + 2).toNatClampNeg) (xs (i + 3).toNatClampNeg) (xs (i + 4).toNatClampNeg) (xs (i + 5).toNatClampNeg) _ (r_X12_feed hR hB (xs (i + 1).toNatClampNeg) (xs (i + 2).toNatClampNeg) (xs (i + 3).toNatClampNeg) (xs (i + 4).toNatClampNeg) (xs (i + 5).toNatClampNeg) (fun _ _ h => h)) sz) dL_law_156 rfl rfl ⟨Nat.le_of_ble_eq_true rfl, Nat.le_of_ble_eq_true rfl⟩ rfl hl.1 (Nat.le_of_ble_eq_true rfl) rfl (fun r2 σ H locs hR hT => ?_)
  refine lv_pop hx hb dL_law_159 rfl ?_
  refine lv_goto (tgt := 449) hx hb dL_law_160 rfl ?_
  have eB : 1000000 * ((n + 1 : Nat) : Int) = 1000000 * (n : Int) + 1000000 := by omega
  exact kk κ σ H locs cells slots ⟨hT, hJ, Lm, by rw [eB]; exact hR⟩
set_option maxRecDepth 100000 in
set_option maxHeartbeats 4000000 in
theorem law_cut (hF : FX p m c code 4 s #[Value.ref bb] RL D t) (hE : EZ G (lA s) s s.heap) (hX : va_X bb N xs s s.heap) (hbl : bb < s.heap.size) (hi : i.toInt = 6 * (n : Int)) (hn : n < 64) (hN : 6 * n + 6 ≤ N) (hl : lv_has ls 4 [(3, .int i), (2, .ref mm), (1, .ref xx), (0, .ref bb)]) (hI : LI D t s G xx mm n κ σ H locs cells slots) (kk : ∀ (κ' : CS) (σ' : HS) (H' : Heap) (locs' : List Loc) (cells' slots' : Nat), LI D t s G xx mm (n + 1) κ' σ' H' locs' cells' slots' → W p l e room_1 s m #[Value.ref bb] below meth c H' locs' cells' slots' Q (F0 m 449 ls [])) : W p l e room_1 s m #[Value.ref bb] below meth c H locs cells slots Q (F0 m 163 ls []) := by
  have hx := hF.1.1
  have hb := hF.1.2.1
  obtain ⟨hT, hJ, Lm, hR⟩ := hI
  have hB : 1000000 * (n : Int) + 2000000 < 4611686018427387904 := by omega
  have k1 : (1 : Int32).toInt = 1 := rfl
  have z1 := i_add (x := i) (y := 1) (z := i + 1) rfl (by omega) (by omega)
  have k2 : (2 : Int32).toInt = 2 := rfl
  have z2 := i_add (x := i) (y := 2) (z := i + 2) rfl (by omega) (by omega)
  have k3 : (3 : Int32).toInt = 3 := rfl
  have z3 := i_add (x := i) (y := 3) (z := i + 3) rfl (by omega) (by omega)
  have k4 : (4 : Int32).toInt = 4 := rfl
  have z4 := i_add (x := i) (y := 4) (z := i + 4) rfl (by omega) (by omega)
  have k5 : (5 : Int32).toInt = 5 := rfl
  have z5 := i_add (x := i) (y := 5) (z := i + 5) rfl (by omega) (by omega)
  refine lv_aload_n hx hb dL_law_163 rfl (lv_at hl 2 rfl) ?_
  refine lv_aload_n hx hb dL_law_164 rfl (lv_at hl 3 rfl) ?_
  refine lv_iload_n hx hb dL_law_165 rfl (lv_at hl 0 rfl) ?_
  refine lv_iconst (v := 1) hx hb dL_law_166 (by decide) ?_
  refine lv_iadd hx hb dL_law_167 ?_
  refine r_sld (v := (xs (i + 1).toNatClampNeg)) hF hX hbl hT.2.2.1 (vin (by omega) (by omega)) rfl dL_law_168 ?_
  refine lw_cC (post := fun r κ' => CJ G xx (n + 1) κ') (As := [.int (xs (i + 1).toNatClampNeg)]) (rest := []) hF hT hE mv_L_18 ci_X11 (by decide) (fun sz => c_X11_cut l D t G κ xx (xs (i + 1).toNatClampNeg) _ (k_cut hJ hn (xs (i + 1).toNatClampNeg) (fun _ _ h => h)) sz) dL_law_169 hJ.mm ⟨Nat.le_of_ble_eq_true rfl, Nat.le_of_ble_eq_true rfl⟩ rfl hl.1 (Nat.le_of_ble_eq_true rfl) rfl (fun r1 κ H locs cells slots hJ hT => ?_)
  refine lv_pop hx hb dL_law_172 rfl ?_
  refine lv_aload_n hx hb dL_law_173 rfl (lv_at hl 1 rfl) ?_
  refine lv_aload_n hx hb dL_law_174 rfl (lv_at hl 3 rfl) ?_
  refine lv_iload_n hx hb dL_law_175 rfl (lv_at hl 0 rfl) ?_
  refine lv_iconst (v := 1) hx hb dL_law_176 (by decide) ?_
  refine lv_iadd hx hb dL_law_177 ?_
  refine r_sld (v := (xs (i + 1).toNatClampNeg)) hF hX hbl hT.2.2.1 (vin (by omega) (by omega)) rfl dL_law_178 ?_
  refine lw_cR (post := fun r σ' => RI mm Lm (1000000 * (n : Int) + 1000000) σ') (As := [.int (xs (i + 1).toNatClampNeg)]) (rest := []) hF hT hR.1.2 mv_L_22 (fun sz => c_X12_cut l D t mm Lm σ hR.1.2 (xs (i + 1).toNatClampNeg) _ (r_X12_cut hR hB (xs (i + 1).toNatClampNeg) (fun _ _ h => h)) sz) dL_law_179 rfl rfl ⟨Nat.le_of_ble_eq_true rfl, Nat.le_of_ble_eq_true rfl⟩ rfl hl.1 (Nat.le_of_ble_eq_true rfl) rfl (fun r2 σ H locs hR hT => ?_)
  refine lv_pop hx hb dL_law_182 rfl ?_
  refine lv_goto (tgt := 449) hx hb dL_law_183 rfl ?_
  have eB : 1000000 * ((n + 1 : Nat) : Int) = 1000000 * (n : Int) + 1000000 := by omega
  exact kk κ σ H locs cells slots ⟨hT, hJ, Lm, by rw [eB]; exact hR⟩
set_option maxRecDepth 100000 in
set_option maxHeartbeats 4000000 in
theorem law_share (hF : FX p m c code 4 s #[Value.ref bb] RL D t) (hE : EZ G (lA s) s s.heap) (hX : va_X bb N xs s s.heap) (hbl : bb < s.heap.size) (hi : i.toInt = 6 * (n : Int)) (hn : n < 64) (hN : 6 * n + 6 ≤ N) (hl : lv_has ls 4 [(3, .int i), (2, .ref mm), (1, .ref xx), (0, .ref bb)]) (hI : LI D t s G xx mm n κ σ H locs cells slots) (kk : ∀ (κ' : CS) (σ' : HS) (H' : Heap) (locs' : List Loc) (cells' slots' : Nat), LI D t s G xx mm (n + 1) κ' σ' H' locs' cells' slots' → W p l e room_1 s m #[Value.ref bb] below meth c H' locs' cells' slots' Q (F0 m 449 ls [])) : W p l e room_1 s m #[Value.ref bb] below meth c H locs cells slots Q (F0 m 186 ls []) := by
  have hx := hF.1.1
  have hb := hF.1.2.1
  obtain ⟨hT, hJ, Lm, hR⟩ := hI
  have hB : 1000000 * (n : Int) + 2000000 < 4611686018427387904 := by omega
  have k1 : (1 : Int32).toInt = 1 := rfl
  have z1 := i_add (x := i) (y := 1) (z := i + 1) rfl (by omega) (by omega)
  have k2 : (2 : Int32).toInt = 2 := rfl
  have z2 := i_add (x := i) (y := 2) (z := i + 2) rfl (by omega) (by omega)
  have k3 : (3 : Int32).toInt = 3 := rfl
  have z3 := i_add (x := i) (y := 3) (z := i + 3) rfl (by omega) (by omega)
  have k4 : (4 : Int32).toInt = 4 := rfl
  have z4 := i_add (x := i) (y := 4) (z := i + 4) rfl (by omega) (by omega)
  have k5 : (5 : Int32).toInt = 5 := rfl
  have z5 := i_add (x := i) (y := 5) (z := i + 5) rfl (by omega) (by omega)
  refine lv_aload_n hx hb dL_law_186 rfl (lv_at hl 2 rfl) ?_
  refine lv_aload_n hx hb dL_law_187 rfl (lv_at hl 3 rfl) ?_
  refine lv_iload_n hx hb dL_law_188 rfl (lv_at hl 0 rfl) ?_
  refine lv_iconst (v := 1) hx hb dL_law_189 (by decide) ?_
  refine lv_iadd hx hb dL_law_190 ?_
  refine r_sld (v := (xs (i + 1).toNatClampNeg)) hF hX hbl hT.2.2.1 (vin (by omega) (by omega)) rfl dL_law_191 ?_
  refine lw_cC (post := fun r κ' => CJ G xx (n + 1) κ') (As := [.int (xs (i + 1).toNatClampNeg)]) (rest := []) hF hT hE mv_L_23 ci_X11 (by decide) (fun sz => c_X11_share l D t G κ xx (xs (i + 1).toNatClampNeg) _ (k_share hJ hn (xs (i + 1).toNatClampNeg) (fun _ _ h => h)) sz) dL_law_192 hJ.mm ⟨Nat.le_of_ble_eq_true rfl, Nat.le_of_ble_eq_true rfl⟩ rfl hl.1 (Nat.le_of_ble_eq_true rfl) rfl (fun r1 κ H locs cells slots hJ hT => ?_)
  refine lv_pop hx hb dL_law_195 rfl ?_
  refine lv_aload_n hx hb dL_law_196 rfl (lv_at hl 1 rfl) ?_
  refine lv_aload_n hx hb dL_law_197 rfl (lv_at hl 3 rfl) ?_
  refine lv_iload_n hx hb dL_law_198 rfl (lv_at hl 0 rfl) ?_
  refine lv_iconst (v := 1) hx hb dL_law_199 (by decide) ?_
  refine lv_iadd hx hb dL_law_200 ?_
  refine r_sld (v := (xs (i + 1).toNatClampNeg)) hF hX hbl hT.2.2.1 (vin (by omega) (by omega)) rfl dL_law_201 ?_
  refine lw_cR (post := fun r σ' => RI mm Lm (1000000 * (n : Int) + 1000000) σ') (As := [.int (xs (i + 1).toNatClampNeg)]) (rest := []) hF hT hR.1.2 mv_L_27 (fun sz => c_X12_share l D t mm Lm σ hR.1.2 (xs (i + 1).toNatClampNeg) _ (r_X12_share hR hB (xs (i + 1).toNatClampNeg) (fun _ _ h => h)) sz) dL_law_202 rfl rfl ⟨Nat.le_of_ble_eq_true rfl, Nat.le_of_ble_eq_true rfl⟩ rfl hl.1 (Nat.le_of_ble_eq_true rfl) rfl (fun r2 σ H locs hR hT => ?_)
  refine lv_pop hx hb dL_law_205 rfl ?_
  refine lv_goto (tgt := 449) hx hb dL_law_206 rfl ?_
  have eB : 1000000 * ((n + 1 : Nat) : Int) = 1000000 * (n : Int) + 1000000 := by omega
  exact kk κ σ H locs cells slots ⟨hT, hJ, Lm, by rw [eB]; exact hR⟩
set_option maxRecDepth 100000 in
set_option maxHeartbeats 4000000 in
theorem law_connect (hF : FX p m c code 4 s #[Value.ref bb] RL D t) (hE : EZ G (lA s) s s.heap) (hX : va_X bb N xs s s.heap) (hbl : bb < s.heap.size) (hi : i.toInt = 6 * (n : Int)) (hn : n < 64) (hN : 6 * n + 6 ≤ N) (hl : lv_has ls 4 [(3, .int i), (2, .ref mm), (1, .ref xx), (0, .ref bb)]) (hI : LI D t s G xx mm n κ σ H locs cells slots) (kk : ∀ (κ' : CS) (σ' : HS) (H' : Heap) (locs' : List Loc) (cells' slots' : Nat), LI D t s G xx mm (n + 1) κ' σ' H' locs' cells' slots' → W p l e room_1 s m #[Value.ref bb] below meth c H' locs' cells' slots' Q (F0 m 449 ls [])) : W p l e room_1 s m #[Value.ref bb] below meth c H locs cells slots Q (F0 m 209 ls []) := by
  have hx := hF.1.1
  have hb := hF.1.2.1
  obtain ⟨hT, hJ, Lm, hR⟩ := hI
  have hB : 1000000 * (n : Int) + 2000000 < 4611686018427387904 := by omega
  have k1 : (1 : Int32).toInt = 1 := rfl
  have z1 := i_add (x := i) (y := 1) (z := i + 1) rfl (by omega) (by omega)
  have k2 : (2 : Int32).toInt = 2 := rfl
  have z2 := i_add (x := i) (y := 2) (z := i + 2) rfl (by omega) (by omega)
  have k3 : (3 : Int32).toInt = 3 := rfl
  have z3 := i_add (x := i) (y := 3) (z := i + 3) rfl (by omega) (by omega)
  have k4 : (4 : Int32).toInt = 4 := rfl
  have z4 := i_add (x := i) (y := 4) (z := i + 4) rfl (by omega) (by omega)
  have k5 : (5 : Int32).toInt = 5 := rfl
  have z5 := i_add (x := i) (y := 5) (z := i + 5) rfl (by omega) (by omega)
  refine lv_aload_n hx hb dL_law_209 rfl (lv_at hl 2 rfl) ?_
  refine lv_aload_n hx hb dL_law_210 rfl (lv_at hl 3 rfl) ?_
  refine lv_iload_n hx hb dL_law_211 rfl (lv_at hl 0 rfl) ?_
  refine lv_iconst (v := 1) hx hb dL_law_212 (by decide) ?_
  refine lv_iadd hx hb dL_law_213 ?_
  refine r_sld (v := (xs (i + 1).toNatClampNeg)) hF hX hbl hT.2.2.1 (vin (by omega) (by omega)) rfl dL_law_214 ?_
  refine lw_cC (post := fun r κ' => CJ G xx (n + 1) κ') (As := [.int (xs (i + 1).toNatClampNeg)]) (rest := []) hF hT hE mv_L_28 ci_X11 (by decide) (fun sz => c_X11_connect l D t G κ xx (xs (i + 1).toNatClampNeg) _ (k_connect hJ hn (xs (i + 1).toNatClampNeg) (fun _ _ h => h)) sz) dL_law_215 hJ.mm ⟨Nat.le_of_ble_eq_true rfl, Nat.le_of_ble_eq_true rfl⟩ rfl hl.1 (Nat.le_of_ble_eq_true rfl) rfl (fun r1 κ H locs cells slots hJ hT => ?_)
  refine lv_pop hx hb dL_law_218 rfl ?_
  refine lv_aload_n hx hb dL_law_219 rfl (lv_at hl 1 rfl) ?_
  refine lv_aload_n hx hb dL_law_220 rfl (lv_at hl 3 rfl) ?_
  refine lv_iload_n hx hb dL_law_221 rfl (lv_at hl 0 rfl) ?_
  refine lv_iconst (v := 1) hx hb dL_law_222 (by decide) ?_
  refine lv_iadd hx hb dL_law_223 ?_
  refine r_sld (v := (xs (i + 1).toNatClampNeg)) hF hX hbl hT.2.2.1 (vin (by omega) (by omega)) rfl dL_law_224 ?_
  refine lw_cR (post := fun r σ' => RI mm Lm (1000000 * (n : Int) + 1000000) σ') (As := [.int (xs (i + 1).toNatClampNeg)]) (rest := []) hF hT hR.1.2 mv_L_31 (fun sz => c_X12_connect l D t mm Lm σ hR.1.2 (xs (i + 1).toNatClampNeg) _ (r_X12_connect hR hB (xs (i + 1).toNatClampNeg) (fun _ _ h => h)) sz) dL_law_225 rfl rfl ⟨Nat.le_of_ble_eq_true rfl, Nat.le_of_ble_eq_true rfl⟩ rfl hl.1 (Nat.le_of_ble_eq_true rfl) rfl (fun r2 σ H locs hR hT => ?_)
  refine lv_pop hx hb dL_law_228 rfl ?_
  refine lv_goto (tgt := 449) hx hb dL_law_229 rfl ?_
  have eB : 1000000 * ((n + 1 : Nat) : Int) = 1000000 * (n : Int) + 1000000 := by omega
  exact kk κ σ H locs cells slots ⟨hT, hJ, Lm, by rw [eB]; exact hR⟩
set_option maxRecDepth 100000 in
set_option maxHeartbeats 4000000 in
theorem law_hang (hF : FX p m c code 4 s #[Value.ref bb] RL D t) (hE : EZ G (lA s) s s.heap) (hX : va_X bb N xs s s.heap) (hbl : bb < s.heap.size) (hi : i.toInt = 6 * (n : Int)) (hn : n < 64) (hN : 6 * n + 6 ≤ N) (hl : lv_has ls 4 [(3, .int i), (2, .ref mm), (1, .ref xx), (0, .ref bb)]) (hI : LI D t s G xx mm n κ σ H locs cells slots) (kk : ∀ (κ' : CS) (σ' : HS) (H' : Heap) (locs' : List Loc) (cells' slots' : Nat), LI D t s G xx mm (n + 1) κ' σ' H' locs' cells' slots' → W p l e room_1 s m #[Value.ref bb] below meth c H' locs' cells' slots' Q (F0 m 449 ls [])) : W p l e room_1 s m #[Value.ref bb] below meth c H locs cells slots Q (F0 m 232 ls []) := by
  have hx := hF.1.1
  have hb := hF.1.2.1
  obtain ⟨hT, hJ, Lm, hR⟩ := hI
  have hB : 1000000 * (n : Int) + 2000000 < 4611686018427387904 := by omega
  have k1 : (1 : Int32).toInt = 1 := rfl
  have z1 := i_add (x := i) (y := 1) (z := i + 1) rfl (by omega) (by omega)
  have k2 : (2 : Int32).toInt = 2 := rfl
  have z2 := i_add (x := i) (y := 2) (z := i + 2) rfl (by omega) (by omega)
  have k3 : (3 : Int32).toInt = 3 := rfl
  have z3 := i_add (x := i) (y := 3) (z := i + 3) rfl (by omega) (by omega)
  have k4 : (4 : Int32).toInt = 4 := rfl
  have z4 := i_add (x := i) (y := 4) (z := i + 4) rfl (by omega) (by omega)
  have k5 : (5 : Int32).toInt = 5 := rfl
  have z5 := i_add (x := i) (y := 5) (z := i + 5) rfl (by omega) (by omega)
  refine lv_aload_n hx hb dL_law_232 rfl (lv_at hl 2 rfl) ?_
  refine lv_aload_n hx hb dL_law_233 rfl (lv_at hl 3 rfl) ?_
  refine lv_iload_n hx hb dL_law_234 rfl (lv_at hl 0 rfl) ?_
  refine lv_iconst (v := 1) hx hb dL_law_235 (by decide) ?_
  refine lv_iadd hx hb dL_law_236 ?_
  refine r_sld (v := (xs (i + 1).toNatClampNeg)) hF hX hbl hT.2.2.1 (vin (by omega) (by omega)) rfl dL_law_237 ?_
  refine lw_cC (post := fun r κ' => CJ G xx (n + 1) κ') (As := [.int (xs (i + 1).toNatClampNeg)]) (rest := []) hF hT hE mv_L_32 ci_X11 (by decide) (fun sz => c_X11_hang l D t G κ xx (xs (i + 1).toNatClampNeg) _ (k_hang hJ hn (xs (i + 1).toNatClampNeg) (fun _ _ h => h)) sz) dL_law_238 hJ.mm ⟨Nat.le_of_ble_eq_true rfl, Nat.le_of_ble_eq_true rfl⟩ rfl hl.1 (Nat.le_of_ble_eq_true rfl) rfl (fun r1 κ H locs cells slots hJ hT => ?_)
  refine lv_pop hx hb dL_law_241 rfl ?_
  refine lv_aload_n hx hb dL_law_242 rfl (lv_at hl 1 rfl) ?_
  refine lv_aload_n hx hb dL_law_243 rfl (lv_at hl 3 rfl) ?_
  refine lv_iload_n hx hb dL_law_244 rfl (lv_at hl 0 rfl) ?_
  refine lv_iconst (v := 1) hx hb dL_law_245 (by decide) ?_
  refine lv_iadd hx hb dL_law_246 ?_
  refine r_sld (v := (xs (i + 1).toNatClampNeg)) hF hX hbl hT.2.2.1 (vin (by omega) (by omega)) rfl dL_law_247 ?_
  refine lw_cR (post := fun r σ' => RI mm Lm (1000000 * (n : Int) + 1000000) σ') (As := [.int (xs (i + 1).toNatClampNeg)]) (rest := []) hF hT hR.1.2 mv_L_35 (fun sz => c_X12_hang l D t mm Lm σ hR.1.2 (xs (i + 1).toNatClampNeg) _ (r_X12_hang hR hB (xs (i + 1).toNatClampNeg) (fun _ _ h => h)) sz) dL_law_248 rfl rfl ⟨Nat.le_of_ble_eq_true rfl, Nat.le_of_ble_eq_true rfl⟩ rfl hl.1 (Nat.le_of_ble_eq_true rfl) rfl (fun r2 σ H locs hR hT => ?_)
  refine lv_pop hx hb dL_law_251 rfl ?_
  refine lv_goto (tgt := 449) hx hb dL_law_252 rfl ?_
  have eB : 1000000 * ((n + 1 : Nat) : Int) = 1000000 * (n : Int) + 1000000 := by omega
  exact kk κ σ H locs cells slots ⟨hT, hJ, Lm, by rw [eB]; exact hR⟩
set_option maxRecDepth 100000 in
set_option maxHeartbeats 4000000 in
theorem law_come (hF : FX p m c code 4 s #[Value.ref bb] RL D t) (hE : EZ G (lA s) s s.heap) (hX : va_X bb N xs s s.heap) (hbl : bb < s.heap.size) (hi : i.toInt = 6 * (n : Int)) (hn : n < 64) (hN : 6 * n + 6 ≤ N) (hl : lv_has ls 4 [(3, .int i), (2, .ref mm), (1, .ref xx), (0, .ref bb)]) (hI : LI D t s G xx mm n κ σ H locs cells slots) (kk : ∀ (κ' : CS) (σ' : HS) (H' : Heap) (locs' : List Loc) (cells' slots' : Nat), LI D t s G xx mm (n + 1) κ' σ' H' locs' cells' slots' → W p l e room_1 s m #[Value.ref bb] below meth c H' locs' cells' slots' Q (F0 m 449 ls [])) : W p l e room_1 s m #[Value.ref bb] below meth c H locs cells slots Q (F0 m 255 ls []) := by
  have hx := hF.1.1
  have hb := hF.1.2.1
  obtain ⟨hT, hJ, Lm, hR⟩ := hI
  have hB : 1000000 * (n : Int) + 2000000 < 4611686018427387904 := by omega
  have k1 : (1 : Int32).toInt = 1 := rfl
  have z1 := i_add (x := i) (y := 1) (z := i + 1) rfl (by omega) (by omega)
  have k2 : (2 : Int32).toInt = 2 := rfl
  have z2 := i_add (x := i) (y := 2) (z := i + 2) rfl (by omega) (by omega)
  have k3 : (3 : Int32).toInt = 3 := rfl
  have z3 := i_add (x := i) (y := 3) (z := i + 3) rfl (by omega) (by omega)
  have k4 : (4 : Int32).toInt = 4 := rfl
  have z4 := i_add (x := i) (y := 4) (z := i + 4) rfl (by omega) (by omega)
  have k5 : (5 : Int32).toInt = 5 := rfl
  have z5 := i_add (x := i) (y := 5) (z := i + 5) rfl (by omega) (by omega)
  refine lv_aload_n hx hb dL_law_255 rfl (lv_at hl 2 rfl) ?_
  refine lv_aload_n hx hb dL_law_256 rfl (lv_at hl 3 rfl) ?_
  refine lv_iload_n hx hb dL_law_257 rfl (lv_at hl 0 rfl) ?_
  refine lv_iconst (v := 1) hx hb dL_law_258 (by decide) ?_
  refine lv_iadd hx hb dL_law_259 ?_
  refine r_sld (v := (xs (i + 1).toNatClampNeg)) hF hX hbl hT.2.2.1 (vin (by omega) (by omega)) rfl dL_law_260 ?_
  refine lw_cC (post := fun r κ' => CJ G xx (n + 1) κ') (As := [.int (xs (i + 1).toNatClampNeg)]) (rest := []) hF hT hE mv_L_36 ci_X11 (by decide) (fun sz => c_X11_come l D t G κ xx (xs (i + 1).toNatClampNeg) _ (k_come hJ hn (xs (i + 1).toNatClampNeg) (fun _ _ h => h)) sz) dL_law_261 hJ.mm ⟨Nat.le_of_ble_eq_true rfl, Nat.le_of_ble_eq_true rfl⟩ rfl hl.1 (Nat.le_of_ble_eq_true rfl) rfl (fun r1 κ H locs cells slots hJ hT => ?_)
  refine lv_pop hx hb dL_law_264 rfl ?_
  refine lv_aload_n hx hb dL_law_265 rfl (lv_at hl 1 rfl) ?_
  refine lv_aload_n hx hb dL_law_266 rfl (lv_at hl 3 rfl) ?_
  refine lv_iload_n hx hb dL_law_267 rfl (lv_at hl 0 rfl) ?_
  refine lv_iconst (v := 1) hx hb dL_law_268 (by decide) ?_
  refine lv_iadd hx hb dL_law_269 ?_
  refine r_sld (v := (xs (i + 1).toNatClampNeg)) hF hX hbl hT.2.2.1 (vin (by omega) (by omega)) rfl dL_law_270 ?_
  refine lw_cR (post := fun r σ' => RI mm Lm (1000000 * (n : Int) + 1000000) σ') (As := [.int (xs (i + 1).toNatClampNeg)]) (rest := []) hF hT hR.1.2 mv_L_39 (fun sz => c_X12_come_ l D t mm Lm σ hR.1.2 (xs (i + 1).toNatClampNeg) _ (r_X12_come_ hR hB (xs (i + 1).toNatClampNeg) (fun _ _ h => h)) sz) dL_law_271 rfl rfl ⟨Nat.le_of_ble_eq_true rfl, Nat.le_of_ble_eq_true rfl⟩ rfl hl.1 (Nat.le_of_ble_eq_true rfl) rfl (fun r2 σ H locs hR hT => ?_)
  refine lv_pop hx hb dL_law_274 rfl ?_
  refine lv_goto (tgt := 449) hx hb dL_law_275 rfl ?_
  have eB : 1000000 * ((n + 1 : Nat) : Int) = 1000000 * (n : Int) + 1000000 := by omega
  exact kk κ σ H locs cells slots ⟨hT, hJ, Lm, by rw [eB]; exact hR⟩
set_option maxRecDepth 100000 in
set_option maxHeartbeats 4000000 in
theorem law_isOpen (hF : FX p m c code 4 s #[Value.ref bb] RL D t) (hE : EZ G (lA s) s s.heap) (hX : va_X bb N xs s s.heap) (hbl : bb < s.heap.size) (hi : i.toInt = 6 * (n : Int)) (hn : n < 64) (hN : 6 * n + 6 ≤ N) (hl : lv_has ls 4 [(3, .int i), (2, .ref mm), (1, .ref xx), (0, .ref bb)]) (hI : LI D t s G xx mm n κ σ H locs cells slots) (kk : ∀ (κ' : CS) (σ' : HS) (H' : Heap) (locs' : List Loc) (cells' slots' : Nat), LI D t s G xx mm (n + 1) κ' σ' H' locs' cells' slots' → W p l e room_1 s m #[Value.ref bb] below meth c H' locs' cells' slots' Q (F0 m 449 ls [])) : W p l e room_1 s m #[Value.ref bb] below meth c H locs cells slots Q (F0 m 278 ls []) := by
  have hx := hF.1.1
  have hb := hF.1.2.1
  obtain ⟨hT, hJ, Lm, hR⟩ := hI
  have hB : 1000000 * (n : Int) + 2000000 < 4611686018427387904 := by omega
  have k1 : (1 : Int32).toInt = 1 := rfl
  have z1 := i_add (x := i) (y := 1) (z := i + 1) rfl (by omega) (by omega)
  have k2 : (2 : Int32).toInt = 2 := rfl
  have z2 := i_add (x := i) (y := 2) (z := i + 2) rfl (by omega) (by omega)
  have k3 : (3 : Int32).toInt = 3 := rfl
  have z3 := i_add (x := i) (y := 3) (z := i + 3) rfl (by omega) (by omega)
  have k4 : (4 : Int32).toInt = 4 := rfl
  have z4 := i_add (x := i) (y := 4) (z := i + 4) rfl (by omega) (by omega)
  have k5 : (5 : Int32).toInt = 5 := rfl
  have z5 := i_add (x := i) (y := 5) (z := i + 5) rfl (by omega) (by omega)
  refine lv_aload_n hx hb dL_law_278 rfl (lv_at hl 2 rfl) ?_
  refine lv_aload_n hx hb dL_law_279 rfl (lv_at hl 3 rfl) ?_
  refine lv_iload_n hx hb dL_law_280 rfl (lv_at hl 0 rfl) ?_
  refine lv_iconst (v := 1) hx hb dL_law_281 (by decide) ?_
  refine lv_iadd hx hb dL_law_282 ?_
  refine r_sld (v := (xs (i + 1).toNatClampNeg)) hF hX hbl hT.2.2.1 (vin (by omega) (by omega)) rfl dL_law_283 ?_
  refine lw_cC (post := fun r κ' => CJ G xx (n + 1) κ') (As := [.int (xs (i + 1).toNatClampNeg)]) (rest := []) hF hT hE mv_L_40 ci_X11 (by decide) (fun sz => c_X11_isOpen l D t G κ xx (xs (i + 1).toNatClampNeg) _ (k_isOpen hJ hn (xs (i + 1).toNatClampNeg) (fun _ _ h => h)) sz) dL_law_284 hJ.mm ⟨Nat.le_of_ble_eq_true rfl, Nat.le_of_ble_eq_true rfl⟩ rfl hl.1 (Nat.le_of_ble_eq_true rfl) rfl (fun r1 κ H locs cells slots hJ hT => ?_)
  refine lv_pop hx hb dL_law_287 rfl ?_
  refine lv_aload_n hx hb dL_law_288 rfl (lv_at hl 1 rfl) ?_
  refine lv_aload_n hx hb dL_law_289 rfl (lv_at hl 3 rfl) ?_
  refine lv_iload_n hx hb dL_law_290 rfl (lv_at hl 0 rfl) ?_
  refine lv_iconst (v := 1) hx hb dL_law_291 (by decide) ?_
  refine lv_iadd hx hb dL_law_292 ?_
  refine r_sld (v := (xs (i + 1).toNatClampNeg)) hF hX hbl hT.2.2.1 (vin (by omega) (by omega)) rfl dL_law_293 ?_
  refine lw_cR (post := fun r σ' => RI mm Lm (1000000 * (n : Int) + 1000000) σ') (As := [.int (xs (i + 1).toNatClampNeg)]) (rest := []) hF hT hR.1.2 mv_L_43 (fun sz => c_X12_isOpen l D t mm Lm σ hR.1.2 (xs (i + 1).toNatClampNeg) _ (r_X12_isOpen hR hB (xs (i + 1).toNatClampNeg) (fun _ _ h => h)) sz) dL_law_294 rfl rfl ⟨Nat.le_of_ble_eq_true rfl, Nat.le_of_ble_eq_true rfl⟩ rfl hl.1 (Nat.le_of_ble_eq_true rfl) rfl (fun r2 σ H locs hR hT => ?_)
  refine lv_pop hx hb dL_law_297 rfl ?_
  refine lv_goto (tgt := 449) hx hb dL_law_298 rfl ?_
  have eB : 1000000 * ((n + 1 : Nat) : Int) = 1000000 * (n : Int) + 1000000 := by omega
  exact kk κ σ H locs cells slots ⟨hT, hJ, Lm, by rw [eB]; exact hR⟩
set_option maxRecDepth 100000 in
set_option maxHeartbeats 4000000 in
theorem law_tick (hF : FX p m c code 4 s #[Value.ref bb] RL D t) (hE : EZ G (lA s) s s.heap) (hX : va_X bb N xs s s.heap) (hbl : bb < s.heap.size) (hi : i.toInt = 6 * (n : Int)) (hn : n < 64) (hN : 6 * n + 6 ≤ N) (hl : lv_has ls 4 [(3, .int i), (2, .ref mm), (1, .ref xx), (0, .ref bb)]) (hI : LI D t s G xx mm n κ σ H locs cells slots) (kk : ∀ (κ' : CS) (σ' : HS) (H' : Heap) (locs' : List Loc) (cells' slots' : Nat), LI D t s G xx mm (n + 1) κ' σ' H' locs' cells' slots' → W p l e room_1 s m #[Value.ref bb] below meth c H' locs' cells' slots' Q (F0 m 449 ls [])) : W p l e room_1 s m #[Value.ref bb] below meth c H locs cells slots Q (F0 m 301 ls []) := by
  have hx := hF.1.1
  have hb := hF.1.2.1
  obtain ⟨hT, hJ, Lm, hR⟩ := hI
  have hB : 1000000 * (n : Int) + 2000000 < 4611686018427387904 := by omega
  have k1 : (1 : Int32).toInt = 1 := rfl
  have z1 := i_add (x := i) (y := 1) (z := i + 1) rfl (by omega) (by omega)
  have k2 : (2 : Int32).toInt = 2 := rfl
  have z2 := i_add (x := i) (y := 2) (z := i + 2) rfl (by omega) (by omega)
  have k3 : (3 : Int32).toInt = 3 := rfl
  have z3 := i_add (x := i) (y := 3) (z := i + 3) rfl (by omega) (by omega)
  have k4 : (4 : Int32).toInt = 4 := rfl
  have z4 := i_add (x := i) (y := 4) (z := i + 4) rfl (by omega) (by omega)
  have k5 : (5 : Int32).toInt = 5 := rfl
  have z5 := i_add (x := i) (y := 5) (z := i + 5) rfl (by omega) (by omega)
  refine lv_aload_n hx hb dL_law_301 rfl (lv_at hl 2 rfl) ?_
  refine lv_aload_n hx hb dL_law_302 rfl (lv_at hl 3 rfl) ?_
  refine lv_iload_n hx hb dL_law_303 rfl (lv_at hl 0 rfl) ?_
  refine lv_iconst (v := 1) hx hb dL_law_304 (by decide) ?_
  refine lv_iadd hx hb dL_law_305 ?_
  refine r_sld (v := (xs (i + 1).toNatClampNeg)) hF hX hbl hT.2.2.1 (vin (by omega) (by omega)) rfl dL_law_306 ?_
  refine lw_cC (post := fun r κ' => CJ G xx (n + 1) κ' ∧ ((0 ≤ (xs (i + 1).toNatClampNeg).toInt ∧ (xs (i + 1).toNatClampNeg).toInt ≤ 1000000 ∧ r.toInt = 1) ∨ (((xs (i + 1).toNatClampNeg).toInt < 0 ∨ 1000000 < (xs (i + 1).toNatClampNeg).toInt) ∧ r.toInt = 0))) (As := [.int (xs (i + 1).toNatClampNeg)]) (rest := []) hF hT hE mv_L_44 ci_X11 (by decide) (fun sz => c_X11_tick l D t G κ xx (xs (i + 1).toNatClampNeg) _ (k_tick hJ hn (xs (i + 1).toNatClampNeg) (fun _ _ h g => ⟨h, g⟩)) sz) dL_law_307 hJ.mm ⟨Nat.le_of_ble_eq_true rfl, Nat.le_of_ble_eq_true rfl⟩ rfl hl.1 (Nat.le_of_ble_eq_true rfl) rfl (fun r1 κ H locs cells slots hJ hT => ?_)
  refine lv_aload_n hx hb dL_law_310 rfl (lv_at hl 1 rfl) ?_
  refine lv_aload_n hx hb dL_law_311 rfl (lv_at hl 3 rfl) ?_
  refine lv_iload_n hx hb dL_law_312 rfl (lv_at hl 0 rfl) ?_
  refine lv_iconst (v := 1) hx hb dL_law_313 (by decide) ?_
  refine lv_iadd hx hb dL_law_314 ?_
  refine r_sld (v := (xs (i + 1).toNatClampNeg)) hF hX hbl hT.2.2.1 (vin (by omega) (by omega)) rfl dL_law_315 ?_
  refine lw_cR (post := fun r σ' => RI mm Lm (1000000 * (n : Int) + 1000000) σ' ∧ ((0 ≤ (xs (i + 1).toNatClampNeg).toInt ∧ (xs (i + 1).toNatClampNeg).toInt ≤ 1000000 ∧ r.toInt = 1) ∨ (((xs (i + 1).toNatClampNeg).toInt < 0 ∨ 1000000 < (xs (i + 1).toNatClampNeg).toInt) ∧ r.toInt = 0))) (As := [.int (xs (i + 1).toNatClampNeg)]) (rest := [.int r1]) hF hT hR.1.2 mv_L_47 (fun sz => c_X12_tick l D t mm Lm σ hR.1.2 (xs (i + 1).toNatClampNeg) _ (r_X12_tick hR hB (xs (i + 1).toNatClampNeg) (fun _ _ h g => ⟨h, g⟩)) sz) dL_law_316 rfl rfl ⟨Nat.le_of_ble_eq_true rfl, Nat.le_of_ble_eq_true rfl⟩ rfl hl.1 (Nat.le_of_ble_eq_true rfl) rfl (fun r2 σ H locs hR hT => ?_)
  have er : r1 = r2 := Int32.toInt_inj.mp (by have q1 := hJ.2; have q2 := hR.2; omega)
  refine lv_icmp_eq (tgt := 449) hx hb dL_law_319 rfl (fun _ => ?_) (fun h => absurd er h)
  have eB : 1000000 * ((n + 1 : Nat) : Int) = 1000000 * (n : Int) + 1000000 := by omega
  exact kk κ σ H locs cells slots ⟨hT, hJ.1, Lm, by rw [eB]; exact hR.1⟩
set_option maxRecDepth 100000 in
set_option maxHeartbeats 4000000 in
theorem law_crash (hF : FX p m c code 4 s #[Value.ref bb] RL D t) (hE : EZ G (lA s) s s.heap) (hX : va_X bb N xs s s.heap) (hbl : bb < s.heap.size) (hi : i.toInt = 6 * (n : Int)) (hn : n < 64) (hN : 6 * n + 6 ≤ N) (hl : lv_has ls 4 [(3, .int i), (2, .ref mm), (1, .ref xx), (0, .ref bb)]) (hI : LI D t s G xx mm n κ σ H locs cells slots) (kk : ∀ (κ' : CS) (σ' : HS) (H' : Heap) (locs' : List Loc) (cells' slots' : Nat), LI D t s G xx mm (n + 1) κ' σ' H' locs' cells' slots' → W p l e room_1 s m #[Value.ref bb] below meth c H' locs' cells' slots' Q (F0 m 449 ls [])) : W p l e room_1 s m #[Value.ref bb] below meth c H locs cells slots Q (F0 m 324 ls []) := by
  have hx := hF.1.1
  have hb := hF.1.2.1
  obtain ⟨hT, hJ, Lm, hR⟩ := hI
  have hB : 1000000 * (n : Int) + 2000000 < 4611686018427387904 := by omega
  have k1 : (1 : Int32).toInt = 1 := rfl
  have z1 := i_add (x := i) (y := 1) (z := i + 1) rfl (by omega) (by omega)
  have k2 : (2 : Int32).toInt = 2 := rfl
  have z2 := i_add (x := i) (y := 2) (z := i + 2) rfl (by omega) (by omega)
  have k3 : (3 : Int32).toInt = 3 := rfl
  have z3 := i_add (x := i) (y := 3) (z := i + 3) rfl (by omega) (by omega)
  have k4 : (4 : Int32).toInt = 4 := rfl
  have z4 := i_add (x := i) (y := 4) (z := i + 4) rfl (by omega) (by omega)
  have k5 : (5 : Int32).toInt = 5 := rfl
  have z5 := i_add (x := i) (y := 5) (z := i + 5) rfl (by omega) (by omega)
  refine lv_aload_n hx hb dL_law_324 rfl (lv_at hl 2 rfl) ?_
  refine lv_aload_n hx hb dL_law_325 rfl (lv_at hl 3 rfl) ?_
  refine lv_iload_n hx hb dL_law_326 rfl (lv_at hl 0 rfl) ?_
  refine lv_iconst (v := 1) hx hb dL_law_327 (by decide) ?_
  refine lv_iadd hx hb dL_law_328 ?_
  refine r_sld (v := (xs (i + 1).toNatClampNeg)) hF hX hbl hT.2.2.1 (vin (by omega) (by omega)) rfl dL_law_329 ?_
  refine lw_cC (post := fun r κ' => CJ G xx (n + 1) κ') (As := [.int (xs (i + 1).toNatClampNeg)]) (rest := []) hF hT hE mv_L_48 ci_X11 (by decide) (fun sz => c_X11_crash l D t G κ xx (xs (i + 1).toNatClampNeg) _ (k_crash hJ hn (xs (i + 1).toNatClampNeg) (fun _ _ h => h)) sz) dL_law_330 hJ.mm ⟨Nat.le_of_ble_eq_true rfl, Nat.le_of_ble_eq_true rfl⟩ rfl hl.1 (Nat.le_of_ble_eq_true rfl) rfl (fun r1 κ H locs cells slots hJ hT => ?_)
  refine lv_pop hx hb dL_law_333 rfl ?_
  refine lv_aload_n hx hb dL_law_334 rfl (lv_at hl 1 rfl) ?_
  refine lv_aload_n hx hb dL_law_335 rfl (lv_at hl 3 rfl) ?_
  refine lv_iload_n hx hb dL_law_336 rfl (lv_at hl 0 rfl) ?_
  refine lv_iconst (v := 1) hx hb dL_law_337 (by decide) ?_
  refine lv_iadd hx hb dL_law_338 ?_
  refine r_sld (v := (xs (i + 1).toNatClampNeg)) hF hX hbl hT.2.2.1 (vin (by omega) (by omega)) rfl dL_law_339 ?_
  refine lw_cR (post := fun r σ' => RI mm Lm (1000000 * (n : Int) + 1000000) σ') (As := [.int (xs (i + 1).toNatClampNeg)]) (rest := []) hF hT hR.1.2 mv_L_51 (fun sz => c_X12_crash l D t mm Lm σ hR.1.2 (xs (i + 1).toNatClampNeg) _ (r_X12_crash hR hB (xs (i + 1).toNatClampNeg) (fun _ _ h => h)) sz) dL_law_340 rfl rfl ⟨Nat.le_of_ble_eq_true rfl, Nat.le_of_ble_eq_true rfl⟩ rfl hl.1 (Nat.le_of_ble_eq_true rfl) rfl (fun r2 σ H locs hR hT => ?_)
  refine lv_pop hx hb dL_law_343 rfl ?_
  refine lv_goto (tgt := 449) hx hb dL_law_344 rfl ?_
  have eB : 1000000 * ((n + 1 : Nat) : Int) = 1000000 * (n : Int) + 1000000 := by omega
  exact kk κ σ H locs cells slots ⟨hT, hJ, Lm, by rw [eB]; exact hR⟩
set_option maxRecDepth 100000 in
set_option maxHeartbeats 4000000 in
theorem law_outs (hF : FX p m c code 4 s #[Value.ref bb] RL D t) (hE : EZ G (lA s) s s.heap) (hX : va_X bb N xs s s.heap) (hbl : bb < s.heap.size) (hi : i.toInt = 6 * (n : Int)) (hn : n < 64) (hN : 6 * n + 6 ≤ N) (hl : lv_has ls 4 [(3, .int i), (2, .ref mm), (1, .ref xx), (0, .ref bb)]) (hI : LI D t s G xx mm n κ σ H locs cells slots) (kk : ∀ (κ' : CS) (σ' : HS) (H' : Heap) (locs' : List Loc) (cells' slots' : Nat), LI D t s G xx mm (n + 1) κ' σ' H' locs' cells' slots' → W p l e room_1 s m #[Value.ref bb] below meth c H' locs' cells' slots' Q (F0 m 449 ls [])) : W p l e room_1 s m #[Value.ref bb] below meth c H locs cells slots Q (F0 m 347 ls []) := by
  have hx := hF.1.1
  have hb := hF.1.2.1
  obtain ⟨hT, hJ, Lm, hR⟩ := hI
  have hB : 1000000 * (n : Int) + 2000000 < 4611686018427387904 := by omega
  have k1 : (1 : Int32).toInt = 1 := rfl
  have z1 := i_add (x := i) (y := 1) (z := i + 1) rfl (by omega) (by omega)
  have k2 : (2 : Int32).toInt = 2 := rfl
  have z2 := i_add (x := i) (y := 2) (z := i + 2) rfl (by omega) (by omega)
  have k3 : (3 : Int32).toInt = 3 := rfl
  have z3 := i_add (x := i) (y := 3) (z := i + 3) rfl (by omega) (by omega)
  have k4 : (4 : Int32).toInt = 4 := rfl
  have z4 := i_add (x := i) (y := 4) (z := i + 4) rfl (by omega) (by omega)
  have k5 : (5 : Int32).toInt = 5 := rfl
  have z5 := i_add (x := i) (y := 5) (z := i + 5) rfl (by omega) (by omega)
  refine lv_aload_n hx hb dL_law_347 rfl (lv_at hl 2 rfl) ?_
  refine lv_aload_n hx hb dL_law_348 rfl (lv_at hl 3 rfl) ?_
  refine lv_iload_n hx hb dL_law_349 rfl (lv_at hl 0 rfl) ?_
  refine lv_iconst (v := 1) hx hb dL_law_350 (by decide) ?_
  refine lv_iadd hx hb dL_law_351 ?_
  refine r_sld (v := (xs (i + 1).toNatClampNeg)) hF hX hbl hT.2.2.1 (vin (by omega) (by omega)) rfl dL_law_352 ?_
  refine lw_cC (post := fun r κ' => CJ G xx (n + 1) κ') (As := [.int (xs (i + 1).toNatClampNeg)]) (rest := []) hF hT hE mv_L_52 ci_X11 (by decide) (fun sz => c_X11_outs l D t G κ xx (xs (i + 1).toNatClampNeg) _ (k_outs hJ hn (xs (i + 1).toNatClampNeg) (fun _ _ h => h)) sz) dL_law_353 hJ.mm ⟨Nat.le_of_ble_eq_true rfl, Nat.le_of_ble_eq_true rfl⟩ rfl hl.1 (Nat.le_of_ble_eq_true rfl) rfl (fun r1 κ H locs cells slots hJ hT => ?_)
  refine lv_pop hx hb dL_law_356 rfl ?_
  refine lv_aload_n hx hb dL_law_357 rfl (lv_at hl 1 rfl) ?_
  refine lv_aload_n hx hb dL_law_358 rfl (lv_at hl 3 rfl) ?_
  refine lv_iload_n hx hb dL_law_359 rfl (lv_at hl 0 rfl) ?_
  refine lv_iconst (v := 1) hx hb dL_law_360 (by decide) ?_
  refine lv_iadd hx hb dL_law_361 ?_
  refine r_sld (v := (xs (i + 1).toNatClampNeg)) hF hX hbl hT.2.2.1 (vin (by omega) (by omega)) rfl dL_law_362 ?_
  refine lw_cR (post := fun r σ' => RI mm Lm (1000000 * (n : Int) + 1000000) σ') (As := [.int (xs (i + 1).toNatClampNeg)]) (rest := []) hF hT hR.1.2 mv_L_55 (fun sz => c_X12_outs l D t mm Lm σ hR.1.2 (xs (i + 1).toNatClampNeg) _ (r_X12_outs hR hB (xs (i + 1).toNatClampNeg) (fun _ _ h => h)) sz) dL_law_363 rfl rfl ⟨Nat.le_of_ble_eq_true rfl, Nat.le_of_ble_eq_true rfl⟩ rfl hl.1 (Nat.le_of_ble_eq_true rfl) rfl (fun r2 σ H locs hR hT => ?_)
  refine lv_pop hx hb dL_law_366 rfl ?_
  refine lv_goto (tgt := 449) hx hb dL_law_367 rfl ?_
  have eB : 1000000 * ((n + 1 : Nat) : Int) = 1000000 * (n : Int) + 1000000 := by omega
  exact kk κ σ H locs cells slots ⟨hT, hJ, Lm, by rw [eB]; exact hR⟩
set_option maxRecDepth 100000 in
set_option maxHeartbeats 4000000 in
theorem law_out (hF : FX p m c code 4 s #[Value.ref bb] RL D t) (hE : EZ G (lA s) s s.heap) (hX : va_X bb N xs s s.heap) (hbl : bb < s.heap.size) (hi : i.toInt = 6 * (n : Int)) (hn : n < 64) (hN : 6 * n + 6 ≤ N) (hl : lv_has ls 4 [(3, .int i), (2, .ref mm), (1, .ref xx), (0, .ref bb)]) (hI : LI D t s G xx mm n κ σ H locs cells slots) (kk : ∀ (κ' : CS) (σ' : HS) (H' : Heap) (locs' : List Loc) (cells' slots' : Nat), LI D t s G xx mm (n + 1) κ' σ' H' locs' cells' slots' → W p l e room_1 s m #[Value.ref bb] below meth c H' locs' cells' slots' Q (F0 m 449 ls [])) : W p l e room_1 s m #[Value.ref bb] below meth c H locs cells slots Q (F0 m 370 ls []) := by
  have hx := hF.1.1
  have hb := hF.1.2.1
  obtain ⟨hT, hJ, Lm, hR⟩ := hI
  have hB : 1000000 * (n : Int) + 2000000 < 4611686018427387904 := by omega
  have k1 : (1 : Int32).toInt = 1 := rfl
  have z1 := i_add (x := i) (y := 1) (z := i + 1) rfl (by omega) (by omega)
  have k2 : (2 : Int32).toInt = 2 := rfl
  have z2 := i_add (x := i) (y := 2) (z := i + 2) rfl (by omega) (by omega)
  have k3 : (3 : Int32).toInt = 3 := rfl
  have z3 := i_add (x := i) (y := 3) (z := i + 3) rfl (by omega) (by omega)
  have k4 : (4 : Int32).toInt = 4 := rfl
  have z4 := i_add (x := i) (y := 4) (z := i + 4) rfl (by omega) (by omega)
  have k5 : (5 : Int32).toInt = 5 := rfl
  have z5 := i_add (x := i) (y := 5) (z := i + 5) rfl (by omega) (by omega)
  refine lv_aload_n hx hb dL_law_370 rfl (lv_at hl 2 rfl) ?_
  refine lv_aload_n hx hb dL_law_371 rfl (lv_at hl 3 rfl) ?_
  refine lv_iload_n hx hb dL_law_372 rfl (lv_at hl 0 rfl) ?_
  refine lv_iconst (v := 1) hx hb dL_law_373 (by decide) ?_
  refine lv_iadd hx hb dL_law_374 ?_
  refine r_sld (v := (xs (i + 1).toNatClampNeg)) hF hX hbl hT.2.2.1 (vin (by omega) (by omega)) rfl dL_law_375 ?_
  refine lv_aload_n hx hb dL_law_376 rfl (lv_at hl 3 rfl) ?_
  refine lv_iload_n hx hb dL_law_377 rfl (lv_at hl 0 rfl) ?_
  refine lv_iconst (v := 2) hx hb dL_law_378 (by decide) ?_
  refine lv_iadd hx hb dL_law_379 ?_
  refine r_sld (v := (xs (i + 2).toNatClampNeg)) hF hX hbl hT.2.2.1 (vin (by omega) (by omega)) rfl dL_law_380 ?_
  refine lw_cC (post := fun r κ' => CJ G xx (n + 1) κ') (As := [.int (xs (i + 1).toNatClampNeg), .int (xs (i + 2).toNatClampNeg)]) (rest := []) hF hT hE mv_L_56 ci_X11 (by decide) (fun sz => c_X11_out l D t G κ xx (xs (i + 1).toNatClampNeg) (xs (i + 2).toNatClampNeg) _ (k_out hJ hn (xs (i + 1).toNatClampNeg) (xs (i + 2).toNatClampNeg) (fun _ _ h => h)) sz) dL_law_381 hJ.mm ⟨Nat.le_of_ble_eq_true rfl, Nat.le_of_ble_eq_true rfl⟩ rfl hl.1 (Nat.le_of_ble_eq_true rfl) rfl (fun r1 κ H locs cells slots hJ hT => ?_)
  refine lv_pop hx hb dL_law_384 rfl ?_
  refine lv_aload_n hx hb dL_law_385 rfl (lv_at hl 1 rfl) ?_
  refine lv_aload_n hx hb dL_law_386 rfl (lv_at hl 3 rfl) ?_
  refine lv_iload_n hx hb dL_law_387 rfl (lv_at hl 0 rfl) ?_
  refine lv_iconst (v := 1) hx hb dL_law_388 (by decide) ?_
  refine lv_iadd hx hb dL_law_389 ?_
  refine r_sld (v := (xs (i + 1).toNatClampNeg)) hF hX hbl hT.2.2.1 (vin (by omega) (by omega)) rfl dL_law_390 ?_
  refine lv_aload_n hx hb dL_law_391 rfl (lv_at hl 3 rfl) ?_
  refine lv_iload_n hx hb dL_law_392 rfl (lv_at hl 0 rfl) ?_
  refine lv_iconst (v := 2) hx hb dL_law_393 (by decide) ?_
  refine lv_iadd hx hb dL_law_394 ?_
  refine r_sld (v := (xs (i + 2).toNatClampNeg)) hF hX hbl hT.2.2.1 (vin (by omega) (by omega)) rfl dL_law_395 ?_
  refine lw_cR (post := fun r σ' => RI mm Lm (1000000 * (n : Int) + 1000000) σ') (As := [.int (xs (i + 1).toNatClampNeg), .int (xs (i + 2).toNatClampNeg)]) (rest := []) hF hT hR.1.2 mv_L_60 (fun sz => c_X12_out l D t mm Lm σ hR.1.2 (xs (i + 1).toNatClampNeg) (xs (i + 2).toNatClampNeg) _ (r_X12_out hR hB (xs (i + 1).toNatClampNeg) (xs (i + 2).toNatClampNeg) (fun _ _ h => h)) sz) dL_law_396 rfl rfl ⟨Nat.le_of_ble_eq_true rfl, Nat.le_of_ble_eq_true rfl⟩ rfl hl.1 (Nat.le_of_ble_eq_true rfl) rfl (fun r2 σ H locs hR hT => ?_)
  refine lv_pop hx hb dL_law_399 rfl ?_
  refine lv_goto (tgt := 449) hx hb dL_law_400 rfl ?_
  have eB : 1000000 * ((n + 1 : Nat) : Int) = 1000000 * (n : Int) + 1000000 := by omega
  exact kk κ σ H locs cells slots ⟨hT, hJ, Lm, by rw [eB]; exact hR⟩
set_option maxRecDepth 100000 in
set_option maxHeartbeats 4000000 in
theorem law_drop (hF : FX p m c code 4 s #[Value.ref bb] RL D t) (hE : EZ G (lA s) s s.heap) (hX : va_X bb N xs s s.heap) (hbl : bb < s.heap.size) (hi : i.toInt = 6 * (n : Int)) (hn : n < 64) (hN : 6 * n + 6 ≤ N) (hl : lv_has ls 4 [(3, .int i), (2, .ref mm), (1, .ref xx), (0, .ref bb)]) (hI : LI D t s G xx mm n κ σ H locs cells slots) (kk : ∀ (κ' : CS) (σ' : HS) (H' : Heap) (locs' : List Loc) (cells' slots' : Nat), LI D t s G xx mm (n + 1) κ' σ' H' locs' cells' slots' → W p l e room_1 s m #[Value.ref bb] below meth c H' locs' cells' slots' Q (F0 m 449 ls [])) : W p l e room_1 s m #[Value.ref bb] below meth c H locs cells slots Q (F0 m 403 ls []) := by
  have hx := hF.1.1
  have hb := hF.1.2.1
  obtain ⟨hT, hJ, Lm, hR⟩ := hI
  have hB : 1000000 * (n : Int) + 2000000 < 4611686018427387904 := by omega
  have k1 : (1 : Int32).toInt = 1 := rfl
  have z1 := i_add (x := i) (y := 1) (z := i + 1) rfl (by omega) (by omega)
  have k2 : (2 : Int32).toInt = 2 := rfl
  have z2 := i_add (x := i) (y := 2) (z := i + 2) rfl (by omega) (by omega)
  have k3 : (3 : Int32).toInt = 3 := rfl
  have z3 := i_add (x := i) (y := 3) (z := i + 3) rfl (by omega) (by omega)
  have k4 : (4 : Int32).toInt = 4 := rfl
  have z4 := i_add (x := i) (y := 4) (z := i + 4) rfl (by omega) (by omega)
  have k5 : (5 : Int32).toInt = 5 := rfl
  have z5 := i_add (x := i) (y := 5) (z := i + 5) rfl (by omega) (by omega)
  refine lv_aload_n hx hb dL_law_403 rfl (lv_at hl 2 rfl) ?_
  refine lv_aload_n hx hb dL_law_404 rfl (lv_at hl 3 rfl) ?_
  refine lv_iload_n hx hb dL_law_405 rfl (lv_at hl 0 rfl) ?_
  refine lv_iconst (v := 1) hx hb dL_law_406 (by decide) ?_
  refine lv_iadd hx hb dL_law_407 ?_
  refine r_sld (v := (xs (i + 1).toNatClampNeg)) hF hX hbl hT.2.2.1 (vin (by omega) (by omega)) rfl dL_law_408 ?_
  refine lw_cC (post := fun r κ' => CJ G xx (n + 1) κ') (As := [.int (xs (i + 1).toNatClampNeg)]) (rest := []) hF hT hE mv_L_61 ci_X11 (by decide) (fun sz => c_X11_drop l D t G κ xx (xs (i + 1).toNatClampNeg) _ (k_drop hJ hn (xs (i + 1).toNatClampNeg) (fun _ _ h => h)) sz) dL_law_409 hJ.mm ⟨Nat.le_of_ble_eq_true rfl, Nat.le_of_ble_eq_true rfl⟩ rfl hl.1 (Nat.le_of_ble_eq_true rfl) rfl (fun r1 κ H locs cells slots hJ hT => ?_)
  refine lv_pop hx hb dL_law_412 rfl ?_
  refine lv_aload_n hx hb dL_law_413 rfl (lv_at hl 1 rfl) ?_
  refine lv_aload_n hx hb dL_law_414 rfl (lv_at hl 3 rfl) ?_
  refine lv_iload_n hx hb dL_law_415 rfl (lv_at hl 0 rfl) ?_
  refine lv_iconst (v := 1) hx hb dL_law_416 (by decide) ?_
  refine lv_iadd hx hb dL_law_417 ?_
  refine r_sld (v := (xs (i + 1).toNatClampNeg)) hF hX hbl hT.2.2.1 (vin (by omega) (by omega)) rfl dL_law_418 ?_
  refine lw_cR (post := fun r σ' => RI mm Lm (1000000 * (n : Int) + 1000000) σ') (As := [.int (xs (i + 1).toNatClampNeg)]) (rest := []) hF hT hR.1.2 mv_L_64 (fun sz => c_X12_drop l D t mm Lm σ hR.1.2 (xs (i + 1).toNatClampNeg) _ (r_X12_drop hR hB (xs (i + 1).toNatClampNeg) (fun _ _ h => h)) sz) dL_law_419 rfl rfl ⟨Nat.le_of_ble_eq_true rfl, Nat.le_of_ble_eq_true rfl⟩ rfl hl.1 (Nat.le_of_ble_eq_true rfl) rfl (fun r2 σ H locs hR hT => ?_)
  refine lv_pop hx hb dL_law_422 rfl ?_
  refine lv_goto (tgt := 449) hx hb dL_law_423 rfl ?_
  have eB : 1000000 * ((n + 1 : Nat) : Int) = 1000000 * (n : Int) + 1000000 := by omega
  exact kk κ σ H locs cells slots ⟨hT, hJ, Lm, by rw [eB]; exact hR⟩
set_option maxRecDepth 100000 in
set_option maxHeartbeats 4000000 in
theorem law_told (hF : FX p m c code 4 s #[Value.ref bb] RL D t) (hE : EZ G (lA s) s s.heap) (hX : va_X bb N xs s s.heap) (hbl : bb < s.heap.size) (hi : i.toInt = 6 * (n : Int)) (hn : n < 64) (hN : 6 * n + 6 ≤ N) (hl : lv_has ls 4 [(3, .int i), (2, .ref mm), (1, .ref xx), (0, .ref bb)]) (hI : LI D t s G xx mm n κ σ H locs cells slots) (kk : ∀ (κ' : CS) (σ' : HS) (H' : Heap) (locs' : List Loc) (cells' slots' : Nat), LI D t s G xx mm (n + 1) κ' σ' H' locs' cells' slots' → W p l e room_1 s m #[Value.ref bb] below meth c H' locs' cells' slots' Q (F0 m 449 ls [])) : W p l e room_1 s m #[Value.ref bb] below meth c H locs cells slots Q (F0 m 426 ls []) := by
  have hx := hF.1.1
  have hb := hF.1.2.1
  obtain ⟨hT, hJ, Lm, hR⟩ := hI
  have hB : 1000000 * (n : Int) + 2000000 < 4611686018427387904 := by omega
  have k1 : (1 : Int32).toInt = 1 := rfl
  have z1 := i_add (x := i) (y := 1) (z := i + 1) rfl (by omega) (by omega)
  have k2 : (2 : Int32).toInt = 2 := rfl
  have z2 := i_add (x := i) (y := 2) (z := i + 2) rfl (by omega) (by omega)
  have k3 : (3 : Int32).toInt = 3 := rfl
  have z3 := i_add (x := i) (y := 3) (z := i + 3) rfl (by omega) (by omega)
  have k4 : (4 : Int32).toInt = 4 := rfl
  have z4 := i_add (x := i) (y := 4) (z := i + 4) rfl (by omega) (by omega)
  have k5 : (5 : Int32).toInt = 5 := rfl
  have z5 := i_add (x := i) (y := 5) (z := i + 5) rfl (by omega) (by omega)
  refine lv_aload_n hx hb dL_law_426 rfl (lv_at hl 2 rfl) ?_
  refine lv_aload_n hx hb dL_law_427 rfl (lv_at hl 3 rfl) ?_
  refine lv_iload_n hx hb dL_law_428 rfl (lv_at hl 0 rfl) ?_
  refine lv_iconst (v := 1) hx hb dL_law_429 (by decide) ?_
  refine lv_iadd hx hb dL_law_430 ?_
  refine r_sld (v := (xs (i + 1).toNatClampNeg)) hF hX hbl hT.2.2.1 (vin (by omega) (by omega)) rfl dL_law_431 ?_
  refine lw_cC (post := fun r κ' => CJ G xx (n + 1) κ') (As := [.int (xs (i + 1).toNatClampNeg)]) (rest := []) hF hT hE mv_L_65 ci_X11 (by decide) (fun sz => c_X11_told l D t G κ xx (xs (i + 1).toNatClampNeg) _ (k_told hJ hn (xs (i + 1).toNatClampNeg) (fun _ _ h => h)) sz) dL_law_432 hJ.mm ⟨Nat.le_of_ble_eq_true rfl, Nat.le_of_ble_eq_true rfl⟩ rfl hl.1 (Nat.le_of_ble_eq_true rfl) rfl (fun r1 κ H locs cells slots hJ hT => ?_)
  refine lv_pop hx hb dL_law_435 rfl ?_
  refine lv_aload_n hx hb dL_law_436 rfl (lv_at hl 1 rfl) ?_
  refine lv_aload_n hx hb dL_law_437 rfl (lv_at hl 3 rfl) ?_
  refine lv_iload_n hx hb dL_law_438 rfl (lv_at hl 0 rfl) ?_
  refine lv_iconst (v := 1) hx hb dL_law_439 (by decide) ?_
  refine lv_iadd hx hb dL_law_440 ?_
  refine r_sld (v := (xs (i + 1).toNatClampNeg)) hF hX hbl hT.2.2.1 (vin (by omega) (by omega)) rfl dL_law_441 ?_
  refine lw_cR (post := fun r σ' => RI mm Lm (1000000 * (n : Int) + 1000000) σ') (As := [.int (xs (i + 1).toNatClampNeg)]) (rest := []) hF hT hR.1.2 mv_L_68 (fun sz => c_X12_told l D t mm Lm σ hR.1.2 (xs (i + 1).toNatClampNeg) _ (r_X12_told hR hB (xs (i + 1).toNatClampNeg) (fun _ _ h => h)) sz) dL_law_442 rfl rfl ⟨Nat.le_of_ble_eq_true rfl, Nat.le_of_ble_eq_true rfl⟩ rfl hl.1 (Nat.le_of_ble_eq_true rfl) rfl (fun r2 σ H locs hR hT => ?_)
  refine lv_pop hx hb dL_law_445 rfl ?_
  refine lv_goto (tgt := 449) hx hb dL_law_446 rfl ?_
  have eB : 1000000 * ((n + 1 : Nat) : Int) = 1000000 * (n : Int) + 1000000 := by omega
  exact kk κ σ H locs cells slots ⟨hT, hJ, Lm, by rw [eB]; exact hR⟩
set_option maxRecDepth 100000 in
set_option maxHeartbeats 4000000 in
theorem law_loop (hF : FX p m c code 4 s #[Value.ref bb] RL D t) (hE : EZ G (lA s) s s.heap) (hX : va_X bb N xs s s.heap) (hbl : bb < s.heap.size) (hN4 : N ≤ 384) (ke : ∀ (H' : Heap) (locs' : List Loc) (cells' slots' : Nat) (ls' : Array Slot), va_S (lA s) s.heap H' locs' → cells' ≤ room_1.cells → slots' ≤ room_1.slots → W p l e room_1 s m #[Value.ref bb] below meth c H' locs' cells' slots' Q (F0 m 455 ls' [])) : ∀ (k n : Nat) (i : Int32) (κ : CS) (σ : HS) (H : Heap) (locs : List Loc) (cells slots : Nat) (ls : Array Slot), 65 - n ≤ k → n ≤ 64 → i.toInt = 6 * (n : Int) → lv_has ls 4 [(3, .int i), (2, .ref mm), (1, .ref xx), (0, .ref bb)] → LI D t s G xx mm n κ σ H locs cells slots → W p l e room_1 s m #[Value.ref bb] below meth c H locs cells slots Q (F0 m 18 ls []) := by
  intro k
  induction k with
  | zero => intro n i κ σ H locs cells slots ls hk hn
            omega
  | succ k ih =>
    intro n i κ σ H locs cells slots ls hk hn hi hl hI
    have hx := hF.1.1
    have hb := hF.1.2.1
    have k6 : (6 : Int32).toInt = 6 := rfl
    refine lv_iload_n hx hb dL_law_18 rfl (lv_at hl 0 rfl) ?_
    refine lv_aload_n hx hb dL_law_19 rfl (lv_at hl 3 rfl) ?_
    refine r_slen hF hX hbl hI.1.2.2.1 dL_law_20 ?_
    refine lv_bipush (v := 6) hx hb dL_law_21 (by decide) ?_
    refine lv_isub hx hb dL_law_23 ?_
    have zN : (nI N).toInt = (N : Int) := nI_ln rfl (by omega)
    have zs := i_sub (x := nI N) (y := 6) (z := nI N - 6) rfl (by omega) (by omega)
    refine w_icmp_gt (tgt := 455) hF dL_law_24 rfl ⟨id, id⟩ (fun _ => ke H locs cells slots ls hI.1.2.2.1 (by have := hI.1.2.2.2.1; omega) (by have := hI.1.2.2.2.2; omega)) (fun hle => ?_)
    have hN : 6 * n + 6 ≤ N := by omega
    have hn' : n < 64 := by omega
    have tl : ∀ (κ' : CS) (σ' : HS) (H' : Heap) (locs' : List Loc) (cells' slots' : Nat), LI D t s G xx mm (n + 1) κ' σ' H' locs' cells' slots' → W p l e room_1 s m #[Value.ref bb] below meth c H' locs' cells' slots' Q (F0 m 449 ls []) := fun κ' σ' H' locs' cells' slots' hI' => by
      have z6 := i_add (x := i) (y := 6) (z := i + 6) rfl (by omega) (by omega)
      refine lv_iinc (lv' := [(3, .int (i + 6)), (2, .ref mm), (1, .ref xx), (0, .ref bb)]) (k := 0) (v := i + 6) hx hb dL_law_449 hl rfl rfl (by decide) rfl (fun ls hl => ?_)
      refine lv_goto (tgt := 18) hx hb dL_law_452 rfl ?_
      exact ih (n + 1) (i + 6) κ' σ' H' locs' cells' slots' ls (by omega) (by omega) (by omega) hl hI'
    refine lv_aload_n hx hb dL_law_27 rfl (lv_at hl 3 rfl) ?_
    refine lv_iload_n hx hb dL_law_28 rfl (lv_at hl 0 rfl) ?_
    refine r_sld (v := xs i.toNatClampNeg) hF hX hbl hI.1.2.2.1 (vin (by omega) (by omega)) rfl dL_law_29 ?_
    refine lv_bipush (v := 15) hx hb dL_law_30 (by decide) ?_
    refine lv_iand hx hb dL_law_32 ?_
    obtain ⟨j, hj, hxj⟩ := pk_andE (xs i.toNatClampNeg) (m := 15) 4 (by decide)
    rw [hxj]
    rcases (show j = 0 ∨ j = 1 ∨ j = 2 ∨ j = 3 ∨ j = 4 ∨ j = 5 ∨ j = 6 ∨ j = 7 ∨ j = 8 ∨ j = 9 ∨ j = 10 ∨ j = 11 ∨ j = 12 ∨ j = 13 ∨ j = 14 ∨ j = 15 by omega) with z | z | z | z | z | z | z | z | z | z | z | z | z | z | z | z
    · subst z
      refine lv_tableIn (off := 67) (tgt := 100) hx hb dL_law_33 (by decide) (by decide) rfl rfl ?_
      exact law_feed hF hE hX hbl hi hn' hN hl hI tl
    · subst z
      refine lv_tableIn (off := 130) (tgt := 163) hx hb dL_law_33 (by decide) (by decide) rfl rfl ?_
      exact law_cut hF hE hX hbl hi hn' hN hl hI tl
    · subst z
      refine lv_tableIn (off := 153) (tgt := 186) hx hb dL_law_33 (by decide) (by decide) rfl rfl ?_
      exact law_share hF hE hX hbl hi hn' hN hl hI tl
    · subst z
      refine lv_tableIn (off := 176) (tgt := 209) hx hb dL_law_33 (by decide) (by decide) rfl rfl ?_
      exact law_connect hF hE hX hbl hi hn' hN hl hI tl
    · subst z
      refine lv_tableIn (off := 199) (tgt := 232) hx hb dL_law_33 (by decide) (by decide) rfl rfl ?_
      exact law_hang hF hE hX hbl hi hn' hN hl hI tl
    · subst z
      refine lv_tableIn (off := 222) (tgt := 255) hx hb dL_law_33 (by decide) (by decide) rfl rfl ?_
      exact law_come hF hE hX hbl hi hn' hN hl hI tl
    · subst z
      refine lv_tableIn (off := 245) (tgt := 278) hx hb dL_law_33 (by decide) (by decide) rfl rfl ?_
      exact law_isOpen hF hE hX hbl hi hn' hN hl hI tl
    · subst z
      refine lv_tableIn (off := 268) (tgt := 301) hx hb dL_law_33 (by decide) (by decide) rfl rfl ?_
      exact law_tick hF hE hX hbl hi hn' hN hl hI tl
    · subst z
      refine lv_tableIn (off := 291) (tgt := 324) hx hb dL_law_33 (by decide) (by decide) rfl rfl ?_
      exact law_crash hF hE hX hbl hi hn' hN hl hI tl
    · subst z
      refine lv_tableIn (off := 314) (tgt := 347) hx hb dL_law_33 (by decide) (by decide) rfl rfl ?_
      exact law_outs hF hE hX hbl hi hn' hN hl hI tl
    · subst z
      refine lv_tableIn (off := 337) (tgt := 370) hx hb dL_law_33 (by decide) (by decide) rfl rfl ?_
      exact law_out hF hE hX hbl hi hn' hN hl hI tl
    · subst z
      refine lv_tableIn (off := 370) (tgt := 403) hx hb dL_law_33 (by decide) (by decide) rfl rfl ?_
      exact law_drop hF hE hX hbl hi hn' hN hl hI tl
    · subst z
      refine lv_tableIn (off := 393) (tgt := 426) hx hb dL_law_33 (by decide) (by decide) rfl rfl ?_
      exact law_told hF hE hX hbl hi hn' hN hl hI tl
    · subst z
      refine lv_tableOut (tgt := 449) hx hb dL_law_33 (by decide) rfl ?_
      obtain ⟨hT, hJ, Lm, hR⟩ := hI
      exact tl κ σ H locs cells slots ⟨hT, cj_sm hJ hn', Lm, hR.up (by omega)⟩
    · subst z
      refine lv_tableOut (tgt := 449) hx hb dL_law_33 (by decide) rfl ?_
      obtain ⟨hT, hJ, Lm, hR⟩ := hI
      exact tl κ σ H locs cells slots ⟨hT, cj_sm hJ hn', Lm, hR.up (by omega)⟩
    · subst z
      refine lv_tableOut (tgt := 449) hx hb dL_law_33 (by decide) rfl ?_
      obtain ⟨hT, hJ, Lm, hR⟩ := hI
      exact tl κ σ H locs cells slots ⟨hT, cj_sm hJ hn', Lm, hR.up (by omega)⟩

end RB2
