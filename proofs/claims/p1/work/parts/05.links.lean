set_option maxRecDepth 20000 in
theorem fl_X6_7 : FL RX6 7 TX6 2 0 := ⟨by decide, wb 13 rfl⟩
set_option maxRecDepth 20000 in
theorem fl_X2_12 : FL RX2 12 TX2 15 2 := ⟨by decide, wb 20 rfl⟩
set_option maxRecDepth 20000 in
theorem fl_X2_18 : FL RX2 18 TX2 15 4 := ⟨by decide, wb 21 rfl⟩
set_option maxRecDepth 20000 in
theorem fl_X2_21 : FL RX2 21 TX2 15 5 := ⟨by decide, wb 22 rfl⟩
set_option maxRecDepth 20000 in
theorem fl_X4_9 : FL RX4 9 TX4 14 4 := ⟨by decide, wb 24 rfl⟩
set_option maxRecDepth 20000 in
theorem fl_X4_15 : FL RX4 15 TX4 14 5 := ⟨by decide, wb 25 rfl⟩
set_option maxRecDepth 20000 in
theorem fl_X4_19 : FL RX4 19 TX4 14 13 := ⟨by decide, wb 26 rfl⟩
set_option maxRecDepth 20000 in
theorem fl_X4_22 : FL RX4 22 TX4 14 0 := ⟨by decide, wb 27 rfl⟩
set_option maxRecDepth 20000 in
theorem fl_X9_11 : FL RX9 11 TX9 2 0 := ⟨by decide, wb 30 rfl⟩
set_option maxRecDepth 20000 in
theorem fl_Jx4a65c_9 : FL RJx4a65c 9 TJx4a65c 3 1 := ⟨by decide, wb 64 rfl⟩
set_option maxRecDepth 20000 in
theorem fl_Jxc12de_7 : FL RJxc12de 7 TJx4a65c 3 0 := ⟨by decide, wb 69 rfl⟩
set_option maxRecDepth 20000 in
theorem fl_X6_25 : FL RX6 25 TX6 2 1 := ⟨by decide, wb 71 rfl⟩
set_option maxRecDepth 20000 in
theorem fl_X11_85 : FL RX11 85 TX6 2 1 := ⟨by decide, wb 72 rfl⟩
set_option maxRecDepth 20000 in
theorem fl_X11_112 : FL RX11 112 TX2 15 0 := ⟨by decide, wb 74 rfl⟩
set_option maxRecDepth 20000 in
theorem fl_X2_25 : FL RX2 25 TX2 15 0 := ⟨by decide, wb 75 rfl⟩
set_option maxRecDepth 20000 in
theorem fl_X2_29 : FL RX2 29 TX2 15 1 := ⟨by decide, wb 76 rfl⟩
set_option maxRecDepth 20000 in
theorem fl_X2_32 : FL RX2 32 TX6 2 1 := ⟨by decide, wb 77 rfl⟩
set_option maxRecDepth 20000 in
theorem fl_X2_36 : FL RX2 36 TX2 15 6 := ⟨by decide, wb 78 rfl⟩
set_option maxRecDepth 20000 in
theorem fl_X2_39 : FL RX2 39 TX2 15 7 := ⟨by decide, wb 79 rfl⟩
set_option maxRecDepth 20000 in
theorem fl_X11_126 : FL RX11 126 TX6 2 0 := ⟨by decide, wb 80 rfl⟩
set_option maxRecDepth 20000 in
theorem fl_Jx4a65c_48 : FL RJx4a65c 48 TJx4a65c 3 2 := ⟨by decide, wb 82 rfl⟩
set_option maxRecDepth 20000 in
theorem fl_X9_52 : FL RX9 52 TX9 2 1 := ⟨by decide, wb 83 rfl⟩
set_option maxRecDepth 20000 in
theorem fl_X4_77 : FL RX4 77 TX4 14 1 := ⟨by decide, wb 84 rfl⟩
set_option maxRecDepth 20000 in
theorem fl_X4_28 : FL RX4 28 TX4 14 2 := ⟨by decide, wb 85 rfl⟩
set_option maxRecDepth 20000 in
theorem fl_X4_61 : FL RX4 61 TX4 14 3 := ⟨by decide, wb 86 rfl⟩
set_option maxRecDepth 20000 in
theorem fl_X4_64 : FL RX4 64 TX4 14 6 := ⟨by decide, wb 87 rfl⟩
set_option maxRecDepth 20000 in
theorem fl_X4_25 : FL RX4 25 TX4 14 7 := ⟨by decide, wb 89 rfl⟩
set_option maxRecDepth 20000 in
theorem fl_X4_35 : FL RX4 35 TX4 14 8 := ⟨by decide, wb 90 rfl⟩
set_option maxRecDepth 20000 in
theorem fl_X4_45 : FL RX4 45 TX4 14 9 := ⟨by decide, wb 91 rfl⟩
set_option maxRecDepth 20000 in
theorem fl_X4_48 : FL RX4 48 TX4 14 10 := ⟨by decide, wb 92 rfl⟩
set_option maxRecDepth 20000 in
theorem fl_X4_51 : FL RX4 51 TX4 14 11 := ⟨by decide, wb 93 rfl⟩
set_option maxRecDepth 20000 in
theorem fl_X4_32 : FL RX4 32 TX4 14 12 := ⟨by decide, wb 94 rfl⟩
set_option maxRecDepth 20000 in
theorem fl_X11_201 : FL RX11 201 TX2 15 4 := ⟨by decide, wb 96 rfl⟩
set_option maxRecDepth 20000 in
theorem fl_X11_101 : FL RX11 101 TX9 2 1 := ⟨by decide, wb 97 rfl⟩
set_option maxRecDepth 20000 in
theorem fl_X1_9 : FL RX1 9 TX1 15 4 := ⟨by decide, wb 140 rfl⟩
set_option maxRecDepth 20000 in
theorem fl_X1_15 : FL RX1 15 TX1 15 14 := ⟨by decide, wb 141 rfl⟩
set_option maxRecDepth 20000 in
theorem fl_X11_10 : FL RX11 10 TX11 18 0 := ⟨by decide, wb 142 rfl⟩
set_option maxRecDepth 20000 in
theorem fl_X11_18 : FL RX11 18 TX11 18 1 := ⟨by decide, wb 143 rfl⟩
set_option maxRecDepth 20000 in
theorem fl_X11_22 : FL RX11 22 TX11 18 2 := ⟨by decide, wb 144 rfl⟩
set_option maxRecDepth 20000 in
theorem fl_X11_29 : FL RX11 29 TX11 18 3 := ⟨by decide, wb 145 rfl⟩
set_option maxRecDepth 20000 in
theorem fl_X11_33 : FL RX11 33 TX11 18 4 := ⟨by decide, wb 146 rfl⟩
set_option maxRecDepth 20000 in
theorem fl_X11_38 : FL RX11 38 TX11 18 5 := ⟨by decide, wb 147 rfl⟩
set_option maxRecDepth 20000 in
theorem fl_X11_45 : FL RX11 45 TX11 18 8 := ⟨by decide, wb 148 rfl⟩
set_option maxRecDepth 20000 in
theorem fl_X11_49 : FL RX11 49 TX11 18 9 := ⟨by decide, wb 149 rfl⟩
set_option maxRecDepth 20000 in
theorem fl_X11_52 : FL RX11 52 TX11 18 10 := ⟨by decide, wb 150 rfl⟩
set_option maxRecDepth 20000 in
theorem fl_X11_55 : FL RX11 55 TX11 18 11 := ⟨by decide, wb 151 rfl⟩
set_option maxRecDepth 20000 in
theorem fl_X11_58 : FL RX11 58 TX11 18 12 := ⟨by decide, wb 152 rfl⟩
set_option maxRecDepth 20000 in
theorem fl_X11_61 : FL RX11 61 TX11 18 13 := ⟨by decide, wb 153 rfl⟩
set_option maxRecDepth 20000 in
theorem fl_X11_65 : FL RX11 65 TX11 18 14 := ⟨by decide, wb 154 rfl⟩
set_option maxRecDepth 20000 in
theorem fl_X11_68 : FL RX11 68 TX11 18 15 := ⟨by decide, wb 155 rfl⟩
set_option maxRecDepth 20000 in
theorem fl_X11_71 : FL RX11 71 TX11 18 16 := ⟨by decide, wb 156 rfl⟩
set_option maxRecDepth 20000 in
theorem fl_X11_74 : FL RX11 74 TX11 18 17 := ⟨by decide, wb 157 rfl⟩
set_option maxRecDepth 20000 in
theorem fl_X11_157 : FL RX11 157 TX11 18 7 := ⟨by decide, wb 177 rfl⟩
set_option maxRecDepth 20000 in
theorem fl_X11_182 : FL RX11 182 TX11 18 6 := ⟨by decide, wb 178 rfl⟩
set_option maxRecDepth 20000 in
theorem fl_X12_7 : FL RX12 7 TX12 120 0 := ⟨by decide, wb 278 rfl⟩
set_option maxRecDepth 20000 in
theorem fl_X12_13 : FL RX12 13 TX12 120 3 := ⟨by decide, wb 279 rfl⟩
set_option maxRecDepth 20000 in
theorem fl_X12_17 : FL RX12 17 TX12 120 4 := ⟨by decide, wb 280 rfl⟩
set_option maxRecDepth 20000 in
theorem fl_X12_21 : FL RX12 21 TX12 120 5 := ⟨by decide, wb 281 rfl⟩
set_option maxRecDepth 20000 in
theorem fl_X12_24 : FL RX12 24 TX12 120 6 := ⟨by decide, wb 282 rfl⟩
set_option maxRecDepth 20000 in
theorem fl_X12_27 : FL RX12 27 TX12 120 7 := ⟨by decide, wb 283 rfl⟩
set_option maxRecDepth 20000 in
theorem fl_X12_30 : FL RX12 30 TX12 120 8 := ⟨by decide, wb 284 rfl⟩
set_option maxRecDepth 20000 in
theorem fl_X12_33 : FL RX12 33 TX12 120 9 := ⟨by decide, wb 285 rfl⟩
set_option maxRecDepth 20000 in
theorem fl_X12_37 : FL RX12 37 TX12 120 10 := ⟨by decide, wb 286 rfl⟩
set_option maxRecDepth 20000 in
theorem fl_X12_41 : FL RX12 41 TX12 120 11 := ⟨by decide, wb 288 rfl⟩
set_option maxRecDepth 20000 in
theorem fl_X12_44 : FL RX12 44 TX12 120 12 := ⟨by decide, wb 289 rfl⟩
set_option maxRecDepth 20000 in
theorem fl_X12_47 : FL RX12 47 TX12 120 13 := ⟨by decide, wb 290 rfl⟩
set_option maxRecDepth 20000 in
theorem fl_X12_50 : FL RX12 50 TX12 120 14 := ⟨by decide, wb 291 rfl⟩
set_option maxRecDepth 20000 in
theorem fl_X12_53 : FL RX12 53 TX12 120 15 := ⟨by decide, wb 292 rfl⟩
set_option maxRecDepth 20000 in
theorem fl_X12_56 : FL RX12 56 TX12 120 17 := ⟨by decide, wb 293 rfl⟩
set_option maxRecDepth 20000 in
theorem fl_X12_59 : FL RX12 59 TX12 120 18 := ⟨by decide, wb 294 rfl⟩
set_option maxRecDepth 20000 in
theorem fl_X12_62 : FL RX12 62 TX12 120 19 := ⟨by decide, wb 295 rfl⟩
set_option maxRecDepth 20000 in
theorem fl_X12_65 : FL RX12 65 TX12 120 20 := ⟨by decide, wb 296 rfl⟩
set_option maxRecDepth 20000 in
theorem fl_X12_68 : FL RX12 68 TX12 120 21 := ⟨by decide, wb 297 rfl⟩
set_option maxRecDepth 20000 in
theorem fl_X12_71 : FL RX12 71 TX12 120 22 := ⟨by decide, wb 298 rfl⟩
set_option maxRecDepth 20000 in
theorem fl_X12_74 : FL RX12 74 TX12 120 23 := ⟨by decide, wb 299 rfl⟩
set_option maxRecDepth 20000 in
theorem fl_X12_77 : FL RX12 77 TX12 120 24 := ⟨by decide, wb 300 rfl⟩
set_option maxRecDepth 20000 in
theorem fl_X12_80 : FL RX12 80 TX12 120 25 := ⟨by decide, wb 301 rfl⟩
set_option maxRecDepth 20000 in
theorem fl_X12_83 : FL RX12 83 TX12 120 26 := ⟨by decide, wb 302 rfl⟩
set_option maxRecDepth 20000 in
theorem fl_X12_86 : FL RX12 86 TX12 120 27 := ⟨by decide, wb 303 rfl⟩
set_option maxRecDepth 20000 in
theorem fl_X12_89 : FL RX12 89 TX12 120 28 := ⟨by decide, wb 304 rfl⟩
set_option maxRecDepth 20000 in
theorem fl_X12_92 : FL RX12 92 TX12 120 29 := ⟨by decide, wb 305 rfl⟩
set_option maxRecDepth 20000 in
theorem fl_X12_96 : FL RX12 96 TX12 120 30 := ⟨by decide, wb 307 rfl⟩
set_option maxRecDepth 20000 in
theorem fl_X12_99 : FL RX12 99 TX12 120 31 := ⟨by decide, wb 308 rfl⟩
set_option maxRecDepth 20000 in
theorem fl_X12_103 : FL RX12 103 TX12 120 32 := ⟨by decide, wb 310 rfl⟩
set_option maxRecDepth 20000 in
theorem fl_X12_106 : FL RX12 106 TX12 120 33 := ⟨by decide, wb 311 rfl⟩
set_option maxRecDepth 20000 in
theorem fl_X12_109 : FL RX12 109 TX12 120 34 := ⟨by decide, wb 312 rfl⟩
set_option maxRecDepth 20000 in
theorem fl_X12_112 : FL RX12 112 TX12 120 35 := ⟨by decide, wb 313 rfl⟩
set_option maxRecDepth 20000 in
theorem fl_X12_115 : FL RX12 115 TX12 120 36 := ⟨by decide, wb 314 rfl⟩
set_option maxRecDepth 20000 in
theorem fl_X12_118 : FL RX12 118 TX12 120 37 := ⟨by decide, wb 315 rfl⟩
set_option maxRecDepth 20000 in
theorem fl_X12_121 : FL RX12 121 TX12 120 38 := ⟨by decide, wb 316 rfl⟩
set_option maxRecDepth 20000 in
theorem fl_X12_124 : FL RX12 124 TX12 120 39 := ⟨by decide, wb 317 rfl⟩
set_option maxRecDepth 20000 in
theorem fl_X12_127 : FL RX12 127 TX12 120 40 := ⟨by decide, wb 318 rfl⟩
set_option maxRecDepth 20000 in
theorem fl_X12_130 : FL RX12 130 TX12 120 41 := ⟨by decide, wb 319 rfl⟩
set_option maxRecDepth 20000 in
theorem fl_X12_133 : FL RX12 133 TX12 120 42 := ⟨by decide, wb 320 rfl⟩
set_option maxRecDepth 20000 in
theorem fl_X12_136 : FL RX12 136 TX12 120 43 := ⟨by decide, wb 321 rfl⟩
set_option maxRecDepth 20000 in
theorem fl_X12_139 : FL RX12 139 TX12 120 44 := ⟨by decide, wb 322 rfl⟩
set_option maxRecDepth 20000 in
theorem fl_X12_142 : FL RX12 142 TX12 120 45 := ⟨by decide, wb 323 rfl⟩
set_option maxRecDepth 20000 in
theorem fl_X12_145 : FL RX12 145 TX12 120 46 := ⟨by decide, wb 324 rfl⟩
set_option maxRecDepth 20000 in
theorem fl_X12_148 : FL RX12 148 TX12 120 47 := ⟨by decide, wb 325 rfl⟩
set_option maxRecDepth 20000 in
theorem fl_X12_151 : FL RX12 151 TX12 120 48 := ⟨by decide, wb 326 rfl⟩
set_option maxRecDepth 20000 in
theorem fl_X12_154 : FL RX12 154 TX12 120 49 := ⟨by decide, wb 327 rfl⟩
set_option maxRecDepth 20000 in
theorem fl_X12_157 : FL RX12 157 TX12 120 50 := ⟨by decide, wb 328 rfl⟩
set_option maxRecDepth 20000 in
theorem fl_X12_160 : FL RX12 160 TX12 120 51 := ⟨by decide, wb 329 rfl⟩
set_option maxRecDepth 20000 in
theorem fl_X12_163 : FL RX12 163 TX12 120 52 := ⟨by decide, wb 330 rfl⟩
set_option maxRecDepth 20000 in
theorem fl_X12_166 : FL RX12 166 TX12 120 53 := ⟨by decide, wb 331 rfl⟩
set_option maxRecDepth 20000 in
theorem fl_X12_169 : FL RX12 169 TX12 120 54 := ⟨by decide, wb 332 rfl⟩
set_option maxRecDepth 20000 in
theorem fl_X12_172 : FL RX12 172 TX12 120 55 := ⟨by decide, wb 333 rfl⟩
set_option maxRecDepth 20000 in
theorem fl_X12_175 : FL RX12 175 TX12 120 56 := ⟨by decide, wb 334 rfl⟩
set_option maxRecDepth 20000 in
theorem fl_X12_178 : FL RX12 178 TX12 120 57 := ⟨by decide, wb 335 rfl⟩
set_option maxRecDepth 20000 in
theorem fl_X12_181 : FL RX12 181 TX12 120 58 := ⟨by decide, wb 336 rfl⟩
set_option maxRecDepth 20000 in
theorem fl_X12_184 : FL RX12 184 TX12 120 64 := ⟨by decide, wb 337 rfl⟩
set_option maxRecDepth 20000 in
theorem fl_X12_187 : FL RX12 187 TX12 120 65 := ⟨by decide, wb 338 rfl⟩
set_option maxRecDepth 20000 in
theorem fl_X12_190 : FL RX12 190 TX12 120 66 := ⟨by decide, wb 339 rfl⟩
set_option maxRecDepth 20000 in
theorem fl_X12_289 : FL RX12 289 TX12 120 63 := ⟨by decide, wb 345 rfl⟩
set_option maxRecDepth 20000 in
theorem fl_X12_271 : FL RX12 271 TX12 120 16 := ⟨by decide, wb 346 rfl⟩
set_option maxRecDepth 20000 in
theorem fl_X12_295 : FL RX12 295 TX12 120 59 := ⟨by decide, wb 347 rfl⟩
set_option maxRecDepth 20000 in
theorem fl_X12_299 : FL RX12 299 TX12 120 60 := ⟨by decide, wb 348 rfl⟩
set_option maxRecDepth 20000 in
theorem fl_X12_302 : FL RX12 302 TX12 120 61 := ⟨by decide, wb 349 rfl⟩
set_option maxRecDepth 20000 in
theorem fl_X12_305 : FL RX12 305 TX12 120 62 := ⟨by decide, wb 350 rfl⟩
set_option maxRecDepth 20000 in
theorem fl_X12_261 : FL RX12 261 TX12 120 1 := ⟨by decide, wb 354 rfl⟩
set_option maxRecDepth 20000 in
theorem fl_X12_322 : FL RX12 322 TX12 120 2 := ⟨by decide, wb 355 rfl⟩
set_option maxRecDepth 20000 in
theorem fl_X12_193 : FL RX12 193 TX12 120 67 := ⟨by decide, wb 389 rfl⟩
set_option maxRecDepth 20000 in
theorem fl_X12_196 : FL RX12 196 TX12 120 68 := ⟨by decide, wb 390 rfl⟩
set_option maxRecDepth 20000 in
theorem fl_X12_199 : FL RX12 199 TX12 120 70 := ⟨by decide, wb 391 rfl⟩
set_option maxRecDepth 20000 in
theorem fl_X12_202 : FL RX12 202 TX12 120 71 := ⟨by decide, wb 392 rfl⟩
set_option maxRecDepth 20000 in
theorem fl_X12_205 : FL RX12 205 TX12 120 72 := ⟨by decide, wb 393 rfl⟩
set_option maxRecDepth 20000 in
theorem fl_X12_208 : FL RX12 208 TX12 120 73 := ⟨by decide, wb 394 rfl⟩
set_option maxRecDepth 20000 in
theorem fl_X12_211 : FL RX12 211 TX12 120 74 := ⟨by decide, wb 395 rfl⟩
set_option maxRecDepth 20000 in
theorem fl_X12_214 : FL RX12 214 TX12 120 75 := ⟨by decide, wb 396 rfl⟩
set_option maxRecDepth 20000 in
theorem fl_X12_217 : FL RX12 217 TX12 120 76 := ⟨by decide, wb 397 rfl⟩
set_option maxRecDepth 20000 in
theorem fl_X12_220 : FL RX12 220 TX12 120 77 := ⟨by decide, wb 398 rfl⟩
set_option maxRecDepth 20000 in
theorem fl_X12_223 : FL RX12 223 TX12 120 78 := ⟨by decide, wb 399 rfl⟩
set_option maxRecDepth 20000 in
theorem fl_X12_226 : FL RX12 226 TX12 120 79 := ⟨by decide, wb 400 rfl⟩
set_option maxRecDepth 20000 in
theorem fl_X12_229 : FL RX12 229 TX12 120 80 := ⟨by decide, wb 401 rfl⟩
set_option maxRecDepth 20000 in
theorem fl_X12_232 : FL RX12 232 TX12 120 81 := ⟨by decide, wb 402 rfl⟩
set_option maxRecDepth 20000 in
theorem fl_X12_235 : FL RX12 235 TX12 120 82 := ⟨by decide, wb 403 rfl⟩
set_option maxRecDepth 20000 in
theorem fl_X12_238 : FL RX12 238 TX12 120 83 := ⟨by decide, wb 404 rfl⟩
set_option maxRecDepth 20000 in
theorem fl_X12_242 : FL RX12 242 TX12 120 84 := ⟨by decide, wb 405 rfl⟩
set_option maxRecDepth 20000 in
theorem fl_X12_246 : FL RX12 246 TX12 120 89 := ⟨by decide, wb 406 rfl⟩
set_option maxRecDepth 20000 in
theorem fl_X12_249 : FL RX12 249 TX12 120 112 := ⟨by decide, wb 407 rfl⟩
set_option maxRecDepth 20000 in
theorem fl_X12_252 : FL RX12 252 TX12 120 113 := ⟨by decide, wb 408 rfl⟩
set_option maxRecDepth 20000 in
theorem fl_X12_255 : FL RX12 255 TX12 120 114 := ⟨by decide, wb 409 rfl⟩
set_option maxRecDepth 20000 in
theorem fl_X12_292 : FL RX12 292 TX12 120 69 := ⟨by decide, wb 410 rfl⟩
set_option maxRecDepth 20000 in
theorem mn_X2_11 : (Cond.instanceMethod yX6_init ∈ big ∧ Cond.initialized (yX6_init).cls ∈ big ∧ Cond.code yX6_init cX6_init 1 none ∈ big) ∧ (yX6_init).name = "<init>" ∧ (yX6_init).cls ≠ "java/lang/invoke/MethodHandle" ∧ (yX6_init).cls ≠ "java/lang/invoke/VarHandle" ∧ (parseMethodDescriptor (yX6_init).desc).map (fun d => d.parameters.length) = some 0 := ⟨⟨wb 19 rfl, wb 16 rfl, wb 18 rfl⟩, by decide +kernel⟩
set_option maxRecDepth 20000 in
theorem mi_X9_17 : MI RX9 17 yX4_init cX4_init 2 1 := ⟨⟨wb 33 rfl, wb 35 rfl, wb 31 rfl, wb 34 rfl⟩, by decide +kernel⟩
set_option maxRecDepth 20000 in
theorem mn_X11_9 : (Cond.instanceMethod yX6_init ∈ big ∧ Cond.initialized (yX6_init).cls ∈ big ∧ Cond.code yX6_init cX6_init 1 none ∈ big) ∧ (yX6_init).name = "<init>" ∧ (yX6_init).cls ≠ "java/lang/invoke/MethodHandle" ∧ (yX6_init).cls ≠ "java/lang/invoke/VarHandle" ∧ (parseMethodDescriptor (yX6_init).desc).map (fun d => d.parameters.length) = some 0 := ⟨⟨wb 19 rfl, wb 16 rfl, wb 18 rfl⟩, by decide +kernel⟩
set_option maxRecDepth 20000 in
theorem mi_X11_28 : MI RX11 28 yX9_init cX9_init 2 0 := ⟨⟨wb 43 rfl, wb 45 rfl, wb 41 rfl, wb 44 rfl⟩, by decide +kernel⟩
set_option maxRecDepth 20000 in
theorem mi_X11_44 : MI RX11 44 yJx4a65c_init_da8c8 cJx4a65c_init_da8c8 1 0 := ⟨⟨wb 50 rfl, wb 52 rfl, wb 48 rfl, wb 51 rfl⟩, by decide +kernel⟩
set_option maxRecDepth 20000 in
theorem mn_X11_77 : (Cond.instanceMethod yX2_init ∈ big ∧ Cond.initialized (yX2_init).cls ∈ big ∧ Cond.code yX2_init cX2_init 1 none ∈ big) ∧ (yX2_init).name = "<init>" ∧ (yX2_init).cls ≠ "java/lang/invoke/MethodHandle" ∧ (yX2_init).cls ≠ "java/lang/invoke/VarHandle" ∧ (parseMethodDescriptor (yX2_init).desc).map (fun d => d.parameters.length) = some 0 := ⟨⟨wb 56 rfl, wb 53 rfl, wb 55 rfl⟩, by decide +kernel⟩
set_option maxRecDepth 20000 in
theorem mn_X11_78 : (Cond.instanceMethod yX1_init ∈ big ∧ Cond.initialized (yX1_init).cls ∈ big ∧ Cond.code yX1_init cX1_init 1 none ∈ big) ∧ (yX1_init).name = "<init>" ∧ (yX1_init).cls ≠ "java/lang/invoke/MethodHandle" ∧ (yX1_init).cls ≠ "java/lang/invoke/VarHandle" ∧ (parseMethodDescriptor (yX1_init).desc).map (fun d => d.parameters.length) = some 0 := ⟨⟨wb 160 rfl, wb 57 rfl, wb 159 rfl⟩, by decide +kernel⟩
set_option maxRecDepth 20000 in
theorem ms_X11_79 : MS RX11 79 yJ7_fill_53178 cJ7_fill_53178 4 none 2 := ⟨⟨wb 161 rfl, wb 163 rfl, wb 58 rfl, wb 162 rfl⟩, by decide +kernel⟩
set_option maxRecDepth 20000 in
theorem mi_Jx4a65c_1 : MI RJx4a65c 1 yJxc12de_init_da8c8 cJxc12de_init_da8c8 1 0 := ⟨⟨wb 59 rfl, wb 62 rfl, wb 60 rfl, wb 61 rfl⟩, by decide +kernel⟩
set_option maxRecDepth 20000 in
theorem mi_Jxc12de_1 : MI RJxc12de 1 yJxa1e45_init_da8c8 cJxa1e45_init_da8c8 1 0 := ⟨⟨wb 65 rfl, wb 68 rfl, wb 66 rfl, wb 67 rfl⟩, by decide +kernel⟩
set_option maxRecDepth 20000 in
theorem mv_X6_33 : MV RX6 33 RX6 yX6_add cX6_add 2 none 1 := ⟨⟨wb 164 rfl, wb 166 rfl, wb 167 rfl, wb 16 rfl, wb 165 rfl⟩, by decide +kernel⟩
set_option maxRecDepth 20000 in
theorem mv_X11_89 : MV RX11 89 RX6 yX6_addHighestFirst cX6_addHighestFirst 2 none 1 := ⟨⟨wb 168 rfl, wb 170 rfl, wb 171 rfl, wb 16 rfl, wb 169 rfl⟩, by decide +kernel⟩
set_option maxRecDepth 20000 in
theorem mv_X11_93 : MV RX11 93 RX11 yX11_tapeIsShareName cX11_tapeIsShareName 4 (some .boolean) 0 := ⟨⟨wb 172 rfl, wb 174 rfl, wb 0 rfl, wb 73 rfl, wb 173 rfl⟩, by decide +kernel⟩
set_option maxRecDepth 20000 in
theorem mv_X11_108 : MV RX11 108 RX11 yX11_connection cX11_connection 2 (some (.object "ShareHouse$Conn")) 1 := ⟨⟨wb 232 rfl, wb 234 rfl, wb 1 rfl, wb 73 rfl, wb 233 rfl⟩, by decide +kernel⟩
set_option maxRecDepth 20000 in
theorem mv_X11_116 : MV RX11 116 RX2 yX2_begin cX2_begin 1 none 0 := ⟨⟨wb 235 rfl, wb 237 rfl, wb 238 rfl, wb 53 rfl, wb 236 rfl⟩, by decide +kernel⟩
set_option maxRecDepth 20000 in
theorem mv_X11_161 : MV RX11 161 RJx4a65c yJx4a65c_size_8abf5 cJx4a65c_size_8abf5 1 (some .int) 0 := ⟨⟨wb 241 rfl, wb 243 rfl, wb 244 rfl, wb 48 rfl, wb 242 rfl⟩, by decide +kernel⟩
set_option maxRecDepth 20000 in
theorem mv_X11_185 : MV RX11 185 RX11 yX11_comeToDisk cX11_comeToDisk 2 none 0 := ⟨⟨wb 179 rfl, wb 181 rfl, wb 2 rfl, wb 73 rfl, wb 180 rfl⟩, by decide +kernel⟩
set_option maxRecDepth 20000 in
theorem mv_X11_188 : MV RX11 188 RX9 yX9_copyFrom cX9_copyFrom 3 none 1 := ⟨⟨wb 257 rfl, wb 259 rfl, wb 260 rfl, wb 41 rfl, wb 258 rfl⟩, by decide +kernel⟩
set_option maxRecDepth 20000 in
theorem mv_X11_192 : MV RX11 192 RX2 yX2_vanish cX2_vanish 1 none 0 := ⟨⟨wb 261 rfl, wb 263 rfl, wb 264 rfl, wb 53 rfl, wb 262 rfl⟩, by decide +kernel⟩
set_option maxRecDepth 20000 in
theorem mv_X11_195 : MV RX11 195 RJx4a65c yJx4a65c_clear_da8c8 cJx4a65c_clear_da8c8 4 none 0 := ⟨⟨wb 265 rfl, wb 267 rfl, wb 268 rfl, wb 48 rfl, wb 266 rfl⟩, by decide +kernel⟩
set_option maxRecDepth 20000 in
theorem ms_X11_198 : MS RX11 198 yJ7_fill_d0a16 cJ7_fill_d0a16 5 none 2 := ⟨⟨wb 269 rfl, wb 271 rfl, wb 58 rfl, wb 270 rfl⟩, by decide +kernel⟩
set_option maxRecDepth 20000 in
theorem mv_X9_130 : MV RX9 130 RX4 yX4_copyFrom cX4_copyFrom 2 none 1 := ⟨⟨wb 272 rfl, wb 274 rfl, wb 275 rfl, wb 31 rfl, wb 273 rfl⟩, by decide +kernel⟩
set_option maxRecDepth 20000 in
theorem mv_X12_258 : MV RX12 258 RX12 yX12_begin cX12_begin 2 none 0 := ⟨⟨wb 342 rfl, wb 344 rfl, wb 3 rfl, wb 98 rfl, wb 343 rfl⟩, by decide +kernel⟩
set_option maxRecDepth 20000 in
theorem mv_X12_308 : MV RX12 308 RX12 yX12_copyNode cX12_copyNode 4 none 2 := ⟨⟨wb 351 rfl, wb 353 rfl, wb 4 rfl, wb 98 rfl, wb 352 rfl⟩, by decide +kernel⟩
set_option maxRecDepth 20000 in
theorem mv_X12_265 : MV RX12 265 RX12 yX12_lay cX12_lay 3 none 1 := ⟨⟨wb 506 rfl, wb 508 rfl, wb 5 rfl, wb 98 rfl, wb 507 rfl⟩, by decide +kernel⟩
set_option maxRecDepth 20000 in
theorem ms_X12_325 : MS RX12 325 yX12_isLine cX12_isLine 1 (some .boolean) 1 := ⟨⟨wb 509 rfl, wb 511 rfl, wb 98 rfl, wb 510 rfl⟩, by decide +kernel⟩
set_option maxRecDepth 20000 in
theorem mv_X12_281 : MV RX12 281 RX12 yX12_come cX12_come 4 none 2 := ⟨⟨wb 512 rfl, wb 514 rfl, wb 6 rfl, wb 98 rfl, wb 513 rfl⟩, by decide +kernel⟩
set_option maxRecDepth 20000 in
theorem mv_X12_315 : MV RX12 315 RX12 yX12_nodes cX12_nodes 4 (some .int) 1 := ⟨⟨wb 515 rfl, wb 517 rfl, wb 7 rfl, wb 98 rfl, wb 516 rfl⟩, by decide +kernel⟩
set_option maxRecDepth 20000 in
theorem mv_X12_688 : MV RX12 688 RX12 yX12_count cX12_count 4 (some .int) 1 := ⟨⟨wb 564 rfl, wb 566 rfl, wb 8 rfl, wb 98 rfl, wb 565 rfl⟩, by decide +kernel⟩
set_option maxRecDepth 20000 in
theorem mi_L_9 : MI RL 9 yX11_init cX11_init 2 0 := ⟨⟨wb 101 rfl, wb 103 rfl, wb 73 rfl, wb 102 rfl⟩, by decide +kernel⟩
set_option maxRecDepth 20000 in
theorem mi_L_12 : MI RL 12 yX12_init cX12_init 2 0 := ⟨⟨wb 358 rfl, wb 360 rfl, wb 98 rfl, wb 359 rfl⟩, by decide +kernel⟩
set_option maxRecDepth 20000 in
theorem mv_L_13 : MV RL 13 RX11 yX11_feed cX11_feed 6 (some .int) 5 := ⟨⟨wb 184 rfl, wb 186 rfl, wb 187 rfl, wb 73 rfl, wb 185 rfl⟩, by decide +kernel⟩
set_option maxRecDepth 20000 in
theorem mv_L_17 : MV RL 17 RX12 yX12_feed cX12_feed 6 (some .int) 5 := ⟨⟨wb 518 rfl, wb 520 rfl, wb 521 rfl, wb 98 rfl, wb 519 rfl⟩, by decide +kernel⟩
set_option maxRecDepth 20000 in
theorem mv_L_18 : MV RL 18 RX11 yX11_cut cX11_cut 3 (some .int) 1 := ⟨⟨wb 188 rfl, wb 190 rfl, wb 191 rfl, wb 73 rfl, wb 189 rfl⟩, by decide +kernel⟩
set_option maxRecDepth 20000 in
theorem mv_L_22 : MV RL 22 RX12 yX12_cut cX12_cut 3 (some .int) 1 := ⟨⟨wb 522 rfl, wb 524 rfl, wb 525 rfl, wb 98 rfl, wb 523 rfl⟩, by decide +kernel⟩
set_option maxRecDepth 20000 in
theorem mv_L_23 : MV RL 23 RX11 yX11_share cX11_share 3 (some .boolean) 1 := ⟨⟨wb 192 rfl, wb 194 rfl, wb 195 rfl, wb 73 rfl, wb 193 rfl⟩, by decide +kernel⟩
set_option maxRecDepth 20000 in
theorem mv_L_27 : MV RL 27 RX12 yX12_share cX12_share 7 (some .boolean) 1 := ⟨⟨wb 526 rfl, wb 528 rfl, wb 529 rfl, wb 98 rfl, wb 527 rfl⟩, by decide +kernel⟩
set_option maxRecDepth 20000 in
theorem mv_L_28 : MV RL 28 RX11 yX11_connect cX11_connect 3 (some .boolean) 1 := ⟨⟨wb 245 rfl, wb 247 rfl, wb 248 rfl, wb 73 rfl, wb 246 rfl⟩, by decide +kernel⟩
set_option maxRecDepth 20000 in
theorem mv_L_31 : MV RL 31 RX12 yX12_connect cX12_connect 2 (some .boolean) 1 := ⟨⟨wb 530 rfl, wb 532 rfl, wb 533 rfl, wb 98 rfl, wb 531 rfl⟩, by decide +kernel⟩
set_option maxRecDepth 20000 in
theorem mv_L_32 : MV RL 32 RX11 yX11_hang cX11_hang 3 (some .boolean) 1 := ⟨⟨wb 249 rfl, wb 251 rfl, wb 252 rfl, wb 73 rfl, wb 250 rfl⟩, by decide +kernel⟩
set_option maxRecDepth 20000 in
theorem mv_L_35 : MV RL 35 RX12 yX12_hang cX12_hang 2 (some .boolean) 1 := ⟨⟨wb 534 rfl, wb 536 rfl, wb 537 rfl, wb 98 rfl, wb 535 rfl⟩, by decide +kernel⟩
set_option maxRecDepth 20000 in
theorem mv_L_36 : MV RL 36 RX11 yX11_come cX11_come 9 (some .int) 1 := ⟨⟨wb 253 rfl, wb 255 rfl, wb 256 rfl, wb 73 rfl, wb 254 rfl⟩, by decide +kernel⟩
set_option maxRecDepth 20000 in
theorem mv_L_39 : MV RL 39 RX12 yX12_come_ cX12_come_ 8 (some .int) 1 := ⟨⟨wb 567 rfl, wb 569 rfl, wb 570 rfl, wb 98 rfl, wb 568 rfl⟩, by decide +kernel⟩
set_option maxRecDepth 20000 in
theorem mv_L_40 : MV RL 40 RX11 yX11_isOpen cX11_isOpen 3 (some .boolean) 1 := ⟨⟨wb 361 rfl, wb 363 rfl, wb 364 rfl, wb 73 rfl, wb 362 rfl⟩, by decide +kernel⟩
set_option maxRecDepth 20000 in
theorem mv_L_43 : MV RL 43 RX12 yX12_isOpen cX12_isOpen 2 (some .boolean) 1 := ⟨⟨wb 571 rfl, wb 573 rfl, wb 574 rfl, wb 98 rfl, wb 572 rfl⟩, by decide +kernel⟩
set_option maxRecDepth 20000 in
theorem mv_L_44 : MV RL 44 RX11 yX11_tick cX11_tick 4 (some .boolean) 1 := ⟨⟨wb 365 rfl, wb 367 rfl, wb 368 rfl, wb 73 rfl, wb 366 rfl⟩, by decide +kernel⟩
set_option maxRecDepth 20000 in
theorem mv_L_47 : MV RL 47 RX12 yX12_tick cX12_tick 8 (some .boolean) 1 := ⟨⟨wb 576 rfl, wb 578 rfl, wb 579 rfl, wb 98 rfl, wb 577 rfl⟩, by decide +kernel⟩
set_option maxRecDepth 20000 in
theorem mv_L_48 : MV RL 48 RX11 yX11_crash cX11_crash 4 (some .int) 1 := ⟨⟨wb 369 rfl, wb 371 rfl, wb 372 rfl, wb 73 rfl, wb 370 rfl⟩, by decide +kernel⟩
set_option maxRecDepth 20000 in
theorem mv_L_51 : MV RL 51 RX12 yX12_crash cX12_crash 3 (some .int) 1 := ⟨⟨wb 580 rfl, wb 582 rfl, wb 583 rfl, wb 98 rfl, wb 581 rfl⟩, by decide +kernel⟩
set_option maxRecDepth 20000 in
theorem mv_L_52 : MV RL 52 RX11 yX11_outs cX11_outs 3 (some .int) 1 := ⟨⟨wb 373 rfl, wb 375 rfl, wb 376 rfl, wb 73 rfl, wb 374 rfl⟩, by decide +kernel⟩
set_option maxRecDepth 20000 in
theorem mv_L_55 : MV RL 55 RX12 yX12_outs cX12_outs 2 (some .int) 1 := ⟨⟨wb 584 rfl, wb 586 rfl, wb 587 rfl, wb 98 rfl, wb 585 rfl⟩, by decide +kernel⟩
set_option maxRecDepth 20000 in
theorem mv_L_56 : MV RL 56 RX11 yX11_out cX11_out 4 (some .int) 2 := ⟨⟨wb 377 rfl, wb 379 rfl, wb 380 rfl, wb 73 rfl, wb 378 rfl⟩, by decide +kernel⟩
set_option maxRecDepth 20000 in
theorem mv_L_60 : MV RL 60 RX12 yX12_out cX12_out 3 (some .int) 2 := ⟨⟨wb 588 rfl, wb 590 rfl, wb 591 rfl, wb 98 rfl, wb 589 rfl⟩, by decide +kernel⟩
set_option maxRecDepth 20000 in
theorem mv_L_61 : MV RL 61 RX11 yX11_drop cX11_drop 4 (some .int) 1 := ⟨⟨wb 381 rfl, wb 383 rfl, wb 384 rfl, wb 73 rfl, wb 382 rfl⟩, by decide +kernel⟩
set_option maxRecDepth 20000 in
theorem mv_L_64 : MV RL 64 RX12 yX12_drop cX12_drop 3 (some .int) 1 := ⟨⟨wb 592 rfl, wb 594 rfl, wb 595 rfl, wb 98 rfl, wb 593 rfl⟩, by decide +kernel⟩
set_option maxRecDepth 20000 in
theorem mv_L_65 : MV RL 65 RX11 yX11_told cX11_told 2 (some .int) 1 := ⟨⟨wb 385 rfl, wb 387 rfl, wb 388 rfl, wb 73 rfl, wb 386 rfl⟩, by decide +kernel⟩
set_option maxRecDepth 20000 in
theorem mv_L_68 : MV RL 68 RX12 yX12_told cX12_told 2 (some .int) 1 := ⟨⟨wb 596 rfl, wb 598 rfl, wb 599 rfl, wb 98 rfl, wb 597 rfl⟩, by decide +kernel⟩
