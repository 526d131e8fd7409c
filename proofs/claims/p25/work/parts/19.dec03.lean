theorem dX12_e_275 : decode cX12_e 275 = .ok (.iand, 1) := by decide +kernel
theorem dX12_e_276 : decode cX12_e 276 = .ok (.istore 12, 2) := by decide +kernel
theorem dX12_e_278 : decode cX12_e 278 = .ok (.iload 11, 2) := by decide +kernel
theorem dX12_e_280 : decode cX12_e 280 = .ok (.invokestatic 14, 3) := by decide +kernel
theorem dX12_e_283 : decode cX12_e 283 = .ok (.iload 12, 2) := by decide +kernel
theorem dX12_e_285 : decode cX12_e 285 = .ok (.invokestatic 14, 3) := by decide +kernel
theorem dX12_e_288 : decode cX12_e 288 = .ok (.ixor, 1) := by decide +kernel
theorem dX12_e_289 : decode cX12_e 289 = .ok (.iload 12, 2) := by decide +kernel
theorem dX12_e_291 : decode cX12_e 291 = .ok (.ixor, 1) := by decide +kernel
theorem dX12_e_292 : decode cX12_e 292 = .ok (.aload_n 0, 1) := by decide +kernel
theorem dX12_e_293 : decode cX12_e 293 = .ok (.getfield 36, 3) := by decide +kernel
theorem dX12_e_296 : decode cX12_e 296 = .ok (.iload 10, 2) := by decide +kernel
theorem dX12_e_298 : decode cX12_e 298 = .ok (.iload 9, 2) := by decide +kernel
theorem dX12_e_300 : decode cX12_e 300 = .ok (.iconst 2, 1) := by decide +kernel
theorem dX12_e_301 : decode cX12_e 301 = .ok (.iadd, 1) := by decide +kernel
theorem dX12_e_302 : decode cX12_e 302 = .ok (.iconst 4, 1) := by decide +kernel
theorem dX12_e_303 : decode cX12_e 303 = .ok (.irem, 1) := by decide +kernel
theorem dX12_e_304 : decode cX12_e 304 = .ok (.iadd, 1) := by decide +kernel
theorem dX12_e_305 : decode cX12_e 305 = .ok (.baload, 1) := by decide +kernel
theorem dX12_e_306 : decode cX12_e 306 = .ok (.sipush 255, 3) := by decide +kernel
theorem dX12_e_309 : decode cX12_e 309 = .ok (.iand, 1) := by decide +kernel
theorem dX12_e_310 : decode cX12_e 310 = .ok (.ixor, 1) := by decide +kernel
theorem dX12_e_311 : decode cX12_e 311 = .ok (.aload_n 0, 1) := by decide +kernel
theorem dX12_e_312 : decode cX12_e 312 = .ok (.getfield 36, 3) := by decide +kernel
theorem dX12_e_315 : decode cX12_e 315 = .ok (.iload 10, 2) := by decide +kernel
theorem dX12_e_317 : decode cX12_e 317 = .ok (.iload 9, 2) := by decide +kernel
theorem dX12_e_319 : decode cX12_e 319 = .ok (.iconst 3, 1) := by decide +kernel
theorem dX12_e_320 : decode cX12_e 320 = .ok (.iadd, 1) := by decide +kernel
theorem dX12_e_321 : decode cX12_e 321 = .ok (.iconst 4, 1) := by decide +kernel
theorem dX12_e_322 : decode cX12_e 322 = .ok (.irem, 1) := by decide +kernel
theorem dX12_e_323 : decode cX12_e 323 = .ok (.iadd, 1) := by decide +kernel
theorem dX12_e_324 : decode cX12_e 324 = .ok (.baload, 1) := by decide +kernel
theorem dX12_e_325 : decode cX12_e 325 = .ok (.sipush 255, 3) := by decide +kernel
theorem dX12_e_328 : decode cX12_e 328 = .ok (.iand, 1) := by decide +kernel
theorem dX12_e_329 : decode cX12_e 329 = .ok (.ixor, 1) := by decide +kernel
theorem dX12_e_330 : decode cX12_e 330 = .ok (.istore 11, 2) := by decide +kernel
theorem dX12_e_332 : decode cX12_e 332 = .ok (.aload_n 0, 1) := by decide +kernel
theorem dX12_e_333 : decode cX12_e 333 = .ok (.getfield 33, 3) := by decide +kernel
theorem dX12_e_336 : decode cX12_e 336 = .ok (.iload 9, 2) := by decide +kernel
theorem dX12_e_338 : decode cX12_e 338 = .ok (.iload 11, 2) := by decide +kernel
theorem dX12_e_340 : decode cX12_e 340 = .ok (.aload_n 0, 1) := by decide +kernel
theorem dX12_e_341 : decode cX12_e 341 = .ok (.getfield 26, 3) := by decide +kernel
theorem dX12_e_344 : decode cX12_e 344 = .ok (.iload 9, 2) := by decide +kernel
theorem dX12_e_346 : decode cX12_e 346 = .ok (.baload, 1) := by decide +kernel
theorem dX12_e_347 : decode cX12_e 347 = .ok (.ixor, 1) := by decide +kernel
theorem dX12_e_348 : decode cX12_e 348 = .ok (.i2b, 1) := by decide +kernel
theorem dX12_e_349 : decode cX12_e 349 = .ok (.bastore, 1) := by decide +kernel
theorem dX12_e_350 : decode cX12_e 350 = .ok (.iinc 9 1, 3) := by decide +kernel
theorem dX12_e_353 : decode cX12_e 353 = .ok (.goto (-131), 3) := by decide +kernel
theorem dX12_e_356 : decode cX12_e 356 = .ok (.iinc 8 1, 3) := by decide +kernel
theorem dX12_e_359 : decode cX12_e 359 = .ok (.goto (-302), 3) := by decide +kernel
theorem dX12_e_362 : decode cX12_e 362 = .ok (.aload_n 0, 1) := by decide +kernel
theorem dX12_e_363 : decode cX12_e 363 = .ok (.getfield 33, 3) := by decide +kernel
theorem dX12_e_366 : decode cX12_e 366 = .ok (.iconst 0, 1) := by decide +kernel
theorem dX12_e_367 : decode cX12_e 367 = .ok (.aload 5, 2) := by decide +kernel
theorem dX12_e_369 : decode cX12_e 369 = .ok (.iload 6, 2) := by decide +kernel
theorem dX12_e_371 : decode cX12_e 371 = .ok (.bipush 16, 2) := by decide +kernel
theorem dX12_e_373 : decode cX12_e 373 = .ok (.invokestatic 29, 3) := by decide +kernel
theorem dX12_e_376 : decode cX12_e 376 = .ok (.return_, 1) := by decide +kernel
theorem dX12_init_0 : decode cX12_init 0 = .ok (.aload_n 0, 1) := by decide +kernel
theorem dX12_init_1 : decode cX12_init 1 = .ok (.invokespecial 39, 3) := by decide +kernel
theorem dX12_init_4 : decode cX12_init 4 = .ok (.aload_n 0, 1) := by decide +kernel
theorem dX12_init_5 : decode cX12_init 5 = .ok (.bipush 100, 2) := by decide +kernel
theorem dX12_init_7 : decode cX12_init 7 = .ok (.newarray .byte, 2) := by decide +kernel
theorem dX12_init_9 : decode cX12_init 9 = .ok (.putfield 10, 3) := by decide +kernel
theorem dX12_init_12 : decode cX12_init 12 = .ok (.aload_n 0, 1) := by decide +kernel
theorem dX12_init_13 : decode cX12_init 13 = .ok (.sipush 256, 3) := by decide +kernel
theorem dX12_init_16 : decode cX12_init 16 = .ok (.newarray .int, 2) := by decide +kernel
theorem dX12_init_18 : decode cX12_init 18 = .ok (.putfield 22, 3) := by decide +kernel
theorem dX12_init_21 : decode cX12_init 21 = .ok (.aload_n 0, 1) := by decide +kernel
theorem dX12_init_22 : decode cX12_init 22 = .ok (.bipush 16, 2) := by decide +kernel
theorem dX12_init_24 : decode cX12_init 24 = .ok (.newarray .byte, 2) := by decide +kernel
theorem dX12_init_26 : decode cX12_init 26 = .ok (.putfield 26, 3) := by decide +kernel
theorem dX12_init_29 : decode cX12_init 29 = .ok (.aload_n 0, 1) := by decide +kernel
theorem dX12_init_30 : decode cX12_init 30 = .ok (.bipush 16, 2) := by decide +kernel
theorem dX12_init_32 : decode cX12_init 32 = .ok (.newarray .byte, 2) := by decide +kernel
theorem dX12_init_34 : decode cX12_init 34 = .ok (.putfield 33, 3) := by decide +kernel
theorem dX12_init_37 : decode cX12_init 37 = .ok (.aload_n 0, 1) := by decide +kernel
theorem dX12_init_38 : decode cX12_init 38 = .ok (.bipush 16, 2) := by decide +kernel
theorem dX12_init_40 : decode cX12_init 40 = .ok (.newarray .byte, 2) := by decide +kernel
theorem dX12_init_42 : decode cX12_init 42 = .ok (.putfield 36, 3) := by decide +kernel
theorem dX12_init_45 : decode cX12_init 45 = .ok (.aload_n 0, 1) := by decide +kernel
theorem dX12_init_46 : decode cX12_init 46 = .ok (.iconst 2, 1) := by decide +kernel
theorem dX12_init_47 : decode cX12_init 47 = .ok (.newarray .int, 2) := by decide +kernel
theorem dX12_init_49 : decode cX12_init 49 = .ok (.putfield 45, 3) := by decide +kernel
theorem dX12_init_52 : decode cX12_init 52 = .ok (.aload_n 0, 1) := by decide +kernel
theorem dX12_init_53 : decode cX12_init 53 = .ok (.iconst 2, 1) := by decide +kernel
theorem dX12_init_54 : decode cX12_init 54 = .ok (.newarray .int, 2) := by decide +kernel
theorem dX12_init_56 : decode cX12_init 56 = .ok (.putfield 48, 3) := by decide +kernel
theorem dX12_init_59 : decode cX12_init 59 = .ok (.aload_n 0, 1) := by decide +kernel
theorem dX12_init_60 : decode cX12_init 60 = .ok (.iconst 2, 1) := by decide +kernel
theorem dX12_init_61 : decode cX12_init 61 = .ok (.newarray .int, 2) := by decide +kernel
theorem dX12_init_63 : decode cX12_init 63 = .ok (.putfield 51, 3) := by decide +kernel
theorem dX12_init_66 : decode cX12_init 66 = .ok (.aload_n 0, 1) := by decide +kernel
theorem dX12_init_67 : decode cX12_init 67 = .ok (.iconst 2, 1) := by decide +kernel
theorem dX12_init_68 : decode cX12_init 68 = .ok (.newarray .int, 2) := by decide +kernel
theorem dX12_init_70 : decode cX12_init 70 = .ok (.putfield 54, 3) := by decide +kernel
theorem dX12_init_73 : decode cX12_init 73 = .ok (.aload_n 0, 1) := by decide +kernel
theorem dX12_init_74 : decode cX12_init 74 = .ok (.iconst 2, 1) := by decide +kernel
theorem dX12_init_75 : decode cX12_init 75 = .ok (.newarray .int, 2) := by decide +kernel
theorem dX12_init_77 : decode cX12_init 77 = .ok (.putfield 57, 3) := by decide +kernel
theorem dX12_init_80 : decode cX12_init 80 = .ok (.aload_n 0, 1) := by decide +kernel
theorem dX12_init_81 : decode cX12_init 81 = .ok (.iconst 2, 1) := by decide +kernel
theorem dX12_init_82 : decode cX12_init 82 = .ok (.newarray .long, 2) := by decide +kernel
theorem dX12_init_84 : decode cX12_init 84 = .ok (.putfield 60, 3) := by decide +kernel
theorem dX12_init_87 : decode cX12_init 87 = .ok (.aload_n 0, 1) := by decide +kernel
theorem dX12_init_88 : decode cX12_init 88 = .ok (.iconst 2, 1) := by decide +kernel
theorem dX12_init_89 : decode cX12_init 89 = .ok (.newarray .long, 2) := by decide +kernel
theorem dX12_init_91 : decode cX12_init 91 = .ok (.putfield 64, 3) := by decide +kernel
theorem dX12_init_94 : decode cX12_init 94 = .ok (.aload_n 0, 1) := by decide +kernel
theorem dX12_init_95 : decode cX12_init 95 = .ok (.iconst 2, 1) := by decide +kernel
theorem dX12_init_96 : decode cX12_init 96 = .ok (.newarray .long, 2) := by decide +kernel
theorem dX12_init_98 : decode cX12_init 98 = .ok (.putfield 67, 3) := by decide +kernel
theorem dX12_init_101 : decode cX12_init 101 = .ok (.aload_n 0, 1) := by decide +kernel
theorem dX12_init_102 : decode cX12_init 102 = .ok (.iconst 2, 1) := by decide +kernel
theorem dX12_init_103 : decode cX12_init 103 = .ok (.newarray .long, 2) := by decide +kernel
theorem dX12_init_105 : decode cX12_init 105 = .ok (.putfield 70, 3) := by decide +kernel
theorem dX12_init_108 : decode cX12_init 108 = .ok (.aload_n 0, 1) := by decide +kernel
theorem dX12_init_109 : decode cX12_init 109 = .ok (.iconst 2, 1) := by decide +kernel
theorem dX12_init_110 : decode cX12_init 110 = .ok (.newarray .long, 2) := by decide +kernel
theorem dX12_init_112 : decode cX12_init 112 = .ok (.putfield 73, 3) := by decide +kernel
theorem dX12_init_115 : decode cX12_init 115 = .ok (.aload_n 0, 1) := by decide +kernel
theorem dX12_init_116 : decode cX12_init 116 = .ok (.iconst 2, 1) := by decide +kernel
theorem dX12_init_117 : decode cX12_init 117 = .ok (.newarray .long, 2) := by decide +kernel
theorem dX12_init_119 : decode cX12_init 119 = .ok (.putfield 76, 3) := by decide +kernel
theorem dX12_init_122 : decode cX12_init 122 = .ok (.aload_n 0, 1) := by decide +kernel
theorem dX12_init_123 : decode cX12_init 123 = .ok (.iconst 2, 1) := by decide +kernel
theorem dX12_init_124 : decode cX12_init 124 = .ok (.newarray .long, 2) := by decide +kernel
theorem dX12_init_126 : decode cX12_init 126 = .ok (.putfield 79, 3) := by decide +kernel
theorem dX12_init_129 : decode cX12_init 129 = .ok (.aload_n 0, 1) := by decide +kernel
theorem dX12_init_130 : decode cX12_init 130 = .ok (.bipush 40, 2) := by decide +kernel
theorem dX12_init_132 : decode cX12_init 132 = .ok (.newarray .byte, 2) := by decide +kernel
theorem dX12_init_134 : decode cX12_init 134 = .ok (.putfield 82, 3) := by decide +kernel
theorem dX12_init_137 : decode cX12_init 137 = .ok (.aload_n 0, 1) := by decide +kernel
theorem dX12_init_138 : decode cX12_init 138 = .ok (.bipush 64, 2) := by decide +kernel
theorem dX12_init_140 : decode cX12_init 140 = .ok (.newarray .byte, 2) := by decide +kernel
theorem dX12_init_142 : decode cX12_init 142 = .ok (.putfield 85, 3) := by decide +kernel
theorem dX12_init_145 : decode cX12_init 145 = .ok (.aload_n 0, 1) := by decide +kernel
theorem dX12_init_146 : decode cX12_init 146 = .ok (.iconst 2, 1) := by decide +kernel
theorem dX12_init_147 : decode cX12_init 147 = .ok (.newarray .int, 2) := by decide +kernel
theorem dX12_init_149 : decode cX12_init 149 = .ok (.putfield 88, 3) := by decide +kernel
theorem dX12_init_152 : decode cX12_init 152 = .ok (.aload_n 0, 1) := by decide +kernel
theorem dX12_init_153 : decode cX12_init 153 = .ok (.iconst 2, 1) := by decide +kernel
theorem dX12_init_154 : decode cX12_init 154 = .ok (.newarray .int, 2) := by decide +kernel
theorem dX12_init_156 : decode cX12_init 156 = .ok (.putfield 91, 3) := by decide +kernel
theorem dX12_init_159 : decode cX12_init 159 = .ok (.aload_n 0, 1) := by decide +kernel
theorem dX12_init_160 : decode cX12_init 160 = .ok (.iconst 2, 1) := by decide +kernel
theorem dX12_init_161 : decode cX12_init 161 = .ok (.newarray .int, 2) := by decide +kernel
theorem dX12_init_163 : decode cX12_init 163 = .ok (.putfield 94, 3) := by decide +kernel
theorem dX12_init_166 : decode cX12_init 166 = .ok (.aload_n 0, 1) := by decide +kernel
theorem dX12_init_167 : decode cX12_init 167 = .ok (.iconst 2, 1) := by decide +kernel
theorem dX12_init_168 : decode cX12_init 168 = .ok (.newarray .int, 2) := by decide +kernel
theorem dX12_init_170 : decode cX12_init 170 = .ok (.putfield 97, 3) := by decide +kernel
theorem dX12_init_173 : decode cX12_init 173 = .ok (.aload_n 0, 1) := by decide +kernel
theorem dX12_init_174 : decode cX12_init 174 = .ok (.sipush 128, 3) := by decide +kernel
theorem dX12_init_177 : decode cX12_init 177 = .ok (.newarray .int, 2) := by decide +kernel
theorem dX12_init_179 : decode cX12_init 179 = .ok (.putfield 100, 3) := by decide +kernel
theorem dX12_init_182 : decode cX12_init 182 = .ok (.aload_n 0, 1) := by decide +kernel
theorem dX12_init_183 : decode cX12_init 183 = .ok (.iconst 2, 1) := by decide +kernel
theorem dX12_init_184 : decode cX12_init 184 = .ok (.newarray .int, 2) := by decide +kernel
theorem dX12_init_186 : decode cX12_init 186 = .ok (.putfield 103, 3) := by decide +kernel
theorem dX12_init_189 : decode cX12_init 189 = .ok (.aload_n 0, 1) := by decide +kernel
theorem dX12_init_190 : decode cX12_init 190 = .ok (.iconst 2, 1) := by decide +kernel
theorem dX12_init_191 : decode cX12_init 191 = .ok (.newarray .int, 2) := by decide +kernel
theorem dX12_init_193 : decode cX12_init 193 = .ok (.putfield 106, 3) := by decide +kernel
theorem dX12_init_196 : decode cX12_init 196 = .ok (.aload_n 0, 1) := by decide +kernel
theorem dX12_init_197 : decode cX12_init 197 = .ok (.iconst 2, 1) := by decide +kernel
theorem dX12_init_198 : decode cX12_init 198 = .ok (.newarray .int, 2) := by decide +kernel
theorem dX12_init_200 : decode cX12_init 200 = .ok (.putfield 109, 3) := by decide +kernel
theorem dX12_init_203 : decode cX12_init 203 = .ok (.aload_n 0, 1) := by decide +kernel
theorem dX12_init_204 : decode cX12_init 204 = .ok (.iconst 2, 1) := by decide +kernel
theorem dX12_init_205 : decode cX12_init 205 = .ok (.newarray .int, 2) := by decide +kernel
theorem dX12_init_207 : decode cX12_init 207 = .ok (.putfield 112, 3) := by decide +kernel
theorem dX12_init_210 : decode cX12_init 210 = .ok (.aload_n 0, 1) := by decide +kernel
theorem dX12_init_211 : decode cX12_init 211 = .ok (.iconst 2, 1) := by decide +kernel
theorem dX12_init_212 : decode cX12_init 212 = .ok (.newarray .int, 2) := by decide +kernel
theorem dX12_init_214 : decode cX12_init 214 = .ok (.putfield 115, 3) := by decide +kernel
theorem dX12_init_217 : decode cX12_init 217 = .ok (.aload_n 0, 1) := by decide +kernel
theorem dX12_init_218 : decode cX12_init 218 = .ok (.iconst 2, 1) := by decide +kernel
theorem dX12_init_219 : decode cX12_init 219 = .ok (.newarray .int, 2) := by decide +kernel
theorem dX12_init_221 : decode cX12_init 221 = .ok (.putfield 118, 3) := by decide +kernel
theorem dX12_init_224 : decode cX12_init 224 = .ok (.aload_n 0, 1) := by decide +kernel
theorem dX12_init_225 : decode cX12_init 225 = .ok (.iconst 2, 1) := by decide +kernel
theorem dX12_init_226 : decode cX12_init 226 = .ok (.newarray .int, 2) := by decide +kernel
theorem dX12_init_228 : decode cX12_init 228 = .ok (.putfield 121, 3) := by decide +kernel
theorem dX12_init_231 : decode cX12_init 231 = .ok (.aload_n 0, 1) := by decide +kernel
theorem dX12_init_232 : decode cX12_init 232 = .ok (.iconst 2, 1) := by decide +kernel
theorem dX12_init_233 : decode cX12_init 233 = .ok (.newarray .int, 2) := by decide +kernel
theorem dX12_init_235 : decode cX12_init 235 = .ok (.putfield 124, 3) := by decide +kernel
theorem dX12_init_238 : decode cX12_init 238 = .ok (.aload_n 0, 1) := by decide +kernel
theorem dX12_init_239 : decode cX12_init 239 = .ok (.iconst 2, 1) := by decide +kernel
theorem dX12_init_240 : decode cX12_init 240 = .ok (.newarray .int, 2) := by decide +kernel
theorem dX12_init_242 : decode cX12_init 242 = .ok (.putfield 127, 3) := by decide +kernel
theorem dX12_init_245 : decode cX12_init 245 = .ok (.aload_n 0, 1) := by decide +kernel
theorem dX12_init_246 : decode cX12_init 246 = .ok (.iconst 2, 1) := by decide +kernel
theorem dX12_init_247 : decode cX12_init 247 = .ok (.newarray .int, 2) := by decide +kernel
theorem dX12_init_249 : decode cX12_init 249 = .ok (.putfield 130, 3) := by decide +kernel
theorem dX12_init_252 : decode cX12_init 252 = .ok (.aload_n 0, 1) := by decide +kernel
theorem dX12_init_253 : decode cX12_init 253 = .ok (.iconst 2, 1) := by decide +kernel
theorem dX12_init_254 : decode cX12_init 254 = .ok (.newarray .int, 2) := by decide +kernel
theorem dX12_init_256 : decode cX12_init 256 = .ok (.putfield 133, 3) := by decide +kernel
theorem dX12_init_259 : decode cX12_init 259 = .ok (.aload_n 0, 1) := by decide +kernel
theorem dX12_init_260 : decode cX12_init 260 = .ok (.iconst 2, 1) := by decide +kernel
theorem dX12_init_261 : decode cX12_init 261 = .ok (.newarray .int, 2) := by decide +kernel
theorem dX12_init_263 : decode cX12_init 263 = .ok (.putfield 136, 3) := by decide +kernel
theorem dX12_init_266 : decode cX12_init 266 = .ok (.aload_n 0, 1) := by decide +kernel
theorem dX12_init_267 : decode cX12_init 267 = .ok (.iconst 2, 1) := by decide +kernel
theorem dX12_init_268 : decode cX12_init 268 = .ok (.newarray .int, 2) := by decide +kernel
theorem dX12_init_270 : decode cX12_init 270 = .ok (.putfield 139, 3) := by decide +kernel
theorem dX12_init_273 : decode cX12_init 273 = .ok (.aload_n 0, 1) := by decide +kernel
theorem dX12_init_274 : decode cX12_init 274 = .ok (.bipush 8, 2) := by decide +kernel
theorem dX12_init_276 : decode cX12_init 276 = .ok (.newarray .byte, 2) := by decide +kernel
theorem dX12_init_278 : decode cX12_init 278 = .ok (.putfield 142, 3) := by decide +kernel
theorem dX12_init_281 : decode cX12_init 281 = .ok (.aload_n 0, 1) := by decide +kernel
theorem dX12_init_282 : decode cX12_init 282 = .ok (.iconst 2, 1) := by decide +kernel
theorem dX12_init_283 : decode cX12_init 283 = .ok (.newarray .boolean, 2) := by decide +kernel
theorem dX12_init_285 : decode cX12_init 285 = .ok (.putfield 145, 3) := by decide +kernel
theorem dX12_init_288 : decode cX12_init 288 = .ok (.aload_n 0, 1) := by decide +kernel
theorem dX12_init_289 : decode cX12_init 289 = .ok (.iconst 2, 1) := by decide +kernel
theorem dX12_init_290 : decode cX12_init 290 = .ok (.newarray .boolean, 2) := by decide +kernel
theorem dX12_init_292 : decode cX12_init 292 = .ok (.putfield 149, 3) := by decide +kernel
theorem dX12_init_295 : decode cX12_init 295 = .ok (.aload_n 0, 1) := by decide +kernel
theorem dX12_init_296 : decode cX12_init 296 = .ok (.iconst 2, 1) := by decide +kernel
theorem dX12_init_297 : decode cX12_init 297 = .ok (.newarray .boolean, 2) := by decide +kernel
theorem dX12_init_299 : decode cX12_init 299 = .ok (.putfield 152, 3) := by decide +kernel
theorem dX12_init_302 : decode cX12_init 302 = .ok (.aload_n 0, 1) := by decide +kernel
theorem dX12_init_303 : decode cX12_init 303 = .ok (.sipush 2880, 3) := by decide +kernel
theorem dX12_init_306 : decode cX12_init 306 = .ok (.newarray .int, 2) := by decide +kernel
theorem dX12_init_308 : decode cX12_init 308 = .ok (.putfield 155, 3) := by decide +kernel
theorem dX12_init_311 : decode cX12_init 311 = .ok (.aload_n 0, 1) := by decide +kernel
theorem dX12_init_312 : decode cX12_init 312 = .ok (.iconst 2, 1) := by decide +kernel
theorem dX12_init_313 : decode cX12_init 313 = .ok (.newarray .int, 2) := by decide +kernel
theorem dX12_init_315 : decode cX12_init 315 = .ok (.putfield 158, 3) := by decide +kernel
theorem dX12_init_318 : decode cX12_init 318 = .ok (.aload_n 0, 1) := by decide +kernel
theorem dX12_init_319 : decode cX12_init 319 = .ok (.iconst 2, 1) := by decide +kernel
theorem dX12_init_320 : decode cX12_init 320 = .ok (.newarray .int, 2) := by decide +kernel
theorem dX12_init_322 : decode cX12_init 322 = .ok (.putfield 161, 3) := by decide +kernel
theorem dX12_init_325 : decode cX12_init 325 = .ok (.aload_n 0, 1) := by decide +kernel
theorem dX12_init_326 : decode cX12_init 326 = .ok (.sipush 640, 3) := by decide +kernel
theorem dX12_init_329 : decode cX12_init 329 = .ok (.newarray .byte, 2) := by decide +kernel
theorem dX12_init_331 : decode cX12_init 331 = .ok (.putfield 164, 3) := by decide +kernel
theorem dX12_init_334 : decode cX12_init 334 = .ok (.aload_n 0, 1) := by decide +kernel
theorem dX12_init_335 : decode cX12_init 335 = .ok (.bipush 16, 2) := by decide +kernel
theorem dX12_init_337 : decode cX12_init 337 = .ok (.newarray .int, 2) := by decide +kernel
theorem dX12_init_339 : decode cX12_init 339 = .ok (.putfield 167, 3) := by decide +kernel
theorem dX12_init_342 : decode cX12_init 342 = .ok (.aload_n 0, 1) := by decide +kernel
theorem dX12_init_343 : decode cX12_init 343 = .ok (.bipush 16, 2) := by decide +kernel
theorem dX12_init_345 : decode cX12_init 345 = .ok (.newarray .int, 2) := by decide +kernel
theorem dX12_init_347 : decode cX12_init 347 = .ok (.putfield 170, 3) := by decide +kernel
theorem dX12_init_350 : decode cX12_init 350 = .ok (.aload_n 0, 1) := by decide +kernel
theorem dX12_init_351 : decode cX12_init 351 = .ok (.bipush 16, 2) := by decide +kernel
theorem dX12_init_353 : decode cX12_init 353 = .ok (.newarray .boolean, 2) := by decide +kernel
theorem dX12_init_355 : decode cX12_init 355 = .ok (.putfield 173, 3) := by decide +kernel
theorem dX12_init_358 : decode cX12_init 358 = .ok (.aload_n 0, 1) := by decide +kernel
theorem dX12_init_359 : decode cX12_init 359 = .ok (.bipush 40, 2) := by decide +kernel
theorem dX12_init_361 : decode cX12_init 361 = .ok (.newarray .byte, 2) := by decide +kernel
theorem dX12_init_363 : decode cX12_init 363 = .ok (.putfield 176, 3) := by decide +kernel
theorem dX12_init_366 : decode cX12_init 366 = .ok (.aload_n 0, 1) := by decide +kernel
theorem dX12_init_367 : decode cX12_init 367 = .ok (.bipush 40, 2) := by decide +kernel
theorem dX12_init_369 : decode cX12_init 369 = .ok (.newarray .byte, 2) := by decide +kernel
theorem dX12_init_371 : decode cX12_init 371 = .ok (.putfield 179, 3) := by decide +kernel
theorem dX12_init_374 : decode cX12_init 374 = .ok (.aload_n 0, 1) := by decide +kernel
theorem dX12_init_375 : decode cX12_init 375 = .ok (.iconst 2, 1) := by decide +kernel
theorem dX12_init_376 : decode cX12_init 376 = .ok (.newarray .int, 2) := by decide +kernel
theorem dX12_init_378 : decode cX12_init 378 = .ok (.putfield 182, 3) := by decide +kernel
theorem dX12_init_381 : decode cX12_init 381 = .ok (.aload_n 0, 1) := by decide +kernel
theorem dX12_init_382 : decode cX12_init 382 = .ok (.iconst 2, 1) := by decide +kernel
theorem dX12_init_383 : decode cX12_init 383 = .ok (.newarray .int, 2) := by decide +kernel
theorem dX12_init_385 : decode cX12_init 385 = .ok (.putfield 185, 3) := by decide +kernel
theorem dX12_init_388 : decode cX12_init 388 = .ok (.aload_n 0, 1) := by decide +kernel
theorem dX12_init_389 : decode cX12_init 389 = .ok (.iconst 2, 1) := by decide +kernel
theorem dX12_init_390 : decode cX12_init 390 = .ok (.newarray .int, 2) := by decide +kernel
theorem dX12_init_392 : decode cX12_init 392 = .ok (.putfield 188, 3) := by decide +kernel
theorem dX12_init_395 : decode cX12_init 395 = .ok (.aload_n 0, 1) := by decide +kernel
theorem dX12_init_396 : decode cX12_init 396 = .ok (.iconst 2, 1) := by decide +kernel
theorem dX12_init_397 : decode cX12_init 397 = .ok (.newarray .int, 2) := by decide +kernel
theorem dX12_init_399 : decode cX12_init 399 = .ok (.putfield 191, 3) := by decide +kernel
theorem dX12_init_402 : decode cX12_init 402 = .ok (.aload_n 0, 1) := by decide +kernel
theorem dX12_init_403 : decode cX12_init 403 = .ok (.iconst 2, 1) := by decide +kernel
theorem dX12_init_404 : decode cX12_init 404 = .ok (.newarray .int, 2) := by decide +kernel
theorem dX12_init_406 : decode cX12_init 406 = .ok (.putfield 194, 3) := by decide +kernel
theorem dX12_init_409 : decode cX12_init 409 = .ok (.aload_n 0, 1) := by decide +kernel
theorem dX12_init_410 : decode cX12_init 410 = .ok (.iconst 2, 1) := by decide +kernel
theorem dX12_init_411 : decode cX12_init 411 = .ok (.newarray .int, 2) := by decide +kernel
theorem dX12_init_413 : decode cX12_init 413 = .ok (.putfield 197, 3) := by decide +kernel
theorem dX12_init_416 : decode cX12_init 416 = .ok (.aload_n 0, 1) := by decide +kernel
theorem dX12_init_417 : decode cX12_init 417 = .ok (.bipush 80, 2) := by decide +kernel
theorem dX12_init_419 : decode cX12_init 419 = .ok (.newarray .byte, 2) := by decide +kernel
theorem dX12_init_421 : decode cX12_init 421 = .ok (.putfield 200, 3) := by decide +kernel
theorem dX12_init_424 : decode cX12_init 424 = .ok (.aload_n 0, 1) := by decide +kernel
theorem dX12_init_425 : decode cX12_init 425 = .ok (.sipush 192, 3) := by decide +kernel
theorem dX12_init_428 : decode cX12_init 428 = .ok (.newarray .byte, 2) := by decide +kernel
theorem dX12_init_430 : decode cX12_init 430 = .ok (.putfield 203, 3) := by decide +kernel
theorem dX12_init_433 : decode cX12_init 433 = .ok (.aload_n 0, 1) := by decide +kernel
theorem dX12_init_434 : decode cX12_init 434 = .ok (.bipush 32, 2) := by decide +kernel
theorem dX12_init_436 : decode cX12_init 436 = .ok (.newarray .byte, 2) := by decide +kernel
theorem dX12_init_438 : decode cX12_init 438 = .ok (.putfield 206, 3) := by decide +kernel
theorem dX12_init_441 : decode cX12_init 441 = .ok (.aload_n 0, 1) := by decide +kernel
theorem dX12_init_442 : decode cX12_init 442 = .ok (.bipush 32, 2) := by decide +kernel
theorem dX12_init_444 : decode cX12_init 444 = .ok (.newarray .byte, 2) := by decide +kernel
theorem dX12_init_446 : decode cX12_init 446 = .ok (.putfield 209, 3) := by decide +kernel
theorem dX12_init_449 : decode cX12_init 449 = .ok (.aload_n 0, 1) := by decide +kernel
theorem dX12_init_450 : decode cX12_init 450 = .ok (.bipush 16, 2) := by decide +kernel
theorem dX12_init_452 : decode cX12_init 452 = .ok (.newarray .byte, 2) := by decide +kernel
theorem dX12_init_454 : decode cX12_init 454 = .ok (.putfield 212, 3) := by decide +kernel
theorem dX12_init_457 : decode cX12_init 457 = .ok (.aload_n 0, 1) := by decide +kernel
theorem dX12_init_458 : decode cX12_init 458 = .ok (.bipush 16, 2) := by decide +kernel
theorem dX12_init_460 : decode cX12_init 460 = .ok (.newarray .byte, 2) := by decide +kernel
theorem dX12_init_462 : decode cX12_init 462 = .ok (.putfield 215, 3) := by decide +kernel
theorem dX12_init_465 : decode cX12_init 465 = .ok (.aload_n 0, 1) := by decide +kernel
theorem dX12_init_466 : decode cX12_init 466 = .ok (.bipush 8, 2) := by decide +kernel
theorem dX12_init_468 : decode cX12_init 468 = .ok (.newarray .byte, 2) := by decide +kernel
theorem dX12_init_470 : decode cX12_init 470 = .ok (.putfield 218, 3) := by decide +kernel
theorem dX12_init_473 : decode cX12_init 473 = .ok (.aload_n 0, 1) := by decide +kernel
theorem dX12_init_474 : decode cX12_init 474 = .ok (.bipush 12, 2) := by decide +kernel
theorem dX12_init_476 : decode cX12_init 476 = .ok (.newarray .int, 2) := by decide +kernel
theorem dX12_init_478 : decode cX12_init 478 = .ok (.putfield 221, 3) := by decide +kernel
theorem dX12_init_481 : decode cX12_init 481 = .ok (.aload_n 0, 1) := by decide +kernel
theorem dX12_init_482 : decode cX12_init 482 = .ok (.iconst 2, 1) := by decide +kernel
theorem dX12_init_483 : decode cX12_init 483 = .ok (.newarray .boolean, 2) := by decide +kernel
theorem dX12_init_485 : decode cX12_init 485 = .ok (.putfield 224, 3) := by decide +kernel
theorem dX12_init_488 : decode cX12_init 488 = .ok (.aload_n 0, 1) := by decide +kernel
theorem dX12_init_489 : decode cX12_init 489 = .ok (.iconst 2, 1) := by decide +kernel
theorem dX12_init_490 : decode cX12_init 490 = .ok (.newarray .boolean, 2) := by decide +kernel
theorem dX12_init_492 : decode cX12_init 492 = .ok (.putfield 227, 3) := by decide +kernel
theorem dX12_init_495 : decode cX12_init 495 = .ok (.aload_n 0, 1) := by decide +kernel
theorem dX12_init_496 : decode cX12_init 496 = .ok (.iconst 2, 1) := by decide +kernel
theorem dX12_init_497 : decode cX12_init 497 = .ok (.newarray .boolean, 2) := by decide +kernel
theorem dX12_init_499 : decode cX12_init 499 = .ok (.putfield 230, 3) := by decide +kernel
theorem dX12_init_502 : decode cX12_init 502 = .ok (.aload_n 0, 1) := by decide +kernel
theorem dX12_init_503 : decode cX12_init 503 = .ok (.iconst 2, 1) := by decide +kernel
theorem dX12_init_504 : decode cX12_init 504 = .ok (.newarray .boolean, 2) := by decide +kernel
theorem dX12_init_506 : decode cX12_init 506 = .ok (.putfield 233, 3) := by decide +kernel
theorem dX12_init_509 : decode cX12_init 509 = .ok (.aload_n 0, 1) := by decide +kernel
theorem dX12_init_510 : decode cX12_init 510 = .ok (.iconst 2, 1) := by decide +kernel
theorem dX12_init_511 : decode cX12_init 511 = .ok (.newarray .boolean, 2) := by decide +kernel
theorem dX12_init_513 : decode cX12_init 513 = .ok (.putfield 236, 3) := by decide +kernel
theorem dX12_init_516 : decode cX12_init 516 = .ok (.aload_n 0, 1) := by decide +kernel
theorem dX12_init_517 : decode cX12_init 517 = .ok (.iconst 2, 1) := by decide +kernel
theorem dX12_init_518 : decode cX12_init 518 = .ok (.newarray .boolean, 2) := by decide +kernel
theorem dX12_init_520 : decode cX12_init 520 = .ok (.putfield 239, 3) := by decide +kernel
theorem dX12_init_523 : decode cX12_init 523 = .ok (.aload_n 0, 1) := by decide +kernel
theorem dX12_init_524 : decode cX12_init 524 = .ok (.iconst 2, 1) := by decide +kernel
theorem dX12_init_525 : decode cX12_init 525 = .ok (.newarray .boolean, 2) := by decide +kernel
theorem dX12_init_527 : decode cX12_init 527 = .ok (.putfield 242, 3) := by decide +kernel
theorem dX12_init_530 : decode cX12_init 530 = .ok (.aload_n 0, 1) := by decide +kernel
theorem dX12_init_531 : decode cX12_init 531 = .ok (.iconst 2, 1) := by decide +kernel
theorem dX12_init_532 : decode cX12_init 532 = .ok (.newarray .boolean, 2) := by decide +kernel
theorem dX12_init_534 : decode cX12_init 534 = .ok (.putfield 245, 3) := by decide +kernel
theorem dX12_init_537 : decode cX12_init 537 = .ok (.aload_n 0, 1) := by decide +kernel
theorem dX12_init_538 : decode cX12_init 538 = .ok (.iconst 2, 1) := by decide +kernel
theorem dX12_init_539 : decode cX12_init 539 = .ok (.newarray .boolean, 2) := by decide +kernel
theorem dX12_init_541 : decode cX12_init 541 = .ok (.putfield 248, 3) := by decide +kernel
theorem dX12_init_544 : decode cX12_init 544 = .ok (.aload_n 0, 1) := by decide +kernel
theorem dX12_init_545 : decode cX12_init 545 = .ok (.bipush 16, 2) := by decide +kernel
theorem dX12_init_547 : decode cX12_init 547 = .ok (.newarray .byte, 2) := by decide +kernel
theorem dX12_init_549 : decode cX12_init 549 = .ok (.putfield 251, 3) := by decide +kernel
theorem dX12_init_552 : decode cX12_init 552 = .ok (.aload_n 0, 1) := by decide +kernel
theorem dX12_init_553 : decode cX12_init 553 = .ok (.bipush 16, 2) := by decide +kernel
theorem dX12_init_555 : decode cX12_init 555 = .ok (.newarray .byte, 2) := by decide +kernel
theorem dX12_init_557 : decode cX12_init 557 = .ok (.putfield 254, 3) := by decide +kernel
theorem dX12_init_560 : decode cX12_init 560 = .ok (.aload_n 0, 1) := by decide +kernel
theorem dX12_init_561 : decode cX12_init 561 = .ok (.bipush 16, 2) := by decide +kernel
theorem dX12_init_563 : decode cX12_init 563 = .ok (.newarray .byte, 2) := by decide +kernel
theorem dX12_init_565 : decode cX12_init 565 = .ok (.putfield 257, 3) := by decide +kernel
theorem dX12_init_568 : decode cX12_init 568 = .ok (.aload_n 0, 1) := by decide +kernel
theorem dX12_init_569 : decode cX12_init 569 = .ok (.bipush 40, 2) := by decide +kernel
theorem dX12_init_571 : decode cX12_init 571 = .ok (.newarray .byte, 2) := by decide +kernel
theorem dX12_init_573 : decode cX12_init 573 = .ok (.putfield 260, 3) := by decide +kernel
theorem dX12_init_576 : decode cX12_init 576 = .ok (.aload_n 0, 1) := by decide +kernel
theorem dX12_init_577 : decode cX12_init 577 = .ok (.bipush 40, 2) := by decide +kernel
theorem dX12_init_579 : decode cX12_init 579 = .ok (.newarray .byte, 2) := by decide +kernel
theorem dX12_init_581 : decode cX12_init 581 = .ok (.putfield 263, 3) := by decide +kernel
theorem dX12_init_584 : decode cX12_init 584 = .ok (.aload_n 0, 1) := by decide +kernel
theorem dX12_init_585 : decode cX12_init 585 = .ok (.sipush 1536, 3) := by decide +kernel
theorem dX12_init_588 : decode cX12_init 588 = .ok (.newarray .byte, 2) := by decide +kernel
theorem dX12_init_590 : decode cX12_init 590 = .ok (.putfield 266, 3) := by decide +kernel
theorem dX12_init_593 : decode cX12_init 593 = .ok (.aload_n 0, 1) := by decide +kernel
theorem dX12_init_594 : decode cX12_init 594 = .ok (.sipush 192, 3) := by decide +kernel
theorem dX12_init_597 : decode cX12_init 597 = .ok (.newarray .byte, 2) := by decide +kernel
theorem dX12_init_599 : decode cX12_init 599 = .ok (.putfield 269, 3) := by decide +kernel
theorem dX12_init_602 : decode cX12_init 602 = .ok (.aload_n 0, 1) := by decide +kernel
theorem dX12_init_603 : decode cX12_init 603 = .ok (.bipush 16, 2) := by decide +kernel
theorem dX12_init_605 : decode cX12_init 605 = .ok (.newarray .int, 2) := by decide +kernel
theorem dX12_init_607 : decode cX12_init 607 = .ok (.putfield 272, 3) := by decide +kernel
theorem dX12_init_610 : decode cX12_init 610 = .ok (.aload_n 0, 1) := by decide +kernel
theorem dX12_init_611 : decode cX12_init 611 = .ok (.iconst 2, 1) := by decide +kernel
theorem dX12_init_612 : decode cX12_init 612 = .ok (.newarray .int, 2) := by decide +kernel
theorem dX12_init_614 : decode cX12_init 614 = .ok (.putfield 275, 3) := by decide +kernel
theorem dX12_init_617 : decode cX12_init 617 = .ok (.aload_n 0, 1) := by decide +kernel
theorem dX12_init_618 : decode cX12_init 618 = .ok (.iconst 2, 1) := by decide +kernel
theorem dX12_init_619 : decode cX12_init 619 = .ok (.newarray .int, 2) := by decide +kernel
theorem dX12_init_621 : decode cX12_init 621 = .ok (.putfield 278, 3) := by decide +kernel
theorem dX12_init_624 : decode cX12_init 624 = .ok (.aload_n 0, 1) := by decide +kernel
theorem dX12_init_625 : decode cX12_init 625 = .ok (.iconst 2, 1) := by decide +kernel
theorem dX12_init_626 : decode cX12_init 626 = .ok (.newarray .int, 2) := by decide +kernel
theorem dX12_init_628 : decode cX12_init 628 = .ok (.putfield 281, 3) := by decide +kernel
theorem dX12_init_631 : decode cX12_init 631 = .ok (.aload_n 0, 1) := by decide +kernel
theorem dX12_init_632 : decode cX12_init 632 = .ok (.iconst 2, 1) := by decide +kernel
theorem dX12_init_633 : decode cX12_init 633 = .ok (.newarray .int, 2) := by decide +kernel
theorem dX12_init_635 : decode cX12_init 635 = .ok (.putfield 284, 3) := by decide +kernel
theorem dX12_init_638 : decode cX12_init 638 = .ok (.aload_n 0, 1) := by decide +kernel
theorem dX12_init_639 : decode cX12_init 639 = .ok (.iconst 2, 1) := by decide +kernel
theorem dX12_init_640 : decode cX12_init 640 = .ok (.newarray .boolean, 2) := by decide +kernel
theorem dX12_init_642 : decode cX12_init 642 = .ok (.putfield 287, 3) := by decide +kernel
theorem dX12_init_645 : decode cX12_init 645 = .ok (.aload_n 0, 1) := by decide +kernel
theorem dX12_init_646 : decode cX12_init 646 = .ok (.bipush 96, 2) := by decide +kernel
theorem dX12_init_648 : decode cX12_init 648 = .ok (.newarray .byte, 2) := by decide +kernel
theorem dX12_init_650 : decode cX12_init 650 = .ok (.putfield 290, 3) := by decide +kernel
theorem dX12_init_653 : decode cX12_init 653 = .ok (.aload_n 0, 1) := by decide +kernel
theorem dX12_init_654 : decode cX12_init 654 = .ok (.bipush 96, 2) := by decide +kernel
theorem dX12_init_656 : decode cX12_init 656 = .ok (.newarray .byte, 2) := by decide +kernel
theorem dX12_init_658 : decode cX12_init 658 = .ok (.putfield 293, 3) := by decide +kernel
theorem dX12_init_661 : decode cX12_init 661 = .ok (.aload_n 0, 1) := by decide +kernel
theorem dX12_init_662 : decode cX12_init 662 = .ok (.iconst 2, 1) := by decide +kernel
theorem dX12_init_663 : decode cX12_init 663 = .ok (.newarray .int, 2) := by decide +kernel
theorem dX12_init_665 : decode cX12_init 665 = .ok (.putfield 296, 3) := by decide +kernel
theorem dX12_init_668 : decode cX12_init 668 = .ok (.aload_n 0, 1) := by decide +kernel
theorem dX12_init_669 : decode cX12_init 669 = .ok (.iconst 2, 1) := by decide +kernel
theorem dX12_init_670 : decode cX12_init 670 = .ok (.newarray .int, 2) := by decide +kernel
theorem dX12_init_672 : decode cX12_init 672 = .ok (.putfield 299, 3) := by decide +kernel
theorem dX12_init_675 : decode cX12_init 675 = .ok (.aload_n 0, 1) := by decide +kernel
theorem dX12_init_676 : decode cX12_init 676 = .ok (.iconst 2, 1) := by decide +kernel
theorem dX12_init_677 : decode cX12_init 677 = .ok (.newarray .int, 2) := by decide +kernel
theorem dX12_init_679 : decode cX12_init 679 = .ok (.putfield 302, 3) := by decide +kernel
theorem dX12_init_682 : decode cX12_init 682 = .ok (.aload_n 0, 1) := by decide +kernel
theorem dX12_init_683 : decode cX12_init 683 = .ok (.bipush 28, 2) := by decide +kernel
theorem dX12_init_685 : decode cX12_init 685 = .ok (.newarray .byte, 2) := by decide +kernel
theorem dX12_init_687 : decode cX12_init 687 = .ok (.putfield 305, 3) := by decide +kernel
theorem dX12_init_690 : decode cX12_init 690 = .ok (.aload_n 0, 1) := by decide +kernel
theorem dX12_init_691 : decode cX12_init 691 = .ok (.bipush 32, 2) := by decide +kernel
theorem dX12_init_693 : decode cX12_init 693 = .ok (.newarray .byte, 2) := by decide +kernel
theorem dX12_init_695 : decode cX12_init 695 = .ok (.putfield 308, 3) := by decide +kernel
theorem dX12_init_698 : decode cX12_init 698 = .ok (.aload_n 0, 1) := by decide +kernel
theorem dX12_init_699 : decode cX12_init 699 = .ok (.bipush 32, 2) := by decide +kernel
theorem dX12_init_701 : decode cX12_init 701 = .ok (.newarray .byte, 2) := by decide +kernel
theorem dX12_init_703 : decode cX12_init 703 = .ok (.putfield 311, 3) := by decide +kernel
theorem dX12_init_706 : decode cX12_init 706 = .ok (.aload_n 0, 1) := by decide +kernel
theorem dX12_init_707 : decode cX12_init 707 = .ok (.bipush 16, 2) := by decide +kernel
theorem dX12_init_709 : decode cX12_init 709 = .ok (.newarray .byte, 2) := by decide +kernel
theorem dX12_init_711 : decode cX12_init 711 = .ok (.putfield 314, 3) := by decide +kernel
theorem dX12_init_714 : decode cX12_init 714 = .ok (.aload_n 0, 1) := by decide +kernel
theorem dX12_init_715 : decode cX12_init 715 = .ok (.bipush 16, 2) := by decide +kernel
theorem dX12_init_717 : decode cX12_init 717 = .ok (.newarray .byte, 2) := by decide +kernel
theorem dX12_init_719 : decode cX12_init 719 = .ok (.putfield 317, 3) := by decide +kernel
theorem dX12_init_722 : decode cX12_init 722 = .ok (.aload_n 0, 1) := by decide +kernel
theorem dX12_init_723 : decode cX12_init 723 = .ok (.iconst 2, 1) := by decide +kernel
theorem dX12_init_724 : decode cX12_init 724 = .ok (.newarray .int, 2) := by decide +kernel
theorem dX12_init_726 : decode cX12_init 726 = .ok (.putfield 320, 3) := by decide +kernel
theorem dX12_init_729 : decode cX12_init 729 = .ok (.aload_n 0, 1) := by decide +kernel
theorem dX12_init_730 : decode cX12_init 730 = .ok (.bipush 40, 2) := by decide +kernel
theorem dX12_init_732 : decode cX12_init 732 = .ok (.newarray .int, 2) := by decide +kernel
theorem dX12_init_734 : decode cX12_init 734 = .ok (.putfield 323, 3) := by decide +kernel
theorem dX12_init_737 : decode cX12_init 737 = .ok (.aload_n 0, 1) := by decide +kernel
theorem dX12_init_738 : decode cX12_init 738 = .ok (.bipush 40, 2) := by decide +kernel
theorem dX12_init_740 : decode cX12_init 740 = .ok (.newarray .int, 2) := by decide +kernel
theorem dX12_init_742 : decode cX12_init 742 = .ok (.putfield 326, 3) := by decide +kernel
theorem dX12_init_745 : decode cX12_init 745 = .ok (.aload_n 0, 1) := by decide +kernel
theorem dX12_init_746 : decode cX12_init 746 = .ok (.bipush 40, 2) := by decide +kernel
theorem dX12_init_748 : decode cX12_init 748 = .ok (.newarray .int, 2) := by decide +kernel
theorem dX12_init_750 : decode cX12_init 750 = .ok (.putfield 329, 3) := by decide +kernel
theorem dX12_init_753 : decode cX12_init 753 = .ok (.aload_n 0, 1) := by decide +kernel
theorem dX12_init_754 : decode cX12_init 754 = .ok (.iconst 2, 1) := by decide +kernel
theorem dX12_init_755 : decode cX12_init 755 = .ok (.newarray .int, 2) := by decide +kernel
theorem dX12_init_757 : decode cX12_init 757 = .ok (.putfield 332, 3) := by decide +kernel
theorem dX12_init_760 : decode cX12_init 760 = .ok (.aload_n 0, 1) := by decide +kernel
theorem dX12_init_761 : decode cX12_init 761 = .ok (.iconst 2, 1) := by decide +kernel
theorem dX12_init_762 : decode cX12_init 762 = .ok (.newarray .int, 2) := by decide +kernel
theorem dX12_init_764 : decode cX12_init 764 = .ok (.putfield 335, 3) := by decide +kernel
theorem dX12_init_767 : decode cX12_init 767 = .ok (.aload_n 0, 1) := by decide +kernel
theorem dX12_init_768 : decode cX12_init 768 = .ok (.iconst 2, 1) := by decide +kernel
theorem dX12_init_769 : decode cX12_init 769 = .ok (.newarray .int, 2) := by decide +kernel
theorem dX12_init_771 : decode cX12_init 771 = .ok (.putfield 338, 3) := by decide +kernel
theorem dX12_init_774 : decode cX12_init 774 = .ok (.aload_n 0, 1) := by decide +kernel
theorem dX12_init_775 : decode cX12_init 775 = .ok (.sipush 1600, 3) := by decide +kernel
theorem dX12_init_778 : decode cX12_init 778 = .ok (.newarray .byte, 2) := by decide +kernel
theorem dX12_init_780 : decode cX12_init 780 = .ok (.putfield 341, 3) := by decide +kernel
theorem dX12_init_783 : decode cX12_init 783 = .ok (.aload_n 0, 1) := by decide +kernel
theorem dX12_init_784 : decode cX12_init 784 = .ok (.sipush 768, 3) := by decide +kernel
theorem dX12_init_787 : decode cX12_init 787 = .ok (.newarray .byte, 2) := by decide +kernel
theorem dX12_init_789 : decode cX12_init 789 = .ok (.putfield 344, 3) := by decide +kernel
theorem dX12_init_792 : decode cX12_init 792 = .ok (.aload_n 0, 1) := by decide +kernel
theorem dX12_init_793 : decode cX12_init 793 = .ok (.sipush 800, 3) := by decide +kernel
theorem dX12_init_796 : decode cX12_init 796 = .ok (.newarray .byte, 2) := by decide +kernel
theorem dX12_init_798 : decode cX12_init 798 = .ok (.putfield 347, 3) := by decide +kernel
theorem dX12_init_801 : decode cX12_init 801 = .ok (.aload_n 0, 1) := by decide +kernel
theorem dX12_init_802 : decode cX12_init 802 = .ok (.bipush 12, 2) := by decide +kernel
theorem dX12_init_804 : decode cX12_init 804 = .ok (.newarray .int, 2) := by decide +kernel
theorem dX12_init_806 : decode cX12_init 806 = .ok (.putfield 350, 3) := by decide +kernel
theorem dX12_init_809 : decode cX12_init 809 = .ok (.aload_n 0, 1) := by decide +kernel
theorem dX12_init_810 : decode cX12_init 810 = .ok (.bipush 12, 2) := by decide +kernel
theorem dX12_init_812 : decode cX12_init 812 = .ok (.newarray .int, 2) := by decide +kernel
theorem dX12_init_814 : decode cX12_init 814 = .ok (.putfield 353, 3) := by decide +kernel
theorem dX12_init_817 : decode cX12_init 817 = .ok (.aload_n 0, 1) := by decide +kernel
theorem dX12_init_818 : decode cX12_init 818 = .ok (.bipush 12, 2) := by decide +kernel
theorem dX12_init_820 : decode cX12_init 820 = .ok (.newarray .int, 2) := by decide +kernel
theorem dX12_init_822 : decode cX12_init 822 = .ok (.putfield 356, 3) := by decide +kernel
theorem dX12_init_825 : decode cX12_init 825 = .ok (.aload_n 0, 1) := by decide +kernel
theorem dX12_init_826 : decode cX12_init 826 = .ok (.bipush 20, 2) := by decide +kernel
theorem dX12_init_828 : decode cX12_init 828 = .ok (.newarray .int, 2) := by decide +kernel
theorem dX12_init_830 : decode cX12_init 830 = .ok (.putfield 359, 3) := by decide +kernel
theorem dX12_init_833 : decode cX12_init 833 = .ok (.aload_n 0, 1) := by decide +kernel
theorem dX12_init_834 : decode cX12_init 834 = .ok (.iconst 2, 1) := by decide +kernel
theorem dX12_init_835 : decode cX12_init 835 = .ok (.newarray .boolean, 2) := by decide +kernel
theorem dX12_init_837 : decode cX12_init 837 = .ok (.putfield 362, 3) := by decide +kernel
theorem dX12_init_840 : decode cX12_init 840 = .ok (.aload_n 0, 1) := by decide +kernel
theorem dX12_init_841 : decode cX12_init 841 = .ok (.iconst 2, 1) := by decide +kernel
theorem dX12_init_842 : decode cX12_init 842 = .ok (.newarray .int, 2) := by decide +kernel
theorem dX12_init_844 : decode cX12_init 844 = .ok (.putfield 365, 3) := by decide +kernel
theorem dX12_init_847 : decode cX12_init 847 = .ok (.aload_n 0, 1) := by decide +kernel
theorem dX12_init_848 : decode cX12_init 848 = .ok (.iconst 2, 1) := by decide +kernel
theorem dX12_init_849 : decode cX12_init 849 = .ok (.newarray .int, 2) := by decide +kernel
theorem dX12_init_851 : decode cX12_init 851 = .ok (.putfield 368, 3) := by decide +kernel
theorem dX12_init_854 : decode cX12_init 854 = .ok (.aload_n 0, 1) := by decide +kernel
theorem dX12_init_855 : decode cX12_init 855 = .ok (.iconst 2, 1) := by decide +kernel
theorem dX12_init_856 : decode cX12_init 856 = .ok (.newarray .int, 2) := by decide +kernel
theorem dX12_init_858 : decode cX12_init 858 = .ok (.putfield 371, 3) := by decide +kernel
theorem dX12_init_861 : decode cX12_init 861 = .ok (.aload_n 0, 1) := by decide +kernel
theorem dX12_init_862 : decode cX12_init 862 = .ok (.iconst 2, 1) := by decide +kernel
theorem dX12_init_863 : decode cX12_init 863 = .ok (.newarray .int, 2) := by decide +kernel
theorem dX12_init_865 : decode cX12_init 865 = .ok (.putfield 374, 3) := by decide +kernel
theorem dX12_init_868 : decode cX12_init 868 = .ok (.aload_n 0, 1) := by decide +kernel
theorem dX12_init_869 : decode cX12_init 869 = .ok (.iconst 2, 1) := by decide +kernel
theorem dX12_init_870 : decode cX12_init 870 = .ok (.newarray .int, 2) := by decide +kernel
theorem dX12_init_872 : decode cX12_init 872 = .ok (.putfield 377, 3) := by decide +kernel
theorem dX12_init_875 : decode cX12_init 875 = .ok (.aload_n 0, 1) := by decide +kernel
theorem dX12_init_876 : decode cX12_init 876 = .ok (.iconst 2, 1) := by decide +kernel
theorem dX12_init_877 : decode cX12_init 877 = .ok (.newarray .int, 2) := by decide +kernel
theorem dX12_init_879 : decode cX12_init 879 = .ok (.putfield 380, 3) := by decide +kernel
theorem dX12_init_882 : decode cX12_init 882 = .ok (.aload_n 0, 1) := by decide +kernel
theorem dX12_init_883 : decode cX12_init 883 = .ok (.bipush 80, 2) := by decide +kernel
theorem dX12_init_885 : decode cX12_init 885 = .ok (.newarray .byte, 2) := by decide +kernel
theorem dX12_init_887 : decode cX12_init 887 = .ok (.putfield 383, 3) := by decide +kernel
theorem dX12_init_890 : decode cX12_init 890 = .ok (.aload_n 0, 1) := by decide +kernel
theorem dX12_init_891 : decode cX12_init 891 = .ok (.invokevirtual 386, 3) := by decide +kernel
theorem dX12_init_894 : decode cX12_init 894 = .ok (.iconst 0, 1) := by decide +kernel
theorem dX12_init_895 : decode cX12_init 895 = .ok (.istore 5, 2) := by decide +kernel
theorem dX12_init_897 : decode cX12_init 897 = .ok (.iload 5, 2) := by decide +kernel
theorem dX12_init_899 : decode cX12_init 899 = .ok (.iconst 2, 1) := by decide +kernel
theorem dX12_init_900 : decode cX12_init 900 = .ok (.if_icmp .ge 62, 3) := by decide +kernel
theorem dX12_init_903 : decode cX12_init 903 = .ok (.aload_n 0, 1) := by decide +kernel
theorem dX12_init_904 : decode cX12_init 904 = .ok (.getfield 60, 3) := by decide +kernel
theorem dX12_init_907 : decode cX12_init 907 = .ok (.iload 5, 2) := by decide +kernel
theorem dX12_init_909 : decode cX12_init 909 = .ok (.iload 5, 2) := by decide +kernel
theorem dX12_init_911 : decode cX12_init 911 = .ok (.ifCond .ne 7, 3) := by decide +kernel
theorem dX12_init_914 : decode cX12_init 914 = .ok (.lload_n 1, 1) := by decide +kernel
theorem dX12_init_915 : decode cX12_init 915 = .ok (.goto 4, 3) := by decide +kernel
theorem dX12_init_918 : decode cX12_init 918 = .ok (.lload_n 3, 1) := by decide +kernel
theorem dX12_init_919 : decode cX12_init 919 = .ok (.ldc2_w 389, 3) := by decide +kernel
theorem dX12_init_922 : decode cX12_init 922 = .ok (.land, 1) := by decide +kernel
theorem dX12_init_923 : decode cX12_init 923 = .ok (.lastore, 1) := by decide +kernel
theorem dX12_init_924 : decode cX12_init 924 = .ok (.aload_n 0, 1) := by decide +kernel
theorem dX12_init_925 : decode cX12_init 925 = .ok (.getfield 48, 3) := by decide +kernel
theorem dX12_init_928 : decode cX12_init 928 = .ok (.iload 5, 2) := by decide +kernel
theorem dX12_init_930 : decode cX12_init 930 = .ok (.iload 5, 2) := by decide +kernel
theorem dX12_init_932 : decode cX12_init 932 = .ok (.iastore, 1) := by decide +kernel
theorem dX12_init_933 : decode cX12_init 933 = .ok (.aload_n 0, 1) := by decide +kernel
theorem dX12_init_934 : decode cX12_init 934 = .ok (.getfield 335, 3) := by decide +kernel
theorem dX12_init_937 : decode cX12_init 937 = .ok (.iload 5, 2) := by decide +kernel
theorem dX12_init_939 : decode cX12_init 939 = .ok (.bipush 23, 2) := by decide +kernel
theorem dX12_init_941 : decode cX12_init 941 = .ok (.iastore, 1) := by decide +kernel
theorem dX12_init_942 : decode cX12_init 942 = .ok (.aload_n 0, 1) := by decide +kernel
theorem dX12_init_943 : decode cX12_init 943 = .ok (.getfield 299, 3) := by decide +kernel
theorem dX12_init_946 : decode cX12_init 946 = .ok (.iload 5, 2) := by decide +kernel
theorem dX12_init_948 : decode cX12_init 948 = .ok (.iconst (-1), 1) := by decide +kernel
theorem dX12_init_949 : decode cX12_init 949 = .ok (.iastore, 1) := by decide +kernel
theorem dX12_init_950 : decode cX12_init 950 = .ok (.aload_n 0, 1) := by decide +kernel
theorem dX12_init_951 : decode cX12_init 951 = .ok (.iload 5, 2) := by decide +kernel
theorem dX12_init_953 : decode cX12_init 953 = .ok (.invokevirtual 391, 3) := by decide +kernel
theorem dX12_init_956 : decode cX12_init 956 = .ok (.iinc 5 1, 3) := by decide +kernel
theorem dX12_init_959 : decode cX12_init 959 = .ok (.goto (-62), 3) := by decide +kernel
theorem dX12_init_962 : decode cX12_init 962 = .ok (.return_, 1) := by decide +kernel
theorem dX12_fresh_0 : decode cX12_fresh 0 = .ok (.aload_n 0, 1) := by decide +kernel
theorem dX12_fresh_1 : decode cX12_fresh 1 = .ok (.getfield 118, 3) := by decide +kernel
theorem dX12_fresh_4 : decode cX12_fresh 4 = .ok (.iload_n 1, 1) := by decide +kernel
theorem dX12_fresh_5 : decode cX12_fresh 5 = .ok (.iconst (-1), 1) := by decide +kernel
theorem dX12_fresh_6 : decode cX12_fresh 6 = .ok (.iastore, 1) := by decide +kernel
theorem dX12_fresh_7 : decode cX12_fresh 7 = .ok (.aload_n 0, 1) := by decide +kernel
theorem dX12_fresh_8 : decode cX12_fresh 8 = .ok (.getfield 133, 3) := by decide +kernel
theorem dX12_fresh_11 : decode cX12_fresh 11 = .ok (.iload_n 1, 1) := by decide +kernel
theorem dX12_fresh_12 : decode cX12_fresh 12 = .ok (.iconst (-1), 1) := by decide +kernel
theorem dX12_fresh_13 : decode cX12_fresh 13 = .ok (.iastore, 1) := by decide +kernel
theorem dX12_fresh_14 : decode cX12_fresh 14 = .ok (.aload_n 0, 1) := by decide +kernel
theorem dX12_fresh_15 : decode cX12_fresh 15 = .ok (.getfield 136, 3) := by decide +kernel
theorem dX12_fresh_18 : decode cX12_fresh 18 = .ok (.iload_n 1, 1) := by decide +kernel
theorem dX12_fresh_19 : decode cX12_fresh 19 = .ok (.iconst (-1), 1) := by decide +kernel
theorem dX12_fresh_20 : decode cX12_fresh 20 = .ok (.iastore, 1) := by decide +kernel
theorem dX12_fresh_21 : decode cX12_fresh 21 = .ok (.aload_n 0, 1) := by decide +kernel
theorem dX12_fresh_22 : decode cX12_fresh 22 = .ok (.getfield 145, 3) := by decide +kernel
theorem dX12_fresh_25 : decode cX12_fresh 25 = .ok (.iload_n 1, 1) := by decide +kernel
theorem dX12_fresh_26 : decode cX12_fresh 26 = .ok (.iconst 0, 1) := by decide +kernel
theorem dX12_fresh_27 : decode cX12_fresh 27 = .ok (.bastore, 1) := by decide +kernel
theorem dX12_fresh_28 : decode cX12_fresh 28 = .ok (.aload_n 0, 1) := by decide +kernel
theorem dX12_fresh_29 : decode cX12_fresh 29 = .ok (.getfield 149, 3) := by decide +kernel
theorem dX12_fresh_32 : decode cX12_fresh 32 = .ok (.iload_n 1, 1) := by decide +kernel
theorem dX12_fresh_33 : decode cX12_fresh 33 = .ok (.iconst 0, 1) := by decide +kernel
theorem dX12_fresh_34 : decode cX12_fresh 34 = .ok (.bastore, 1) := by decide +kernel
theorem dX12_fresh_35 : decode cX12_fresh 35 = .ok (.aload_n 0, 1) := by decide +kernel
theorem dX12_fresh_36 : decode cX12_fresh 36 = .ok (.getfield 182, 3) := by decide +kernel
theorem dX12_fresh_39 : decode cX12_fresh 39 = .ok (.iload_n 1, 1) := by decide +kernel
theorem dX12_fresh_40 : decode cX12_fresh 40 = .ok (.iconst 0, 1) := by decide +kernel
theorem dX12_fresh_41 : decode cX12_fresh 41 = .ok (.iastore, 1) := by decide +kernel
theorem dX12_fresh_42 : decode cX12_fresh 42 = .ok (.aload_n 0, 1) := by decide +kernel
theorem dX12_fresh_43 : decode cX12_fresh 43 = .ok (.getfield 185, 3) := by decide +kernel
theorem dX12_fresh_46 : decode cX12_fresh 46 = .ok (.iload_n 1, 1) := by decide +kernel
theorem dX12_fresh_47 : decode cX12_fresh 47 = .ok (.iconst 0, 1) := by decide +kernel
theorem dX12_fresh_48 : decode cX12_fresh 48 = .ok (.iastore, 1) := by decide +kernel
theorem dX12_fresh_49 : decode cX12_fresh 49 = .ok (.aload_n 0, 1) := by decide +kernel
theorem dX12_fresh_50 : decode cX12_fresh 50 = .ok (.getfield 188, 3) := by decide +kernel
theorem dX12_fresh_53 : decode cX12_fresh 53 = .ok (.iload_n 1, 1) := by decide +kernel
theorem dX12_fresh_54 : decode cX12_fresh 54 = .ok (.iconst 0, 1) := by decide +kernel
theorem dX12_fresh_55 : decode cX12_fresh 55 = .ok (.iastore, 1) := by decide +kernel
theorem dX12_fresh_56 : decode cX12_fresh 56 = .ok (.aload_n 0, 1) := by decide +kernel
theorem dX12_fresh_57 : decode cX12_fresh 57 = .ok (.getfield 191, 3) := by decide +kernel
theorem dX12_fresh_60 : decode cX12_fresh 60 = .ok (.iload_n 1, 1) := by decide +kernel
theorem dX12_fresh_61 : decode cX12_fresh 61 = .ok (.iconst 0, 1) := by decide +kernel
theorem dX12_fresh_62 : decode cX12_fresh 62 = .ok (.iastore, 1) := by decide +kernel
theorem dX12_fresh_63 : decode cX12_fresh 63 = .ok (.aload_n 0, 1) := by decide +kernel
theorem dX12_fresh_64 : decode cX12_fresh 64 = .ok (.getfield 224, 3) := by decide +kernel
theorem dX12_fresh_67 : decode cX12_fresh 67 = .ok (.iload_n 1, 1) := by decide +kernel
theorem dX12_fresh_68 : decode cX12_fresh 68 = .ok (.iconst 0, 1) := by decide +kernel
theorem dX12_fresh_69 : decode cX12_fresh 69 = .ok (.bastore, 1) := by decide +kernel
theorem dX12_fresh_70 : decode cX12_fresh 70 = .ok (.aload_n 0, 1) := by decide +kernel
theorem dX12_fresh_71 : decode cX12_fresh 71 = .ok (.getfield 227, 3) := by decide +kernel
theorem dX12_fresh_74 : decode cX12_fresh 74 = .ok (.iload_n 1, 1) := by decide +kernel
theorem dX12_fresh_75 : decode cX12_fresh 75 = .ok (.iconst 0, 1) := by decide +kernel
theorem dX12_fresh_76 : decode cX12_fresh 76 = .ok (.bastore, 1) := by decide +kernel
theorem dX12_fresh_77 : decode cX12_fresh 77 = .ok (.aload_n 0, 1) := by decide +kernel
theorem dX12_fresh_78 : decode cX12_fresh 78 = .ok (.getfield 230, 3) := by decide +kernel
theorem dX12_fresh_81 : decode cX12_fresh 81 = .ok (.iload_n 1, 1) := by decide +kernel
theorem dX12_fresh_82 : decode cX12_fresh 82 = .ok (.iconst 0, 1) := by decide +kernel
theorem dX12_fresh_83 : decode cX12_fresh 83 = .ok (.bastore, 1) := by decide +kernel
theorem dX12_fresh_84 : decode cX12_fresh 84 = .ok (.aload_n 0, 1) := by decide +kernel
theorem dX12_fresh_85 : decode cX12_fresh 85 = .ok (.getfield 233, 3) := by decide +kernel
theorem dX12_fresh_88 : decode cX12_fresh 88 = .ok (.iload_n 1, 1) := by decide +kernel
theorem dX12_fresh_89 : decode cX12_fresh 89 = .ok (.iconst 0, 1) := by decide +kernel
theorem dX12_fresh_90 : decode cX12_fresh 90 = .ok (.bastore, 1) := by decide +kernel
theorem dX12_fresh_91 : decode cX12_fresh 91 = .ok (.aload_n 0, 1) := by decide +kernel
theorem dX12_fresh_92 : decode cX12_fresh 92 = .ok (.getfield 236, 3) := by decide +kernel
theorem dX12_fresh_95 : decode cX12_fresh 95 = .ok (.iload_n 1, 1) := by decide +kernel
theorem dX12_fresh_96 : decode cX12_fresh 96 = .ok (.iconst 0, 1) := by decide +kernel
theorem dX12_fresh_97 : decode cX12_fresh 97 = .ok (.bastore, 1) := by decide +kernel
theorem dX12_fresh_98 : decode cX12_fresh 98 = .ok (.aload_n 0, 1) := by decide +kernel
theorem dX12_fresh_99 : decode cX12_fresh 99 = .ok (.getfield 194, 3) := by decide +kernel
theorem dX12_fresh_102 : decode cX12_fresh 102 = .ok (.iload_n 1, 1) := by decide +kernel
theorem dX12_fresh_103 : decode cX12_fresh 103 = .ok (.iconst 0, 1) := by decide +kernel
theorem dX12_fresh_104 : decode cX12_fresh 104 = .ok (.iastore, 1) := by decide +kernel
theorem dX12_fresh_105 : decode cX12_fresh 105 = .ok (.aload_n 0, 1) := by decide +kernel
theorem dX12_fresh_106 : decode cX12_fresh 106 = .ok (.getfield 197, 3) := by decide +kernel
theorem dX12_fresh_109 : decode cX12_fresh 109 = .ok (.iload_n 1, 1) := by decide +kernel
theorem dX12_fresh_110 : decode cX12_fresh 110 = .ok (.iconst 0, 1) := by decide +kernel
theorem dX12_fresh_111 : decode cX12_fresh 111 = .ok (.iastore, 1) := by decide +kernel
theorem dX12_fresh_112 : decode cX12_fresh 112 = .ok (.aload_n 0, 1) := by decide +kernel
theorem dX12_fresh_113 : decode cX12_fresh 113 = .ok (.getfield 239, 3) := by decide +kernel
theorem dX12_fresh_116 : decode cX12_fresh 116 = .ok (.iload_n 1, 1) := by decide +kernel
theorem dX12_fresh_117 : decode cX12_fresh 117 = .ok (.iconst 0, 1) := by decide +kernel
theorem dX12_fresh_118 : decode cX12_fresh 118 = .ok (.bastore, 1) := by decide +kernel
theorem dX12_fresh_119 : decode cX12_fresh 119 = .ok (.aload_n 0, 1) := by decide +kernel
theorem dX12_fresh_120 : decode cX12_fresh 120 = .ok (.getfield 242, 3) := by decide +kernel
theorem dX12_fresh_123 : decode cX12_fresh 123 = .ok (.iload_n 1, 1) := by decide +kernel
theorem dX12_fresh_124 : decode cX12_fresh 124 = .ok (.iconst 0, 1) := by decide +kernel
theorem dX12_fresh_125 : decode cX12_fresh 125 = .ok (.bastore, 1) := by decide +kernel
theorem dX12_fresh_126 : decode cX12_fresh 126 = .ok (.aload_n 0, 1) := by decide +kernel
theorem dX12_fresh_127 : decode cX12_fresh 127 = .ok (.getfield 248, 3) := by decide +kernel
theorem dX12_fresh_130 : decode cX12_fresh 130 = .ok (.iload_n 1, 1) := by decide +kernel
theorem dX12_fresh_131 : decode cX12_fresh 131 = .ok (.iconst 0, 1) := by decide +kernel
theorem dX12_fresh_132 : decode cX12_fresh 132 = .ok (.bastore, 1) := by decide +kernel
theorem dX12_fresh_133 : decode cX12_fresh 133 = .ok (.aload_n 0, 1) := by decide +kernel
theorem dX12_fresh_134 : decode cX12_fresh 134 = .ok (.getfield 275, 3) := by decide +kernel
theorem dX12_fresh_137 : decode cX12_fresh 137 = .ok (.iload_n 1, 1) := by decide +kernel
theorem dX12_fresh_138 : decode cX12_fresh 138 = .ok (.iconst 0, 1) := by decide +kernel
theorem dX12_fresh_139 : decode cX12_fresh 139 = .ok (.iastore, 1) := by decide +kernel
theorem dX12_fresh_140 : decode cX12_fresh 140 = .ok (.aload_n 0, 1) := by decide +kernel
theorem dX12_fresh_141 : decode cX12_fresh 141 = .ok (.getfield 278, 3) := by decide +kernel
theorem dX12_fresh_144 : decode cX12_fresh 144 = .ok (.iload_n 1, 1) := by decide +kernel
theorem dX12_fresh_145 : decode cX12_fresh 145 = .ok (.iconst 0, 1) := by decide +kernel
theorem dX12_fresh_146 : decode cX12_fresh 146 = .ok (.iastore, 1) := by decide +kernel
theorem dX12_fresh_147 : decode cX12_fresh 147 = .ok (.aload_n 0, 1) := by decide +kernel
theorem dX12_fresh_148 : decode cX12_fresh 148 = .ok (.getfield 287, 3) := by decide +kernel
theorem dX12_fresh_151 : decode cX12_fresh 151 = .ok (.iload_n 1, 1) := by decide +kernel
theorem dX12_fresh_152 : decode cX12_fresh 152 = .ok (.iconst 0, 1) := by decide +kernel
theorem dX12_fresh_153 : decode cX12_fresh 153 = .ok (.bastore, 1) := by decide +kernel
theorem dX12_fresh_154 : decode cX12_fresh 154 = .ok (.aload_n 0, 1) := by decide +kernel
theorem dX12_fresh_155 : decode cX12_fresh 155 = .ok (.getfield 296, 3) := by decide +kernel
theorem dX12_fresh_158 : decode cX12_fresh 158 = .ok (.iload_n 1, 1) := by decide +kernel
theorem dX12_fresh_159 : decode cX12_fresh 159 = .ok (.iconst 0, 1) := by decide +kernel
theorem dX12_fresh_160 : decode cX12_fresh 160 = .ok (.iastore, 1) := by decide +kernel
theorem dX12_fresh_161 : decode cX12_fresh 161 = .ok (.aload_n 0, 1) := by decide +kernel
theorem dX12_fresh_162 : decode cX12_fresh 162 = .ok (.getfield 332, 3) := by decide +kernel
theorem dX12_fresh_165 : decode cX12_fresh 165 = .ok (.iload_n 1, 1) := by decide +kernel
theorem dX12_fresh_166 : decode cX12_fresh 166 = .ok (.bipush 23, 2) := by decide +kernel
theorem dX12_fresh_168 : decode cX12_fresh 168 = .ok (.iastore, 1) := by decide +kernel
theorem dX12_fresh_169 : decode cX12_fresh 169 = .ok (.aload_n 0, 1) := by decide +kernel
theorem dX12_fresh_170 : decode cX12_fresh 170 = .ok (.getfield 338, 3) := by decide +kernel
theorem dX12_fresh_173 : decode cX12_fresh 173 = .ok (.iload_n 1, 1) := by decide +kernel
theorem dX12_fresh_174 : decode cX12_fresh 174 = .ok (.iconst 0, 1) := by decide +kernel
theorem dX12_fresh_175 : decode cX12_fresh 175 = .ok (.iastore, 1) := by decide +kernel
theorem dX12_fresh_176 : decode cX12_fresh 176 = .ok (.aload_n 0, 1) := by decide +kernel
theorem dX12_fresh_177 : decode cX12_fresh 177 = .ok (.getfield 362, 3) := by decide +kernel
theorem dX12_fresh_180 : decode cX12_fresh 180 = .ok (.iload_n 1, 1) := by decide +kernel
theorem dX12_fresh_181 : decode cX12_fresh 181 = .ok (.iconst 0, 1) := by decide +kernel
theorem dX12_fresh_182 : decode cX12_fresh 182 = .ok (.bastore, 1) := by decide +kernel
theorem dX12_fresh_183 : decode cX12_fresh 183 = .ok (.aload_n 0, 1) := by decide +kernel
theorem dX12_fresh_184 : decode cX12_fresh 184 = .ok (.getfield 365, 3) := by decide +kernel
theorem dX12_fresh_187 : decode cX12_fresh 187 = .ok (.iload_n 1, 1) := by decide +kernel
theorem dX12_fresh_188 : decode cX12_fresh 188 = .ok (.iconst (-1), 1) := by decide +kernel
theorem dX12_fresh_189 : decode cX12_fresh 189 = .ok (.iastore, 1) := by decide +kernel
theorem dX12_fresh_190 : decode cX12_fresh 190 = .ok (.return_, 1) := by decide +kernel
theorem dX12_draw_0 : decode cX12_draw 0 = .ok (.aload_n 0, 1) := by decide +kernel
theorem dX12_draw_1 : decode cX12_draw 1 = .ok (.getfield 48, 3) := by decide +kernel
theorem dX12_draw_4 : decode cX12_draw 4 = .ok (.iload_n 1, 1) := by decide +kernel
theorem dX12_draw_5 : decode cX12_draw 5 = .ok (.aload_n 0, 1) := by decide +kernel
theorem dX12_draw_6 : decode cX12_draw 6 = .ok (.getfield 48, 3) := by decide +kernel
theorem dX12_draw_9 : decode cX12_draw 9 = .ok (.iload_n 1, 1) := by decide +kernel
theorem dX12_draw_10 : decode cX12_draw 10 = .ok (.iaload, 1) := by decide +kernel
theorem dX12_draw_11 : decode cX12_draw 11 = .ok (.ldc_w 395, 3) := by decide +kernel
theorem dX12_draw_14 : decode cX12_draw 14 = .ok (.imul, 1) := by decide +kernel
theorem dX12_draw_15 : decode cX12_draw 15 = .ok (.sipush 12345, 3) := by decide +kernel
theorem dX12_draw_18 : decode cX12_draw 18 = .ok (.iadd, 1) := by decide +kernel
theorem dX12_draw_19 : decode cX12_draw 19 = .ok (.iastore, 1) := by decide +kernel
theorem dX12_draw_20 : decode cX12_draw 20 = .ok (.aload_n 0, 1) := by decide +kernel
theorem dX12_draw_21 : decode cX12_draw 21 = .ok (.getfield 48, 3) := by decide +kernel
theorem dX12_draw_24 : decode cX12_draw 24 = .ok (.iload_n 1, 1) := by decide +kernel
theorem dX12_draw_25 : decode cX12_draw 25 = .ok (.iaload, 1) := by decide +kernel
theorem dX12_draw_26 : decode cX12_draw 26 = .ok (.bipush 16, 2) := by decide +kernel
theorem dX12_draw_28 : decode cX12_draw 28 = .ok (.iushr, 1) := by decide +kernel
theorem dX12_draw_29 : decode cX12_draw 29 = .ok (.sipush 255, 3) := by decide +kernel
theorem dX12_draw_32 : decode cX12_draw 32 = .ok (.iand, 1) := by decide +kernel
theorem dX12_draw_33 : decode cX12_draw 33 = .ok (.ireturn, 1) := by decide +kernel
theorem dX12_isLinked_0 : decode cX12_isLinked 0 = .ok (.aload_n 0, 1) := by decide +kernel
theorem dX12_isLinked_1 : decode cX12_isLinked 1 = .ok (.getfield 45, 3) := by decide +kernel
theorem dX12_isLinked_4 : decode cX12_isLinked 4 = .ok (.iload_n 1, 1) := by decide +kernel
theorem dX12_isLinked_5 : decode cX12_isLinked 5 = .ok (.iaload, 1) := by decide +kernel
theorem dX12_isLinked_6 : decode cX12_isLinked 6 = .ok (.iconst 4, 1) := by decide +kernel
theorem dX12_isLinked_7 : decode cX12_isLinked 7 = .ok (.if_icmp .eq 13, 3) := by decide +kernel
theorem dX12_isLinked_10 : decode cX12_isLinked 10 = .ok (.aload_n 0, 1) := by decide +kernel
theorem dX12_isLinked_11 : decode cX12_isLinked 11 = .ok (.getfield 45, 3) := by decide +kernel
theorem dX12_isLinked_14 : decode cX12_isLinked 14 = .ok (.iload_n 1, 1) := by decide +kernel
theorem dX12_isLinked_15 : decode cX12_isLinked 15 = .ok (.iaload, 1) := by decide +kernel
theorem dX12_isLinked_16 : decode cX12_isLinked 16 = .ok (.iconst 5, 1) := by decide +kernel
theorem dX12_isLinked_17 : decode cX12_isLinked 17 = .ok (.if_icmp .ne 7, 3) := by decide +kernel
theorem dX12_isLinked_20 : decode cX12_isLinked 20 = .ok (.iconst 1, 1) := by decide +kernel
theorem dX12_isLinked_21 : decode cX12_isLinked 21 = .ok (.goto 4, 3) := by decide +kernel
theorem dX12_isLinked_24 : decode cX12_isLinked 24 = .ok (.iconst 0, 1) := by decide +kernel
theorem dX12_isLinked_25 : decode cX12_isLinked 25 = .ok (.ireturn, 1) := by decide +kernel
theorem dX12_isMap_0 : decode cX12_isMap 0 = .ok (.lload_n 0, 1) := by decide +kernel
theorem dX12_isMap_1 : decode cX12_isMap 1 = .ok (.lconst 0, 1) := by decide +kernel
theorem dX12_isMap_2 : decode cX12_isMap 2 = .ok (.lcmp, 1) := by decide +kernel
theorem dX12_isMap_3 : decode cX12_isMap 3 = .ok (.ifCond .lt 23, 3) := by decide +kernel
theorem dX12_isMap_6 : decode cX12_isMap 6 = .ok (.lload_n 0, 1) := by decide +kernel
theorem dX12_isMap_7 : decode cX12_isMap 7 = .ok (.ldc2_w 396, 3) := by decide +kernel
theorem dX12_isMap_10 : decode cX12_isMap 10 = .ok (.lcmp, 1) := by decide +kernel
theorem dX12_isMap_11 : decode cX12_isMap 11 = .ok (.ifCond .ge 15, 3) := by decide +kernel
theorem dX12_isMap_14 : decode cX12_isMap 14 = .ok (.lload_n 0, 1) := by decide +kernel
theorem dX12_isMap_15 : decode cX12_isMap 15 = .ok (.invokestatic 398, 3) := by decide +kernel
theorem dX12_isMap_18 : decode cX12_isMap 18 = .ok (.iconst 1, 1) := by decide +kernel
theorem dX12_isMap_19 : decode cX12_isMap 19 = .ok (.if_icmp .le 7, 3) := by decide +kernel
theorem dX12_isMap_22 : decode cX12_isMap 22 = .ok (.iconst 1, 1) := by decide +kernel
theorem dX12_isMap_23 : decode cX12_isMap 23 = .ok (.goto 4, 3) := by decide +kernel
theorem dX12_isMap_26 : decode cX12_isMap 26 = .ok (.iconst 0, 1) := by decide +kernel
theorem dX12_isMap_27 : decode cX12_isMap 27 = .ok (.ireturn, 1) := by decide +kernel
theorem dX12_number_0 : decode cX12_number 0 = .ok (.iconst 0, 1) := by decide +kernel
theorem dX12_number_1 : decode cX12_number 1 = .ok (.istore 5, 2) := by decide +kernel
theorem dX12_number_3 : decode cX12_number 3 = .ok (.iload 5, 2) := by decide +kernel
theorem dX12_number_5 : decode cX12_number 5 = .ok (.iload 4, 2) := by decide +kernel
theorem dX12_number_7 : decode cX12_number 7 = .ok (.if_icmp .ge 24, 3) := by decide +kernel
theorem dX12_number_10 : decode cX12_number 10 = .ok (.aload_n 0, 1) := by decide +kernel
theorem dX12_number_11 : decode cX12_number 11 = .ok (.iload_n 1, 1) := by decide +kernel
theorem dX12_number_12 : decode cX12_number 12 = .ok (.iload 5, 2) := by decide +kernel
theorem dX12_number_14 : decode cX12_number 14 = .ok (.iadd, 1) := by decide +kernel
theorem dX12_number_15 : decode cX12_number 15 = .ok (.lload_n 2, 1) := by decide +kernel
theorem dX12_number_16 : decode cX12_number 16 = .ok (.bipush 8, 2) := by decide +kernel
theorem dX12_number_18 : decode cX12_number 18 = .ok (.iload 5, 2) := by decide +kernel
theorem dX12_number_20 : decode cX12_number 20 = .ok (.imul, 1) := by decide +kernel
theorem dX12_number_21 : decode cX12_number 21 = .ok (.lshr, 1) := by decide +kernel
theorem dX12_number_22 : decode cX12_number 22 = .ok (.l2i, 1) := by decide +kernel
theorem dX12_number_23 : decode cX12_number 23 = .ok (.i2b, 1) := by decide +kernel
theorem dX12_number_24 : decode cX12_number 24 = .ok (.bastore, 1) := by decide +kernel
theorem dX12_number_25 : decode cX12_number 25 = .ok (.iinc 5 1, 3) := by decide +kernel
theorem dX12_number_28 : decode cX12_number 28 = .ok (.goto (-25), 3) := by decide +kernel
theorem dX12_number_31 : decode cX12_number 31 = .ok (.return_, 1) := by decide +kernel
theorem dX12_number__0 : decode cX12_number_ 0 = .ok (.lconst 0, 1) := by decide +kernel
theorem dX12_number__1 : decode cX12_number_ 1 = .ok (.lstore_n 3, 1) := by decide +kernel
theorem dX12_number__2 : decode cX12_number_ 2 = .ok (.iload_n 2, 1) := by decide +kernel
theorem dX12_number__3 : decode cX12_number_ 3 = .ok (.iconst 1, 1) := by decide +kernel
theorem dX12_number__4 : decode cX12_number_ 4 = .ok (.isub, 1) := by decide +kernel
theorem dX12_number__5 : decode cX12_number_ 5 = .ok (.istore 5, 2) := by decide +kernel
theorem dX12_number__7 : decode cX12_number_ 7 = .ok (.iload 5, 2) := by decide +kernel
theorem dX12_number__9 : decode cX12_number_ 9 = .ok (.ifCond .lt 26, 3) := by decide +kernel
theorem dX12_number__12 : decode cX12_number_ 12 = .ok (.lload_n 3, 1) := by decide +kernel
theorem dX12_number__13 : decode cX12_number_ 13 = .ok (.bipush 8, 2) := by decide +kernel
theorem dX12_number__15 : decode cX12_number_ 15 = .ok (.lshl, 1) := by decide +kernel
theorem dX12_number__16 : decode cX12_number_ 16 = .ok (.aload_n 0, 1) := by decide +kernel
theorem dX12_number__17 : decode cX12_number_ 17 = .ok (.iload_n 1, 1) := by decide +kernel
theorem dX12_number__18 : decode cX12_number_ 18 = .ok (.iload 5, 2) := by decide +kernel
theorem dX12_number__20 : decode cX12_number_ 20 = .ok (.iadd, 1) := by decide +kernel
theorem dX12_number__21 : decode cX12_number_ 21 = .ok (.baload, 1) := by decide +kernel
theorem dX12_number__22 : decode cX12_number_ 22 = .ok (.sipush 255, 3) := by decide +kernel
theorem dX12_number__25 : decode cX12_number_ 25 = .ok (.iand, 1) := by decide +kernel
theorem dX12_number__26 : decode cX12_number_ 26 = .ok (.i2l, 1) := by decide +kernel
theorem dX12_number__27 : decode cX12_number_ 27 = .ok (.lor, 1) := by decide +kernel
theorem dX12_number__28 : decode cX12_number_ 28 = .ok (.lstore_n 3, 1) := by decide +kernel
theorem dX12_number__29 : decode cX12_number_ 29 = .ok (.iinc 5 (-1), 3) := by decide +kernel
theorem dX12_number__32 : decode cX12_number_ 32 = .ok (.goto (-25), 3) := by decide +kernel
theorem dX12_number__35 : decode cX12_number_ 35 = .ok (.lload_n 3, 1) := by decide +kernel
theorem dX12_number__36 : decode cX12_number_ 36 = .ok (.lreturn, 1) := by decide +kernel
theorem dX12_complete_0 : decode cX12_complete 0 = .ok (.aload_n 0, 1) := by decide +kernel
theorem dX12_complete_1 : decode cX12_complete 1 = .ok (.getfield 158, 3) := by decide +kernel
theorem dX12_complete_4 : decode cX12_complete 4 = .ok (.iload_n 1, 1) := by decide +kernel
theorem dX12_complete_5 : decode cX12_complete 5 = .ok (.iaload, 1) := by decide +kernel
theorem dX12_complete_6 : decode cX12_complete 6 = .ok (.bipush 32, 2) := by decide +kernel
theorem dX12_complete_8 : decode cX12_complete 8 = .ok (.if_icmp .ne 14, 3) := by decide +kernel
theorem dX12_complete_11 : decode cX12_complete 11 = .ok (.aload_n 0, 1) := by decide +kernel
theorem dX12_complete_12 : decode cX12_complete 12 = .ok (.getfield 161, 3) := by decide +kernel
theorem dX12_complete_15 : decode cX12_complete 15 = .ok (.iload_n 1, 1) := by decide +kernel
theorem dX12_complete_16 : decode cX12_complete 16 = .ok (.dup2, 1) := by decide +kernel
theorem dX12_complete_17 : decode cX12_complete 17 = .ok (.iaload, 1) := by decide +kernel
theorem dX12_complete_18 : decode cX12_complete 18 = .ok (.iconst 1, 1) := by decide +kernel
theorem dX12_complete_19 : decode cX12_complete 19 = .ok (.iadd, 1) := by decide +kernel
theorem dX12_complete_20 : decode cX12_complete 20 = .ok (.iastore, 1) := by decide +kernel
theorem dX12_complete_21 : decode cX12_complete 21 = .ok (.return_, 1) := by decide +kernel
theorem dX12_complete_22 : decode cX12_complete 22 = .ok (.bipush 45, 2) := by decide +kernel
theorem dX12_complete_24 : decode cX12_complete 24 = .ok (.bipush 32, 2) := by decide +kernel
theorem dX12_complete_26 : decode cX12_complete 26 = .ok (.iload_n 1, 1) := by decide +kernel
theorem dX12_complete_27 : decode cX12_complete 27 = .ok (.imul, 1) := by decide +kernel
theorem dX12_complete_28 : decode cX12_complete 28 = .ok (.aload_n 0, 1) := by decide +kernel
theorem dX12_complete_29 : decode cX12_complete 29 = .ok (.getfield 158, 3) := by decide +kernel
theorem dX12_complete_32 : decode cX12_complete 32 = .ok (.iload_n 1, 1) := by decide +kernel
theorem dX12_complete_33 : decode cX12_complete 33 = .ok (.iaload, 1) := by decide +kernel
theorem dX12_complete_34 : decode cX12_complete 34 = .ok (.iadd, 1) := by decide +kernel
theorem dX12_complete_35 : decode cX12_complete 35 = .ok (.imul, 1) := by decide +kernel
theorem dX12_complete_36 : decode cX12_complete 36 = .ok (.istore 9, 2) := by decide +kernel
theorem dX12_complete_38 : decode cX12_complete 38 = .ok (.aload_n 0, 1) := by decide +kernel
theorem dX12_complete_39 : decode cX12_complete 39 = .ok (.getfield 158, 3) := by decide +kernel
theorem dX12_complete_42 : decode cX12_complete 42 = .ok (.iload_n 1, 1) := by decide +kernel
theorem dX12_complete_43 : decode cX12_complete 43 = .ok (.dup2, 1) := by decide +kernel
theorem dX12_complete_44 : decode cX12_complete 44 = .ok (.iaload, 1) := by decide +kernel
theorem dX12_complete_45 : decode cX12_complete 45 = .ok (.iconst 1, 1) := by decide +kernel
theorem dX12_complete_46 : decode cX12_complete 46 = .ok (.iadd, 1) := by decide +kernel
theorem dX12_complete_47 : decode cX12_complete 47 = .ok (.iastore, 1) := by decide +kernel
theorem dX12_complete_48 : decode cX12_complete 48 = .ok (.aload_n 0, 1) := by decide +kernel
theorem dX12_complete_49 : decode cX12_complete 49 = .ok (.getfield 155, 3) := by decide +kernel
theorem dX12_complete_52 : decode cX12_complete 52 = .ok (.iload 9, 2) := by decide +kernel
theorem dX12_complete_54 : decode cX12_complete 54 = .ok (.iload_n 2, 1) := by decide +kernel
theorem dX12_complete_55 : decode cX12_complete 55 = .ok (.iastore, 1) := by decide +kernel
theorem dX12_complete_56 : decode cX12_complete 56 = .ok (.aload_n 0, 1) := by decide +kernel
theorem dX12_complete_57 : decode cX12_complete 57 = .ok (.getfield 155, 3) := by decide +kernel
theorem dX12_complete_60 : decode cX12_complete 60 = .ok (.iload 9, 2) := by decide +kernel
theorem dX12_complete_62 : decode cX12_complete 62 = .ok (.iconst 1, 1) := by decide +kernel
theorem dX12_complete_63 : decode cX12_complete 63 = .ok (.iadd, 1) := by decide +kernel
theorem dX12_complete_64 : decode cX12_complete 64 = .ok (.iload_n 3, 1) := by decide +kernel
theorem dX12_complete_65 : decode cX12_complete 65 = .ok (.iastore, 1) := by decide +kernel
theorem dX12_complete_66 : decode cX12_complete 66 = .ok (.aload_n 0, 1) := by decide +kernel
theorem dX12_complete_67 : decode cX12_complete 67 = .ok (.getfield 155, 3) := by decide +kernel
theorem dX12_complete_70 : decode cX12_complete 70 = .ok (.iload 9, 2) := by decide +kernel
theorem dX12_complete_72 : decode cX12_complete 72 = .ok (.iconst 2, 1) := by decide +kernel
theorem dX12_complete_73 : decode cX12_complete 73 = .ok (.iadd, 1) := by decide +kernel
theorem dX12_complete_74 : decode cX12_complete 74 = .ok (.iload 4, 2) := by decide +kernel
theorem dX12_complete_76 : decode cX12_complete 76 = .ok (.iastore, 1) := by decide +kernel
theorem dX12_complete_77 : decode cX12_complete 77 = .ok (.aload_n 0, 1) := by decide +kernel
theorem dX12_complete_78 : decode cX12_complete 78 = .ok (.getfield 155, 3) := by decide +kernel
theorem dX12_complete_81 : decode cX12_complete 81 = .ok (.iload 9, 2) := by decide +kernel
theorem dX12_complete_83 : decode cX12_complete 83 = .ok (.iconst 3, 1) := by decide +kernel
theorem dX12_complete_84 : decode cX12_complete 84 = .ok (.iadd, 1) := by decide +kernel
theorem dX12_complete_85 : decode cX12_complete 85 = .ok (.iload 5, 2) := by decide +kernel
theorem dX12_complete_87 : decode cX12_complete 87 = .ok (.iastore, 1) := by decide +kernel
theorem dX12_complete_88 : decode cX12_complete 88 = .ok (.aload_n 0, 1) := by decide +kernel
theorem dX12_complete_89 : decode cX12_complete 89 = .ok (.getfield 155, 3) := by decide +kernel
theorem dX12_complete_92 : decode cX12_complete 92 = .ok (.iload 9, 2) := by decide +kernel
theorem dX12_complete_94 : decode cX12_complete 94 = .ok (.iconst 4, 1) := by decide +kernel
theorem dX12_complete_95 : decode cX12_complete 95 = .ok (.iadd, 1) := by decide +kernel
theorem dX12_complete_96 : decode cX12_complete 96 = .ok (.iload 8, 2) := by decide +kernel
theorem dX12_complete_98 : decode cX12_complete 98 = .ok (.bipush 40, 2) := by decide +kernel
theorem dX12_complete_100 : decode cX12_complete 100 = .ok (.invokestatic 404, 3) := by decide +kernel
theorem dX12_complete_103 : decode cX12_complete 103 = .ok (.iastore, 1) := by decide +kernel
theorem dX12_complete_104 : decode cX12_complete 104 = .ok (.iconst 0, 1) := by decide +kernel
theorem dX12_complete_105 : decode cX12_complete 105 = .ok (.istore 10, 2) := by decide +kernel
theorem dX12_complete_107 : decode cX12_complete 107 = .ok (.iload 10, 2) := by decide +kernel
theorem dX12_complete_109 : decode cX12_complete 109 = .ok (.bipush 40, 2) := by decide +kernel
theorem dX12_complete_111 : decode cX12_complete 111 = .ok (.if_icmp .ge 40, 3) := by decide +kernel
theorem dX12_complete_114 : decode cX12_complete 114 = .ok (.iload 10, 2) := by decide +kernel
theorem dX12_complete_116 : decode cX12_complete 116 = .ok (.iload 8, 2) := by decide +kernel
theorem dX12_complete_118 : decode cX12_complete 118 = .ok (.if_icmp .ge 33, 3) := by decide +kernel
theorem dX12_complete_121 : decode cX12_complete 121 = .ok (.aload_n 0, 1) := by decide +kernel
theorem dX12_complete_122 : decode cX12_complete 122 = .ok (.getfield 155, 3) := by decide +kernel
theorem dX12_complete_125 : decode cX12_complete 125 = .ok (.iload 9, 2) := by decide +kernel
theorem dX12_complete_127 : decode cX12_complete 127 = .ok (.iconst 5, 1) := by decide +kernel
theorem dX12_complete_128 : decode cX12_complete 128 = .ok (.iadd, 1) := by decide +kernel
theorem dX12_complete_129 : decode cX12_complete 129 = .ok (.iload 10, 2) := by decide +kernel
theorem dX12_complete_131 : decode cX12_complete 131 = .ok (.iadd, 1) := by decide +kernel
theorem dX12_complete_132 : decode cX12_complete 132 = .ok (.aload 6, 2) := by decide +kernel
theorem dX12_complete_134 : decode cX12_complete 134 = .ok (.iload 7, 2) := by decide +kernel
theorem dX12_complete_136 : decode cX12_complete 136 = .ok (.iload 10, 2) := by decide +kernel
theorem dX12_complete_138 : decode cX12_complete 138 = .ok (.iadd, 1) := by decide +kernel
theorem dX12_complete_139 : decode cX12_complete 139 = .ok (.baload, 1) := by decide +kernel
theorem dX12_complete_140 : decode cX12_complete 140 = .ok (.sipush 255, 3) := by decide +kernel
theorem dX12_complete_143 : decode cX12_complete 143 = .ok (.iand, 1) := by decide +kernel
theorem dX12_complete_144 : decode cX12_complete 144 = .ok (.iastore, 1) := by decide +kernel
theorem dX12_complete_145 : decode cX12_complete 145 = .ok (.iinc 10 1, 3) := by decide +kernel
theorem dX12_complete_148 : decode cX12_complete 148 = .ok (.goto (-41), 3) := by decide +kernel
theorem dX12_complete_151 : decode cX12_complete 151 = .ok (.return_, 1) := by decide +kernel
theorem dX12_complete__0 : decode cX12_complete_ 0 = .ok (.aload_n 0, 1) := by decide +kernel
theorem dX12_complete__1 : decode cX12_complete_ 1 = .ok (.iload_n 1, 1) := by decide +kernel
theorem dX12_complete__2 : decode cX12_complete_ 2 = .ok (.iload_n 2, 1) := by decide +kernel
theorem dX12_complete__3 : decode cX12_complete_ 3 = .ok (.iload_n 3, 1) := by decide +kernel
theorem dX12_complete__4 : decode cX12_complete_ 4 = .ok (.iload 4, 2) := by decide +kernel
theorem dX12_complete__6 : decode cX12_complete_ 6 = .ok (.iload 5, 2) := by decide +kernel
theorem dX12_complete__8 : decode cX12_complete_ 8 = .ok (.aload_n 0, 1) := by decide +kernel
theorem dX12_complete__9 : decode cX12_complete_ 9 = .ok (.getfield 10, 3) := by decide +kernel
theorem dX12_complete__12 : decode cX12_complete_ 12 = .ok (.iconst 0, 1) := by decide +kernel
theorem dX12_complete__13 : decode cX12_complete_ 13 = .ok (.iconst 0, 1) := by decide +kernel
theorem dX12_complete__14 : decode cX12_complete_ 14 = .ok (.invokevirtual 409, 3) := by decide +kernel
theorem dX12_complete__17 : decode cX12_complete_ 17 = .ok (.return_, 1) := by decide +kernel
theorem dX12_completion_0 : decode cX12_completion 0 = .ok (.aload_n 0, 1) := by decide +kernel
theorem dX12_completion_1 : decode cX12_completion 1 = .ok (.iconst 0, 1) := by decide +kernel
theorem dX12_completion_2 : decode cX12_completion 2 = .ok (.putfield 1, 3) := by decide +kernel
theorem dX12_completion_5 : decode cX12_completion 5 = .ok (.iload_n 1, 1) := by decide +kernel
theorem dX12_completion_6 : decode cX12_completion 6 = .ok (.iconst 2, 1) := by decide +kernel
theorem dX12_completion_7 : decode cX12_completion 7 = .ok (.invokestatic 413, 3) := by decide +kernel
theorem dX12_completion_10 : decode cX12_completion 10 = .ok (.ifCond .eq 12, 3) := by decide +kernel
theorem dX12_completion_13 : decode cX12_completion 13 = .ok (.aload_n 0, 1) := by decide +kernel
theorem dX12_completion_14 : decode cX12_completion 14 = .ok (.getfield 158, 3) := by decide +kernel
theorem dX12_completion_17 : decode cX12_completion 17 = .ok (.iload_n 1, 1) := by decide +kernel
theorem dX12_completion_18 : decode cX12_completion 18 = .ok (.iaload, 1) := by decide +kernel
theorem dX12_completion_19 : decode cX12_completion 19 = .ok (.ifCond .ne 5, 3) := by decide +kernel
theorem dX12_completion_22 : decode cX12_completion 22 = .ok (.iconst (-1), 1) := by decide +kernel
theorem dX12_completion_23 : decode cX12_completion 23 = .ok (.ireturn, 1) := by decide +kernel
theorem dX12_completion_24 : decode cX12_completion 24 = .ok (.sipush 1440, 3) := by decide +kernel
theorem dX12_completion_27 : decode cX12_completion 27 = .ok (.iload_n 1, 1) := by decide +kernel
theorem dX12_completion_28 : decode cX12_completion 28 = .ok (.imul, 1) := by decide +kernel
theorem dX12_completion_29 : decode cX12_completion 29 = .ok (.istore_n 3, 1) := by decide +kernel
theorem dX12_completion_30 : decode cX12_completion 30 = .ok (.iload_n 2, 1) := by decide +kernel
theorem dX12_completion_31 : decode cX12_completion 31 = .ok (.iconst 5, 1) := by decide +kernel
theorem dX12_completion_32 : decode cX12_completion 32 = .ok (.invokestatic 413, 3) := by decide +kernel
theorem dX12_completion_35 : decode cX12_completion 35 = .ok (.ifCond .eq 12, 3) := by decide +kernel
theorem dX12_completion_38 : decode cX12_completion 38 = .ok (.aload_n 0, 1) := by decide +kernel
theorem dX12_completion_39 : decode cX12_completion 39 = .ok (.getfield 155, 3) := by decide +kernel
theorem dX12_completion_42 : decode cX12_completion 42 = .ok (.iload_n 3, 1) := by decide +kernel
theorem dX12_completion_43 : decode cX12_completion 43 = .ok (.iload_n 2, 1) := by decide +kernel
theorem dX12_completion_44 : decode cX12_completion 44 = .ok (.iadd, 1) := by decide +kernel
theorem dX12_completion_45 : decode cX12_completion 45 = .ok (.iaload, 1) := by decide +kernel
theorem dX12_completion_46 : decode cX12_completion 46 = .ok (.ireturn, 1) := by decide +kernel
theorem dX12_completion_47 : decode cX12_completion 47 = .ok (.iload_n 2, 1) := by decide +kernel
theorem dX12_completion_48 : decode cX12_completion 48 = .ok (.bipush 10, 2) := by decide +kernel
theorem dX12_completion_50 : decode cX12_completion 50 = .ok (.if_icmp .lt 31, 3) := by decide +kernel
theorem dX12_completion_53 : decode cX12_completion 53 = .ok (.iload_n 2, 1) := by decide +kernel
theorem dX12_completion_54 : decode cX12_completion 54 = .ok (.bipush 10, 2) := by decide +kernel
theorem dX12_completion_56 : decode cX12_completion 56 = .ok (.isub, 1) := by decide +kernel
theorem dX12_completion_57 : decode cX12_completion 57 = .ok (.aload_n 0, 1) := by decide +kernel
theorem dX12_completion_58 : decode cX12_completion 58 = .ok (.getfield 155, 3) := by decide +kernel
theorem dX12_completion_61 : decode cX12_completion 61 = .ok (.iload_n 3, 1) := by decide +kernel
theorem dX12_completion_62 : decode cX12_completion 62 = .ok (.iconst 4, 1) := by decide +kernel
theorem dX12_completion_63 : decode cX12_completion 63 = .ok (.iadd, 1) := by decide +kernel
theorem dX12_completion_64 : decode cX12_completion 64 = .ok (.iaload, 1) := by decide +kernel
theorem dX12_completion_65 : decode cX12_completion 65 = .ok (.if_icmp .ge 16, 3) := by decide +kernel
theorem dX12_completion_68 : decode cX12_completion 68 = .ok (.aload_n 0, 1) := by decide +kernel
theorem dX12_completion_69 : decode cX12_completion 69 = .ok (.getfield 155, 3) := by decide +kernel
theorem dX12_completion_72 : decode cX12_completion 72 = .ok (.iload_n 3, 1) := by decide +kernel
theorem dX12_completion_73 : decode cX12_completion 73 = .ok (.iload_n 2, 1) := by decide +kernel
theorem dX12_completion_74 : decode cX12_completion 74 = .ok (.iadd, 1) := by decide +kernel
theorem dX12_completion_75 : decode cX12_completion 75 = .ok (.iconst 5, 1) := by decide +kernel
theorem dX12_completion_76 : decode cX12_completion 76 = .ok (.isub, 1) := by decide +kernel
theorem dX12_completion_77 : decode cX12_completion 77 = .ok (.iaload, 1) := by decide +kernel
theorem dX12_completion_78 : decode cX12_completion 78 = .ok (.goto 4, 3) := by decide +kernel
theorem dX12_completion_81 : decode cX12_completion 81 = .ok (.iconst (-1), 1) := by decide +kernel
theorem dX12_completion_82 : decode cX12_completion 82 = .ok (.ireturn, 1) := by decide +kernel
theorem dX12_take_0 : decode cX12_take 0 = .ok (.aload_n 0, 1) := by decide +kernel
theorem dX12_take_1 : decode cX12_take 1 = .ok (.iconst 0, 1) := by decide +kernel
theorem dX12_take_2 : decode cX12_take 2 = .ok (.putfield 1, 3) := by decide +kernel
theorem dX12_take_5 : decode cX12_take 5 = .ok (.iload_n 1, 1) := by decide +kernel
theorem dX12_take_6 : decode cX12_take 6 = .ok (.iconst 2, 1) := by decide +kernel
theorem dX12_take_7 : decode cX12_take 7 = .ok (.invokestatic 413, 3) := by decide +kernel
theorem dX12_take_10 : decode cX12_take 10 = .ok (.ifCond .eq 12, 3) := by decide +kernel
theorem dX12_take_13 : decode cX12_take 13 = .ok (.aload_n 0, 1) := by decide +kernel
theorem dX12_take_14 : decode cX12_take 14 = .ok (.getfield 158, 3) := by decide +kernel
theorem dX12_take_17 : decode cX12_take 17 = .ok (.iload_n 1, 1) := by decide +kernel
theorem dX12_take_18 : decode cX12_take 18 = .ok (.iaload, 1) := by decide +kernel
theorem dX12_take_19 : decode cX12_take 19 = .ok (.ifCond .ne 5, 3) := by decide +kernel
theorem dX12_take_22 : decode cX12_take 22 = .ok (.iconst 0, 1) := by decide +kernel
theorem dX12_take_23 : decode cX12_take 23 = .ok (.ireturn, 1) := by decide +kernel
theorem dX12_take_24 : decode cX12_take 24 = .ok (.sipush 1440, 3) := by decide +kernel
theorem dX12_take_27 : decode cX12_take 27 = .ok (.iload_n 1, 1) := by decide +kernel
theorem dX12_take_28 : decode cX12_take 28 = .ok (.imul, 1) := by decide +kernel
theorem dX12_take_29 : decode cX12_take 29 = .ok (.istore_n 2, 1) := by decide +kernel
theorem dX12_take_30 : decode cX12_take 30 = .ok (.aload_n 0, 1) := by decide +kernel
theorem dX12_take_31 : decode cX12_take 31 = .ok (.getfield 158, 3) := by decide +kernel
theorem dX12_take_34 : decode cX12_take 34 = .ok (.iload_n 1, 1) := by decide +kernel
theorem dX12_take_35 : decode cX12_take 35 = .ok (.dup2, 1) := by decide +kernel
theorem dX12_take_36 : decode cX12_take 36 = .ok (.iaload, 1) := by decide +kernel
theorem dX12_take_37 : decode cX12_take 37 = .ok (.iconst 1, 1) := by decide +kernel
theorem dX12_take_38 : decode cX12_take 38 = .ok (.isub, 1) := by decide +kernel
theorem dX12_take_39 : decode cX12_take 39 = .ok (.iastore, 1) := by decide +kernel
theorem dX12_take_40 : decode cX12_take 40 = .ok (.iconst 0, 1) := by decide +kernel
theorem dX12_take_41 : decode cX12_take 41 = .ok (.istore_n 3, 1) := by decide +kernel
theorem dX12_take_42 : decode cX12_take 42 = .ok (.iload_n 3, 1) := by decide +kernel
theorem dX12_take_43 : decode cX12_take 43 = .ok (.bipush 45, 2) := by decide +kernel
theorem dX12_take_45 : decode cX12_take 45 = .ok (.aload_n 0, 1) := by decide +kernel
theorem dX12_take_46 : decode cX12_take 46 = .ok (.getfield 158, 3) := by decide +kernel
theorem dX12_take_49 : decode cX12_take 49 = .ok (.iload_n 1, 1) := by decide +kernel
theorem dX12_take_50 : decode cX12_take 50 = .ok (.iaload, 1) := by decide +kernel
theorem dX12_take_51 : decode cX12_take 51 = .ok (.imul, 1) := by decide +kernel
theorem dX12_take_52 : decode cX12_take 52 = .ok (.if_icmp .ge 28, 3) := by decide +kernel
theorem dX12_take_55 : decode cX12_take 55 = .ok (.aload_n 0, 1) := by decide +kernel
theorem dX12_take_56 : decode cX12_take 56 = .ok (.getfield 155, 3) := by decide +kernel
theorem dX12_take_59 : decode cX12_take 59 = .ok (.iload_n 2, 1) := by decide +kernel
theorem dX12_take_60 : decode cX12_take 60 = .ok (.iload_n 3, 1) := by decide +kernel
theorem dX12_take_61 : decode cX12_take 61 = .ok (.iadd, 1) := by decide +kernel
theorem dX12_take_62 : decode cX12_take 62 = .ok (.aload_n 0, 1) := by decide +kernel
theorem dX12_take_63 : decode cX12_take 63 = .ok (.getfield 155, 3) := by decide +kernel
theorem dX12_take_66 : decode cX12_take 66 = .ok (.iload_n 2, 1) := by decide +kernel
theorem dX12_take_67 : decode cX12_take 67 = .ok (.bipush 45, 2) := by decide +kernel
theorem dX12_take_69 : decode cX12_take 69 = .ok (.iadd, 1) := by decide +kernel
theorem dX12_take_70 : decode cX12_take 70 = .ok (.iload_n 3, 1) := by decide +kernel
theorem dX12_take_71 : decode cX12_take 71 = .ok (.iadd, 1) := by decide +kernel
theorem dX12_take_72 : decode cX12_take 72 = .ok (.iaload, 1) := by decide +kernel
theorem dX12_take_73 : decode cX12_take 73 = .ok (.iastore, 1) := by decide +kernel
theorem dX12_take_74 : decode cX12_take 74 = .ok (.iinc 3 1, 3) := by decide +kernel
theorem dX12_take_77 : decode cX12_take 77 = .ok (.goto (-35), 3) := by decide +kernel
theorem dX12_take_80 : decode cX12_take 80 = .ok (.iconst 1, 1) := by decide +kernel
theorem dX12_take_81 : decode cX12_take 81 = .ok (.ireturn, 1) := by decide +kernel
theorem dX12_crc_0 : decode cX12_crc 0 = .ok (.iload_n 3, 1) := by decide +kernel
theorem dX12_crc_1 : decode cX12_crc 1 = .ok (.istore 4, 2) := by decide +kernel
theorem dX12_crc_3 : decode cX12_crc 3 = .ok (.bipush 8, 2) := by decide +kernel
theorem dX12_crc_5 : decode cX12_crc 5 = .ok (.iload_n 1, 1) := by decide +kernel
theorem dX12_crc_6 : decode cX12_crc 6 = .ok (.imul, 1) := by decide +kernel
theorem dX12_crc_7 : decode cX12_crc 7 = .ok (.istore 5, 2) := by decide +kernel
theorem dX12_crc_9 : decode cX12_crc 9 = .ok (.iload 5, 2) := by decide +kernel
theorem dX12_crc_11 : decode cX12_crc 11 = .ok (.bipush 8, 2) := by decide +kernel
theorem dX12_crc_13 : decode cX12_crc 13 = .ok (.iload_n 2, 1) := by decide +kernel
theorem dX12_crc_14 : decode cX12_crc 14 = .ok (.imul, 1) := by decide +kernel
theorem dX12_crc_15 : decode cX12_crc 15 = .ok (.if_icmp .ge 63, 3) := by decide +kernel
theorem dX12_crc_18 : decode cX12_crc 18 = .ok (.aload_n 0, 1) := by decide +kernel
theorem dX12_crc_19 : decode cX12_crc 19 = .ok (.iload 5, 2) := by decide +kernel
theorem dX12_crc_21 : decode cX12_crc 21 = .ok (.bipush 8, 2) := by decide +kernel
theorem dX12_crc_23 : decode cX12_crc 23 = .ok (.idiv, 1) := by decide +kernel
theorem dX12_crc_24 : decode cX12_crc 24 = .ok (.baload, 1) := by decide +kernel
theorem dX12_crc_25 : decode cX12_crc 25 = .ok (.iload 5, 2) := by decide +kernel
theorem dX12_crc_27 : decode cX12_crc 27 = .ok (.bipush 8, 2) := by decide +kernel
theorem dX12_crc_29 : decode cX12_crc 29 = .ok (.irem, 1) := by decide +kernel
theorem dX12_crc_30 : decode cX12_crc 30 = .ok (.ishr, 1) := by decide +kernel
theorem dX12_crc_31 : decode cX12_crc 31 = .ok (.iconst 1, 1) := by decide +kernel
theorem dX12_crc_32 : decode cX12_crc 32 = .ok (.iand, 1) := by decide +kernel
theorem dX12_crc_33 : decode cX12_crc 33 = .ok (.istore 6, 2) := by decide +kernel
theorem dX12_crc_35 : decode cX12_crc 35 = .ok (.iload 6, 2) := by decide +kernel
theorem dX12_crc_37 : decode cX12_crc 37 = .ok (.iload 4, 2) := by decide +kernel
theorem dX12_crc_39 : decode cX12_crc 39 = .ok (.bipush 23, 2) := by decide +kernel
theorem dX12_crc_41 : decode cX12_crc 41 = .ok (.ishr, 1) := by decide +kernel
theorem dX12_crc_42 : decode cX12_crc 42 = .ok (.iconst 1, 1) := by decide +kernel
theorem dX12_crc_43 : decode cX12_crc 43 = .ok (.iand, 1) := by decide +kernel
theorem dX12_crc_44 : decode cX12_crc 44 = .ok (.if_icmp .ne 14, 3) := by decide +kernel
theorem dX12_crc_47 : decode cX12_crc 47 = .ok (.iload 4, 2) := by decide +kernel
theorem dX12_crc_49 : decode cX12_crc 49 = .ok (.iconst 1, 1) := by decide +kernel
theorem dX12_crc_50 : decode cX12_crc 50 = .ok (.ishl, 1) := by decide +kernel
theorem dX12_crc_51 : decode cX12_crc 51 = .ok (.ldc_w 417, 3) := by decide +kernel
theorem dX12_crc_54 : decode cX12_crc 54 = .ok (.iand, 1) := by decide +kernel
theorem dX12_crc_55 : decode cX12_crc 55 = .ok (.goto 15, 3) := by decide +kernel
theorem dX12_crc_58 : decode cX12_crc 58 = .ok (.iload 4, 2) := by decide +kernel
theorem dX12_crc_60 : decode cX12_crc 60 = .ok (.iconst 1, 1) := by decide +kernel
theorem dX12_crc_61 : decode cX12_crc 61 = .ok (.ishl, 1) := by decide +kernel
theorem dX12_crc_62 : decode cX12_crc 62 = .ok (.ldc_w 417, 3) := by decide +kernel
theorem dX12_crc_65 : decode cX12_crc 65 = .ok (.iand, 1) := by decide +kernel
theorem dX12_crc_66 : decode cX12_crc 66 = .ok (.sipush 1627, 3) := by decide +kernel
theorem dX12_crc_69 : decode cX12_crc 69 = .ok (.ixor, 1) := by decide +kernel
theorem dX12_crc_70 : decode cX12_crc 70 = .ok (.istore 4, 2) := by decide +kernel
theorem dX12_crc_72 : decode cX12_crc 72 = .ok (.iinc 5 1, 3) := by decide +kernel
theorem dX12_crc_75 : decode cX12_crc 75 = .ok (.goto (-66), 3) := by decide +kernel
theorem dX12_crc_78 : decode cX12_crc 78 = .ok (.iload 4, 2) := by decide +kernel
theorem dX12_crc_80 : decode cX12_crc 80 = .ok (.ireturn, 1) := by decide +kernel
theorem dX12_whiten_0 : decode cX12_whiten 0 = .ok (.bipush 64, 2) := by decide +kernel
theorem dX12_whiten_2 : decode cX12_whiten 2 = .ok (.iload_n 3, 1) := by decide +kernel
theorem dX12_whiten_3 : decode cX12_whiten 3 = .ok (.iadd, 1) := by decide +kernel
theorem dX12_whiten_4 : decode cX12_whiten 4 = .ok (.istore 4, 2) := by decide +kernel
theorem dX12_whiten_6 : decode cX12_whiten 6 = .ok (.bipush 8, 2) := by decide +kernel
theorem dX12_whiten_8 : decode cX12_whiten 8 = .ok (.iload_n 1, 1) := by decide +kernel
theorem dX12_whiten_9 : decode cX12_whiten 9 = .ok (.imul, 1) := by decide +kernel
theorem dX12_whiten_10 : decode cX12_whiten 10 = .ok (.istore 5, 2) := by decide +kernel
theorem dX12_whiten_12 : decode cX12_whiten 12 = .ok (.iload 5, 2) := by decide +kernel
theorem dX12_whiten_14 : decode cX12_whiten 14 = .ok (.bipush 8, 2) := by decide +kernel
theorem dX12_whiten_16 : decode cX12_whiten 16 = .ok (.iload_n 2, 1) := by decide +kernel
theorem dX12_whiten_17 : decode cX12_whiten 17 = .ok (.imul, 1) := by decide +kernel
theorem dX12_whiten_18 : decode cX12_whiten 18 = .ok (.if_icmp .ge 57, 3) := by decide +kernel
theorem dX12_whiten_21 : decode cX12_whiten 21 = .ok (.iload 4, 2) := by decide +kernel
theorem dX12_whiten_23 : decode cX12_whiten 23 = .ok (.iconst 1, 1) := by decide +kernel
theorem dX12_whiten_24 : decode cX12_whiten 24 = .ok (.iand, 1) := by decide +kernel
theorem dX12_whiten_25 : decode cX12_whiten 25 = .ok (.istore 6, 2) := by decide +kernel
theorem dX12_whiten_27 : decode cX12_whiten 27 = .ok (.aload_n 0, 1) := by decide +kernel
theorem dX12_whiten_28 : decode cX12_whiten 28 = .ok (.iload 5, 2) := by decide +kernel
theorem dX12_whiten_30 : decode cX12_whiten 30 = .ok (.bipush 8, 2) := by decide +kernel
theorem dX12_whiten_32 : decode cX12_whiten 32 = .ok (.idiv, 1) := by decide +kernel
theorem dX12_whiten_33 : decode cX12_whiten 33 = .ok (.dup2, 1) := by decide +kernel
theorem dX12_whiten_34 : decode cX12_whiten 34 = .ok (.baload, 1) := by decide +kernel
theorem dX12_whiten_35 : decode cX12_whiten 35 = .ok (.iload 6, 2) := by decide +kernel
theorem dX12_whiten_37 : decode cX12_whiten 37 = .ok (.iload 5, 2) := by decide +kernel
theorem dX12_whiten_39 : decode cX12_whiten 39 = .ok (.bipush 8, 2) := by decide +kernel
theorem dX12_whiten_41 : decode cX12_whiten 41 = .ok (.irem, 1) := by decide +kernel
theorem dX12_whiten_42 : decode cX12_whiten 42 = .ok (.ishl, 1) := by decide +kernel
theorem dX12_whiten_43 : decode cX12_whiten 43 = .ok (.i2b, 1) := by decide +kernel
theorem dX12_whiten_44 : decode cX12_whiten 44 = .ok (.ixor, 1) := by decide +kernel
theorem dX12_whiten_45 : decode cX12_whiten 45 = .ok (.i2b, 1) := by decide +kernel
theorem dX12_whiten_46 : decode cX12_whiten 46 = .ok (.bastore, 1) := by decide +kernel
theorem dX12_whiten_47 : decode cX12_whiten 47 = .ok (.iload 6, 2) := by decide +kernel
theorem dX12_whiten_49 : decode cX12_whiten 49 = .ok (.iconst 1, 1) := by decide +kernel
theorem dX12_whiten_50 : decode cX12_whiten 50 = .ok (.if_icmp .ne 13, 3) := by decide +kernel
theorem dX12_whiten_53 : decode cX12_whiten 53 = .ok (.iload 4, 2) := by decide +kernel
theorem dX12_whiten_55 : decode cX12_whiten 55 = .ok (.iconst 1, 1) := by decide +kernel
theorem dX12_whiten_56 : decode cX12_whiten 56 = .ok (.ishr, 1) := by decide +kernel
theorem dX12_whiten_57 : decode cX12_whiten 57 = .ok (.bipush 68, 2) := by decide +kernel
theorem dX12_whiten_59 : decode cX12_whiten 59 = .ok (.ixor, 1) := by decide +kernel
theorem dX12_whiten_60 : decode cX12_whiten 60 = .ok (.goto 7, 3) := by decide +kernel
theorem dX12_whiten_63 : decode cX12_whiten 63 = .ok (.iload 4, 2) := by decide +kernel
theorem dX12_whiten_65 : decode cX12_whiten 65 = .ok (.iconst 1, 1) := by decide +kernel
theorem dX12_whiten_66 : decode cX12_whiten 66 = .ok (.ishr, 1) := by decide +kernel
theorem dX12_whiten_67 : decode cX12_whiten 67 = .ok (.istore 4, 2) := by decide +kernel
theorem dX12_whiten_69 : decode cX12_whiten 69 = .ok (.iinc 5 1, 3) := by decide +kernel
theorem dX12_whiten_72 : decode cX12_whiten 72 = .ok (.goto (-60), 3) := by decide +kernel
theorem dX12_whiten_75 : decode cX12_whiten 75 = .ok (.return_, 1) := by decide +kernel
theorem dX12_crcByte_0 : decode cX12_crcByte 0 = .ok (.iconst 0, 1) := by decide +kernel
theorem dX12_crcByte_1 : decode cX12_crcByte 1 = .ok (.istore_n 2, 1) := by decide +kernel
theorem dX12_crcByte_2 : decode cX12_crcByte 2 = .ok (.iconst 0, 1) := by decide +kernel
theorem dX12_crcByte_3 : decode cX12_crcByte 3 = .ok (.istore_n 3, 1) := by decide +kernel
theorem dX12_crcByte_4 : decode cX12_crcByte 4 = .ok (.iload_n 3, 1) := by decide +kernel
theorem dX12_crcByte_5 : decode cX12_crcByte 5 = .ok (.bipush 8, 2) := by decide +kernel
theorem dX12_crcByte_7 : decode cX12_crcByte 7 = .ok (.if_icmp .ge 27, 3) := by decide +kernel
theorem dX12_crcByte_10 : decode cX12_crcByte 10 = .ok (.iload_n 2, 1) := by decide +kernel
theorem dX12_crcByte_11 : decode cX12_crcByte 11 = .ok (.iload_n 0, 1) := by decide +kernel
theorem dX12_crcByte_12 : decode cX12_crcByte 12 = .ok (.bipush 23, 2) := by decide +kernel
theorem dX12_crcByte_14 : decode cX12_crcByte 14 = .ok (.bipush 8, 2) := by decide +kernel
theorem dX12_crcByte_16 : decode cX12_crcByte 16 = .ok (.iload_n 1, 1) := by decide +kernel
theorem dX12_crcByte_17 : decode cX12_crcByte 17 = .ok (.imul, 1) := by decide +kernel
theorem dX12_crcByte_18 : decode cX12_crcByte 18 = .ok (.isub, 1) := by decide +kernel
theorem dX12_crcByte_19 : decode cX12_crcByte 19 = .ok (.iload_n 3, 1) := by decide +kernel
theorem dX12_crcByte_20 : decode cX12_crcByte 20 = .ok (.isub, 1) := by decide +kernel
theorem dX12_crcByte_21 : decode cX12_crcByte 21 = .ok (.ishr, 1) := by decide +kernel
theorem dX12_crcByte_22 : decode cX12_crcByte 22 = .ok (.iconst 1, 1) := by decide +kernel
theorem dX12_crcByte_23 : decode cX12_crcByte 23 = .ok (.iand, 1) := by decide +kernel
theorem dX12_crcByte_24 : decode cX12_crcByte 24 = .ok (.iload_n 3, 1) := by decide +kernel
theorem dX12_crcByte_25 : decode cX12_crcByte 25 = .ok (.ishl, 1) := by decide +kernel
theorem dX12_crcByte_26 : decode cX12_crcByte 26 = .ok (.ior, 1) := by decide +kernel
theorem dX12_crcByte_27 : decode cX12_crcByte 27 = .ok (.istore_n 2, 1) := by decide +kernel
theorem dX12_crcByte_28 : decode cX12_crcByte 28 = .ok (.iinc 3 1, 3) := by decide +kernel
theorem dX12_crcByte_31 : decode cX12_crcByte 31 = .ok (.goto (-27), 3) := by decide +kernel
theorem dX12_crcByte_34 : decode cX12_crcByte 34 = .ok (.iload_n 2, 1) := by decide +kernel
theorem dX12_crcByte_35 : decode cX12_crcByte 35 = .ok (.ireturn, 1) := by decide +kernel
theorem dX12_sends_0 : decode cX12_sends 0 = .ok (.aload_n 2, 1) := by decide +kernel
theorem dX12_sends_1 : decode cX12_sends 1 = .ok (.iload_n 3, 1) := by decide +kernel
theorem dX12_sends_2 : decode cX12_sends 2 = .ok (.aload_n 0, 1) := by decide +kernel
theorem dX12_sends_3 : decode cX12_sends 3 = .ok (.getfield 176, 3) := by decide +kernel
theorem dX12_sends_6 : decode cX12_sends 6 = .ok (.iconst 0, 1) := by decide +kernel
theorem dX12_sends_7 : decode cX12_sends 7 = .ok (.iconst 4, 1) := by decide +kernel
theorem dX12_sends_8 : decode cX12_sends 8 = .ok (.invokestatic 29, 3) := by decide +kernel
theorem dX12_sends_11 : decode cX12_sends 11 = .ok (.aload_n 0, 1) := by decide +kernel
theorem dX12_sends_12 : decode cX12_sends 12 = .ok (.getfield 176, 3) := by decide +kernel
theorem dX12_sends_15 : decode cX12_sends 15 = .ok (.iconst 4, 1) := by decide +kernel
theorem dX12_sends_16 : decode cX12_sends 16 = .ok (.iload 6, 2) := by decide +kernel
theorem dX12_sends_18 : decode cX12_sends 18 = .ok (.i2b, 1) := by decide +kernel
theorem dX12_sends_19 : decode cX12_sends 19 = .ok (.bastore, 1) := by decide +kernel
theorem dX12_sends_20 : decode cX12_sends 20 = .ok (.aload_n 0, 1) := by decide +kernel
theorem dX12_sends_21 : decode cX12_sends 21 = .ok (.getfield 176, 3) := by decide +kernel
theorem dX12_sends_24 : decode cX12_sends 24 = .ok (.iconst 5, 1) := by decide +kernel
theorem dX12_sends_25 : decode cX12_sends 25 = .ok (.iload 7, 2) := by decide +kernel
theorem dX12_sends_27 : decode cX12_sends 27 = .ok (.i2b, 1) := by decide +kernel
theorem dX12_sends_28 : decode cX12_sends 28 = .ok (.bastore, 1) := by decide +kernel
theorem dX12_sends_29 : decode cX12_sends 29 = .ok (.aload_n 0, 1) := by decide +kernel
theorem dX12_sends_30 : decode cX12_sends 30 = .ok (.getfield 176, 3) := by decide +kernel
theorem dX12_sends_33 : decode cX12_sends 33 = .ok (.iconst 4, 1) := by decide +kernel
theorem dX12_sends_34 : decode cX12_sends 34 = .ok (.bipush 6, 2) := by decide +kernel
theorem dX12_sends_36 : decode cX12_sends 36 = .ok (.iload 7, 2) := by decide +kernel
theorem dX12_sends_38 : decode cX12_sends 38 = .ok (.iadd, 1) := by decide +kernel
theorem dX12_sends_39 : decode cX12_sends 39 = .ok (.iload 4, 2) := by decide +kernel
theorem dX12_sends_41 : decode cX12_sends 41 = .ok (.invokestatic 418, 3) := by decide +kernel
theorem dX12_sends_44 : decode cX12_sends 44 = .ok (.istore 8, 2) := by decide +kernel
theorem dX12_sends_46 : decode cX12_sends 46 = .ok (.iconst 0, 1) := by decide +kernel
theorem dX12_sends_47 : decode cX12_sends 47 = .ok (.istore 9, 2) := by decide +kernel
theorem dX12_sends_49 : decode cX12_sends 49 = .ok (.iload 9, 2) := by decide +kernel
theorem dX12_sends_51 : decode cX12_sends 51 = .ok (.iconst 3, 1) := by decide +kernel
theorem dX12_sends_52 : decode cX12_sends 52 = .ok (.if_icmp .ge 30, 3) := by decide +kernel
theorem dX12_sends_55 : decode cX12_sends 55 = .ok (.aload_n 0, 1) := by decide +kernel
theorem dX12_sends_56 : decode cX12_sends 56 = .ok (.getfield 176, 3) := by decide +kernel
theorem dX12_sends_59 : decode cX12_sends 59 = .ok (.bipush 6, 2) := by decide +kernel
theorem dX12_sends_61 : decode cX12_sends 61 = .ok (.iload 7, 2) := by decide +kernel
theorem dX12_sends_63 : decode cX12_sends 63 = .ok (.iadd, 1) := by decide +kernel
theorem dX12_sends_64 : decode cX12_sends 64 = .ok (.iload 9, 2) := by decide +kernel
theorem dX12_sends_66 : decode cX12_sends 66 = .ok (.iadd, 1) := by decide +kernel
theorem dX12_sends_67 : decode cX12_sends 67 = .ok (.iload 8, 2) := by decide +kernel
theorem dX12_sends_69 : decode cX12_sends 69 = .ok (.iload 9, 2) := by decide +kernel
theorem dX12_sends_71 : decode cX12_sends 71 = .ok (.invokestatic 422, 3) := by decide +kernel
theorem dX12_sends_74 : decode cX12_sends 74 = .ok (.i2b, 1) := by decide +kernel
theorem dX12_sends_75 : decode cX12_sends 75 = .ok (.bastore, 1) := by decide +kernel
theorem dX12_sends_76 : decode cX12_sends 76 = .ok (.iinc 9 1, 3) := by decide +kernel
theorem dX12_sends_79 : decode cX12_sends 79 = .ok (.goto (-30), 3) := by decide +kernel
theorem dX12_sends_82 : decode cX12_sends 82 = .ok (.aload_n 0, 1) := by decide +kernel
theorem dX12_sends_83 : decode cX12_sends 83 = .ok (.getfield 176, 3) := by decide +kernel
theorem dX12_sends_86 : decode cX12_sends 86 = .ok (.iconst 4, 1) := by decide +kernel
theorem dX12_sends_87 : decode cX12_sends 87 = .ok (.bipush 9, 2) := by decide +kernel
theorem dX12_sends_89 : decode cX12_sends 89 = .ok (.iload 7, 2) := by decide +kernel
theorem dX12_sends_91 : decode cX12_sends 91 = .ok (.iadd, 1) := by decide +kernel
theorem dX12_sends_92 : decode cX12_sends 92 = .ok (.iload 5, 2) := by decide +kernel
theorem dX12_sends_94 : decode cX12_sends 94 = .ok (.invokestatic 425, 3) := by decide +kernel
theorem dX12_sends_97 : decode cX12_sends 97 = .ok (.iconst 0, 1) := by decide +kernel
theorem dX12_sends_98 : decode cX12_sends 98 = .ok (.istore 9, 2) := by decide +kernel
theorem dX12_sends_100 : decode cX12_sends 100 = .ok (.iload 9, 2) := by decide +kernel
theorem dX12_sends_102 : decode cX12_sends 102 = .ok (.aload_n 0, 1) := by decide +kernel
theorem dX12_sends_103 : decode cX12_sends 103 = .ok (.getfield 97, 3) := by decide +kernel
theorem dX12_sends_106 : decode cX12_sends 106 = .ok (.iload_n 1, 1) := by decide +kernel
theorem dX12_sends_107 : decode cX12_sends 107 = .ok (.iaload, 1) := by decide +kernel
theorem dX12_sends_108 : decode cX12_sends 108 = .ok (.if_icmp .ge 58, 3) := by decide +kernel
theorem dX12_sends_111 : decode cX12_sends 111 = .ok (.aload_n 0, 1) := by decide +kernel
theorem dX12_sends_112 : decode cX12_sends 112 = .ok (.getfield 100, 3) := by decide +kernel
theorem dX12_sends_115 : decode cX12_sends 115 = .ok (.bipush 64, 2) := by decide +kernel
theorem dX12_sends_117 : decode cX12_sends 117 = .ok (.iload_n 1, 1) := by decide +kernel
theorem dX12_sends_118 : decode cX12_sends 118 = .ok (.imul, 1) := by decide +kernel
theorem dX12_sends_119 : decode cX12_sends 119 = .ok (.iload 9, 2) := by decide +kernel
theorem dX12_sends_121 : decode cX12_sends 121 = .ok (.iadd, 1) := by decide +kernel
theorem dX12_sends_122 : decode cX12_sends 122 = .ok (.iaload, 1) := by decide +kernel
theorem dX12_sends_123 : decode cX12_sends 123 = .ok (.istore 10, 2) := by decide +kernel
theorem dX12_sends_125 : decode cX12_sends 125 = .ok (.iload 10, 2) := by decide +kernel
theorem dX12_sends_127 : decode cX12_sends 127 = .ok (.bipush 8, 2) := by decide +kernel
theorem dX12_sends_129 : decode cX12_sends 129 = .ok (.bipush 9, 2) := by decide +kernel
theorem dX12_sends_131 : decode cX12_sends 131 = .ok (.iload 7, 2) := by decide +kernel
theorem dX12_sends_133 : decode cX12_sends 133 = .ok (.iadd, 1) := by decide +kernel
theorem dX12_sends_134 : decode cX12_sends 134 = .ok (.imul, 1) := by decide +kernel
theorem dX12_sends_135 : decode cX12_sends 135 = .ok (.if_icmp .ge 25, 3) := by decide +kernel
theorem dX12_sends_138 : decode cX12_sends 138 = .ok (.aload_n 0, 1) := by decide +kernel
theorem dX12_sends_139 : decode cX12_sends 139 = .ok (.getfield 176, 3) := by decide +kernel
theorem dX12_sends_142 : decode cX12_sends 142 = .ok (.iload 10, 2) := by decide +kernel
theorem dX12_sends_144 : decode cX12_sends 144 = .ok (.bipush 8, 2) := by decide +kernel
theorem dX12_sends_146 : decode cX12_sends 146 = .ok (.idiv, 1) := by decide +kernel
theorem dX12_sends_147 : decode cX12_sends 147 = .ok (.dup2, 1) := by decide +kernel
theorem dX12_sends_148 : decode cX12_sends 148 = .ok (.baload, 1) := by decide +kernel
theorem dX12_sends_149 : decode cX12_sends 149 = .ok (.iconst 1, 1) := by decide +kernel
theorem dX12_sends_150 : decode cX12_sends 150 = .ok (.iload 10, 2) := by decide +kernel
theorem dX12_sends_152 : decode cX12_sends 152 = .ok (.bipush 8, 2) := by decide +kernel
theorem dX12_sends_154 : decode cX12_sends 154 = .ok (.irem, 1) := by decide +kernel
theorem dX12_sends_155 : decode cX12_sends 155 = .ok (.ishl, 1) := by decide +kernel
theorem dX12_sends_156 : decode cX12_sends 156 = .ok (.i2b, 1) := by decide +kernel
theorem dX12_sends_157 : decode cX12_sends 157 = .ok (.ixor, 1) := by decide +kernel
theorem dX12_sends_158 : decode cX12_sends 158 = .ok (.i2b, 1) := by decide +kernel
theorem dX12_sends_159 : decode cX12_sends 159 = .ok (.bastore, 1) := by decide +kernel
theorem dX12_sends_160 : decode cX12_sends 160 = .ok (.iinc 9 1, 3) := by decide +kernel
theorem dX12_sends_163 : decode cX12_sends 163 = .ok (.goto (-63), 3) := by decide +kernel
theorem dX12_sends_166 : decode cX12_sends 166 = .ok (.aload_n 0, 1) := by decide +kernel
theorem dX12_sends_167 : decode cX12_sends 167 = .ok (.getfield 97, 3) := by decide +kernel
theorem dX12_sends_170 : decode cX12_sends 170 = .ok (.iload_n 1, 1) := by decide +kernel
theorem dX12_sends_171 : decode cX12_sends 171 = .ok (.iconst 0, 1) := by decide +kernel
theorem dX12_sends_172 : decode cX12_sends 172 = .ok (.iastore, 1) := by decide +kernel
theorem dX12_sends_173 : decode cX12_sends 173 = .ok (.aload_n 0, 1) := by decide +kernel
theorem dX12_sends_174 : decode cX12_sends 174 = .ok (.getfield 429, 3) := by decide +kernel
theorem dX12_sends_177 : decode cX12_sends 177 = .ok (.istore 9, 2) := by decide +kernel
theorem dX12_sends_179 : decode cX12_sends 179 = .ok (.aload_n 0, 1) := by decide +kernel
theorem dX12_sends_180 : decode cX12_sends 180 = .ok (.dup, 1) := by decide +kernel
theorem dX12_sends_181 : decode cX12_sends 181 = .ok (.getfield 429, 3) := by decide +kernel
theorem dX12_sends_184 : decode cX12_sends 184 = .ok (.iconst 1, 1) := by decide +kernel
theorem dX12_sends_185 : decode cX12_sends 185 = .ok (.iadd, 1) := by decide +kernel
theorem dX12_sends_186 : decode cX12_sends 186 = .ok (.putfield 429, 3) := by decide +kernel
theorem dX12_sends_189 : decode cX12_sends 189 = .ok (.aload_n 0, 1) := by decide +kernel
theorem dX12_sends_190 : decode cX12_sends 190 = .ok (.getfield 167, 3) := by decide +kernel
theorem dX12_sends_193 : decode cX12_sends 193 = .ok (.iload 9, 2) := by decide +kernel
theorem dX12_sends_195 : decode cX12_sends 195 = .ok (.bipush 9, 2) := by decide +kernel
theorem dX12_sends_197 : decode cX12_sends 197 = .ok (.iload 7, 2) := by decide +kernel
theorem dX12_sends_199 : decode cX12_sends 199 = .ok (.iadd, 1) := by decide +kernel
theorem dX12_sends_200 : decode cX12_sends 200 = .ok (.iastore, 1) := by decide +kernel
theorem dX12_sends_201 : decode cX12_sends 201 = .ok (.aload_n 0, 1) := by decide +kernel
theorem dX12_sends_202 : decode cX12_sends 202 = .ok (.getfield 170, 3) := by decide +kernel
theorem dX12_sends_205 : decode cX12_sends 205 = .ok (.iload 9, 2) := by decide +kernel
theorem dX12_sends_207 : decode cX12_sends 207 = .ok (.iload 5, 2) := by decide +kernel
theorem dX12_sends_209 : decode cX12_sends 209 = .ok (.iastore, 1) := by decide +kernel
theorem dX12_sends_210 : decode cX12_sends 210 = .ok (.aload_n 0, 1) := by decide +kernel
theorem dX12_sends_211 : decode cX12_sends 211 = .ok (.getfield 173, 3) := by decide +kernel
theorem dX12_sends_214 : decode cX12_sends 214 = .ok (.iload 9, 2) := by decide +kernel
theorem dX12_sends_216 : decode cX12_sends 216 = .ok (.aload_n 0, 1) := by decide +kernel
theorem dX12_sends_217 : decode cX12_sends 217 = .ok (.getfield 94, 3) := by decide +kernel
theorem dX12_sends_220 : decode cX12_sends 220 = .ok (.iload_n 1, 1) := by decide +kernel
theorem dX12_sends_221 : decode cX12_sends 221 = .ok (.iaload, 1) := by decide +kernel
theorem dX12_sends_222 : decode cX12_sends 222 = .ok (.ifCond .le 7, 3) := by decide +kernel
theorem dX12_sends_225 : decode cX12_sends 225 = .ok (.iconst 1, 1) := by decide +kernel
theorem dX12_sends_226 : decode cX12_sends 226 = .ok (.goto 4, 3) := by decide +kernel
theorem dX12_sends_229 : decode cX12_sends 229 = .ok (.iconst 0, 1) := by decide +kernel
theorem dX12_sends_230 : decode cX12_sends 230 = .ok (.bastore, 1) := by decide +kernel
theorem dX12_sends_231 : decode cX12_sends 231 = .ok (.aload_n 0, 1) := by decide +kernel
theorem dX12_sends_232 : decode cX12_sends 232 = .ok (.getfield 94, 3) := by decide +kernel
theorem dX12_sends_235 : decode cX12_sends 235 = .ok (.iload_n 1, 1) := by decide +kernel
theorem dX12_sends_236 : decode cX12_sends 236 = .ok (.iaload, 1) := by decide +kernel
theorem dX12_sends_237 : decode cX12_sends 237 = .ok (.ifCond .le 13, 3) := by decide +kernel
theorem dX12_sends_240 : decode cX12_sends 240 = .ok (.aload_n 0, 1) := by decide +kernel
theorem dX12_sends_241 : decode cX12_sends 241 = .ok (.getfield 94, 3) := by decide +kernel
theorem dX12_sends_244 : decode cX12_sends 244 = .ok (.iload_n 1, 1) := by decide +kernel
theorem dX12_sends_245 : decode cX12_sends 245 = .ok (.dup2, 1) := by decide +kernel
theorem dX12_sends_246 : decode cX12_sends 246 = .ok (.iaload, 1) := by decide +kernel
theorem dX12_sends_247 : decode cX12_sends 247 = .ok (.iconst 1, 1) := by decide +kernel
theorem dX12_sends_248 : decode cX12_sends 248 = .ok (.isub, 1) := by decide +kernel
theorem dX12_sends_249 : decode cX12_sends 249 = .ok (.iastore, 1) := by decide +kernel
theorem dX12_sends_250 : decode cX12_sends 250 = .ok (.aload_n 0, 1) := by decide +kernel
theorem dX12_sends_251 : decode cX12_sends 251 = .ok (.getfield 176, 3) := by decide +kernel
theorem dX12_sends_254 : decode cX12_sends 254 = .ok (.iconst 0, 1) := by decide +kernel
theorem dX12_sends_255 : decode cX12_sends 255 = .ok (.aload_n 0, 1) := by decide +kernel
theorem dX12_sends_256 : decode cX12_sends 256 = .ok (.getfield 164, 3) := by decide +kernel
theorem dX12_sends_259 : decode cX12_sends 259 = .ok (.bipush 40, 2) := by decide +kernel
theorem dX12_sends_261 : decode cX12_sends 261 = .ok (.iload 9, 2) := by decide +kernel
theorem dX12_sends_263 : decode cX12_sends 263 = .ok (.imul, 1) := by decide +kernel
theorem dX12_sends_264 : decode cX12_sends 264 = .ok (.bipush 9, 2) := by decide +kernel
theorem dX12_sends_266 : decode cX12_sends 266 = .ok (.iload 7, 2) := by decide +kernel
theorem dX12_sends_268 : decode cX12_sends 268 = .ok (.iadd, 1) := by decide +kernel
theorem dX12_sends_269 : decode cX12_sends 269 = .ok (.invokestatic 29, 3) := by decide +kernel
theorem dX12_sends_272 : decode cX12_sends 272 = .ok (.iload 9, 2) := by decide +kernel
theorem dX12_sends_274 : decode cX12_sends 274 = .ok (.ireturn, 1) := by decide +kernel
theorem dX12_isHeard_0 : decode cX12_isHeard 0 = .ok (.aload_n 0, 1) := by decide +kernel
theorem dX12_isHeard_1 : decode cX12_isHeard 1 = .ok (.getfield 173, 3) := by decide +kernel
theorem dX12_isHeard_4 : decode cX12_isHeard 4 = .ok (.iload_n 1, 1) := by decide +kernel
theorem dX12_isHeard_5 : decode cX12_isHeard 5 = .ok (.baload, 1) := by decide +kernel
theorem dX12_isHeard_6 : decode cX12_isHeard 6 = .ok (.ifCond .ne 18, 3) := by decide +kernel
theorem dX12_isHeard_9 : decode cX12_isHeard 9 = .ok (.aload_n 0, 1) := by decide +kernel
theorem dX12_isHeard_10 : decode cX12_isHeard 10 = .ok (.getfield 170, 3) := by decide +kernel
theorem dX12_isHeard_13 : decode cX12_isHeard 13 = .ok (.iload_n 1, 1) := by decide +kernel
theorem dX12_isHeard_14 : decode cX12_isHeard 14 = .ok (.iaload, 1) := by decide +kernel
theorem dX12_isHeard_15 : decode cX12_isHeard 15 = .ok (.iload 4, 2) := by decide +kernel
theorem dX12_isHeard_17 : decode cX12_isHeard 17 = .ok (.if_icmp .ne 7, 3) := by decide +kernel
theorem dX12_isHeard_20 : decode cX12_isHeard 20 = .ok (.iconst 1, 1) := by decide +kernel
theorem dX12_isHeard_21 : decode cX12_isHeard 21 = .ok (.goto 4, 3) := by decide +kernel
theorem dX12_isHeard_24 : decode cX12_isHeard 24 = .ok (.iconst 0, 1) := by decide +kernel
theorem dX12_isHeard_25 : decode cX12_isHeard 25 = .ok (.istore 5, 2) := by decide +kernel
theorem dX12_isHeard_27 : decode cX12_isHeard 27 = .ok (.iconst 0, 1) := by decide +kernel
theorem dX12_isHeard_28 : decode cX12_isHeard 28 = .ok (.istore 6, 2) := by decide +kernel
theorem dX12_isHeard_30 : decode cX12_isHeard 30 = .ok (.iload 6, 2) := by decide +kernel
theorem dX12_isHeard_32 : decode cX12_isHeard 32 = .ok (.iconst 4, 1) := by decide +kernel
theorem dX12_isHeard_33 : decode cX12_isHeard 33 = .ok (.if_icmp .ge 42, 3) := by decide +kernel
theorem dX12_isHeard_36 : decode cX12_isHeard 36 = .ok (.iload 5, 2) := by decide +kernel
theorem dX12_isHeard_38 : decode cX12_isHeard 38 = .ok (.ifCond .eq 28, 3) := by decide +kernel
theorem dX12_isHeard_41 : decode cX12_isHeard 41 = .ok (.aload_n 0, 1) := by decide +kernel
theorem dX12_isHeard_42 : decode cX12_isHeard 42 = .ok (.getfield 164, 3) := by decide +kernel
theorem dX12_isHeard_45 : decode cX12_isHeard 45 = .ok (.bipush 40, 2) := by decide +kernel
theorem dX12_isHeard_47 : decode cX12_isHeard 47 = .ok (.iload_n 1, 1) := by decide +kernel
theorem dX12_isHeard_48 : decode cX12_isHeard 48 = .ok (.imul, 1) := by decide +kernel
theorem dX12_isHeard_49 : decode cX12_isHeard 49 = .ok (.iload 6, 2) := by decide +kernel
theorem dX12_isHeard_51 : decode cX12_isHeard 51 = .ok (.iadd, 1) := by decide +kernel
theorem dX12_isHeard_52 : decode cX12_isHeard 52 = .ok (.baload, 1) := by decide +kernel
theorem dX12_isHeard_53 : decode cX12_isHeard 53 = .ok (.aload_n 2, 1) := by decide +kernel
theorem dX12_isHeard_54 : decode cX12_isHeard 54 = .ok (.iload_n 3, 1) := by decide +kernel
theorem dX12_isHeard_55 : decode cX12_isHeard 55 = .ok (.iload 6, 2) := by decide +kernel
theorem dX12_isHeard_57 : decode cX12_isHeard 57 = .ok (.iadd, 1) := by decide +kernel
theorem dX12_isHeard_58 : decode cX12_isHeard 58 = .ok (.baload, 1) := by decide +kernel
theorem dX12_isHeard_59 : decode cX12_isHeard 59 = .ok (.if_icmp .ne 7, 3) := by decide +kernel
theorem dX12_isHeard_62 : decode cX12_isHeard 62 = .ok (.iconst 1, 1) := by decide +kernel
theorem dX12_isHeard_63 : decode cX12_isHeard 63 = .ok (.goto 4, 3) := by decide +kernel
theorem dX12_isHeard_66 : decode cX12_isHeard 66 = .ok (.iconst 0, 1) := by decide +kernel
theorem dX12_isHeard_67 : decode cX12_isHeard 67 = .ok (.istore 5, 2) := by decide +kernel
theorem dX12_isHeard_69 : decode cX12_isHeard 69 = .ok (.iinc 6 1, 3) := by decide +kernel
theorem dX12_isHeard_72 : decode cX12_isHeard 72 = .ok (.goto (-42), 3) := by decide +kernel
theorem dX12_isHeard_75 : decode cX12_isHeard 75 = .ok (.iload 5, 2) := by decide +kernel
theorem dX12_isHeard_77 : decode cX12_isHeard 77 = .ok (.ireturn, 1) := by decide +kernel
theorem dX12_isGood_0 : decode cX12_isGood 0 = .ok (.aload_n 0, 1) := by decide +kernel
theorem dX12_isGood_1 : decode cX12_isGood 1 = .ok (.getfield 167, 3) := by decide +kernel
theorem dX12_isGood_4 : decode cX12_isGood 4 = .ok (.iload_n 1, 1) := by decide +kernel
theorem dX12_isGood_5 : decode cX12_isGood 5 = .ok (.iaload, 1) := by decide +kernel
theorem dX12_isGood_6 : decode cX12_isGood 6 = .ok (.istore_n 3, 1) := by decide +kernel
theorem dX12_isGood_7 : decode cX12_isGood 7 = .ok (.aload_n 0, 1) := by decide +kernel
theorem dX12_isGood_8 : decode cX12_isGood 8 = .ok (.getfield 164, 3) := by decide +kernel
theorem dX12_isGood_11 : decode cX12_isGood 11 = .ok (.bipush 40, 2) := by decide +kernel
theorem dX12_isGood_13 : decode cX12_isGood 13 = .ok (.iload_n 1, 1) := by decide +kernel
theorem dX12_isGood_14 : decode cX12_isGood 14 = .ok (.imul, 1) := by decide +kernel
theorem dX12_isGood_15 : decode cX12_isGood 15 = .ok (.aload_n 0, 1) := by decide +kernel
theorem dX12_isGood_16 : decode cX12_isGood 16 = .ok (.getfield 179, 3) := by decide +kernel
theorem dX12_isGood_19 : decode cX12_isGood 19 = .ok (.iconst 0, 1) := by decide +kernel
theorem dX12_isGood_20 : decode cX12_isGood 20 = .ok (.iload_n 3, 1) := by decide +kernel
theorem dX12_isGood_21 : decode cX12_isGood 21 = .ok (.invokestatic 29, 3) := by decide +kernel
theorem dX12_isGood_24 : decode cX12_isGood 24 = .ok (.aload_n 0, 1) := by decide +kernel
theorem dX12_isGood_25 : decode cX12_isGood 25 = .ok (.getfield 179, 3) := by decide +kernel
theorem dX12_isGood_28 : decode cX12_isGood 28 = .ok (.iconst 4, 1) := by decide +kernel
theorem dX12_isGood_29 : decode cX12_isGood 29 = .ok (.iload_n 3, 1) := by decide +kernel
theorem dX12_isGood_30 : decode cX12_isGood 30 = .ok (.aload_n 0, 1) := by decide +kernel
theorem dX12_isGood_31 : decode cX12_isGood 31 = .ok (.getfield 170, 3) := by decide +kernel
theorem dX12_isGood_34 : decode cX12_isGood 34 = .ok (.iload_n 1, 1) := by decide +kernel
theorem dX12_isGood_35 : decode cX12_isGood 35 = .ok (.iaload, 1) := by decide +kernel
theorem dX12_isGood_36 : decode cX12_isGood 36 = .ok (.invokestatic 425, 3) := by decide +kernel
theorem dX12_isGood_39 : decode cX12_isGood 39 = .ok (.aload_n 0, 1) := by decide +kernel
theorem dX12_isGood_40 : decode cX12_isGood 40 = .ok (.getfield 179, 3) := by decide +kernel
theorem dX12_isGood_43 : decode cX12_isGood 43 = .ok (.iconst 5, 1) := by decide +kernel
theorem dX12_isGood_44 : decode cX12_isGood 44 = .ok (.baload, 1) := by decide +kernel
theorem dX12_isGood_45 : decode cX12_isGood 45 = .ok (.sipush 255, 3) := by decide +kernel
theorem dX12_isGood_48 : decode cX12_isGood 48 = .ok (.iand, 1) := by decide +kernel
theorem dX12_isGood_49 : decode cX12_isGood 49 = .ok (.iload_n 3, 1) := by decide +kernel
theorem dX12_isGood_50 : decode cX12_isGood 50 = .ok (.bipush 9, 2) := by decide +kernel
theorem dX12_isGood_52 : decode cX12_isGood 52 = .ok (.isub, 1) := by decide +kernel
theorem dX12_isGood_53 : decode cX12_isGood 53 = .ok (.if_icmp .eq 5, 3) := by decide +kernel
theorem dX12_isGood_56 : decode cX12_isGood 56 = .ok (.iconst 0, 1) := by decide +kernel
theorem dX12_isGood_57 : decode cX12_isGood 57 = .ok (.ireturn, 1) := by decide +kernel
theorem dX12_isGood_58 : decode cX12_isGood 58 = .ok (.aload_n 0, 1) := by decide +kernel
theorem dX12_isGood_59 : decode cX12_isGood 59 = .ok (.getfield 179, 3) := by decide +kernel
theorem dX12_isGood_62 : decode cX12_isGood 62 = .ok (.iconst 4, 1) := by decide +kernel
theorem dX12_isGood_63 : decode cX12_isGood 63 = .ok (.iload_n 3, 1) := by decide +kernel
theorem dX12_isGood_64 : decode cX12_isGood 64 = .ok (.iconst 3, 1) := by decide +kernel
theorem dX12_isGood_65 : decode cX12_isGood 65 = .ok (.isub, 1) := by decide +kernel
theorem dX12_isGood_66 : decode cX12_isGood 66 = .ok (.iload_n 2, 1) := by decide +kernel
theorem dX12_isGood_67 : decode cX12_isGood 67 = .ok (.invokestatic 418, 3) := by decide +kernel
theorem dX12_isGood_70 : decode cX12_isGood 70 = .ok (.istore 4, 2) := by decide +kernel
theorem dX12_isGood_72 : decode cX12_isGood 72 = .ok (.iconst 0, 1) := by decide +kernel
theorem dX12_isGood_73 : decode cX12_isGood 73 = .ok (.istore 5, 2) := by decide +kernel
theorem dX12_isGood_75 : decode cX12_isGood 75 = .ok (.iload 5, 2) := by decide +kernel
theorem dX12_isGood_77 : decode cX12_isGood 77 = .ok (.iconst 3, 1) := by decide +kernel
theorem dX12_isGood_78 : decode cX12_isGood 78 = .ok (.if_icmp .ge 36, 3) := by decide +kernel
theorem dX12_isGood_81 : decode cX12_isGood 81 = .ok (.aload_n 0, 1) := by decide +kernel
theorem dX12_isGood_82 : decode cX12_isGood 82 = .ok (.getfield 179, 3) := by decide +kernel
theorem dX12_isGood_85 : decode cX12_isGood 85 = .ok (.iload_n 3, 1) := by decide +kernel
theorem dX12_isGood_86 : decode cX12_isGood 86 = .ok (.iconst 3, 1) := by decide +kernel
theorem dX12_isGood_87 : decode cX12_isGood 87 = .ok (.isub, 1) := by decide +kernel
theorem dX12_isGood_88 : decode cX12_isGood 88 = .ok (.iload 5, 2) := by decide +kernel
theorem dX12_isGood_90 : decode cX12_isGood 90 = .ok (.iadd, 1) := by decide +kernel
theorem dX12_isGood_91 : decode cX12_isGood 91 = .ok (.baload, 1) := by decide +kernel
theorem dX12_isGood_92 : decode cX12_isGood 92 = .ok (.sipush 255, 3) := by decide +kernel
theorem dX12_isGood_95 : decode cX12_isGood 95 = .ok (.iand, 1) := by decide +kernel
theorem dX12_isGood_96 : decode cX12_isGood 96 = .ok (.iload 4, 2) := by decide +kernel
theorem dX12_isGood_98 : decode cX12_isGood 98 = .ok (.iload 5, 2) := by decide +kernel
theorem dX12_isGood_100 : decode cX12_isGood 100 = .ok (.invokestatic 422, 3) := by decide +kernel
theorem dX12_isGood_103 : decode cX12_isGood 103 = .ok (.if_icmp .eq 5, 3) := by decide +kernel
theorem dX12_isGood_106 : decode cX12_isGood 106 = .ok (.iconst 0, 1) := by decide +kernel
theorem dX12_isGood_107 : decode cX12_isGood 107 = .ok (.ireturn, 1) := by decide +kernel
theorem dX12_isGood_108 : decode cX12_isGood 108 = .ok (.iinc 5 1, 3) := by decide +kernel
theorem dX12_isGood_111 : decode cX12_isGood 111 = .ok (.goto (-36), 3) := by decide +kernel
theorem dX12_isGood_114 : decode cX12_isGood 114 = .ok (.iconst 1, 1) := by decide +kernel
theorem dX12_isGood_115 : decode cX12_isGood 115 = .ok (.ireturn, 1) := by decide +kernel
theorem dX12_reasons_0 : decode cX12_reasons 0 = .ok (.aload_n 0, 1) := by decide +kernel
theorem dX12_reasons_1 : decode cX12_reasons 1 = .ok (.getfield 133, 3) := by decide +kernel
theorem dX12_reasons_4 : decode cX12_reasons 4 = .ok (.iload_n 1, 1) := by decide +kernel
theorem dX12_reasons_5 : decode cX12_reasons 5 = .ok (.aload_n 0, 1) := by decide +kernel
theorem dX12_reasons_6 : decode cX12_reasons 6 = .ok (.getfield 133, 3) := by decide +kernel
theorem dX12_reasons_9 : decode cX12_reasons 9 = .ok (.iload_n 1, 1) := by decide +kernel
theorem dX12_reasons_10 : decode cX12_reasons 10 = .ok (.iaload, 1) := by decide +kernel
theorem dX12_reasons_11 : decode cX12_reasons 11 = .ok (.iconst (-1), 1) := by decide +kernel
theorem dX12_reasons_12 : decode cX12_reasons 12 = .ok (.if_icmp .ne 7, 3) := by decide +kernel
theorem dX12_reasons_15 : decode cX12_reasons 15 = .ok (.iload_n 2, 1) := by decide +kernel
theorem dX12_reasons_16 : decode cX12_reasons 16 = .ok (.goto 9, 3) := by decide +kernel
theorem dX12_reasons_19 : decode cX12_reasons 19 = .ok (.aload_n 0, 1) := by decide +kernel
theorem dX12_reasons_20 : decode cX12_reasons 20 = .ok (.getfield 133, 3) := by decide +kernel
theorem dX12_reasons_23 : decode cX12_reasons 23 = .ok (.iload_n 1, 1) := by decide +kernel
theorem dX12_reasons_24 : decode cX12_reasons 24 = .ok (.iaload, 1) := by decide +kernel
theorem dX12_reasons_25 : decode cX12_reasons 25 = .ok (.iastore, 1) := by decide +kernel
theorem dX12_reasons_26 : decode cX12_reasons 26 = .ok (.return_, 1) := by decide +kernel
theorem dX12_adds_0 : decode cX12_adds 0 = .ok (.bipush 6, 2) := by decide +kernel
theorem dX12_adds_2 : decode cX12_adds 2 = .ok (.iload_n 1, 1) := by decide +kernel
theorem dX12_adds_3 : decode cX12_adds 3 = .ok (.imul, 1) := by decide +kernel
theorem dX12_adds_4 : decode cX12_adds 4 = .ok (.aload_n 0, 1) := by decide +kernel
theorem dX12_adds_5 : decode cX12_adds 5 = .ok (.getfield 191, 3) := by decide +kernel
theorem dX12_adds_8 : decode cX12_adds 8 = .ok (.iload_n 1, 1) := by decide +kernel
theorem dX12_adds_9 : decode cX12_adds 9 = .ok (.iaload, 1) := by decide +kernel
theorem dX12_adds_10 : decode cX12_adds 10 = .ok (.iadd, 1) := by decide +kernel
theorem dX12_adds_11 : decode cX12_adds 11 = .ok (.istore 4, 2) := by decide +kernel
theorem dX12_adds_13 : decode cX12_adds 13 = .ok (.aload_n 2, 1) := by decide +kernel
theorem dX12_adds_14 : decode cX12_adds 14 = .ok (.iconst 0, 1) := by decide +kernel
theorem dX12_adds_15 : decode cX12_adds 15 = .ok (.aload_n 0, 1) := by decide +kernel
theorem dX12_adds_16 : decode cX12_adds 16 = .ok (.getfield 203, 3) := by decide +kernel
theorem dX12_adds_19 : decode cX12_adds 19 = .ok (.bipush 16, 2) := by decide +kernel
theorem dX12_adds_21 : decode cX12_adds 21 = .ok (.iload 4, 2) := by decide +kernel
theorem dX12_adds_23 : decode cX12_adds 23 = .ok (.imul, 1) := by decide +kernel
theorem dX12_adds_24 : decode cX12_adds 24 = .ok (.iload_n 3, 1) := by decide +kernel
theorem dX12_adds_25 : decode cX12_adds 25 = .ok (.invokestatic 29, 3) := by decide +kernel
theorem dX12_adds_28 : decode cX12_adds 28 = .ok (.aload_n 0, 1) := by decide +kernel
theorem dX12_adds_29 : decode cX12_adds 29 = .ok (.getfield 221, 3) := by decide +kernel
theorem dX12_adds_32 : decode cX12_adds 32 = .ok (.iload 4, 2) := by decide +kernel
theorem dX12_adds_34 : decode cX12_adds 34 = .ok (.iload_n 3, 1) := by decide +kernel
theorem dX12_adds_35 : decode cX12_adds 35 = .ok (.iastore, 1) := by decide +kernel
theorem dX12_adds_36 : decode cX12_adds 36 = .ok (.aload_n 0, 1) := by decide +kernel
theorem dX12_adds_37 : decode cX12_adds 37 = .ok (.getfield 191, 3) := by decide +kernel
theorem dX12_adds_40 : decode cX12_adds 40 = .ok (.iload_n 1, 1) := by decide +kernel
theorem dX12_adds_41 : decode cX12_adds 41 = .ok (.dup2, 1) := by decide +kernel
theorem dX12_adds_42 : decode cX12_adds 42 = .ok (.iaload, 1) := by decide +kernel
theorem dX12_adds_43 : decode cX12_adds 43 = .ok (.iconst 1, 1) := by decide +kernel
theorem dX12_adds_44 : decode cX12_adds 44 = .ok (.iadd, 1) := by decide +kernel
theorem dX12_adds_45 : decode cX12_adds 45 = .ok (.iastore, 1) := by decide +kernel
theorem dX12_adds_46 : decode cX12_adds 46 = .ok (.return_, 1) := by decide +kernel
theorem dX12_adds__0 : decode cX12_adds_ 0 = .ok (.aload_n 0, 1) := by decide +kernel
theorem dX12_adds__1 : decode cX12_adds_ 1 = .ok (.getfield 260, 3) := by decide +kernel
theorem dX12_adds__4 : decode cX12_adds_ 4 = .ok (.iconst 0, 1) := by decide +kernel
theorem dX12_adds__5 : decode cX12_adds_ 5 = .ok (.iload_n 2, 1) := by decide +kernel
theorem dX12_adds__6 : decode cX12_adds_ 6 = .ok (.i2b, 1) := by decide +kernel
theorem dX12_adds__7 : decode cX12_adds_ 7 = .ok (.bastore, 1) := by decide +kernel
theorem dX12_adds__8 : decode cX12_adds_ 8 = .ok (.aload_n 0, 1) := by decide +kernel
theorem dX12_adds__9 : decode cX12_adds_ 9 = .ok (.getfield 260, 3) := by decide +kernel
theorem dX12_adds__12 : decode cX12_adds_ 12 = .ok (.iconst 1, 1) := by decide +kernel
theorem dX12_adds__13 : decode cX12_adds_ 13 = .ok (.iload_n 3, 1) := by decide +kernel
theorem dX12_adds__14 : decode cX12_adds_ 14 = .ok (.i2l, 1) := by decide +kernel
theorem dX12_adds__15 : decode cX12_adds_ 15 = .ok (.iload 4, 2) := by decide +kernel
theorem dX12_adds__17 : decode cX12_adds_ 17 = .ok (.invokestatic 432, 3) := by decide +kernel
theorem dX12_adds__20 : decode cX12_adds_ 20 = .ok (.aload_n 0, 1) := by decide +kernel
theorem dX12_adds__21 : decode cX12_adds_ 21 = .ok (.iload_n 1, 1) := by decide +kernel
theorem dX12_adds__22 : decode cX12_adds_ 22 = .ok (.aload_n 0, 1) := by decide +kernel
theorem dX12_adds__23 : decode cX12_adds_ 23 = .ok (.getfield 260, 3) := by decide +kernel
theorem dX12_adds__26 : decode cX12_adds_ 26 = .ok (.iload 4, 2) := by decide +kernel
theorem dX12_adds__28 : decode cX12_adds_ 28 = .ok (.iconst 1, 1) := by decide +kernel
theorem dX12_adds__29 : decode cX12_adds_ 29 = .ok (.iadd, 1) := by decide +kernel
theorem dX12_adds__30 : decode cX12_adds_ 30 = .ok (.invokevirtual 436, 3) := by decide +kernel
theorem dX12_adds__33 : decode cX12_adds_ 33 = .ok (.return_, 1) := by decide +kernel
theorem dX12_nonce_0 : decode cX12_nonce 0 = .ok (.aload_n 0, 1) := by decide +kernel
theorem dX12_nonce_1 : decode cX12_nonce 1 = .ok (.getfield 251, 3) := by decide +kernel
theorem dX12_nonce_4 : decode cX12_nonce 4 = .ok (.iconst 0, 1) := by decide +kernel
theorem dX12_nonce_5 : decode cX12_nonce 5 = .ok (.iload_n 2, 1) := by decide +kernel
theorem dX12_nonce_6 : decode cX12_nonce 6 = .ok (.i2b, 1) := by decide +kernel
theorem dX12_nonce_7 : decode cX12_nonce 7 = .ok (.bastore, 1) := by decide +kernel
theorem dX12_nonce_8 : decode cX12_nonce 8 = .ok (.aload_n 0, 1) := by decide +kernel
theorem dX12_nonce_9 : decode cX12_nonce 9 = .ok (.getfield 251, 3) := by decide +kernel
theorem dX12_nonce_12 : decode cX12_nonce 12 = .ok (.iconst 1, 1) := by decide +kernel
theorem dX12_nonce_13 : decode cX12_nonce 13 = .ok (.lload_n 3, 1) := by decide +kernel
theorem dX12_nonce_14 : decode cX12_nonce 14 = .ok (.iconst 5, 1) := by decide +kernel
theorem dX12_nonce_15 : decode cX12_nonce 15 = .ok (.invokestatic 432, 3) := by decide +kernel
theorem dX12_nonce_18 : decode cX12_nonce 18 = .ok (.aload_n 0, 1) := by decide +kernel
theorem dX12_nonce_19 : decode cX12_nonce 19 = .ok (.getfield 251, 3) := by decide +kernel
theorem dX12_nonce_22 : decode cX12_nonce 22 = .ok (.iconst 5, 1) := by decide +kernel
theorem dX12_nonce_23 : decode cX12_nonce 23 = .ok (.dup2, 1) := by decide +kernel
theorem dX12_nonce_24 : decode cX12_nonce 24 = .ok (.baload, 1) := by decide +kernel
theorem dX12_nonce_25 : decode cX12_nonce 25 = .ok (.iload 5, 2) := by decide +kernel
theorem dX12_nonce_27 : decode cX12_nonce 27 = .ok (.bipush 7, 2) := by decide +kernel
theorem dX12_nonce_29 : decode cX12_nonce 29 = .ok (.ishl, 1) := by decide +kernel
theorem dX12_nonce_30 : decode cX12_nonce 30 = .ok (.i2b, 1) := by decide +kernel
theorem dX12_nonce_31 : decode cX12_nonce 31 = .ok (.ixor, 1) := by decide +kernel
theorem dX12_nonce_32 : decode cX12_nonce 32 = .ok (.i2b, 1) := by decide +kernel
theorem dX12_nonce_33 : decode cX12_nonce 33 = .ok (.bastore, 1) := by decide +kernel
theorem dX12_nonce_34 : decode cX12_nonce 34 = .ok (.aload_n 0, 1) := by decide +kernel
theorem dX12_nonce_35 : decode cX12_nonce 35 = .ok (.getfield 212, 3) := by decide +kernel
theorem dX12_nonce_38 : decode cX12_nonce 38 = .ok (.bipush 8, 2) := by decide +kernel
theorem dX12_nonce_40 : decode cX12_nonce 40 = .ok (.iload_n 1, 1) := by decide +kernel
theorem dX12_nonce_41 : decode cX12_nonce 41 = .ok (.imul, 1) := by decide +kernel
theorem dX12_nonce_42 : decode cX12_nonce 42 = .ok (.aload_n 0, 1) := by decide +kernel
theorem dX12_nonce_43 : decode cX12_nonce 43 = .ok (.getfield 251, 3) := by decide +kernel
theorem dX12_nonce_46 : decode cX12_nonce 46 = .ok (.bipush 6, 2) := by decide +kernel
theorem dX12_nonce_48 : decode cX12_nonce 48 = .ok (.bipush 8, 2) := by decide +kernel
theorem dX12_nonce_50 : decode cX12_nonce 50 = .ok (.invokestatic 29, 3) := by decide +kernel
theorem dX12_nonce_53 : decode cX12_nonce 53 = .ok (.aload_n 0, 1) := by decide +kernel
theorem dX12_nonce_54 : decode cX12_nonce 54 = .ok (.getfield 251, 3) := by decide +kernel
theorem dX12_nonce_57 : decode cX12_nonce 57 = .ok (.bipush 14, 2) := by decide +kernel
theorem dX12_nonce_59 : decode cX12_nonce 59 = .ok (.iconst 0, 1) := by decide +kernel
theorem dX12_nonce_60 : decode cX12_nonce 60 = .ok (.bastore, 1) := by decide +kernel
theorem dX12_nonce_61 : decode cX12_nonce 61 = .ok (.aload_n 0, 1) := by decide +kernel
theorem dX12_nonce_62 : decode cX12_nonce 62 = .ok (.getfield 251, 3) := by decide +kernel
theorem dX12_nonce_65 : decode cX12_nonce 65 = .ok (.bipush 15, 2) := by decide +kernel
theorem dX12_nonce_67 : decode cX12_nonce 67 = .ok (.iload 6, 2) := by decide +kernel
theorem dX12_nonce_69 : decode cX12_nonce 69 = .ok (.i2b, 1) := by decide +kernel
theorem dX12_nonce_70 : decode cX12_nonce 70 = .ok (.bastore, 1) := by decide +kernel
theorem dX12_nonce_71 : decode cX12_nonce 71 = .ok (.return_, 1) := by decide +kernel
theorem dX12_turns_0 : decode cX12_turns 0 = .ok (.iconst 0, 1) := by decide +kernel
theorem dX12_turns_1 : decode cX12_turns 1 = .ok (.istore 8, 2) := by decide +kernel
theorem dX12_turns_3 : decode cX12_turns 3 = .ok (.iload 8, 2) := by decide +kernel
theorem dX12_turns_5 : decode cX12_turns 5 = .ok (.iload 4, 2) := by decide +kernel
theorem dX12_turns_7 : decode cX12_turns 7 = .ok (.if_icmp .ge 76, 3) := by decide +kernel
theorem dX12_turns_10 : decode cX12_turns 10 = .ok (.iload 8, 2) := by decide +kernel
theorem dX12_turns_12 : decode cX12_turns 12 = .ok (.bipush 16, 2) := by decide +kernel
theorem dX12_turns_14 : decode cX12_turns 14 = .ok (.irem, 1) := by decide +kernel
theorem dX12_turns_15 : decode cX12_turns 15 = .ok (.ifCond .ne 42, 3) := by decide +kernel
theorem dX12_turns_18 : decode cX12_turns 18 = .ok (.aload_n 0, 1) := by decide +kernel
theorem dX12_turns_19 : decode cX12_turns 19 = .ok (.iload_n 1, 1) := by decide +kernel
theorem dX12_turns_20 : decode cX12_turns 20 = .ok (.iconst 1, 1) := by decide +kernel
theorem dX12_turns_21 : decode cX12_turns 21 = .ok (.lload 5, 2) := by decide +kernel
theorem dX12_turns_23 : decode cX12_turns 23 = .ok (.iload 7, 2) := by decide +kernel
theorem dX12_turns_25 : decode cX12_turns 25 = .ok (.iconst 1, 1) := by decide +kernel
theorem dX12_turns_26 : decode cX12_turns 26 = .ok (.iload 8, 2) := by decide +kernel
theorem dX12_turns_28 : decode cX12_turns 28 = .ok (.bipush 16, 2) := by decide +kernel
theorem dX12_turns_30 : decode cX12_turns 30 = .ok (.idiv, 1) := by decide +kernel
theorem dX12_turns_31 : decode cX12_turns 31 = .ok (.iadd, 1) := by decide +kernel
theorem dX12_turns_32 : decode cX12_turns 32 = .ok (.invokevirtual 440, 3) := by decide +kernel
theorem dX12_turns_35 : decode cX12_turns 35 = .ok (.aload_n 0, 1) := by decide +kernel
theorem dX12_turns_36 : decode cX12_turns 36 = .ok (.aload_n 0, 1) := by decide +kernel
theorem dX12_turns_37 : decode cX12_turns 37 = .ok (.getfield 209, 3) := by decide +kernel
theorem dX12_turns_40 : decode cX12_turns 40 = .ok (.bipush 16, 2) := by decide +kernel
theorem dX12_turns_42 : decode cX12_turns 42 = .ok (.iload_n 1, 1) := by decide +kernel
theorem dX12_turns_43 : decode cX12_turns 43 = .ok (.imul, 1) := by decide +kernel
theorem dX12_turns_44 : decode cX12_turns 44 = .ok (.aload_n 0, 1) := by decide +kernel
theorem dX12_turns_45 : decode cX12_turns 45 = .ok (.getfield 251, 3) := by decide +kernel
theorem dX12_turns_48 : decode cX12_turns 48 = .ok (.iconst 0, 1) := by decide +kernel
theorem dX12_turns_49 : decode cX12_turns 49 = .ok (.aload_n 0, 1) := by decide +kernel
theorem dX12_turns_50 : decode cX12_turns 50 = .ok (.getfield 257, 3) := by decide +kernel
theorem dX12_turns_53 : decode cX12_turns 53 = .ok (.iconst 0, 1) := by decide +kernel
theorem dX12_turns_54 : decode cX12_turns 54 = .ok (.invokevirtual 444, 3) := by decide +kernel
theorem dX12_turns_57 : decode cX12_turns 57 = .ok (.aload_n 2, 1) := by decide +kernel
theorem dX12_turns_58 : decode cX12_turns 58 = .ok (.iload_n 3, 1) := by decide +kernel
theorem dX12_turns_59 : decode cX12_turns 59 = .ok (.iload 8, 2) := by decide +kernel
theorem dX12_turns_61 : decode cX12_turns 61 = .ok (.iadd, 1) := by decide +kernel
theorem dX12_turns_62 : decode cX12_turns 62 = .ok (.dup2, 1) := by decide +kernel
theorem dX12_turns_63 : decode cX12_turns 63 = .ok (.baload, 1) := by decide +kernel
theorem dX12_turns_64 : decode cX12_turns 64 = .ok (.aload_n 0, 1) := by decide +kernel
theorem dX12_turns_65 : decode cX12_turns 65 = .ok (.getfield 257, 3) := by decide +kernel
theorem dX12_turns_68 : decode cX12_turns 68 = .ok (.iload 8, 2) := by decide +kernel
theorem dX12_turns_70 : decode cX12_turns 70 = .ok (.bipush 16, 2) := by decide +kernel
theorem dX12_turns_72 : decode cX12_turns 72 = .ok (.irem, 1) := by decide +kernel
theorem dX12_turns_73 : decode cX12_turns 73 = .ok (.baload, 1) := by decide +kernel
theorem dX12_turns_74 : decode cX12_turns 74 = .ok (.ixor, 1) := by decide +kernel
theorem dX12_turns_75 : decode cX12_turns 75 = .ok (.i2b, 1) := by decide +kernel
theorem dX12_turns_76 : decode cX12_turns 76 = .ok (.bastore, 1) := by decide +kernel
theorem dX12_turns_77 : decode cX12_turns 77 = .ok (.iinc 8 1, 3) := by decide +kernel
theorem dX12_turns_80 : decode cX12_turns 80 = .ok (.goto (-77), 3) := by decide +kernel
theorem dX12_turns_83 : decode cX12_turns 83 = .ok (.return_, 1) := by decide +kernel
theorem dX12_macs_0 : decode cX12_macs 0 = .ok (.aload_n 0, 1) := by decide +kernel
theorem dX12_macs_1 : decode cX12_macs 1 = .ok (.iload_n 1, 1) := by decide +kernel
theorem dX12_macs_2 : decode cX12_macs 2 = .ok (.bipush 73, 2) := by decide +kernel
theorem dX12_macs_4 : decode cX12_macs 4 = .ok (.lload 5, 2) := by decide +kernel
theorem dX12_macs_6 : decode cX12_macs 6 = .ok (.iload 7, 2) := by decide +kernel
theorem dX12_macs_8 : decode cX12_macs 8 = .ok (.iload 4, 2) := by decide +kernel
theorem dX12_macs_10 : decode cX12_macs 10 = .ok (.invokevirtual 440, 3) := by decide +kernel
theorem dX12_macs_13 : decode cX12_macs 13 = .ok (.aload_n 0, 1) := by decide +kernel
theorem dX12_macs_14 : decode cX12_macs 14 = .ok (.aload_n 0, 1) := by decide +kernel
theorem dX12_macs_15 : decode cX12_macs 15 = .ok (.getfield 209, 3) := by decide +kernel
theorem dX12_macs_18 : decode cX12_macs 18 = .ok (.bipush 16, 2) := by decide +kernel
theorem dX12_macs_20 : decode cX12_macs 20 = .ok (.iload_n 1, 1) := by decide +kernel
theorem dX12_macs_21 : decode cX12_macs 21 = .ok (.imul, 1) := by decide +kernel
theorem dX12_macs_22 : decode cX12_macs 22 = .ok (.aload_n 0, 1) := by decide +kernel
theorem dX12_macs_23 : decode cX12_macs 23 = .ok (.getfield 251, 3) := by decide +kernel
theorem dX12_macs_26 : decode cX12_macs 26 = .ok (.iconst 0, 1) := by decide +kernel
theorem dX12_macs_27 : decode cX12_macs 27 = .ok (.aload_n 0, 1) := by decide +kernel
theorem dX12_macs_28 : decode cX12_macs 28 = .ok (.getfield 254, 3) := by decide +kernel
theorem dX12_macs_31 : decode cX12_macs 31 = .ok (.iconst 0, 1) := by decide +kernel
theorem dX12_macs_32 : decode cX12_macs 32 = .ok (.invokevirtual 444, 3) := by decide +kernel
theorem dX12_macs_35 : decode cX12_macs 35 = .ok (.aload_n 0, 1) := by decide +kernel
theorem dX12_macs_36 : decode cX12_macs 36 = .ok (.getfield 254, 3) := by decide +kernel
theorem dX12_macs_39 : decode cX12_macs 39 = .ok (.iconst 1, 1) := by decide +kernel
theorem dX12_macs_40 : decode cX12_macs 40 = .ok (.dup2, 1) := by decide +kernel
theorem dX12_macs_41 : decode cX12_macs 41 = .ok (.baload, 1) := by decide +kernel
theorem dX12_macs_42 : decode cX12_macs 42 = .ok (.iconst 1, 1) := by decide +kernel
theorem dX12_macs_43 : decode cX12_macs 43 = .ok (.ixor, 1) := by decide +kernel
theorem dX12_macs_44 : decode cX12_macs 44 = .ok (.i2b, 1) := by decide +kernel
theorem dX12_macs_45 : decode cX12_macs 45 = .ok (.bastore, 1) := by decide +kernel
theorem dX12_macs_46 : decode cX12_macs 46 = .ok (.aload_n 0, 1) := by decide +kernel
theorem dX12_macs_47 : decode cX12_macs 47 = .ok (.getfield 254, 3) := by decide +kernel
theorem dX12_macs_50 : decode cX12_macs 50 = .ok (.iconst 2, 1) := by decide +kernel
theorem dX12_macs_51 : decode cX12_macs 51 = .ok (.dup2, 1) := by decide +kernel
theorem dX12_macs_52 : decode cX12_macs 52 = .ok (.baload, 1) := by decide +kernel
theorem dX12_macs_53 : decode cX12_macs 53 = .ok (.iload 8, 2) := by decide +kernel
theorem dX12_macs_55 : decode cX12_macs 55 = .ok (.i2b, 1) := by decide +kernel
theorem dX12_macs_56 : decode cX12_macs 56 = .ok (.ixor, 1) := by decide +kernel
theorem dX12_macs_57 : decode cX12_macs 57 = .ok (.i2b, 1) := by decide +kernel
theorem dX12_macs_58 : decode cX12_macs 58 = .ok (.bastore, 1) := by decide +kernel
theorem dX12_macs_59 : decode cX12_macs 59 = .ok (.aload_n 0, 1) := by decide +kernel
theorem dX12_macs_60 : decode cX12_macs 60 = .ok (.aload_n 0, 1) := by decide +kernel
theorem dX12_macs_61 : decode cX12_macs 61 = .ok (.getfield 209, 3) := by decide +kernel
theorem dX12_macs_64 : decode cX12_macs 64 = .ok (.bipush 16, 2) := by decide +kernel
theorem dX12_macs_66 : decode cX12_macs 66 = .ok (.iload_n 1, 1) := by decide +kernel
theorem dX12_macs_67 : decode cX12_macs 67 = .ok (.imul, 1) := by decide +kernel
theorem dX12_macs_68 : decode cX12_macs 68 = .ok (.aload_n 0, 1) := by decide +kernel
theorem dX12_macs_69 : decode cX12_macs 69 = .ok (.getfield 254, 3) := by decide +kernel
theorem dX12_macs_72 : decode cX12_macs 72 = .ok (.iconst 0, 1) := by decide +kernel
theorem dX12_macs_73 : decode cX12_macs 73 = .ok (.aload_n 0, 1) := by decide +kernel
theorem dX12_macs_74 : decode cX12_macs 74 = .ok (.getfield 254, 3) := by decide +kernel
theorem dX12_macs_77 : decode cX12_macs 77 = .ok (.iconst 0, 1) := by decide +kernel
theorem dX12_macs_78 : decode cX12_macs 78 = .ok (.invokevirtual 444, 3) := by decide +kernel
theorem dX12_macs_81 : decode cX12_macs 81 = .ok (.iconst 0, 1) := by decide +kernel
theorem dX12_macs_82 : decode cX12_macs 82 = .ok (.istore 9, 2) := by decide +kernel
theorem dX12_macs_84 : decode cX12_macs 84 = .ok (.iload 9, 2) := by decide +kernel
theorem dX12_macs_86 : decode cX12_macs 86 = .ok (.iload 4, 2) := by decide +kernel
theorem dX12_macs_88 : decode cX12_macs 88 = .ok (.if_icmp .ge 70, 3) := by decide +kernel
theorem dX12_macs_91 : decode cX12_macs 91 = .ok (.aload_n 0, 1) := by decide +kernel
theorem dX12_macs_92 : decode cX12_macs 92 = .ok (.getfield 254, 3) := by decide +kernel
theorem dX12_macs_95 : decode cX12_macs 95 = .ok (.iload 9, 2) := by decide +kernel
theorem dX12_macs_97 : decode cX12_macs 97 = .ok (.bipush 16, 2) := by decide +kernel
theorem dX12_macs_99 : decode cX12_macs 99 = .ok (.irem, 1) := by decide +kernel
theorem dX12_macs_100 : decode cX12_macs 100 = .ok (.dup2, 1) := by decide +kernel
theorem dX12_macs_101 : decode cX12_macs 101 = .ok (.baload, 1) := by decide +kernel
theorem dX12_macs_102 : decode cX12_macs 102 = .ok (.aload_n 2, 1) := by decide +kernel
theorem dX12_macs_103 : decode cX12_macs 103 = .ok (.iload_n 3, 1) := by decide +kernel
theorem dX12_macs_104 : decode cX12_macs 104 = .ok (.iload 9, 2) := by decide +kernel
theorem dX12_macs_106 : decode cX12_macs 106 = .ok (.iadd, 1) := by decide +kernel
theorem dX12_macs_107 : decode cX12_macs 107 = .ok (.baload, 1) := by decide +kernel
theorem dX12_macs_108 : decode cX12_macs 108 = .ok (.ixor, 1) := by decide +kernel
theorem dX12_macs_109 : decode cX12_macs 109 = .ok (.i2b, 1) := by decide +kernel
theorem dX12_macs_110 : decode cX12_macs 110 = .ok (.bastore, 1) := by decide +kernel
theorem dX12_macs_111 : decode cX12_macs 111 = .ok (.iload 9, 2) := by decide +kernel
theorem dX12_macs_113 : decode cX12_macs 113 = .ok (.bipush 16, 2) := by decide +kernel
theorem dX12_macs_115 : decode cX12_macs 115 = .ok (.irem, 1) := by decide +kernel
theorem dX12_macs_116 : decode cX12_macs 116 = .ok (.bipush 15, 2) := by decide +kernel
theorem dX12_macs_118 : decode cX12_macs 118 = .ok (.if_icmp .eq 12, 3) := by decide +kernel
theorem dX12_macs_121 : decode cX12_macs 121 = .ok (.iload 9, 2) := by decide +kernel
theorem dX12_macs_123 : decode cX12_macs 123 = .ok (.iload 4, 2) := by decide +kernel
theorem dX12_macs_125 : decode cX12_macs 125 = .ok (.iconst 1, 1) := by decide +kernel
theorem dX12_macs_126 : decode cX12_macs 126 = .ok (.isub, 1) := by decide +kernel
theorem dX12_macs_127 : decode cX12_macs 127 = .ok (.if_icmp .ne 25, 3) := by decide +kernel
theorem dX12_macs_130 : decode cX12_macs 130 = .ok (.aload_n 0, 1) := by decide +kernel
theorem dX12_macs_131 : decode cX12_macs 131 = .ok (.aload_n 0, 1) := by decide +kernel
theorem dX12_macs_132 : decode cX12_macs 132 = .ok (.getfield 209, 3) := by decide +kernel
theorem dX12_macs_135 : decode cX12_macs 135 = .ok (.bipush 16, 2) := by decide +kernel
theorem dX12_macs_137 : decode cX12_macs 137 = .ok (.iload_n 1, 1) := by decide +kernel
theorem dX12_macs_138 : decode cX12_macs 138 = .ok (.imul, 1) := by decide +kernel
theorem dX12_macs_139 : decode cX12_macs 139 = .ok (.aload_n 0, 1) := by decide +kernel
theorem dX12_macs_140 : decode cX12_macs 140 = .ok (.getfield 254, 3) := by decide +kernel
theorem dX12_macs_143 : decode cX12_macs 143 = .ok (.iconst 0, 1) := by decide +kernel
theorem dX12_macs_144 : decode cX12_macs 144 = .ok (.aload_n 0, 1) := by decide +kernel
theorem dX12_macs_145 : decode cX12_macs 145 = .ok (.getfield 254, 3) := by decide +kernel
theorem dX12_macs_148 : decode cX12_macs 148 = .ok (.iconst 0, 1) := by decide +kernel
theorem dX12_macs_149 : decode cX12_macs 149 = .ok (.invokevirtual 444, 3) := by decide +kernel
theorem dX12_macs_152 : decode cX12_macs 152 = .ok (.iinc 9 1, 3) := by decide +kernel
theorem dX12_macs_155 : decode cX12_macs 155 = .ok (.goto (-71), 3) := by decide +kernel
theorem dX12_macs_158 : decode cX12_macs 158 = .ok (.aload_n 0, 1) := by decide +kernel
theorem dX12_macs_159 : decode cX12_macs 159 = .ok (.iload_n 1, 1) := by decide +kernel
theorem dX12_macs_160 : decode cX12_macs 160 = .ok (.iconst 1, 1) := by decide +kernel
theorem dX12_macs_161 : decode cX12_macs 161 = .ok (.lload 5, 2) := by decide +kernel
theorem dX12_macs_163 : decode cX12_macs 163 = .ok (.iload 7, 2) := by decide +kernel
theorem dX12_macs_165 : decode cX12_macs 165 = .ok (.iconst 0, 1) := by decide +kernel
theorem dX12_macs_166 : decode cX12_macs 166 = .ok (.invokevirtual 440, 3) := by decide +kernel
theorem dX12_macs_169 : decode cX12_macs 169 = .ok (.aload_n 0, 1) := by decide +kernel
theorem dX12_macs_170 : decode cX12_macs 170 = .ok (.aload_n 0, 1) := by decide +kernel
theorem dX12_macs_171 : decode cX12_macs 171 = .ok (.getfield 209, 3) := by decide +kernel
theorem dX12_macs_174 : decode cX12_macs 174 = .ok (.bipush 16, 2) := by decide +kernel
theorem dX12_macs_176 : decode cX12_macs 176 = .ok (.iload_n 1, 1) := by decide +kernel
theorem dX12_macs_177 : decode cX12_macs 177 = .ok (.imul, 1) := by decide +kernel
theorem dX12_macs_178 : decode cX12_macs 178 = .ok (.aload_n 0, 1) := by decide +kernel
theorem dX12_macs_179 : decode cX12_macs 179 = .ok (.getfield 251, 3) := by decide +kernel
theorem dX12_macs_182 : decode cX12_macs 182 = .ok (.iconst 0, 1) := by decide +kernel
theorem dX12_macs_183 : decode cX12_macs 183 = .ok (.aload_n 0, 1) := by decide +kernel
theorem dX12_macs_184 : decode cX12_macs 184 = .ok (.getfield 257, 3) := by decide +kernel
theorem dX12_macs_187 : decode cX12_macs 187 = .ok (.iconst 0, 1) := by decide +kernel
theorem dX12_macs_188 : decode cX12_macs 188 = .ok (.invokevirtual 444, 3) := by decide +kernel
theorem dX12_macs_191 : decode cX12_macs 191 = .ok (.iconst 0, 1) := by decide +kernel
theorem dX12_macs_192 : decode cX12_macs 192 = .ok (.istore 9, 2) := by decide +kernel
theorem dX12_macs_194 : decode cX12_macs 194 = .ok (.iload 9, 2) := by decide +kernel
theorem dX12_macs_196 : decode cX12_macs 196 = .ok (.iconst 4, 1) := by decide +kernel
theorem dX12_macs_197 : decode cX12_macs 197 = .ok (.if_icmp .ge 27, 3) := by decide +kernel
theorem dX12_macs_200 : decode cX12_macs 200 = .ok (.aload_n 0, 1) := by decide +kernel
theorem dX12_macs_201 : decode cX12_macs 201 = .ok (.getfield 254, 3) := by decide +kernel
theorem dX12_macs_204 : decode cX12_macs 204 = .ok (.iload 9, 2) := by decide +kernel
theorem dX12_macs_206 : decode cX12_macs 206 = .ok (.dup2, 1) := by decide +kernel
theorem dX12_macs_207 : decode cX12_macs 207 = .ok (.baload, 1) := by decide +kernel
theorem dX12_macs_208 : decode cX12_macs 208 = .ok (.aload_n 0, 1) := by decide +kernel
theorem dX12_macs_209 : decode cX12_macs 209 = .ok (.getfield 257, 3) := by decide +kernel
theorem dX12_macs_212 : decode cX12_macs 212 = .ok (.iload 9, 2) := by decide +kernel
theorem dX12_macs_214 : decode cX12_macs 214 = .ok (.baload, 1) := by decide +kernel
theorem dX12_macs_215 : decode cX12_macs 215 = .ok (.ixor, 1) := by decide +kernel
theorem dX12_macs_216 : decode cX12_macs 216 = .ok (.i2b, 1) := by decide +kernel
theorem dX12_macs_217 : decode cX12_macs 217 = .ok (.bastore, 1) := by decide +kernel
theorem dX12_macs_218 : decode cX12_macs 218 = .ok (.iinc 9 1, 3) := by decide +kernel
theorem dX12_macs_221 : decode cX12_macs 221 = .ok (.goto (-27), 3) := by decide +kernel
theorem dX12_macs_224 : decode cX12_macs 224 = .ok (.return_, 1) := by decide +kernel
theorem dX12_takesNext_0 : decode cX12_takesNext 0 = .ok (.iconst 0, 1) := by decide +kernel
theorem dX12_takesNext_1 : decode cX12_takesNext 1 = .ok (.istore_n 2, 1) := by decide +kernel
theorem dX12_takesNext_2 : decode cX12_takesNext 2 = .ok (.aload_n 0, 1) := by decide +kernel
theorem dX12_takesNext_3 : decode cX12_takesNext 3 = .ok (.getfield 191, 3) := by decide +kernel
theorem dX12_takesNext_6 : decode cX12_takesNext 6 = .ok (.iload_n 1, 1) := by decide +kernel
theorem dX12_takesNext_7 : decode cX12_takesNext 7 = .ok (.iaload, 1) := by decide +kernel
theorem dX12_takesNext_8 : decode cX12_takesNext 8 = .ok (.ifCond .le 145, 3) := by decide +kernel
theorem dX12_takesNext_11 : decode cX12_takesNext 11 = .ok (.aload_n 0, 1) := by decide +kernel
theorem dX12_takesNext_12 : decode cX12_takesNext 12 = .ok (.getfield 182, 3) := by decide +kernel
theorem dX12_takesNext_15 : decode cX12_takesNext 15 = .ok (.iload_n 1, 1) := by decide +kernel
theorem dX12_takesNext_16 : decode cX12_takesNext 16 = .ok (.iconst 3, 1) := by decide +kernel
theorem dX12_takesNext_17 : decode cX12_takesNext 17 = .ok (.iastore, 1) := by decide +kernel
theorem dX12_takesNext_18 : decode cX12_takesNext 18 = .ok (.aload_n 0, 1) := by decide +kernel
theorem dX12_takesNext_19 : decode cX12_takesNext 19 = .ok (.getfield 221, 3) := by decide +kernel
theorem dX12_takesNext_22 : decode cX12_takesNext 22 = .ok (.bipush 6, 2) := by decide +kernel
theorem dX12_takesNext_24 : decode cX12_takesNext 24 = .ok (.iload_n 1, 1) := by decide +kernel
theorem dX12_takesNext_25 : decode cX12_takesNext 25 = .ok (.imul, 1) := by decide +kernel
theorem dX12_takesNext_26 : decode cX12_takesNext 26 = .ok (.iaload, 1) := by decide +kernel
theorem dX12_takesNext_27 : decode cX12_takesNext 27 = .ok (.istore_n 2, 1) := by decide +kernel
theorem dX12_takesNext_28 : decode cX12_takesNext 28 = .ok (.aload_n 0, 1) := by decide +kernel
theorem dX12_takesNext_29 : decode cX12_takesNext 29 = .ok (.getfield 203, 3) := by decide +kernel
theorem dX12_takesNext_32 : decode cX12_takesNext 32 = .ok (.bipush 96, 2) := by decide +kernel
theorem dX12_takesNext_34 : decode cX12_takesNext 34 = .ok (.iload_n 1, 1) := by decide +kernel
theorem dX12_takesNext_35 : decode cX12_takesNext 35 = .ok (.imul, 1) := by decide +kernel
theorem dX12_takesNext_36 : decode cX12_takesNext 36 = .ok (.aload_n 0, 1) := by decide +kernel
theorem dX12_takesNext_37 : decode cX12_takesNext 37 = .ok (.getfield 200, 3) := by decide +kernel
theorem dX12_takesNext_40 : decode cX12_takesNext 40 = .ok (.bipush 40, 2) := by decide +kernel
theorem dX12_takesNext_42 : decode cX12_takesNext 42 = .ok (.iload_n 1, 1) := by decide +kernel
theorem dX12_takesNext_43 : decode cX12_takesNext 43 = .ok (.imul, 1) := by decide +kernel
theorem dX12_takesNext_44 : decode cX12_takesNext 44 = .ok (.iload_n 2, 1) := by decide +kernel
theorem dX12_takesNext_45 : decode cX12_takesNext 45 = .ok (.invokestatic 29, 3) := by decide +kernel
theorem dX12_takesNext_48 : decode cX12_takesNext 48 = .ok (.aload_n 0, 1) := by decide +kernel
theorem dX12_takesNext_49 : decode cX12_takesNext 49 = .ok (.getfield 188, 3) := by decide +kernel
theorem dX12_takesNext_52 : decode cX12_takesNext 52 = .ok (.iload_n 1, 1) := by decide +kernel
theorem dX12_takesNext_53 : decode cX12_takesNext 53 = .ok (.aload_n 0, 1) := by decide +kernel
theorem dX12_takesNext_54 : decode cX12_takesNext 54 = .ok (.getfield 200, 3) := by decide +kernel
theorem dX12_takesNext_57 : decode cX12_takesNext 57 = .ok (.bipush 40, 2) := by decide +kernel
theorem dX12_takesNext_59 : decode cX12_takesNext 59 = .ok (.iload_n 1, 1) := by decide +kernel
theorem dX12_takesNext_60 : decode cX12_takesNext 60 = .ok (.imul, 1) := by decide +kernel
theorem dX12_takesNext_61 : decode cX12_takesNext 61 = .ok (.baload, 1) := by decide +kernel
theorem dX12_takesNext_62 : decode cX12_takesNext 62 = .ok (.sipush 255, 3) := by decide +kernel
theorem dX12_takesNext_65 : decode cX12_takesNext 65 = .ok (.iand, 1) := by decide +kernel
theorem dX12_takesNext_66 : decode cX12_takesNext 66 = .ok (.iastore, 1) := by decide +kernel
theorem dX12_takesNext_67 : decode cX12_takesNext 67 = .ok (.aload_n 0, 1) := by decide +kernel
theorem dX12_takesNext_68 : decode cX12_takesNext 68 = .ok (.getfield 191, 3) := by decide +kernel
theorem dX12_takesNext_71 : decode cX12_takesNext 71 = .ok (.iload_n 1, 1) := by decide +kernel
theorem dX12_takesNext_72 : decode cX12_takesNext 72 = .ok (.dup2, 1) := by decide +kernel
theorem dX12_takesNext_73 : decode cX12_takesNext 73 = .ok (.iaload, 1) := by decide +kernel
theorem dX12_takesNext_74 : decode cX12_takesNext 74 = .ok (.iconst 1, 1) := by decide +kernel
theorem dX12_takesNext_75 : decode cX12_takesNext 75 = .ok (.isub, 1) := by decide +kernel
theorem dX12_takesNext_76 : decode cX12_takesNext 76 = .ok (.iastore, 1) := by decide +kernel
theorem dX12_takesNext_77 : decode cX12_takesNext 77 = .ok (.iconst 0, 1) := by decide +kernel
theorem dX12_takesNext_78 : decode cX12_takesNext 78 = .ok (.istore_n 3, 1) := by decide +kernel
theorem dX12_takesNext_79 : decode cX12_takesNext 79 = .ok (.iload_n 3, 1) := by decide +kernel
theorem dX12_takesNext_80 : decode cX12_takesNext 80 = .ok (.aload_n 0, 1) := by decide +kernel
theorem dX12_takesNext_81 : decode cX12_takesNext 81 = .ok (.getfield 191, 3) := by decide +kernel
theorem dX12_takesNext_84 : decode cX12_takesNext 84 = .ok (.iload_n 1, 1) := by decide +kernel
theorem dX12_takesNext_85 : decode cX12_takesNext 85 = .ok (.iaload, 1) := by decide +kernel
theorem dX12_takesNext_86 : decode cX12_takesNext 86 = .ok (.if_icmp .ge 33, 3) := by decide +kernel
theorem dX12_takesNext_89 : decode cX12_takesNext 89 = .ok (.aload_n 0, 1) := by decide +kernel
theorem dX12_takesNext_90 : decode cX12_takesNext 90 = .ok (.getfield 221, 3) := by decide +kernel
theorem dX12_takesNext_93 : decode cX12_takesNext 93 = .ok (.bipush 6, 2) := by decide +kernel
theorem dX12_takesNext_95 : decode cX12_takesNext 95 = .ok (.iload_n 1, 1) := by decide +kernel
theorem dX12_takesNext_96 : decode cX12_takesNext 96 = .ok (.imul, 1) := by decide +kernel
theorem dX12_takesNext_97 : decode cX12_takesNext 97 = .ok (.iload_n 3, 1) := by decide +kernel
theorem dX12_takesNext_98 : decode cX12_takesNext 98 = .ok (.iadd, 1) := by decide +kernel
theorem dX12_takesNext_99 : decode cX12_takesNext 99 = .ok (.aload_n 0, 1) := by decide +kernel
theorem dX12_takesNext_100 : decode cX12_takesNext 100 = .ok (.getfield 221, 3) := by decide +kernel
theorem dX12_takesNext_103 : decode cX12_takesNext 103 = .ok (.bipush 6, 2) := by decide +kernel
theorem dX12_takesNext_105 : decode cX12_takesNext 105 = .ok (.iload_n 1, 1) := by decide +kernel
theorem dX12_takesNext_106 : decode cX12_takesNext 106 = .ok (.imul, 1) := by decide +kernel
theorem dX12_takesNext_107 : decode cX12_takesNext 107 = .ok (.iload_n 3, 1) := by decide +kernel
theorem dX12_takesNext_108 : decode cX12_takesNext 108 = .ok (.iadd, 1) := by decide +kernel
theorem dX12_takesNext_109 : decode cX12_takesNext 109 = .ok (.iconst 1, 1) := by decide +kernel
theorem dX12_takesNext_110 : decode cX12_takesNext 110 = .ok (.iadd, 1) := by decide +kernel
theorem dX12_takesNext_111 : decode cX12_takesNext 111 = .ok (.iaload, 1) := by decide +kernel
theorem dX12_takesNext_112 : decode cX12_takesNext 112 = .ok (.iastore, 1) := by decide +kernel
theorem dX12_takesNext_113 : decode cX12_takesNext 113 = .ok (.iinc 3 1, 3) := by decide +kernel
theorem dX12_takesNext_116 : decode cX12_takesNext 116 = .ok (.goto (-37), 3) := by decide +kernel
theorem dX12_takesNext_119 : decode cX12_takesNext 119 = .ok (.aload_n 0, 1) := by decide +kernel
theorem dX12_takesNext_120 : decode cX12_takesNext 120 = .ok (.getfield 203, 3) := by decide +kernel
theorem dX12_takesNext_123 : decode cX12_takesNext 123 = .ok (.bipush 96, 2) := by decide +kernel
theorem dX12_takesNext_125 : decode cX12_takesNext 125 = .ok (.iload_n 1, 1) := by decide +kernel
theorem dX12_takesNext_126 : decode cX12_takesNext 126 = .ok (.imul, 1) := by decide +kernel
theorem dX12_takesNext_127 : decode cX12_takesNext 127 = .ok (.bipush 16, 2) := by decide +kernel
theorem dX12_takesNext_129 : decode cX12_takesNext 129 = .ok (.iadd, 1) := by decide +kernel
theorem dX12_takesNext_130 : decode cX12_takesNext 130 = .ok (.aload_n 0, 1) := by decide +kernel
theorem dX12_takesNext_131 : decode cX12_takesNext 131 = .ok (.getfield 203, 3) := by decide +kernel
theorem dX12_takesNext_134 : decode cX12_takesNext 134 = .ok (.bipush 96, 2) := by decide +kernel
theorem dX12_takesNext_136 : decode cX12_takesNext 136 = .ok (.iload_n 1, 1) := by decide +kernel
theorem dX12_takesNext_137 : decode cX12_takesNext 137 = .ok (.imul, 1) := by decide +kernel
theorem dX12_takesNext_138 : decode cX12_takesNext 138 = .ok (.bipush 16, 2) := by decide +kernel
theorem dX12_takesNext_140 : decode cX12_takesNext 140 = .ok (.aload_n 0, 1) := by decide +kernel
theorem dX12_takesNext_141 : decode cX12_takesNext 141 = .ok (.getfield 191, 3) := by decide +kernel
theorem dX12_takesNext_144 : decode cX12_takesNext 144 = .ok (.iload_n 1, 1) := by decide +kernel
theorem dX12_takesNext_145 : decode cX12_takesNext 145 = .ok (.iaload, 1) := by decide +kernel
theorem dX12_takesNext_146 : decode cX12_takesNext 146 = .ok (.imul, 1) := by decide +kernel
theorem dX12_takesNext_147 : decode cX12_takesNext 147 = .ok (.invokestatic 29, 3) := by decide +kernel
theorem dX12_takesNext_150 : decode cX12_takesNext 150 = .ok (.goto 146, 3) := by decide +kernel
theorem dX12_takesNext_153 : decode cX12_takesNext 153 = .ok (.aload_n 0, 1) := by decide +kernel
theorem dX12_takesNext_154 : decode cX12_takesNext 154 = .ok (.getfield 224, 3) := by decide +kernel
theorem dX12_takesNext_157 : decode cX12_takesNext 157 = .ok (.iload_n 1, 1) := by decide +kernel
theorem dX12_takesNext_158 : decode cX12_takesNext 158 = .ok (.baload, 1) := by decide +kernel
theorem dX12_takesNext_159 : decode cX12_takesNext 159 = .ok (.ifCond .ne 123, 3) := by decide +kernel
theorem dX12_takesNext_162 : decode cX12_takesNext 162 = .ok (.aload_n 0, 1) := by decide +kernel
theorem dX12_takesNext_163 : decode cX12_takesNext 163 = .ok (.getfield 275, 3) := by decide +kernel
theorem dX12_takesNext_166 : decode cX12_takesNext 166 = .ok (.iload_n 1, 1) := by decide +kernel
theorem dX12_takesNext_167 : decode cX12_takesNext 167 = .ok (.iaload, 1) := by decide +kernel
theorem dX12_takesNext_168 : decode cX12_takesNext 168 = .ok (.ifCond .le 114, 3) := by decide +kernel
theorem dX12_takesNext_171 : decode cX12_takesNext 171 = .ok (.bipush 8, 2) := by decide +kernel
theorem dX12_takesNext_173 : decode cX12_takesNext 173 = .ok (.iload_n 1, 1) := by decide +kernel
theorem dX12_takesNext_174 : decode cX12_takesNext 174 = .ok (.imul, 1) := by decide +kernel
theorem dX12_takesNext_175 : decode cX12_takesNext 175 = .ok (.istore_n 3, 1) := by decide +kernel
theorem dX12_takesNext_176 : decode cX12_takesNext 176 = .ok (.bipush 27, 2) := by decide +kernel
theorem dX12_takesNext_178 : decode cX12_takesNext 178 = .ok (.aload_n 0, 1) := by decide +kernel
theorem dX12_takesNext_179 : decode cX12_takesNext 179 = .ok (.getfield 272, 3) := by decide +kernel
theorem dX12_takesNext_182 : decode cX12_takesNext 182 = .ok (.iload_n 3, 1) := by decide +kernel
theorem dX12_takesNext_183 : decode cX12_takesNext 183 = .ok (.iaload, 1) := by decide +kernel
theorem dX12_takesNext_184 : decode cX12_takesNext 184 = .ok (.aload_n 0, 1) := by decide +kernel
theorem dX12_takesNext_185 : decode cX12_takesNext 185 = .ok (.getfield 278, 3) := by decide +kernel
theorem dX12_takesNext_188 : decode cX12_takesNext 188 = .ok (.iload_n 1, 1) := by decide +kernel
theorem dX12_takesNext_189 : decode cX12_takesNext 189 = .ok (.iaload, 1) := by decide +kernel
theorem dX12_takesNext_190 : decode cX12_takesNext 190 = .ok (.isub, 1) := by decide +kernel
theorem dX12_takesNext_191 : decode cX12_takesNext 191 = .ok (.invokestatic 404, 3) := by decide +kernel
theorem dX12_takesNext_194 : decode cX12_takesNext 194 = .ok (.istore_n 2, 1) := by decide +kernel
theorem dX12_takesNext_195 : decode cX12_takesNext 195 = .ok (.aload_n 0, 1) := by decide +kernel
theorem dX12_takesNext_196 : decode cX12_takesNext 196 = .ok (.getfield 182, 3) := by decide +kernel
theorem dX12_takesNext_199 : decode cX12_takesNext 199 = .ok (.iload_n 1, 1) := by decide +kernel
theorem dX12_takesNext_200 : decode cX12_takesNext 200 = .ok (.aload_n 0, 1) := by decide +kernel
theorem dX12_takesNext_201 : decode cX12_takesNext 201 = .ok (.getfield 278, 3) := by decide +kernel
theorem dX12_takesNext_204 : decode cX12_takesNext 204 = .ok (.iload_n 1, 1) := by decide +kernel
theorem dX12_takesNext_205 : decode cX12_takesNext 205 = .ok (.iaload, 1) := by decide +kernel
theorem dX12_takesNext_206 : decode cX12_takesNext 206 = .ok (.ifCond .ne 7, 3) := by decide +kernel
theorem dX12_takesNext_209 : decode cX12_takesNext 209 = .ok (.iconst 2, 1) := by decide +kernel
theorem dX12_takesNext_210 : decode cX12_takesNext 210 = .ok (.goto 4, 3) := by decide +kernel
theorem dX12_takesNext_213 : decode cX12_takesNext 213 = .ok (.iconst 1, 1) := by decide +kernel
theorem dX12_takesNext_214 : decode cX12_takesNext 214 = .ok (.iastore, 1) := by decide +kernel
theorem dX12_takesNext_215 : decode cX12_takesNext 215 = .ok (.aload_n 0, 1) := by decide +kernel
theorem dX12_takesNext_216 : decode cX12_takesNext 216 = .ok (.getfield 188, 3) := by decide +kernel
theorem dX12_takesNext_219 : decode cX12_takesNext 219 = .ok (.iload_n 1, 1) := by decide +kernel
theorem dX12_takesNext_220 : decode cX12_takesNext 220 = .ok (.iconst 0, 1) := by decide +kernel
theorem dX12_takesNext_221 : decode cX12_takesNext 221 = .ok (.iastore, 1) := by decide +kernel
theorem dX12_takesNext_222 : decode cX12_takesNext 222 = .ok (.aload_n 0, 1) := by decide +kernel
theorem dX12_takesNext_223 : decode cX12_takesNext 223 = .ok (.getfield 266, 3) := by decide +kernel
theorem dX12_takesNext_226 : decode cX12_takesNext 226 = .ok (.bipush 96, 2) := by decide +kernel
theorem dX12_takesNext_228 : decode cX12_takesNext 228 = .ok (.iload_n 3, 1) := by decide +kernel
theorem dX12_takesNext_229 : decode cX12_takesNext 229 = .ok (.imul, 1) := by decide +kernel
theorem dX12_takesNext_230 : decode cX12_takesNext 230 = .ok (.aload_n 0, 1) := by decide +kernel
theorem dX12_takesNext_231 : decode cX12_takesNext 231 = .ok (.getfield 278, 3) := by decide +kernel
theorem dX12_takesNext_234 : decode cX12_takesNext 234 = .ok (.iload_n 1, 1) := by decide +kernel
theorem dX12_takesNext_235 : decode cX12_takesNext 235 = .ok (.iaload, 1) := by decide +kernel
theorem dX12_takesNext_236 : decode cX12_takesNext 236 = .ok (.iadd, 1) := by decide +kernel
theorem dX12_takesNext_237 : decode cX12_takesNext 237 = .ok (.aload_n 0, 1) := by decide +kernel
theorem dX12_takesNext_238 : decode cX12_takesNext 238 = .ok (.getfield 200, 3) := by decide +kernel
theorem dX12_takesNext_241 : decode cX12_takesNext 241 = .ok (.bipush 40, 2) := by decide +kernel
theorem dX12_takesNext_243 : decode cX12_takesNext 243 = .ok (.iload_n 1, 1) := by decide +kernel
theorem dX12_takesNext_244 : decode cX12_takesNext 244 = .ok (.imul, 1) := by decide +kernel
theorem dX12_takesNext_245 : decode cX12_takesNext 245 = .ok (.iload_n 2, 1) := by decide +kernel
theorem dX12_takesNext_246 : decode cX12_takesNext 246 = .ok (.invokestatic 29, 3) := by decide +kernel
theorem dX12_takesNext_249 : decode cX12_takesNext 249 = .ok (.aload_n 0, 1) := by decide +kernel
theorem dX12_takesNext_250 : decode cX12_takesNext 250 = .ok (.getfield 278, 3) := by decide +kernel
theorem dX12_takesNext_253 : decode cX12_takesNext 253 = .ok (.iload_n 1, 1) := by decide +kernel
theorem dX12_takesNext_254 : decode cX12_takesNext 254 = .ok (.dup2, 1) := by decide +kernel
theorem dX12_takesNext_255 : decode cX12_takesNext 255 = .ok (.iaload, 1) := by decide +kernel
theorem dX12_takesNext_256 : decode cX12_takesNext 256 = .ok (.iload_n 2, 1) := by decide +kernel
theorem dX12_takesNext_257 : decode cX12_takesNext 257 = .ok (.iadd, 1) := by decide +kernel
theorem dX12_takesNext_258 : decode cX12_takesNext 258 = .ok (.iastore, 1) := by decide +kernel
theorem dX12_takesNext_259 : decode cX12_takesNext 259 = .ok (.aload_n 0, 1) := by decide +kernel
theorem dX12_takesNext_260 : decode cX12_takesNext 260 = .ok (.getfield 278, 3) := by decide +kernel
theorem dX12_takesNext_263 : decode cX12_takesNext 263 = .ok (.iload_n 1, 1) := by decide +kernel
theorem dX12_takesNext_264 : decode cX12_takesNext 264 = .ok (.iaload, 1) := by decide +kernel
theorem dX12_takesNext_265 : decode cX12_takesNext 265 = .ok (.aload_n 0, 1) := by decide +kernel
theorem dX12_takesNext_266 : decode cX12_takesNext 266 = .ok (.getfield 272, 3) := by decide +kernel
theorem dX12_takesNext_269 : decode cX12_takesNext 269 = .ok (.iload_n 3, 1) := by decide +kernel
theorem dX12_takesNext_270 : decode cX12_takesNext 270 = .ok (.iaload, 1) := by decide +kernel
theorem dX12_takesNext_271 : decode cX12_takesNext 271 = .ok (.if_icmp .ne 8, 3) := by decide +kernel
theorem dX12_takesNext_274 : decode cX12_takesNext 274 = .ok (.aload_n 0, 1) := by decide +kernel
theorem dX12_takesNext_275 : decode cX12_takesNext 275 = .ok (.iload_n 1, 1) := by decide +kernel
theorem dX12_takesNext_276 : decode cX12_takesNext 276 = .ok (.invokevirtual 448, 3) := by decide +kernel
theorem dX12_takesNext_279 : decode cX12_takesNext 279 = .ok (.goto 17, 3) := by decide +kernel
theorem dX12_takesNext_282 : decode cX12_takesNext 282 = .ok (.aload_n 0, 1) := by decide +kernel
theorem dX12_takesNext_283 : decode cX12_takesNext 283 = .ok (.getfield 182, 3) := by decide +kernel
theorem dX12_takesNext_286 : decode cX12_takesNext 286 = .ok (.iload_n 1, 1) := by decide +kernel
theorem dX12_takesNext_287 : decode cX12_takesNext 287 = .ok (.iconst 1, 1) := by decide +kernel
theorem dX12_takesNext_288 : decode cX12_takesNext 288 = .ok (.iastore, 1) := by decide +kernel
theorem dX12_takesNext_289 : decode cX12_takesNext 289 = .ok (.aload_n 0, 1) := by decide +kernel
theorem dX12_takesNext_290 : decode cX12_takesNext 290 = .ok (.getfield 188, 3) := by decide +kernel
theorem dX12_takesNext_293 : decode cX12_takesNext 293 = .ok (.iload_n 1, 1) := by decide +kernel
theorem dX12_takesNext_294 : decode cX12_takesNext 294 = .ok (.iconst 0, 1) := by decide +kernel
theorem dX12_takesNext_295 : decode cX12_takesNext 295 = .ok (.iastore, 1) := by decide +kernel
theorem dX12_takesNext_296 : decode cX12_takesNext 296 = .ok (.aload_n 0, 1) := by decide +kernel
theorem dX12_takesNext_297 : decode cX12_takesNext 297 = .ok (.getfield 185, 3) := by decide +kernel
theorem dX12_takesNext_300 : decode cX12_takesNext 300 = .ok (.iload_n 1, 1) := by decide +kernel
theorem dX12_takesNext_301 : decode cX12_takesNext 301 = .ok (.iload_n 2, 1) := by decide +kernel
theorem dX12_takesNext_302 : decode cX12_takesNext 302 = .ok (.iastore, 1) := by decide +kernel
theorem dX12_takesNext_303 : decode cX12_takesNext 303 = .ok (.iload_n 2, 1) := by decide +kernel
theorem dX12_takesNext_304 : decode cX12_takesNext 304 = .ok (.ifCond .eq 12, 3) := by decide +kernel
theorem dX12_takesNext_307 : decode cX12_takesNext 307 = .ok (.aload_n 0, 1) := by decide +kernel
theorem dX12_takesNext_308 : decode cX12_takesNext 308 = .ok (.getfield 233, 3) := by decide +kernel
theorem dX12_takesNext_311 : decode cX12_takesNext 311 = .ok (.iload_n 1, 1) := by decide +kernel
theorem dX12_takesNext_312 : decode cX12_takesNext 312 = .ok (.baload, 1) := by decide +kernel
theorem dX12_takesNext_313 : decode cX12_takesNext 313 = .ok (.ifCond .ne 4, 3) := by decide +kernel
theorem dX12_takesNext_316 : decode cX12_takesNext 316 = .ok (.return_, 1) := by decide +kernel
theorem dX12_takesNext_317 : decode cX12_takesNext 317 = .ok (.aload_n 0, 1) := by decide +kernel
theorem dX12_takesNext_318 : decode cX12_takesNext 318 = .ok (.getfield 45, 3) := by decide +kernel
theorem dX12_takesNext_321 : decode cX12_takesNext 321 = .ok (.iload_n 1, 1) := by decide +kernel
theorem dX12_takesNext_322 : decode cX12_takesNext 322 = .ok (.iaload, 1) := by decide +kernel
theorem dX12_takesNext_323 : decode cX12_takesNext 323 = .ok (.iconst 4, 1) := by decide +kernel
theorem dX12_takesNext_324 : decode cX12_takesNext 324 = .ok (.if_icmp .ne 7, 3) := by decide +kernel
theorem dX12_takesNext_327 : decode cX12_takesNext 327 = .ok (.iconst 1, 1) := by decide +kernel
theorem dX12_takesNext_328 : decode cX12_takesNext 328 = .ok (.goto 4, 3) := by decide +kernel
theorem dX12_takesNext_331 : decode cX12_takesNext 331 = .ok (.iconst 0, 1) := by decide +kernel
theorem dX12_takesNext_332 : decode cX12_takesNext 332 = .ok (.istore_n 3, 1) := by decide +kernel
theorem dX12_takesNext_333 : decode cX12_takesNext 333 = .ok (.aload_n 0, 1) := by decide +kernel
theorem dX12_takesNext_334 : decode cX12_takesNext 334 = .ok (.iload_n 1, 1) := by decide +kernel
theorem dX12_takesNext_335 : decode cX12_takesNext 335 = .ok (.aload_n 0, 1) := by decide +kernel
theorem dX12_takesNext_336 : decode cX12_takesNext 336 = .ok (.getfield 200, 3) := by decide +kernel
theorem dX12_takesNext_339 : decode cX12_takesNext 339 = .ok (.bipush 40, 2) := by decide +kernel
theorem dX12_takesNext_341 : decode cX12_takesNext 341 = .ok (.iload_n 1, 1) := by decide +kernel
theorem dX12_takesNext_342 : decode cX12_takesNext 342 = .ok (.imul, 1) := by decide +kernel
theorem dX12_takesNext_343 : decode cX12_takesNext 343 = .ok (.iload_n 2, 1) := by decide +kernel
theorem dX12_takesNext_344 : decode cX12_takesNext 344 = .ok (.aload_n 0, 1) := by decide +kernel
theorem dX12_takesNext_345 : decode cX12_takesNext 345 = .ok (.getfield 194, 3) := by decide +kernel
theorem dX12_takesNext_348 : decode cX12_takesNext 348 = .ok (.iload_n 1, 1) := by decide +kernel
theorem dX12_takesNext_349 : decode cX12_takesNext 349 = .ok (.iaload, 1) := by decide +kernel
theorem dX12_takesNext_350 : decode cX12_takesNext 350 = .ok (.i2l, 1) := by decide +kernel
theorem dX12_takesNext_351 : decode cX12_takesNext 351 = .ok (.iload_n 3, 1) := by decide +kernel
theorem dX12_takesNext_352 : decode cX12_takesNext 352 = .ok (.aload_n 0, 1) := by decide +kernel
theorem dX12_takesNext_353 : decode cX12_takesNext 353 = .ok (.getfield 182, 3) := by decide +kernel
theorem dX12_takesNext_356 : decode cX12_takesNext 356 = .ok (.iload_n 1, 1) := by decide +kernel
theorem dX12_takesNext_357 : decode cX12_takesNext 357 = .ok (.iaload, 1) := by decide +kernel
theorem dX12_takesNext_358 : decode cX12_takesNext 358 = .ok (.invokevirtual 451, 3) := by decide +kernel
theorem dX12_takesNext_361 : decode cX12_takesNext 361 = .ok (.aload_n 0, 1) := by decide +kernel
theorem dX12_takesNext_362 : decode cX12_takesNext 362 = .ok (.iload_n 1, 1) := by decide +kernel
theorem dX12_takesNext_363 : decode cX12_takesNext 363 = .ok (.aload_n 0, 1) := by decide +kernel
theorem dX12_takesNext_364 : decode cX12_takesNext 364 = .ok (.getfield 200, 3) := by decide +kernel
theorem dX12_takesNext_367 : decode cX12_takesNext 367 = .ok (.bipush 40, 2) := by decide +kernel
theorem dX12_takesNext_369 : decode cX12_takesNext 369 = .ok (.iload_n 1, 1) := by decide +kernel
theorem dX12_takesNext_370 : decode cX12_takesNext 370 = .ok (.imul, 1) := by decide +kernel
theorem dX12_takesNext_371 : decode cX12_takesNext 371 = .ok (.iload_n 2, 1) := by decide +kernel
theorem dX12_takesNext_372 : decode cX12_takesNext 372 = .ok (.aload_n 0, 1) := by decide +kernel
theorem dX12_takesNext_373 : decode cX12_takesNext 373 = .ok (.getfield 194, 3) := by decide +kernel
theorem dX12_takesNext_376 : decode cX12_takesNext 376 = .ok (.iload_n 1, 1) := by decide +kernel
theorem dX12_takesNext_377 : decode cX12_takesNext 377 = .ok (.iaload, 1) := by decide +kernel
theorem dX12_takesNext_378 : decode cX12_takesNext 378 = .ok (.i2l, 1) := by decide +kernel
theorem dX12_takesNext_379 : decode cX12_takesNext 379 = .ok (.iload_n 3, 1) := by decide +kernel
theorem dX12_takesNext_380 : decode cX12_takesNext 380 = .ok (.invokevirtual 455, 3) := by decide +kernel
theorem dX12_takesNext_383 : decode cX12_takesNext 383 = .ok (.aload_n 0, 1) := by decide +kernel
theorem dX12_takesNext_384 : decode cX12_takesNext 384 = .ok (.getfield 254, 3) := by decide +kernel
theorem dX12_takesNext_387 : decode cX12_takesNext 387 = .ok (.iconst 0, 1) := by decide +kernel
theorem dX12_takesNext_388 : decode cX12_takesNext 388 = .ok (.aload_n 0, 1) := by decide +kernel
theorem dX12_takesNext_389 : decode cX12_takesNext 389 = .ok (.getfield 200, 3) := by decide +kernel
theorem dX12_takesNext_392 : decode cX12_takesNext 392 = .ok (.bipush 40, 2) := by decide +kernel
theorem dX12_takesNext_394 : decode cX12_takesNext 394 = .ok (.iload_n 1, 1) := by decide +kernel
theorem dX12_takesNext_395 : decode cX12_takesNext 395 = .ok (.imul, 1) := by decide +kernel
theorem dX12_takesNext_396 : decode cX12_takesNext 396 = .ok (.iload_n 2, 1) := by decide +kernel
theorem dX12_takesNext_397 : decode cX12_takesNext 397 = .ok (.iadd, 1) := by decide +kernel
theorem dX12_takesNext_398 : decode cX12_takesNext 398 = .ok (.iconst 4, 1) := by decide +kernel
theorem dX12_takesNext_399 : decode cX12_takesNext 399 = .ok (.invokestatic 29, 3) := by decide +kernel
theorem dX12_takesNext_402 : decode cX12_takesNext 402 = .ok (.aload_n 0, 1) := by decide +kernel
theorem dX12_takesNext_403 : decode cX12_takesNext 403 = .ok (.getfield 194, 3) := by decide +kernel
theorem dX12_takesNext_406 : decode cX12_takesNext 406 = .ok (.iload_n 1, 1) := by decide +kernel
theorem dX12_takesNext_407 : decode cX12_takesNext 407 = .ok (.dup2, 1) := by decide +kernel
theorem dX12_takesNext_408 : decode cX12_takesNext 408 = .ok (.iaload, 1) := by decide +kernel
theorem dX12_takesNext_409 : decode cX12_takesNext 409 = .ok (.iconst 1, 1) := by decide +kernel
theorem dX12_takesNext_410 : decode cX12_takesNext 410 = .ok (.iadd, 1) := by decide +kernel
theorem dX12_takesNext_411 : decode cX12_takesNext 411 = .ok (.iastore, 1) := by decide +kernel
theorem dX12_takesNext_412 : decode cX12_takesNext 412 = .ok (.aload_n 0, 1) := by decide +kernel
theorem dX12_takesNext_413 : decode cX12_takesNext 413 = .ok (.getfield 185, 3) := by decide +kernel
theorem dX12_takesNext_416 : decode cX12_takesNext 416 = .ok (.iload_n 1, 1) := by decide +kernel
theorem dX12_takesNext_417 : decode cX12_takesNext 417 = .ok (.iload_n 2, 1) := by decide +kernel
theorem dX12_takesNext_418 : decode cX12_takesNext 418 = .ok (.iconst 4, 1) := by decide +kernel
theorem dX12_takesNext_419 : decode cX12_takesNext 419 = .ok (.iadd, 1) := by decide +kernel
theorem dX12_takesNext_420 : decode cX12_takesNext 420 = .ok (.iastore, 1) := by decide +kernel
theorem dX12_takesNext_421 : decode cX12_takesNext 421 = .ok (.return_, 1) := by decide +kernel
theorem dX12_sendsLink_0 : decode cX12_sendsLink 0 = .ok (.aload_n 0, 1) := by decide +kernel
theorem dX12_sendsLink_1 : decode cX12_sendsLink 1 = .ok (.getfield 136, 3) := by decide +kernel
theorem dX12_sendsLink_4 : decode cX12_sendsLink 4 = .ok (.iload_n 1, 1) := by decide +kernel
theorem dX12_sendsLink_5 : decode cX12_sendsLink 5 = .ok (.iaload, 1) := by decide +kernel
theorem dX12_sendsLink_6 : decode cX12_sendsLink 6 = .ok (.iconst (-1), 1) := by decide +kernel
theorem dX12_sendsLink_7 : decode cX12_sendsLink 7 = .ok (.if_icmp .eq 14, 3) := by decide +kernel
theorem dX12_sendsLink_10 : decode cX12_sendsLink 10 = .ok (.aload_n 0, 1) := by decide +kernel
theorem dX12_sendsLink_11 : decode cX12_sendsLink 11 = .ok (.iload_n 1, 1) := by decide +kernel
theorem dX12_sendsLink_12 : decode cX12_sendsLink 12 = .ok (.aload_n 0, 1) := by decide +kernel
theorem dX12_sendsLink_13 : decode cX12_sendsLink 13 = .ok (.getfield 136, 3) := by decide +kernel
theorem dX12_sendsLink_16 : decode cX12_sendsLink 16 = .ok (.iload_n 1, 1) := by decide +kernel
theorem dX12_sendsLink_17 : decode cX12_sendsLink 17 = .ok (.iaload, 1) := by decide +kernel
theorem dX12_sendsLink_18 : decode cX12_sendsLink 18 = .ok (.invokevirtual 459, 3) := by decide +kernel
theorem dX12_sendsLink_21 : decode cX12_sendsLink 21 = .ok (.aload_n 0, 1) := by decide +kernel
theorem dX12_sendsLink_22 : decode cX12_sendsLink 22 = .ok (.getfield 182, 3) := by decide +kernel
theorem dX12_sendsLink_25 : decode cX12_sendsLink 25 = .ok (.iload_n 1, 1) := by decide +kernel
theorem dX12_sendsLink_26 : decode cX12_sendsLink 26 = .ok (.iaload, 1) := by decide +kernel
theorem dX12_sendsLink_27 : decode cX12_sendsLink 27 = .ok (.ifCond .ne 8, 3) := by decide +kernel
theorem dX12_sendsLink_30 : decode cX12_sendsLink 30 = .ok (.aload_n 0, 1) := by decide +kernel
theorem dX12_sendsLink_31 : decode cX12_sendsLink 31 = .ok (.iload_n 1, 1) := by decide +kernel
theorem dX12_sendsLink_32 : decode cX12_sendsLink 32 = .ok (.invokevirtual 463, 3) := by decide +kernel
theorem dX12_sendsLink_35 : decode cX12_sendsLink 35 = .ok (.aload_n 0, 1) := by decide +kernel
theorem dX12_sendsLink_36 : decode cX12_sendsLink 36 = .ok (.getfield 200, 3) := by decide +kernel
theorem dX12_sendsLink_39 : decode cX12_sendsLink 39 = .ok (.bipush 40, 2) := by decide +kernel
theorem dX12_sendsLink_41 : decode cX12_sendsLink 41 = .ok (.iload_n 1, 1) := by decide +kernel
theorem dX12_sendsLink_42 : decode cX12_sendsLink 42 = .ok (.imul, 1) := by decide +kernel
theorem dX12_sendsLink_43 : decode cX12_sendsLink 43 = .ok (.aload_n 0, 1) := by decide +kernel
theorem dX12_sendsLink_44 : decode cX12_sendsLink 44 = .ok (.getfield 176, 3) := by decide +kernel
theorem dX12_sendsLink_47 : decode cX12_sendsLink 47 = .ok (.bipush 6, 2) := by decide +kernel
theorem dX12_sendsLink_49 : decode cX12_sendsLink 49 = .ok (.aload_n 0, 1) := by decide +kernel
theorem dX12_sendsLink_50 : decode cX12_sendsLink 50 = .ok (.getfield 185, 3) := by decide +kernel
theorem dX12_sendsLink_53 : decode cX12_sendsLink 53 = .ok (.iload_n 1, 1) := by decide +kernel
theorem dX12_sendsLink_54 : decode cX12_sendsLink 54 = .ok (.iaload, 1) := by decide +kernel
theorem dX12_sendsLink_55 : decode cX12_sendsLink 55 = .ok (.invokestatic 29, 3) := by decide +kernel
theorem dX12_sendsLink_58 : decode cX12_sendsLink 58 = .ok (.aload_n 0, 1) := by decide +kernel
theorem dX12_sendsLink_59 : decode cX12_sendsLink 59 = .ok (.iload_n 1, 1) := by decide +kernel
theorem dX12_sendsLink_60 : decode cX12_sendsLink 60 = .ok (.aload_n 0, 1) := by decide +kernel
theorem dX12_sendsLink_61 : decode cX12_sendsLink 61 = .ok (.getfield 142, 3) := by decide +kernel
theorem dX12_sendsLink_64 : decode cX12_sendsLink 64 = .ok (.iconst 4, 1) := by decide +kernel
theorem dX12_sendsLink_65 : decode cX12_sendsLink 65 = .ok (.iload_n 1, 1) := by decide +kernel
theorem dX12_sendsLink_66 : decode cX12_sendsLink 66 = .ok (.imul, 1) := by decide +kernel
theorem dX12_sendsLink_67 : decode cX12_sendsLink 67 = .ok (.aload_n 0, 1) := by decide +kernel
theorem dX12_sendsLink_68 : decode cX12_sendsLink 68 = .ok (.getfield 109, 3) := by decide +kernel
theorem dX12_sendsLink_71 : decode cX12_sendsLink 71 = .ok (.iload_n 1, 1) := by decide +kernel
theorem dX12_sendsLink_72 : decode cX12_sendsLink 72 = .ok (.iaload, 1) := by decide +kernel
theorem dX12_sendsLink_73 : decode cX12_sendsLink 73 = .ok (.aload_n 0, 1) := by decide +kernel
theorem dX12_sendsLink_74 : decode cX12_sendsLink 74 = .ok (.getfield 118, 3) := by decide +kernel
theorem dX12_sendsLink_77 : decode cX12_sendsLink 77 = .ok (.iload_n 1, 1) := by decide +kernel
theorem dX12_sendsLink_78 : decode cX12_sendsLink 78 = .ok (.iaload, 1) := by decide +kernel
theorem dX12_sendsLink_79 : decode cX12_sendsLink 79 = .ok (.aload_n 0, 1) := by decide +kernel
theorem dX12_sendsLink_80 : decode cX12_sendsLink 80 = .ok (.getfield 182, 3) := by decide +kernel
theorem dX12_sendsLink_83 : decode cX12_sendsLink 83 = .ok (.iload_n 1, 1) := by decide +kernel
theorem dX12_sendsLink_84 : decode cX12_sendsLink 84 = .ok (.iaload, 1) := by decide +kernel
theorem dX12_sendsLink_85 : decode cX12_sendsLink 85 = .ok (.aload_n 0, 1) := by decide +kernel
theorem dX12_sendsLink_86 : decode cX12_sendsLink 86 = .ok (.getfield 127, 3) := by decide +kernel
theorem dX12_sendsLink_89 : decode cX12_sendsLink 89 = .ok (.iload_n 1, 1) := by decide +kernel
theorem dX12_sendsLink_90 : decode cX12_sendsLink 90 = .ok (.iaload, 1) := by decide +kernel
theorem dX12_sendsLink_91 : decode cX12_sendsLink 91 = .ok (.iconst 2, 1) := by decide +kernel
theorem dX12_sendsLink_92 : decode cX12_sendsLink 92 = .ok (.ishl, 1) := by decide +kernel
theorem dX12_sendsLink_93 : decode cX12_sendsLink 93 = .ok (.ior, 1) := by decide +kernel
theorem dX12_sendsLink_94 : decode cX12_sendsLink 94 = .ok (.aload_n 0, 1) := by decide +kernel
theorem dX12_sendsLink_95 : decode cX12_sendsLink 95 = .ok (.getfield 124, 3) := by decide +kernel
theorem dX12_sendsLink_98 : decode cX12_sendsLink 98 = .ok (.iload_n 1, 1) := by decide +kernel
theorem dX12_sendsLink_99 : decode cX12_sendsLink 99 = .ok (.iaload, 1) := by decide +kernel
theorem dX12_sendsLink_100 : decode cX12_sendsLink 100 = .ok (.iconst 3, 1) := by decide +kernel
theorem dX12_sendsLink_101 : decode cX12_sendsLink 101 = .ok (.ishl, 1) := by decide +kernel
theorem dX12_sendsLink_102 : decode cX12_sendsLink 102 = .ok (.ior, 1) := by decide +kernel
theorem dX12_sendsLink_103 : decode cX12_sendsLink 103 = .ok (.aload_n 0, 1) := by decide +kernel
theorem dX12_sendsLink_104 : decode cX12_sendsLink 104 = .ok (.getfield 185, 3) := by decide +kernel
theorem dX12_sendsLink_107 : decode cX12_sendsLink 107 = .ok (.iload_n 1, 1) := by decide +kernel
theorem dX12_sendsLink_108 : decode cX12_sendsLink 108 = .ok (.iaload, 1) := by decide +kernel
theorem dX12_sendsLink_109 : decode cX12_sendsLink 109 = .ok (.invokevirtual 466, 3) := by decide +kernel
theorem dX12_sendsLink_112 : decode cX12_sendsLink 112 = .ok (.ireturn, 1) := by decide +kernel
theorem dX12_takesGood_0 : decode cX12_takesGood 0 = .ok (.aload_n 0, 1) := by decide +kernel
theorem dX12_takesGood_1 : decode cX12_takesGood 1 = .ok (.getfield 179, 3) := by decide +kernel
theorem dX12_takesGood_4 : decode cX12_takesGood 4 = .ok (.iconst 4, 1) := by decide +kernel
theorem dX12_takesGood_5 : decode cX12_takesGood 5 = .ok (.baload, 1) := by decide +kernel
theorem dX12_takesGood_6 : decode cX12_takesGood 6 = .ok (.sipush 255, 3) := by decide +kernel
theorem dX12_takesGood_9 : decode cX12_takesGood 9 = .ok (.iand, 1) := by decide +kernel
theorem dX12_takesGood_10 : decode cX12_takesGood 10 = .ok (.istore_n 3, 1) := by decide +kernel
theorem dX12_takesGood_11 : decode cX12_takesGood 11 = .ok (.iload_n 2, 1) := by decide +kernel
theorem dX12_takesGood_12 : decode cX12_takesGood 12 = .ok (.istore 4, 2) := by decide +kernel
theorem dX12_takesGood_14 : decode cX12_takesGood 14 = .ok (.aload_n 0, 1) := by decide +kernel
theorem dX12_takesGood_15 : decode cX12_takesGood 15 = .ok (.getfield 130, 3) := by decide +kernel
theorem dX12_takesGood_18 : decode cX12_takesGood 18 = .ok (.iload_n 1, 1) := by decide +kernel
theorem dX12_takesGood_19 : decode cX12_takesGood 19 = .ok (.aload_n 0, 1) := by decide +kernel
theorem dX12_takesGood_20 : decode cX12_takesGood 20 = .ok (.getfield 470, 3) := by decide +kernel
theorem dX12_takesGood_23 : decode cX12_takesGood 23 = .ok (.iastore, 1) := by decide +kernel
theorem dX12_takesGood_24 : decode cX12_takesGood 24 = .ok (.aload_n 0, 1) := by decide +kernel
theorem dX12_takesGood_25 : decode cX12_takesGood 25 = .ok (.getfield 145, 3) := by decide +kernel
theorem dX12_takesGood_28 : decode cX12_takesGood 28 = .ok (.iload_n 1, 1) := by decide +kernel
theorem dX12_takesGood_29 : decode cX12_takesGood 29 = .ok (.iconst 1, 1) := by decide +kernel
theorem dX12_takesGood_30 : decode cX12_takesGood 30 = .ok (.bastore, 1) := by decide +kernel
theorem dX12_takesGood_31 : decode cX12_takesGood 31 = .ok (.aload_n 0, 1) := by decide +kernel
theorem dX12_takesGood_32 : decode cX12_takesGood 32 = .ok (.getfield 182, 3) := by decide +kernel
theorem dX12_takesGood_35 : decode cX12_takesGood 35 = .ok (.iload_n 1, 1) := by decide +kernel
theorem dX12_takesGood_36 : decode cX12_takesGood 36 = .ok (.iaload, 1) := by decide +kernel
theorem dX12_takesGood_37 : decode cX12_takesGood 37 = .ok (.ifCond .le 96, 3) := by decide +kernel
theorem dX12_takesGood_40 : decode cX12_takesGood 40 = .ok (.iload_n 3, 1) := by decide +kernel
theorem dX12_takesGood_41 : decode cX12_takesGood 41 = .ok (.iconst 2, 1) := by decide +kernel
theorem dX12_takesGood_42 : decode cX12_takesGood 42 = .ok (.ishr, 1) := by decide +kernel
theorem dX12_takesGood_43 : decode cX12_takesGood 43 = .ok (.iconst 1, 1) := by decide +kernel
theorem dX12_takesGood_44 : decode cX12_takesGood 44 = .ok (.iand, 1) := by decide +kernel
theorem dX12_takesGood_45 : decode cX12_takesGood 45 = .ok (.aload_n 0, 1) := by decide +kernel
theorem dX12_takesGood_46 : decode cX12_takesGood 46 = .ok (.getfield 124, 3) := by decide +kernel
theorem dX12_takesGood_49 : decode cX12_takesGood 49 = .ok (.iload_n 1, 1) := by decide +kernel
theorem dX12_takesGood_50 : decode cX12_takesGood 50 = .ok (.iaload, 1) := by decide +kernel
theorem dX12_takesGood_51 : decode cX12_takesGood 51 = .ok (.if_icmp .eq 82, 3) := by decide +kernel
theorem dX12_takesGood_54 : decode cX12_takesGood 54 = .ok (.aload_n 0, 1) := by decide +kernel
theorem dX12_takesGood_55 : decode cX12_takesGood 55 = .ok (.getfield 124, 3) := by decide +kernel
theorem dX12_takesGood_58 : decode cX12_takesGood 58 = .ok (.iload_n 1, 1) := by decide +kernel
theorem dX12_takesGood_59 : decode cX12_takesGood 59 = .ok (.dup2, 1) := by decide +kernel
theorem dX12_takesGood_60 : decode cX12_takesGood 60 = .ok (.iaload, 1) := by decide +kernel
theorem dX12_takesGood_61 : decode cX12_takesGood 61 = .ok (.iconst 1, 1) := by decide +kernel
theorem dX12_takesGood_62 : decode cX12_takesGood 62 = .ok (.ixor, 1) := by decide +kernel
theorem dX12_takesGood_63 : decode cX12_takesGood 63 = .ok (.iastore, 1) := by decide +kernel
theorem dX12_takesGood_64 : decode cX12_takesGood 64 = .ok (.aload_n 0, 1) := by decide +kernel
theorem dX12_takesGood_65 : decode cX12_takesGood 65 = .ok (.getfield 182, 3) := by decide +kernel
theorem dX12_takesGood_68 : decode cX12_takesGood 68 = .ok (.iload_n 1, 1) := by decide +kernel
theorem dX12_takesGood_69 : decode cX12_takesGood 69 = .ok (.iaload, 1) := by decide +kernel
theorem dX12_takesGood_70 : decode cX12_takesGood 70 = .ok (.iconst 3, 1) := by decide +kernel
theorem dX12_takesGood_71 : decode cX12_takesGood 71 = .ok (.if_icmp .ne 12, 3) := by decide +kernel
theorem dX12_takesGood_74 : decode cX12_takesGood 74 = .ok (.aload_n 0, 1) := by decide +kernel
theorem dX12_takesGood_75 : decode cX12_takesGood 75 = .ok (.getfield 188, 3) := by decide +kernel
theorem dX12_takesGood_78 : decode cX12_takesGood 78 = .ok (.iload_n 1, 1) := by decide +kernel
theorem dX12_takesGood_79 : decode cX12_takesGood 79 = .ok (.iaload, 1) := by decide +kernel
theorem dX12_takesGood_80 : decode cX12_takesGood 80 = .ok (.goto 4, 3) := by decide +kernel
theorem dX12_takesGood_83 : decode cX12_takesGood 83 = .ok (.iconst 0, 1) := by decide +kernel
theorem dX12_takesGood_84 : decode cX12_takesGood 84 = .ok (.istore 5, 2) := by decide +kernel
theorem dX12_takesGood_86 : decode cX12_takesGood 86 = .ok (.aload_n 0, 1) := by decide +kernel
theorem dX12_takesGood_87 : decode cX12_takesGood 87 = .ok (.getfield 182, 3) := by decide +kernel
theorem dX12_takesGood_90 : decode cX12_takesGood 90 = .ok (.iload_n 1, 1) := by decide +kernel
theorem dX12_takesGood_91 : decode cX12_takesGood 91 = .ok (.iconst 0, 1) := by decide +kernel
theorem dX12_takesGood_92 : decode cX12_takesGood 92 = .ok (.iastore, 1) := by decide +kernel
theorem dX12_takesGood_93 : decode cX12_takesGood 93 = .ok (.aload_n 0, 1) := by decide +kernel
theorem dX12_takesGood_94 : decode cX12_takesGood 94 = .ok (.getfield 185, 3) := by decide +kernel
theorem dX12_takesGood_97 : decode cX12_takesGood 97 = .ok (.iload_n 1, 1) := by decide +kernel
theorem dX12_takesGood_98 : decode cX12_takesGood 98 = .ok (.iconst 0, 1) := by decide +kernel
theorem dX12_takesGood_99 : decode cX12_takesGood 99 = .ok (.iastore, 1) := by decide +kernel
theorem dX12_takesGood_100 : decode cX12_takesGood 100 = .ok (.iload 5, 2) := by decide +kernel
theorem dX12_takesGood_102 : decode cX12_takesGood 102 = .ok (.iconst 5, 1) := by decide +kernel
theorem dX12_takesGood_103 : decode cX12_takesGood 103 = .ok (.if_icmp .ne 17, 3) := by decide +kernel
theorem dX12_takesGood_106 : decode cX12_takesGood 106 = .ok (.aload_n 0, 1) := by decide +kernel
theorem dX12_takesGood_107 : decode cX12_takesGood 107 = .ok (.getfield 236, 3) := by decide +kernel
theorem dX12_takesGood_110 : decode cX12_takesGood 110 = .ok (.iload_n 1, 1) := by decide +kernel
theorem dX12_takesGood_111 : decode cX12_takesGood 111 = .ok (.iconst 1, 1) := by decide +kernel
theorem dX12_takesGood_112 : decode cX12_takesGood 112 = .ok (.bastore, 1) := by decide +kernel
theorem dX12_takesGood_113 : decode cX12_takesGood 113 = .ok (.aload_n 0, 1) := by decide +kernel
theorem dX12_takesGood_114 : decode cX12_takesGood 114 = .ok (.getfield 197, 3) := by decide +kernel
theorem dX12_takesGood_117 : decode cX12_takesGood 117 = .ok (.iload_n 1, 1) := by decide +kernel
theorem dX12_takesGood_118 : decode cX12_takesGood 118 = .ok (.iconst 0, 1) := by decide +kernel
theorem dX12_takesGood_119 : decode cX12_takesGood 119 = .ok (.iastore, 1) := by decide +kernel
theorem dX12_takesGood_120 : decode cX12_takesGood 120 = .ok (.iload 5, 2) := by decide +kernel
theorem dX12_takesGood_122 : decode cX12_takesGood 122 = .ok (.iconst 2, 1) := by decide +kernel
theorem dX12_takesGood_123 : decode cX12_takesGood 123 = .ok (.if_icmp .ne 10, 3) := by decide +kernel
theorem dX12_takesGood_126 : decode cX12_takesGood 126 = .ok (.aload_n 0, 1) := by decide +kernel
theorem dX12_takesGood_127 : decode cX12_takesGood 127 = .ok (.iload_n 1, 1) := by decide +kernel
theorem dX12_takesGood_128 : decode cX12_takesGood 128 = .ok (.bipush 22, 2) := by decide +kernel
theorem dX12_takesGood_130 : decode cX12_takesGood 130 = .ok (.invokevirtual 459, 3) := by decide +kernel
theorem dX12_takesGood_133 : decode cX12_takesGood 133 = .ok (.iload_n 3, 1) := by decide +kernel
theorem dX12_takesGood_134 : decode cX12_takesGood 134 = .ok (.iconst 3, 1) := by decide +kernel
theorem dX12_takesGood_135 : decode cX12_takesGood 135 = .ok (.ishr, 1) := by decide +kernel
theorem dX12_takesGood_136 : decode cX12_takesGood 136 = .ok (.iconst 1, 1) := by decide +kernel
theorem dX12_takesGood_137 : decode cX12_takesGood 137 = .ok (.iand, 1) := by decide +kernel
theorem dX12_takesGood_138 : decode cX12_takesGood 138 = .ok (.aload_n 0, 1) := by decide +kernel
theorem dX12_takesGood_139 : decode cX12_takesGood 139 = .ok (.getfield 127, 3) := by decide +kernel
theorem dX12_takesGood_142 : decode cX12_takesGood 142 = .ok (.iload_n 1, 1) := by decide +kernel
theorem dX12_takesGood_143 : decode cX12_takesGood 143 = .ok (.iaload, 1) := by decide +kernel
theorem dX12_takesGood_144 : decode cX12_takesGood 144 = .ok (.if_icmp .eq 4, 3) := by decide +kernel
theorem dX12_takesGood_147 : decode cX12_takesGood 147 = .ok (.return_, 1) := by decide +kernel
theorem dX12_takesGood_148 : decode cX12_takesGood 148 = .ok (.aload_n 0, 1) := by decide +kernel
theorem dX12_takesGood_149 : decode cX12_takesGood 149 = .ok (.getfield 127, 3) := by decide +kernel
theorem dX12_takesGood_152 : decode cX12_takesGood 152 = .ok (.iload_n 1, 1) := by decide +kernel
theorem dX12_takesGood_153 : decode cX12_takesGood 153 = .ok (.dup2, 1) := by decide +kernel
theorem dX12_takesGood_154 : decode cX12_takesGood 154 = .ok (.iaload, 1) := by decide +kernel
theorem dX12_takesGood_155 : decode cX12_takesGood 155 = .ok (.iconst 1, 1) := by decide +kernel
theorem dX12_takesGood_156 : decode cX12_takesGood 156 = .ok (.ixor, 1) := by decide +kernel
theorem dX12_takesGood_157 : decode cX12_takesGood 157 = .ok (.iastore, 1) := by decide +kernel
theorem dX12_takesGood_158 : decode cX12_takesGood 158 = .ok (.iload 4, 2) := by decide +kernel
theorem dX12_takesGood_160 : decode cX12_takesGood 160 = .ok (.ifCond .ne 4, 3) := by decide +kernel
theorem dX12_takesGood_163 : decode cX12_takesGood 163 = .ok (.return_, 1) := by decide +kernel
theorem dX12_takesGood_164 : decode cX12_takesGood 164 = .ok (.aload_n 0, 1) := by decide +kernel
theorem dX12_takesGood_165 : decode cX12_takesGood 165 = .ok (.getfield 236, 3) := by decide +kernel
theorem dX12_takesGood_168 : decode cX12_takesGood 168 = .ok (.iload_n 1, 1) := by decide +kernel
theorem dX12_takesGood_169 : decode cX12_takesGood 169 = .ok (.baload, 1) := by decide +kernel
theorem dX12_takesGood_170 : decode cX12_takesGood 170 = .ok (.ifCond .eq 162, 3) := by decide +kernel
theorem dX12_takesGood_173 : decode cX12_takesGood 173 = .ok (.aload_n 0, 1) := by decide +kernel
theorem dX12_takesGood_174 : decode cX12_takesGood 174 = .ok (.getfield 45, 3) := by decide +kernel
theorem dX12_takesGood_177 : decode cX12_takesGood 177 = .ok (.iload_n 1, 1) := by decide +kernel
theorem dX12_takesGood_178 : decode cX12_takesGood 178 = .ok (.iaload, 1) := by decide +kernel
theorem dX12_takesGood_179 : decode cX12_takesGood 179 = .ok (.iconst 4, 1) := by decide +kernel
theorem dX12_takesGood_180 : decode cX12_takesGood 180 = .ok (.if_icmp .ne 7, 3) := by decide +kernel
theorem dX12_takesGood_183 : decode cX12_takesGood 183 = .ok (.iconst 0, 1) := by decide +kernel
theorem dX12_takesGood_184 : decode cX12_takesGood 184 = .ok (.goto 4, 3) := by decide +kernel
theorem dX12_takesGood_187 : decode cX12_takesGood 187 = .ok (.iconst 1, 1) := by decide +kernel
theorem dX12_takesGood_188 : decode cX12_takesGood 188 = .ok (.istore 5, 2) := by decide +kernel
theorem dX12_takesGood_190 : decode cX12_takesGood 190 = .ok (.iload 4, 2) := by decide +kernel
theorem dX12_takesGood_192 : decode cX12_takesGood 192 = .ok (.iconst 5, 1) := by decide +kernel
theorem dX12_takesGood_193 : decode cX12_takesGood 193 = .ok (.if_icmp .ge 11, 3) := by decide +kernel
theorem dX12_takesGood_196 : decode cX12_takesGood 196 = .ok (.aload_n 0, 1) := by decide +kernel
theorem dX12_takesGood_197 : decode cX12_takesGood 197 = .ok (.iload_n 1, 1) := by decide +kernel
theorem dX12_takesGood_198 : decode cX12_takesGood 198 = .ok (.bipush 61, 2) := by decide +kernel
theorem dX12_takesGood_200 : decode cX12_takesGood 200 = .ok (.invokevirtual 459, 3) := by decide +kernel
theorem dX12_takesGood_203 : decode cX12_takesGood 203 = .ok (.return_, 1) := by decide +kernel
theorem dX12_takesGood_204 : decode cX12_takesGood 204 = .ok (.iinc 4 (-4), 3) := by decide +kernel
theorem dX12_takesGood_207 : decode cX12_takesGood 207 = .ok (.aload_n 0, 1) := by decide +kernel
theorem dX12_takesGood_208 : decode cX12_takesGood 208 = .ok (.iload_n 1, 1) := by decide +kernel
theorem dX12_takesGood_209 : decode cX12_takesGood 209 = .ok (.aload_n 0, 1) := by decide +kernel
theorem dX12_takesGood_210 : decode cX12_takesGood 210 = .ok (.getfield 179, 3) := by decide +kernel
theorem dX12_takesGood_213 : decode cX12_takesGood 213 = .ok (.bipush 6, 2) := by decide +kernel
theorem dX12_takesGood_215 : decode cX12_takesGood 215 = .ok (.iload 4, 2) := by decide +kernel
theorem dX12_takesGood_217 : decode cX12_takesGood 217 = .ok (.aload_n 0, 1) := by decide +kernel
theorem dX12_takesGood_218 : decode cX12_takesGood 218 = .ok (.getfield 197, 3) := by decide +kernel
theorem dX12_takesGood_221 : decode cX12_takesGood 221 = .ok (.iload_n 1, 1) := by decide +kernel
theorem dX12_takesGood_222 : decode cX12_takesGood 222 = .ok (.iaload, 1) := by decide +kernel
theorem dX12_takesGood_223 : decode cX12_takesGood 223 = .ok (.i2l, 1) := by decide +kernel
theorem dX12_takesGood_224 : decode cX12_takesGood 224 = .ok (.iload 5, 2) := by decide +kernel
theorem dX12_takesGood_226 : decode cX12_takesGood 226 = .ok (.invokevirtual 455, 3) := by decide +kernel
theorem dX12_takesGood_229 : decode cX12_takesGood 229 = .ok (.aload_n 0, 1) := by decide +kernel
theorem dX12_takesGood_230 : decode cX12_takesGood 230 = .ok (.iload_n 1, 1) := by decide +kernel
theorem dX12_takesGood_231 : decode cX12_takesGood 231 = .ok (.aload_n 0, 1) := by decide +kernel
theorem dX12_takesGood_232 : decode cX12_takesGood 232 = .ok (.getfield 179, 3) := by decide +kernel
theorem dX12_takesGood_235 : decode cX12_takesGood 235 = .ok (.bipush 6, 2) := by decide +kernel
theorem dX12_takesGood_237 : decode cX12_takesGood 237 = .ok (.iload 4, 2) := by decide +kernel
theorem dX12_takesGood_239 : decode cX12_takesGood 239 = .ok (.aload_n 0, 1) := by decide +kernel
theorem dX12_takesGood_240 : decode cX12_takesGood 240 = .ok (.getfield 197, 3) := by decide +kernel
theorem dX12_takesGood_243 : decode cX12_takesGood 243 = .ok (.iload_n 1, 1) := by decide +kernel
theorem dX12_takesGood_244 : decode cX12_takesGood 244 = .ok (.iaload, 1) := by decide +kernel
theorem dX12_takesGood_245 : decode cX12_takesGood 245 = .ok (.i2l, 1) := by decide +kernel
theorem dX12_takesGood_246 : decode cX12_takesGood 246 = .ok (.iload 5, 2) := by decide +kernel
theorem dX12_takesGood_248 : decode cX12_takesGood 248 = .ok (.iload_n 3, 1) := by decide +kernel
theorem dX12_takesGood_249 : decode cX12_takesGood 249 = .ok (.sipush 227, 3) := by decide +kernel
theorem dX12_takesGood_252 : decode cX12_takesGood 252 = .ok (.iand, 1) := by decide +kernel
theorem dX12_takesGood_253 : decode cX12_takesGood 253 = .ok (.invokevirtual 451, 3) := by decide +kernel
theorem dX12_takesGood_256 : decode cX12_takesGood 256 = .ok (.iconst 1, 1) := by decide +kernel
theorem dX12_takesGood_257 : decode cX12_takesGood 257 = .ok (.istore 6, 2) := by decide +kernel
theorem dX12_takesGood_259 : decode cX12_takesGood 259 = .ok (.iconst 0, 1) := by decide +kernel
theorem dX12_takesGood_260 : decode cX12_takesGood 260 = .ok (.istore 7, 2) := by decide +kernel
theorem dX12_takesGood_262 : decode cX12_takesGood 262 = .ok (.iload 7, 2) := by decide +kernel
theorem dX12_takesGood_264 : decode cX12_takesGood 264 = .ok (.iconst 4, 1) := by decide +kernel
theorem dX12_takesGood_265 : decode cX12_takesGood 265 = .ok (.if_icmp .ge 44, 3) := by decide +kernel
theorem dX12_takesGood_268 : decode cX12_takesGood 268 = .ok (.iload 6, 2) := by decide +kernel
theorem dX12_takesGood_270 : decode cX12_takesGood 270 = .ok (.ifCond .eq 30, 3) := by decide +kernel
theorem dX12_takesGood_273 : decode cX12_takesGood 273 = .ok (.aload_n 0, 1) := by decide +kernel
theorem dX12_takesGood_274 : decode cX12_takesGood 274 = .ok (.getfield 254, 3) := by decide +kernel
theorem dX12_takesGood_277 : decode cX12_takesGood 277 = .ok (.iload 7, 2) := by decide +kernel
theorem dX12_takesGood_279 : decode cX12_takesGood 279 = .ok (.baload, 1) := by decide +kernel
theorem dX12_takesGood_280 : decode cX12_takesGood 280 = .ok (.aload_n 0, 1) := by decide +kernel
theorem dX12_takesGood_281 : decode cX12_takesGood 281 = .ok (.getfield 179, 3) := by decide +kernel
theorem dX12_takesGood_284 : decode cX12_takesGood 284 = .ok (.bipush 6, 2) := by decide +kernel
theorem dX12_takesGood_286 : decode cX12_takesGood 286 = .ok (.iload 4, 2) := by decide +kernel
theorem dX12_takesGood_288 : decode cX12_takesGood 288 = .ok (.iadd, 1) := by decide +kernel
theorem dX12_takesGood_289 : decode cX12_takesGood 289 = .ok (.iload 7, 2) := by decide +kernel
theorem dX12_takesGood_291 : decode cX12_takesGood 291 = .ok (.iadd, 1) := by decide +kernel
theorem dX12_takesGood_292 : decode cX12_takesGood 292 = .ok (.baload, 1) := by decide +kernel
theorem dX12_takesGood_293 : decode cX12_takesGood 293 = .ok (.if_icmp .ne 7, 3) := by decide +kernel
theorem dX12_takesGood_296 : decode cX12_takesGood 296 = .ok (.iconst 1, 1) := by decide +kernel
theorem dX12_takesGood_297 : decode cX12_takesGood 297 = .ok (.goto 4, 3) := by decide +kernel
theorem dX12_takesGood_300 : decode cX12_takesGood 300 = .ok (.iconst 0, 1) := by decide +kernel
theorem dX12_takesGood_301 : decode cX12_takesGood 301 = .ok (.istore 6, 2) := by decide +kernel
theorem dX12_takesGood_303 : decode cX12_takesGood 303 = .ok (.iinc 7 1, 3) := by decide +kernel
theorem dX12_takesGood_306 : decode cX12_takesGood 306 = .ok (.goto (-44), 3) := by decide +kernel
theorem dX12_takesGood_309 : decode cX12_takesGood 309 = .ok (.iload 6, 2) := by decide +kernel
theorem dX12_takesGood_311 : decode cX12_takesGood 311 = .ok (.ifCond .ne 11, 3) := by decide +kernel
theorem dX12_takesGood_314 : decode cX12_takesGood 314 = .ok (.aload_n 0, 1) := by decide +kernel
theorem dX12_takesGood_315 : decode cX12_takesGood 315 = .ok (.iload_n 1, 1) := by decide +kernel
theorem dX12_takesGood_316 : decode cX12_takesGood 316 = .ok (.bipush 61, 2) := by decide +kernel
theorem dX12_takesGood_318 : decode cX12_takesGood 318 = .ok (.invokevirtual 459, 3) := by decide +kernel
theorem dX12_takesGood_321 : decode cX12_takesGood 321 = .ok (.return_, 1) := by decide +kernel
theorem dX12_takesGood_322 : decode cX12_takesGood 322 = .ok (.aload_n 0, 1) := by decide +kernel
theorem dX12_takesGood_323 : decode cX12_takesGood 323 = .ok (.getfield 197, 3) := by decide +kernel
theorem dX12_takesGood_326 : decode cX12_takesGood 326 = .ok (.iload_n 1, 1) := by decide +kernel
theorem dX12_takesGood_327 : decode cX12_takesGood 327 = .ok (.dup2, 1) := by decide +kernel
theorem dX12_takesGood_328 : decode cX12_takesGood 328 = .ok (.iaload, 1) := by decide +kernel
theorem dX12_takesGood_329 : decode cX12_takesGood 329 = .ok (.iconst 1, 1) := by decide +kernel
theorem dX12_takesGood_330 : decode cX12_takesGood 330 = .ok (.iadd, 1) := by decide +kernel
theorem dX12_takesGood_331 : decode cX12_takesGood 331 = .ok (.iastore, 1) := by decide +kernel
theorem dX12_takesGood_332 : decode cX12_takesGood 332 = .ok (.aload_n 0, 1) := by decide +kernel
theorem dX12_takesGood_333 : decode cX12_takesGood 333 = .ok (.getfield 179, 3) := by decide +kernel
theorem dX12_takesGood_336 : decode cX12_takesGood 336 = .ok (.bipush 6, 2) := by decide +kernel
theorem dX12_takesGood_338 : decode cX12_takesGood 338 = .ok (.aload_n 0, 1) := by decide +kernel
theorem dX12_takesGood_339 : decode cX12_takesGood 339 = .ok (.getfield 263, 3) := by decide +kernel
theorem dX12_takesGood_342 : decode cX12_takesGood 342 = .ok (.iconst 0, 1) := by decide +kernel
theorem dX12_takesGood_343 : decode cX12_takesGood 343 = .ok (.iload 4, 2) := by decide +kernel
theorem dX12_takesGood_345 : decode cX12_takesGood 345 = .ok (.invokestatic 29, 3) := by decide +kernel
theorem dX12_takesGood_348 : decode cX12_takesGood 348 = .ok (.iload_n 3, 1) := by decide +kernel
theorem dX12_takesGood_349 : decode cX12_takesGood 349 = .ok (.iconst 3, 1) := by decide +kernel
theorem dX12_takesGood_350 : decode cX12_takesGood 350 = .ok (.iand, 1) := by decide +kernel
theorem dX12_takesGood_351 : decode cX12_takesGood 351 = .ok (.iconst 3, 1) := by decide +kernel
theorem dX12_takesGood_352 : decode cX12_takesGood 352 = .ok (.if_icmp .ne 13, 3) := by decide +kernel
theorem dX12_takesGood_355 : decode cX12_takesGood 355 = .ok (.aload_n 0, 1) := by decide +kernel
theorem dX12_takesGood_356 : decode cX12_takesGood 356 = .ok (.iload_n 1, 1) := by decide +kernel
theorem dX12_takesGood_357 : decode cX12_takesGood 357 = .ok (.iload 4, 2) := by decide +kernel
theorem dX12_takesGood_359 : decode cX12_takesGood 359 = .ok (.invokevirtual 473, 3) := by decide +kernel
theorem dX12_takesGood_362 : decode cX12_takesGood 362 = .ok (.goto 28, 3) := by decide +kernel
theorem dX12_takesGood_365 : decode cX12_takesGood 365 = .ok (.iload_n 3, 1) := by decide +kernel
theorem dX12_takesGood_366 : decode cX12_takesGood 366 = .ok (.iconst 3, 1) := by decide +kernel
theorem dX12_takesGood_367 : decode cX12_takesGood 367 = .ok (.iand, 1) := by decide +kernel
theorem dX12_takesGood_368 : decode cX12_takesGood 368 = .ok (.ifCond .le 22, 3) := by decide +kernel
theorem dX12_takesGood_371 : decode cX12_takesGood 371 = .ok (.aload_n 0, 1) := by decide +kernel
theorem dX12_takesGood_372 : decode cX12_takesGood 372 = .ok (.iload_n 1, 1) := by decide +kernel
theorem dX12_takesGood_373 : decode cX12_takesGood 373 = .ok (.iload 4, 2) := by decide +kernel
theorem dX12_takesGood_375 : decode cX12_takesGood 375 = .ok (.iload_n 3, 1) := by decide +kernel
theorem dX12_takesGood_376 : decode cX12_takesGood 376 = .ok (.iconst 3, 1) := by decide +kernel
theorem dX12_takesGood_377 : decode cX12_takesGood 377 = .ok (.iand, 1) := by decide +kernel
theorem dX12_takesGood_378 : decode cX12_takesGood 378 = .ok (.iconst 2, 1) := by decide +kernel
theorem dX12_takesGood_379 : decode cX12_takesGood 379 = .ok (.if_icmp .ne 7, 3) := by decide +kernel
theorem dX12_takesGood_382 : decode cX12_takesGood 382 = .ok (.iconst 1, 1) := by decide +kernel
theorem dX12_takesGood_383 : decode cX12_takesGood 383 = .ok (.goto 4, 3) := by decide +kernel
theorem dX12_takesGood_386 : decode cX12_takesGood 386 = .ok (.iconst 0, 1) := by decide +kernel
theorem dX12_takesGood_387 : decode cX12_takesGood 387 = .ok (.invokevirtual 476, 3) := by decide +kernel
theorem dX12_takesGood_390 : decode cX12_takesGood 390 = .ok (.return_, 1) := by decide +kernel
theorem dX12_bytesOf_0 : decode cX12_bytesOf 0 = .ok (.iload_n 0, 1) := by decide +kernel
theorem dX12_bytesOf_1 : decode cX12_bytesOf 1 = .ok (.tableswitch 82 1 13 #[67, 70, 72, 72, 75, 75, 70, 77, 77, 82, 82, 80, 70], 67) := by decide +kernel
theorem dX12_bytesOf_68 : decode cX12_bytesOf 68 = .ok (.bipush 7, 2) := by decide +kernel
theorem dX12_bytesOf_70 : decode cX12_bytesOf 70 = .ok (.ireturn, 1) := by decide +kernel
theorem dX12_bytesOf_71 : decode cX12_bytesOf 71 = .ok (.iconst 1, 1) := by decide +kernel
theorem dX12_bytesOf_72 : decode cX12_bytesOf 72 = .ok (.ireturn, 1) := by decide +kernel
theorem dX12_bytesOf_73 : decode cX12_bytesOf 73 = .ok (.bipush 12, 2) := by decide +kernel
theorem dX12_bytesOf_75 : decode cX12_bytesOf 75 = .ok (.ireturn, 1) := by decide +kernel
theorem dX12_bytesOf_76 : decode cX12_bytesOf 76 = .ok (.iconst 0, 1) := by decide +kernel
theorem dX12_bytesOf_77 : decode cX12_bytesOf 77 = .ok (.ireturn, 1) := by decide +kernel
theorem dX12_bytesOf_78 : decode cX12_bytesOf 78 = .ok (.bipush 8, 2) := by decide +kernel
theorem dX12_bytesOf_80 : decode cX12_bytesOf 80 = .ok (.ireturn, 1) := by decide +kernel
theorem dX12_bytesOf_81 : decode cX12_bytesOf 81 = .ok (.iconst 5, 1) := by decide +kernel
theorem dX12_bytesOf_82 : decode cX12_bytesOf 82 = .ok (.ireturn, 1) := by decide +kernel
theorem dX12_bytesOf_83 : decode cX12_bytesOf 83 = .ok (.iconst (-1), 1) := by decide +kernel
theorem dX12_bytesOf_84 : decode cX12_bytesOf 84 = .ok (.ireturn, 1) := by decide +kernel
theorem dX12_makesSession_0 : decode cX12_makesSession 0 = .ok (.aload_n 0, 1) := by decide +kernel
theorem dX12_makesSession_1 : decode cX12_makesSession 1 = .ok (.getfield 215, 3) := by decide +kernel
theorem dX12_makesSession_4 : decode cX12_makesSession 4 = .ok (.bipush 8, 2) := by decide +kernel
theorem dX12_makesSession_6 : decode cX12_makesSession 6 = .ok (.iload_n 1, 1) := by decide +kernel
theorem dX12_makesSession_7 : decode cX12_makesSession 7 = .ok (.imul, 1) := by decide +kernel
theorem dX12_makesSession_8 : decode cX12_makesSession 8 = .ok (.aload_n 0, 1) := by decide +kernel
theorem dX12_makesSession_9 : decode cX12_makesSession 9 = .ok (.getfield 251, 3) := by decide +kernel
theorem dX12_makesSession_12 : decode cX12_makesSession 12 = .ok (.iload_n 2, 1) := by decide +kernel
theorem dX12_makesSession_13 : decode cX12_makesSession 13 = .ok (.ifCond .eq 7, 3) := by decide +kernel
theorem dX12_makesSession_16 : decode cX12_makesSession 16 = .ok (.iconst 0, 1) := by decide +kernel
theorem dX12_makesSession_17 : decode cX12_makesSession 17 = .ok (.goto 5, 3) := by decide +kernel
theorem dX12_makesSession_20 : decode cX12_makesSession 20 = .ok (.bipush 8, 2) := by decide +kernel
theorem dX12_makesSession_22 : decode cX12_makesSession 22 = .ok (.bipush 8, 2) := by decide +kernel
theorem dX12_makesSession_24 : decode cX12_makesSession 24 = .ok (.invokestatic 29, 3) := by decide +kernel
theorem dX12_makesSession_27 : decode cX12_makesSession 27 = .ok (.aload_n 0, 1) := by decide +kernel
theorem dX12_makesSession_28 : decode cX12_makesSession 28 = .ok (.getfield 263, 3) := by decide +kernel
theorem dX12_makesSession_31 : decode cX12_makesSession 31 = .ok (.iconst 1, 1) := by decide +kernel
theorem dX12_makesSession_32 : decode cX12_makesSession 32 = .ok (.aload_n 0, 1) := by decide +kernel
theorem dX12_makesSession_33 : decode cX12_makesSession 33 = .ok (.getfield 251, 3) := by decide +kernel
theorem dX12_makesSession_36 : decode cX12_makesSession 36 = .ok (.iload_n 2, 1) := by decide +kernel
theorem dX12_makesSession_37 : decode cX12_makesSession 37 = .ok (.ifCond .eq 8, 3) := by decide +kernel
theorem dX12_makesSession_40 : decode cX12_makesSession 40 = .ok (.bipush 8, 2) := by decide +kernel
theorem dX12_makesSession_42 : decode cX12_makesSession 42 = .ok (.goto 4, 3) := by decide +kernel
theorem dX12_makesSession_45 : decode cX12_makesSession 45 = .ok (.iconst 0, 1) := by decide +kernel
theorem dX12_makesSession_46 : decode cX12_makesSession 46 = .ok (.bipush 8, 2) := by decide +kernel
theorem dX12_makesSession_48 : decode cX12_makesSession 48 = .ok (.invokestatic 29, 3) := by decide +kernel
theorem dX12_makesSession_51 : decode cX12_makesSession 51 = .ok (.aload_n 0, 1) := by decide +kernel
theorem dX12_makesSession_52 : decode cX12_makesSession 52 = .ok (.getfield 218, 3) := by decide +kernel
theorem dX12_makesSession_55 : decode cX12_makesSession 55 = .ok (.iconst 4, 1) := by decide +kernel
theorem dX12_makesSession_56 : decode cX12_makesSession 56 = .ok (.iload_n 1, 1) := by decide +kernel
theorem dX12_makesSession_57 : decode cX12_makesSession 57 = .ok (.imul, 1) := by decide +kernel
theorem dX12_makesSession_58 : decode cX12_makesSession 58 = .ok (.aload_n 0, 1) := by decide +kernel
theorem dX12_makesSession_59 : decode cX12_makesSession 59 = .ok (.getfield 212, 3) := by decide +kernel
theorem dX12_makesSession_62 : decode cX12_makesSession 62 = .ok (.bipush 8, 2) := by decide +kernel
theorem dX12_makesSession_64 : decode cX12_makesSession 64 = .ok (.iload_n 1, 1) := by decide +kernel
theorem dX12_makesSession_65 : decode cX12_makesSession 65 = .ok (.imul, 1) := by decide +kernel
theorem dX12_makesSession_66 : decode cX12_makesSession 66 = .ok (.iload_n 2, 1) := by decide +kernel
theorem dX12_makesSession_67 : decode cX12_makesSession 67 = .ok (.ifCond .eq 7, 3) := by decide +kernel
theorem dX12_makesSession_70 : decode cX12_makesSession 70 = .ok (.iconst 0, 1) := by decide +kernel
theorem dX12_makesSession_71 : decode cX12_makesSession 71 = .ok (.goto 4, 3) := by decide +kernel
theorem dX12_makesSession_74 : decode cX12_makesSession 74 = .ok (.iconst 4, 1) := by decide +kernel
theorem dX12_makesSession_75 : decode cX12_makesSession 75 = .ok (.iadd, 1) := by decide +kernel
theorem dX12_makesSession_76 : decode cX12_makesSession 76 = .ok (.iconst 4, 1) := by decide +kernel
theorem dX12_makesSession_77 : decode cX12_makesSession 77 = .ok (.invokestatic 29, 3) := by decide +kernel
theorem dX12_makesSession_80 : decode cX12_makesSession 80 = .ok (.aload_n 0, 1) := by decide +kernel
theorem dX12_makesSession_81 : decode cX12_makesSession 81 = .ok (.getfield 263, 3) := by decide +kernel
theorem dX12_makesSession_84 : decode cX12_makesSession 84 = .ok (.bipush 9, 2) := by decide +kernel
theorem dX12_makesSession_86 : decode cX12_makesSession 86 = .ok (.aload_n 0, 1) := by decide +kernel
theorem dX12_makesSession_87 : decode cX12_makesSession 87 = .ok (.getfield 212, 3) := by decide +kernel
theorem dX12_makesSession_90 : decode cX12_makesSession 90 = .ok (.bipush 8, 2) := by decide +kernel
theorem dX12_makesSession_92 : decode cX12_makesSession 92 = .ok (.iload_n 1, 1) := by decide +kernel
theorem dX12_makesSession_93 : decode cX12_makesSession 93 = .ok (.imul, 1) := by decide +kernel
theorem dX12_makesSession_94 : decode cX12_makesSession 94 = .ok (.iload_n 2, 1) := by decide +kernel
theorem dX12_makesSession_95 : decode cX12_makesSession 95 = .ok (.ifCond .eq 7, 3) := by decide +kernel
theorem dX12_makesSession_98 : decode cX12_makesSession 98 = .ok (.iconst 4, 1) := by decide +kernel
theorem dX12_makesSession_99 : decode cX12_makesSession 99 = .ok (.goto 4, 3) := by decide +kernel
theorem dX12_makesSession_102 : decode cX12_makesSession 102 = .ok (.iconst 0, 1) := by decide +kernel
theorem dX12_makesSession_103 : decode cX12_makesSession 103 = .ok (.iadd, 1) := by decide +kernel
theorem dX12_makesSession_104 : decode cX12_makesSession 104 = .ok (.iconst 4, 1) := by decide +kernel
theorem dX12_makesSession_105 : decode cX12_makesSession 105 = .ok (.invokestatic 29, 3) := by decide +kernel
theorem dX12_makesSession_108 : decode cX12_makesSession 108 = .ok (.aload_n 0, 1) := by decide +kernel
theorem dX12_makesSession_109 : decode cX12_makesSession 109 = .ok (.aload_n 0, 1) := by decide +kernel
theorem dX12_makesSession_110 : decode cX12_makesSession 110 = .ok (.getfield 206, 3) := by decide +kernel
theorem dX12_makesSession_113 : decode cX12_makesSession 113 = .ok (.bipush 16, 2) := by decide +kernel
theorem dX12_makesSession_115 : decode cX12_makesSession 115 = .ok (.iload_n 1, 1) := by decide +kernel
theorem dX12_makesSession_116 : decode cX12_makesSession 116 = .ok (.imul, 1) := by decide +kernel
theorem dX12_makesSession_117 : decode cX12_makesSession 117 = .ok (.aload_n 0, 1) := by decide +kernel
theorem dX12_makesSession_118 : decode cX12_makesSession 118 = .ok (.getfield 251, 3) := by decide +kernel
theorem dX12_makesSession_121 : decode cX12_makesSession 121 = .ok (.iconst 0, 1) := by decide +kernel
theorem dX12_makesSession_122 : decode cX12_makesSession 122 = .ok (.aload_n 0, 1) := by decide +kernel
theorem dX12_makesSession_123 : decode cX12_makesSession 123 = .ok (.getfield 209, 3) := by decide +kernel
theorem dX12_makesSession_126 : decode cX12_makesSession 126 = .ok (.bipush 16, 2) := by decide +kernel
theorem dX12_makesSession_128 : decode cX12_makesSession 128 = .ok (.iload_n 1, 1) := by decide +kernel
theorem dX12_makesSession_129 : decode cX12_makesSession 129 = .ok (.imul, 1) := by decide +kernel
theorem dX12_makesSession_130 : decode cX12_makesSession 130 = .ok (.invokevirtual 444, 3) := by decide +kernel
theorem dX12_makesSession_133 : decode cX12_makesSession 133 = .ok (.aload_n 0, 1) := by decide +kernel
theorem dX12_makesSession_134 : decode cX12_makesSession 134 = .ok (.getfield 242, 3) := by decide +kernel
theorem dX12_makesSession_137 : decode cX12_makesSession 137 = .ok (.iload_n 1, 1) := by decide +kernel
theorem dX12_makesSession_138 : decode cX12_makesSession 138 = .ok (.iconst 1, 1) := by decide +kernel
theorem dX12_makesSession_139 : decode cX12_makesSession 139 = .ok (.bastore, 1) := by decide +kernel
theorem dX12_makesSession_140 : decode cX12_makesSession 140 = .ok (.return_, 1) := by decide +kernel
theorem dX12_draws_0 : decode cX12_draws 0 = .ok (.iconst 0, 1) := by decide +kernel
theorem dX12_draws_1 : decode cX12_draws 1 = .ok (.istore_n 2, 1) := by decide +kernel
theorem dX12_draws_2 : decode cX12_draws 2 = .ok (.iload_n 2, 1) := by decide +kernel
theorem dX12_draws_3 : decode cX12_draws 3 = .ok (.bipush 8, 2) := by decide +kernel
theorem dX12_draws_5 : decode cX12_draws 5 = .ok (.if_icmp .ge 26, 3) := by decide +kernel
theorem dX12_draws_8 : decode cX12_draws 8 = .ok (.aload_n 0, 1) := by decide +kernel
theorem dX12_draws_9 : decode cX12_draws 9 = .ok (.getfield 215, 3) := by decide +kernel
theorem dX12_draws_12 : decode cX12_draws 12 = .ok (.bipush 8, 2) := by decide +kernel
theorem dX12_draws_14 : decode cX12_draws 14 = .ok (.iload_n 1, 1) := by decide +kernel
theorem dX12_draws_15 : decode cX12_draws 15 = .ok (.imul, 1) := by decide +kernel
theorem dX12_draws_16 : decode cX12_draws 16 = .ok (.iload_n 2, 1) := by decide +kernel
theorem dX12_draws_17 : decode cX12_draws 17 = .ok (.iadd, 1) := by decide +kernel
theorem dX12_draws_18 : decode cX12_draws 18 = .ok (.aload_n 0, 1) := by decide +kernel
theorem dX12_draws_19 : decode cX12_draws 19 = .ok (.iload_n 1, 1) := by decide +kernel
theorem dX12_draws_20 : decode cX12_draws 20 = .ok (.invokevirtual 480, 3) := by decide +kernel
theorem dX12_draws_23 : decode cX12_draws 23 = .ok (.i2b, 1) := by decide +kernel
theorem dX12_draws_24 : decode cX12_draws 24 = .ok (.bastore, 1) := by decide +kernel
theorem dX12_draws_25 : decode cX12_draws 25 = .ok (.iinc 2 1, 3) := by decide +kernel
theorem dX12_draws_28 : decode cX12_draws 28 = .ok (.goto (-26), 3) := by decide +kernel
theorem dX12_draws_31 : decode cX12_draws 31 = .ok (.iconst 0, 1) := by decide +kernel
theorem dX12_draws_32 : decode cX12_draws 32 = .ok (.istore_n 2, 1) := by decide +kernel
theorem dX12_draws_33 : decode cX12_draws 33 = .ok (.iload_n 2, 1) := by decide +kernel
theorem dX12_draws_34 : decode cX12_draws 34 = .ok (.iconst 4, 1) := by decide +kernel
theorem dX12_draws_35 : decode cX12_draws 35 = .ok (.if_icmp .ge 25, 3) := by decide +kernel
theorem dX12_draws_38 : decode cX12_draws 38 = .ok (.aload_n 0, 1) := by decide +kernel
theorem dX12_draws_39 : decode cX12_draws 39 = .ok (.getfield 218, 3) := by decide +kernel
theorem dX12_draws_42 : decode cX12_draws 42 = .ok (.iconst 4, 1) := by decide +kernel
theorem dX12_draws_43 : decode cX12_draws 43 = .ok (.iload_n 1, 1) := by decide +kernel
theorem dX12_draws_44 : decode cX12_draws 44 = .ok (.imul, 1) := by decide +kernel
theorem dX12_draws_45 : decode cX12_draws 45 = .ok (.iload_n 2, 1) := by decide +kernel
theorem dX12_draws_46 : decode cX12_draws 46 = .ok (.iadd, 1) := by decide +kernel
theorem dX12_draws_47 : decode cX12_draws 47 = .ok (.aload_n 0, 1) := by decide +kernel
theorem dX12_draws_48 : decode cX12_draws 48 = .ok (.iload_n 1, 1) := by decide +kernel
theorem dX12_draws_49 : decode cX12_draws 49 = .ok (.invokevirtual 480, 3) := by decide +kernel
theorem dX12_draws_52 : decode cX12_draws 52 = .ok (.i2b, 1) := by decide +kernel
theorem dX12_draws_53 : decode cX12_draws 53 = .ok (.bastore, 1) := by decide +kernel
theorem dX12_draws_54 : decode cX12_draws 54 = .ok (.iinc 2 1, 3) := by decide +kernel
theorem dX12_draws_57 : decode cX12_draws 57 = .ok (.goto (-24), 3) := by decide +kernel
theorem dX12_draws_60 : decode cX12_draws 60 = .ok (.return_, 1) := by decide +kernel
theorem dX12_addsDraws_0 : decode cX12_addsDraws 0 = .ok (.aload_n 0, 1) := by decide +kernel
theorem dX12_addsDraws_1 : decode cX12_addsDraws 1 = .ok (.getfield 260, 3) := by decide +kernel
theorem dX12_addsDraws_4 : decode cX12_addsDraws 4 = .ok (.iconst 0, 1) := by decide +kernel
theorem dX12_addsDraws_5 : decode cX12_addsDraws 5 = .ok (.iload_n 2, 1) := by decide +kernel
theorem dX12_addsDraws_6 : decode cX12_addsDraws 6 = .ok (.i2b, 1) := by decide +kernel
theorem dX12_addsDraws_7 : decode cX12_addsDraws 7 = .ok (.bastore, 1) := by decide +kernel
theorem dX12_addsDraws_8 : decode cX12_addsDraws 8 = .ok (.aload_n 0, 1) := by decide +kernel
theorem dX12_addsDraws_9 : decode cX12_addsDraws 9 = .ok (.getfield 215, 3) := by decide +kernel
theorem dX12_addsDraws_12 : decode cX12_addsDraws 12 = .ok (.bipush 8, 2) := by decide +kernel
theorem dX12_addsDraws_14 : decode cX12_addsDraws 14 = .ok (.iload_n 1, 1) := by decide +kernel
theorem dX12_addsDraws_15 : decode cX12_addsDraws 15 = .ok (.imul, 1) := by decide +kernel
theorem dX12_addsDraws_16 : decode cX12_addsDraws 16 = .ok (.aload_n 0, 1) := by decide +kernel
theorem dX12_addsDraws_17 : decode cX12_addsDraws 17 = .ok (.getfield 260, 3) := by decide +kernel
theorem dX12_addsDraws_20 : decode cX12_addsDraws 20 = .ok (.iconst 1, 1) := by decide +kernel
theorem dX12_addsDraws_21 : decode cX12_addsDraws 21 = .ok (.bipush 8, 2) := by decide +kernel
theorem dX12_addsDraws_23 : decode cX12_addsDraws 23 = .ok (.invokestatic 29, 3) := by decide +kernel
theorem dX12_addsDraws_26 : decode cX12_addsDraws 26 = .ok (.aload_n 0, 1) := by decide +kernel
theorem dX12_addsDraws_27 : decode cX12_addsDraws 27 = .ok (.getfield 218, 3) := by decide +kernel
theorem dX12_addsDraws_30 : decode cX12_addsDraws 30 = .ok (.iconst 4, 1) := by decide +kernel
theorem dX12_addsDraws_31 : decode cX12_addsDraws 31 = .ok (.iload_n 1, 1) := by decide +kernel
theorem dX12_addsDraws_32 : decode cX12_addsDraws 32 = .ok (.imul, 1) := by decide +kernel
theorem dX12_addsDraws_33 : decode cX12_addsDraws 33 = .ok (.aload_n 0, 1) := by decide +kernel
theorem dX12_addsDraws_34 : decode cX12_addsDraws 34 = .ok (.getfield 260, 3) := by decide +kernel
theorem dX12_addsDraws_37 : decode cX12_addsDraws 37 = .ok (.bipush 9, 2) := by decide +kernel
theorem dX12_addsDraws_39 : decode cX12_addsDraws 39 = .ok (.iconst 4, 1) := by decide +kernel
theorem dX12_addsDraws_40 : decode cX12_addsDraws 40 = .ok (.invokestatic 29, 3) := by decide +kernel
theorem dX12_addsDraws_43 : decode cX12_addsDraws 43 = .ok (.aload_n 0, 1) := by decide +kernel
theorem dX12_addsDraws_44 : decode cX12_addsDraws 44 = .ok (.iload_n 1, 1) := by decide +kernel
theorem dX12_addsDraws_45 : decode cX12_addsDraws 45 = .ok (.aload_n 0, 1) := by decide +kernel
theorem dX12_addsDraws_46 : decode cX12_addsDraws 46 = .ok (.getfield 260, 3) := by decide +kernel
theorem dX12_addsDraws_49 : decode cX12_addsDraws 49 = .ok (.bipush 13, 2) := by decide +kernel
theorem dX12_addsDraws_51 : decode cX12_addsDraws 51 = .ok (.invokevirtual 436, 3) := by decide +kernel
theorem dX12_addsDraws_54 : decode cX12_addsDraws 54 = .ok (.return_, 1) := by decide +kernel
theorem dX12_controlled_0 : decode cX12_controlled 0 = .ok (.aload_n 0, 1) := by decide +kernel
theorem dX12_controlled_1 : decode cX12_controlled 1 = .ok (.getfield 263, 3) := by decide +kernel
theorem dX12_controlled_4 : decode cX12_controlled 4 = .ok (.iconst 0, 1) := by decide +kernel
theorem dX12_controlled_5 : decode cX12_controlled 5 = .ok (.baload, 1) := by decide +kernel
theorem dX12_controlled_6 : decode cX12_controlled 6 = .ok (.sipush 255, 3) := by decide +kernel
theorem dX12_controlled_9 : decode cX12_controlled 9 = .ok (.iand, 1) := by decide +kernel
theorem dX12_controlled_10 : decode cX12_controlled 10 = .ok (.istore_n 3, 1) := by decide +kernel
theorem dX12_controlled_11 : decode cX12_controlled 11 = .ok (.iload_n 3, 1) := by decide +kernel
theorem dX12_controlled_12 : decode cX12_controlled 12 = .ok (.iconst 2, 1) := by decide +kernel
theorem dX12_controlled_13 : decode cX12_controlled 13 = .ok (.if_icmp .lt 9, 3) := by decide +kernel
theorem dX12_controlled_16 : decode cX12_controlled 16 = .ok (.iload_n 3, 1) := by decide +kernel
theorem dX12_controlled_17 : decode cX12_controlled 17 = .ok (.bipush 6, 2) := by decide +kernel
theorem dX12_controlled_19 : decode cX12_controlled 19 = .ok (.if_icmp .le 9, 3) := by decide +kernel
theorem dX12_controlled_22 : decode cX12_controlled 22 = .ok (.iload_n 3, 1) := by decide +kernel
theorem dX12_controlled_23 : decode cX12_controlled 23 = .ok (.bipush 13, 2) := by decide +kernel
theorem dX12_controlled_25 : decode cX12_controlled 25 = .ok (.if_icmp .ne 7, 3) := by decide +kernel
theorem dX12_controlled_28 : decode cX12_controlled 28 = .ok (.iconst 1, 1) := by decide +kernel
theorem dX12_controlled_29 : decode cX12_controlled 29 = .ok (.goto 4, 3) := by decide +kernel
theorem dX12_controlled_32 : decode cX12_controlled 32 = .ok (.iconst 0, 1) := by decide +kernel
theorem dX12_controlled_33 : decode cX12_controlled 33 = .ok (.istore 4, 2) := by decide +kernel
theorem dX12_controlled_35 : decode cX12_controlled 35 = .ok (.aload_n 0, 1) := by decide +kernel
theorem dX12_controlled_36 : decode cX12_controlled 36 = .ok (.getfield 191, 3) := by decide +kernel
theorem dX12_controlled_39 : decode cX12_controlled 39 = .ok (.iload_n 1, 1) := by decide +kernel
theorem dX12_controlled_40 : decode cX12_controlled 40 = .ok (.iaload, 1) := by decide +kernel
theorem dX12_controlled_41 : decode cX12_controlled 41 = .ok (.iconst 4, 1) := by decide +kernel
theorem dX12_controlled_42 : decode cX12_controlled 42 = .ok (.if_icmp .gt 17, 3) := by decide +kernel
theorem dX12_controlled_45 : decode cX12_controlled 45 = .ok (.aload_n 0, 1) := by decide +kernel
theorem dX12_controlled_46 : decode cX12_controlled 46 = .ok (.getfield 224, 3) := by decide +kernel
theorem dX12_controlled_49 : decode cX12_controlled 49 = .ok (.iload_n 1, 1) := by decide +kernel
theorem dX12_controlled_50 : decode cX12_controlled 50 = .ok (.baload, 1) := by decide +kernel
theorem dX12_controlled_51 : decode cX12_controlled 51 = .ok (.ifCond .eq 9, 3) := by decide +kernel
theorem dX12_controlled_54 : decode cX12_controlled 54 = .ok (.iload 4, 2) := by decide +kernel
theorem dX12_controlled_56 : decode cX12_controlled 56 = .ok (.ifCond .ne 4, 3) := by decide +kernel
theorem dX12_controlled_59 : decode cX12_controlled 59 = .ok (.return_, 1) := by decide +kernel
theorem dX12_controlled_60 : decode cX12_controlled 60 = .ok (.aload_n 0, 1) := by decide +kernel
theorem dX12_controlled_61 : decode cX12_controlled 61 = .ok (.getfield 45, 3) := by decide +kernel
theorem dX12_controlled_64 : decode cX12_controlled 64 = .ok (.iload_n 1, 1) := by decide +kernel
theorem dX12_controlled_65 : decode cX12_controlled 65 = .ok (.iaload, 1) := by decide +kernel
theorem dX12_controlled_66 : decode cX12_controlled 66 = .ok (.iconst 4, 1) := by decide +kernel
theorem dX12_controlled_67 : decode cX12_controlled 67 = .ok (.if_icmp .ne 7, 3) := by decide +kernel
theorem dX12_controlled_70 : decode cX12_controlled 70 = .ok (.iconst 1, 1) := by decide +kernel
theorem dX12_controlled_71 : decode cX12_controlled 71 = .ok (.goto 4, 3) := by decide +kernel
theorem dX12_controlled_74 : decode cX12_controlled 74 = .ok (.iconst 0, 1) := by decide +kernel
theorem dX12_controlled_75 : decode cX12_controlled 75 = .ok (.istore 5, 2) := by decide +kernel
theorem dX12_controlled_77 : decode cX12_controlled 77 = .ok (.iload_n 3, 1) := by decide +kernel
theorem dX12_controlled_78 : decode cX12_controlled 78 = .ok (.invokestatic 483, 3) := by decide +kernel
theorem dX12_controlled_81 : decode cX12_controlled 81 = .ok (.iload_n 2, 1) := by decide +kernel
theorem dX12_controlled_82 : decode cX12_controlled 82 = .ok (.iconst 1, 1) := by decide +kernel
theorem dX12_controlled_83 : decode cX12_controlled 83 = .ok (.isub, 1) := by decide +kernel
theorem dX12_controlled_84 : decode cX12_controlled 84 = .ok (.if_icmp .ne 37, 3) := by decide +kernel
theorem dX12_controlled_87 : decode cX12_controlled 87 = .ok (.iload 5, 2) := by decide +kernel
theorem dX12_controlled_89 : decode cX12_controlled 89 = .ok (.ifCond .eq 16, 3) := by decide +kernel
theorem dX12_controlled_92 : decode cX12_controlled 92 = .ok (.iload_n 3, 1) := by decide +kernel
theorem dX12_controlled_93 : decode cX12_controlled 93 = .ok (.iconst 1, 1) := by decide +kernel
theorem dX12_controlled_94 : decode cX12_controlled 94 = .ok (.if_icmp .eq 27, 3) := by decide +kernel
theorem dX12_controlled_97 : decode cX12_controlled 97 = .ok (.iload_n 3, 1) := by decide +kernel
theorem dX12_controlled_98 : decode cX12_controlled 98 = .ok (.iconst 3, 1) := by decide +kernel
theorem dX12_controlled_99 : decode cX12_controlled 99 = .ok (.if_icmp .ne 26, 3) := by decide +kernel
theorem dX12_controlled_102 : decode cX12_controlled 102 = .ok (.goto 19, 3) := by decide +kernel
theorem dX12_controlled_105 : decode cX12_controlled 105 = .ok (.iload_n 3, 1) := by decide +kernel
theorem dX12_controlled_106 : decode cX12_controlled 106 = .ok (.iconst 4, 1) := by decide +kernel
theorem dX12_controlled_107 : decode cX12_controlled 107 = .ok (.if_icmp .eq 14, 3) := by decide +kernel
theorem dX12_controlled_110 : decode cX12_controlled 110 = .ok (.iload_n 3, 1) := by decide +kernel
theorem dX12_controlled_111 : decode cX12_controlled 111 = .ok (.iconst 5, 1) := by decide +kernel
theorem dX12_controlled_112 : decode cX12_controlled 112 = .ok (.if_icmp .eq 9, 3) := by decide +kernel
theorem dX12_controlled_115 : decode cX12_controlled 115 = .ok (.iload_n 3, 1) := by decide +kernel
theorem dX12_controlled_116 : decode cX12_controlled 116 = .ok (.bipush 13, 2) := by decide +kernel
theorem dX12_controlled_118 : decode cX12_controlled 118 = .ok (.if_icmp .ne 7, 3) := by decide +kernel
theorem dX12_controlled_121 : decode cX12_controlled 121 = .ok (.iconst 1, 1) := by decide +kernel
theorem dX12_controlled_122 : decode cX12_controlled 122 = .ok (.goto 4, 3) := by decide +kernel
theorem dX12_controlled_125 : decode cX12_controlled 125 = .ok (.iconst 0, 1) := by decide +kernel
theorem dX12_controlled_126 : decode cX12_controlled 126 = .ok (.istore 6, 2) := by decide +kernel
theorem dX12_controlled_128 : decode cX12_controlled 128 = .ok (.iload 6, 2) := by decide +kernel
theorem dX12_controlled_130 : decode cX12_controlled 130 = .ok (.ifCond .eq 19, 3) := by decide +kernel
theorem dX12_controlled_133 : decode cX12_controlled 133 = .ok (.iload_n 3, 1) := by decide +kernel
theorem dX12_controlled_134 : decode cX12_controlled 134 = .ok (.bipush 7, 2) := by decide +kernel
theorem dX12_controlled_136 : decode cX12_controlled 136 = .ok (.if_icmp .eq 12, 3) := by decide +kernel
theorem dX12_controlled_139 : decode cX12_controlled 139 = .ok (.aload_n 0, 1) := by decide +kernel
theorem dX12_controlled_140 : decode cX12_controlled 140 = .ok (.iload_n 1, 1) := by decide +kernel
theorem dX12_controlled_141 : decode cX12_controlled 141 = .ok (.bipush 7, 2) := by decide +kernel
theorem dX12_controlled_143 : decode cX12_controlled 143 = .ok (.iload_n 3, 1) := by decide +kernel
theorem dX12_controlled_144 : decode cX12_controlled 144 = .ok (.iconst 1, 1) := by decide +kernel
theorem dX12_controlled_145 : decode cX12_controlled 145 = .ok (.invokevirtual 486, 3) := by decide +kernel
theorem dX12_controlled_148 : decode cX12_controlled 148 = .ok (.return_, 1) := by decide +kernel
theorem dX12_controlled_149 : decode cX12_controlled 149 = .ok (.iload_n 3, 1) := by decide +kernel
theorem dX12_controlled_150 : decode cX12_controlled 150 = .ok (.tableswitch 333 1 12 #[62, 156, 194, 194, 194, 194, 212, 234, 272, 333, 333, 292], 62) := by decide +kernel
theorem dX12_controlled_212 : decode cX12_controlled 212 = .ok (.aload_n 0, 1) := by decide +kernel
theorem dX12_controlled_213 : decode cX12_controlled 213 = .ok (.getfield 263, 3) := by decide +kernel
theorem dX12_controlled_216 : decode cX12_controlled 216 = .ok (.bipush 6, 2) := by decide +kernel
theorem dX12_controlled_218 : decode cX12_controlled 218 = .ok (.invokestatic 489, 3) := by decide +kernel
theorem dX12_controlled_221 : decode cX12_controlled 221 = .ok (.aload_n 0, 1) := by decide +kernel
theorem dX12_controlled_222 : decode cX12_controlled 222 = .ok (.getfield 112, 3) := by decide +kernel
theorem dX12_controlled_225 : decode cX12_controlled 225 = .ok (.iload_n 1, 1) := by decide +kernel
theorem dX12_controlled_226 : decode cX12_controlled 226 = .ok (.iaload, 1) := by decide +kernel
theorem dX12_controlled_227 : decode cX12_controlled 227 = .ok (.isub, 1) := by decide +kernel
theorem dX12_controlled_228 : decode cX12_controlled 228 = .ok (.ldc_w 493, 3) := by decide +kernel
theorem dX12_controlled_231 : decode cX12_controlled 231 = .ok (.iand, 1) := by decide +kernel
theorem dX12_controlled_232 : decode cX12_controlled 232 = .ok (.istore 7, 2) := by decide +kernel
theorem dX12_controlled_234 : decode cX12_controlled 234 = .ok (.iload 7, 2) := by decide +kernel
theorem dX12_controlled_236 : decode cX12_controlled 236 = .ok (.iconst 1, 1) := by decide +kernel
theorem dX12_controlled_237 : decode cX12_controlled 237 = .ok (.if_icmp .lt 11, 3) := by decide +kernel
theorem dX12_controlled_240 : decode cX12_controlled 240 = .ok (.iload 7, 2) := by decide +kernel
theorem dX12_controlled_242 : decode cX12_controlled 242 = .ok (.sipush 32767, 3) := by decide +kernel
theorem dX12_controlled_245 : decode cX12_controlled 245 = .ok (.if_icmp .le 13, 3) := by decide +kernel
theorem dX12_controlled_248 : decode cX12_controlled 248 = .ok (.aload_n 0, 1) := by decide +kernel
theorem dX12_controlled_249 : decode cX12_controlled 249 = .ok (.iload_n 1, 1) := by decide +kernel
theorem dX12_controlled_250 : decode cX12_controlled 250 = .ok (.bipush 40, 2) := by decide +kernel
theorem dX12_controlled_252 : decode cX12_controlled 252 = .ok (.invokevirtual 459, 3) := by decide +kernel
theorem dX12_controlled_255 : decode cX12_controlled 255 = .ok (.goto 282, 3) := by decide +kernel
theorem dX12_controlled_258 : decode cX12_controlled 258 = .ok (.aload_n 0, 1) := by decide +kernel
theorem dX12_controlled_259 : decode cX12_controlled 259 = .ok (.getfield 73, 3) := by decide +kernel
theorem dX12_controlled_262 : decode cX12_controlled 262 = .ok (.iload_n 1, 1) := by decide +kernel
theorem dX12_controlled_263 : decode cX12_controlled 263 = .ok (.aload_n 0, 1) := by decide +kernel
theorem dX12_controlled_264 : decode cX12_controlled 264 = .ok (.getfield 263, 3) := by decide +kernel
theorem dX12_controlled_267 : decode cX12_controlled 267 = .ok (.iconst 1, 1) := by decide +kernel
theorem dX12_controlled_268 : decode cX12_controlled 268 = .ok (.iconst 5, 1) := by decide +kernel
theorem dX12_controlled_269 : decode cX12_controlled 269 = .ok (.invokestatic 494, 3) := by decide +kernel
theorem dX12_controlled_272 : decode cX12_controlled 272 = .ok (.lastore, 1) := by decide +kernel
theorem dX12_controlled_273 : decode cX12_controlled 273 = .ok (.aload_n 0, 1) := by decide +kernel
theorem dX12_controlled_274 : decode cX12_controlled 274 = .ok (.getfield 139, 3) := by decide +kernel
