theorem dX12_asksFor_215 : decode cX12_asksFor 215 = .ok (.getfield 290, 3) := by decide +kernel
theorem dX12_asksFor_218 : decode cX12_asksFor 218 = .ok (.iconst 5, 1) := by decide +kernel
theorem dX12_asksFor_219 : decode cX12_asksFor 219 = .ok (.ldc2_w 613, 3) := by decide +kernel
theorem dX12_asksFor_222 : decode cX12_asksFor 222 = .ok (.iconst 2, 1) := by decide +kernel
theorem dX12_asksFor_223 : decode cX12_asksFor 223 = .ok (.invokestatic 432, 3) := by decide +kernel
theorem dX12_asksFor_226 : decode cX12_asksFor 226 = .ok (.aload_n 0, 1) := by decide +kernel
theorem dX12_asksFor_227 : decode cX12_asksFor 227 = .ok (.iload_n 1, 1) := by decide +kernel
theorem dX12_asksFor_228 : decode cX12_asksFor 228 = .ok (.bipush 8, 2) := by decide +kernel
theorem dX12_asksFor_230 : decode cX12_asksFor 230 = .ok (.bipush 7, 2) := by decide +kernel
theorem dX12_asksFor_232 : decode cX12_asksFor 232 = .ok (.invokevirtual 606, 3) := by decide +kernel
theorem dX12_asksFor_235 : decode cX12_asksFor 235 = .ok (.goto 104, 3) := by decide +kernel
theorem dX12_asksFor_238 : decode cX12_asksFor 238 = .ok (.aload_n 0, 1) := by decide +kernel
theorem dX12_asksFor_239 : decode cX12_asksFor 239 = .ok (.getfield 290, 3) := by decide +kernel
theorem dX12_asksFor_242 : decode cX12_asksFor 242 = .ok (.iconst 3, 1) := by decide +kernel
theorem dX12_asksFor_243 : decode cX12_asksFor 243 = .ok (.aload_n 0, 1) := by decide +kernel
theorem dX12_asksFor_244 : decode cX12_asksFor 244 = .ok (.getfield 371, 3) := by decide +kernel
theorem dX12_asksFor_247 : decode cX12_asksFor 247 = .ok (.iload_n 1, 1) := by decide +kernel
theorem dX12_asksFor_248 : decode cX12_asksFor 248 = .ok (.iaload, 1) := by decide +kernel
theorem dX12_asksFor_249 : decode cX12_asksFor 249 = .ok (.i2l, 1) := by decide +kernel
theorem dX12_asksFor_250 : decode cX12_asksFor 250 = .ok (.iconst 2, 1) := by decide +kernel
theorem dX12_asksFor_251 : decode cX12_asksFor 251 = .ok (.invokestatic 432, 3) := by decide +kernel
theorem dX12_asksFor_254 : decode cX12_asksFor 254 = .ok (.aload_n 0, 1) := by decide +kernel
theorem dX12_asksFor_255 : decode cX12_asksFor 255 = .ok (.iload_n 1, 1) := by decide +kernel
theorem dX12_asksFor_256 : decode cX12_asksFor 256 = .ok (.iconst 4, 1) := by decide +kernel
theorem dX12_asksFor_257 : decode cX12_asksFor 257 = .ok (.iconst 5, 1) := by decide +kernel
theorem dX12_asksFor_258 : decode cX12_asksFor 258 = .ok (.invokevirtual 606, 3) := by decide +kernel
theorem dX12_asksFor_261 : decode cX12_asksFor 261 = .ok (.goto 78, 3) := by decide +kernel
theorem dX12_asksFor_264 : decode cX12_asksFor 264 = .ok (.aload_n 0, 1) := by decide +kernel
theorem dX12_asksFor_265 : decode cX12_asksFor 265 = .ok (.getfield 290, 3) := by decide +kernel
theorem dX12_asksFor_268 : decode cX12_asksFor 268 = .ok (.iconst 1, 1) := by decide +kernel
theorem dX12_asksFor_269 : decode cX12_asksFor 269 = .ok (.aload_n 0, 1) := by decide +kernel
theorem dX12_asksFor_270 : decode cX12_asksFor 270 = .ok (.getfield 368, 3) := by decide +kernel
theorem dX12_asksFor_273 : decode cX12_asksFor 273 = .ok (.iload_n 1, 1) := by decide +kernel
theorem dX12_asksFor_274 : decode cX12_asksFor 274 = .ok (.iaload, 1) := by decide +kernel
theorem dX12_asksFor_275 : decode cX12_asksFor 275 = .ok (.i2l, 1) := by decide +kernel
theorem dX12_asksFor_276 : decode cX12_asksFor 276 = .ok (.iconst 2, 1) := by decide +kernel
theorem dX12_asksFor_277 : decode cX12_asksFor 277 = .ok (.invokestatic 432, 3) := by decide +kernel
theorem dX12_asksFor_280 : decode cX12_asksFor 280 = .ok (.aload_n 0, 1) := by decide +kernel
theorem dX12_asksFor_281 : decode cX12_asksFor 281 = .ok (.getfield 290, 3) := by decide +kernel
theorem dX12_asksFor_284 : decode cX12_asksFor 284 = .ok (.iconst 3, 1) := by decide +kernel
theorem dX12_asksFor_285 : decode cX12_asksFor 285 = .ok (.aload_n 0, 1) := by decide +kernel
theorem dX12_asksFor_286 : decode cX12_asksFor 286 = .ok (.getfield 377, 3) := by decide +kernel
theorem dX12_asksFor_289 : decode cX12_asksFor 289 = .ok (.iload_n 1, 1) := by decide +kernel
theorem dX12_asksFor_290 : decode cX12_asksFor 290 = .ok (.iaload, 1) := by decide +kernel
theorem dX12_asksFor_291 : decode cX12_asksFor 291 = .ok (.i2l, 1) := by decide +kernel
theorem dX12_asksFor_292 : decode cX12_asksFor 292 = .ok (.iconst 2, 1) := by decide +kernel
theorem dX12_asksFor_293 : decode cX12_asksFor 293 = .ok (.invokestatic 432, 3) := by decide +kernel
theorem dX12_asksFor_296 : decode cX12_asksFor 296 = .ok (.aload_n 0, 1) := by decide +kernel
theorem dX12_asksFor_297 : decode cX12_asksFor 297 = .ok (.iload_n 1, 1) := by decide +kernel
theorem dX12_asksFor_298 : decode cX12_asksFor 298 = .ok (.aload_n 0, 1) := by decide +kernel
theorem dX12_asksFor_299 : decode cX12_asksFor 299 = .ok (.getfield 377, 3) := by decide +kernel
theorem dX12_asksFor_302 : decode cX12_asksFor 302 = .ok (.iload_n 1, 1) := by decide +kernel
theorem dX12_asksFor_303 : decode cX12_asksFor 303 = .ok (.iaload, 1) := by decide +kernel
theorem dX12_asksFor_304 : decode cX12_asksFor 304 = .ok (.ifCond .ne 8, 3) := by decide +kernel
theorem dX12_asksFor_307 : decode cX12_asksFor 307 = .ok (.bipush 10, 2) := by decide +kernel
theorem dX12_asksFor_309 : decode cX12_asksFor 309 = .ok (.goto 5, 3) := by decide +kernel
theorem dX12_asksFor_312 : decode cX12_asksFor 312 = .ok (.bipush 12, 2) := by decide +kernel
theorem dX12_asksFor_314 : decode cX12_asksFor 314 = .ok (.aload_n 0, 1) := by decide +kernel
theorem dX12_asksFor_315 : decode cX12_asksFor 315 = .ok (.getfield 377, 3) := by decide +kernel
theorem dX12_asksFor_318 : decode cX12_asksFor 318 = .ok (.iload_n 1, 1) := by decide +kernel
theorem dX12_asksFor_319 : decode cX12_asksFor 319 = .ok (.iaload, 1) := by decide +kernel
theorem dX12_asksFor_320 : decode cX12_asksFor 320 = .ok (.ifCond .ne 7, 3) := by decide +kernel
theorem dX12_asksFor_323 : decode cX12_asksFor 323 = .ok (.iconst 3, 1) := by decide +kernel
theorem dX12_asksFor_324 : decode cX12_asksFor 324 = .ok (.goto 4, 3) := by decide +kernel
theorem dX12_asksFor_327 : decode cX12_asksFor 327 = .ok (.iconst 5, 1) := by decide +kernel
theorem dX12_asksFor_328 : decode cX12_asksFor 328 = .ok (.invokevirtual 606, 3) := by decide +kernel
theorem dX12_asksFor_331 : decode cX12_asksFor 331 = .ok (.goto 8, 3) := by decide +kernel
theorem dX12_asksFor_334 : decode cX12_asksFor 334 = .ok (.aload_n 0, 1) := by decide +kernel
theorem dX12_asksFor_335 : decode cX12_asksFor 335 = .ok (.iload_n 1, 1) := by decide +kernel
theorem dX12_asksFor_336 : decode cX12_asksFor 336 = .ok (.invokevirtual 615, 3) := by decide +kernel
theorem dX12_asksFor_339 : decode cX12_asksFor 339 = .ok (.return_, 1) := by decide +kernel
theorem dX12_asksToWrite_0 : decode cX12_asksToWrite 0 = .ok (.aload_n 0, 1) := by decide +kernel
theorem dX12_asksToWrite_1 : decode cX12_asksToWrite 1 = .ok (.getfield 290, 3) := by decide +kernel
theorem dX12_asksToWrite_4 : decode cX12_asksToWrite 4 = .ok (.iconst 1, 1) := by decide +kernel
theorem dX12_asksToWrite_5 : decode cX12_asksToWrite 5 = .ok (.aload_n 0, 1) := by decide +kernel
theorem dX12_asksToWrite_6 : decode cX12_asksToWrite 6 = .ok (.getfield 368, 3) := by decide +kernel
theorem dX12_asksToWrite_9 : decode cX12_asksToWrite 9 = .ok (.iload_n 1, 1) := by decide +kernel
theorem dX12_asksToWrite_10 : decode cX12_asksToWrite 10 = .ok (.iaload, 1) := by decide +kernel
theorem dX12_asksToWrite_11 : decode cX12_asksToWrite 11 = .ok (.i2l, 1) := by decide +kernel
theorem dX12_asksToWrite_12 : decode cX12_asksToWrite 12 = .ok (.iconst 2, 1) := by decide +kernel
theorem dX12_asksToWrite_13 : decode cX12_asksToWrite 13 = .ok (.invokestatic 432, 3) := by decide +kernel
theorem dX12_asksToWrite_16 : decode cX12_asksToWrite 16 = .ok (.aload_n 0, 1) := by decide +kernel
theorem dX12_asksToWrite_17 : decode cX12_asksToWrite 17 = .ok (.getfield 377, 3) := by decide +kernel
theorem dX12_asksToWrite_20 : decode cX12_asksToWrite 20 = .ok (.iload_n 1, 1) := by decide +kernel
theorem dX12_asksToWrite_21 : decode cX12_asksToWrite 21 = .ok (.iaload, 1) := by decide +kernel
theorem dX12_asksToWrite_22 : decode cX12_asksToWrite 22 = .ok (.ifCond .ne 60, 3) := by decide +kernel
theorem dX12_asksToWrite_25 : decode cX12_asksToWrite 25 = .ok (.aload_n 0, 1) := by decide +kernel
theorem dX12_asksToWrite_26 : decode cX12_asksToWrite 26 = .ok (.getfield 380, 3) := by decide +kernel
theorem dX12_asksToWrite_29 : decode cX12_asksToWrite 29 = .ok (.iload_n 1, 1) := by decide +kernel
theorem dX12_asksToWrite_30 : decode cX12_asksToWrite 30 = .ok (.iaload, 1) := by decide +kernel
theorem dX12_asksToWrite_31 : decode cX12_asksToWrite 31 = .ok (.aload_n 0, 1) := by decide +kernel
theorem dX12_asksToWrite_32 : decode cX12_asksToWrite 32 = .ok (.getfield 332, 3) := by decide +kernel
theorem dX12_asksToWrite_35 : decode cX12_asksToWrite 35 = .ok (.iload_n 1, 1) := by decide +kernel
theorem dX12_asksToWrite_36 : decode cX12_asksToWrite 36 = .ok (.iaload, 1) := by decide +kernel
theorem dX12_asksToWrite_37 : decode cX12_asksToWrite 37 = .ok (.iconst 3, 1) := by decide +kernel
theorem dX12_asksToWrite_38 : decode cX12_asksToWrite 38 = .ok (.isub, 1) := by decide +kernel
theorem dX12_asksToWrite_39 : decode cX12_asksToWrite 39 = .ok (.if_icmp .gt 43, 3) := by decide +kernel
theorem dX12_asksToWrite_42 : decode cX12_asksToWrite 42 = .ok (.aload_n 0, 1) := by decide +kernel
theorem dX12_asksToWrite_43 : decode cX12_asksToWrite 43 = .ok (.getfield 383, 3) := by decide +kernel
theorem dX12_asksToWrite_46 : decode cX12_asksToWrite 46 = .ok (.bipush 40, 2) := by decide +kernel
theorem dX12_asksToWrite_48 : decode cX12_asksToWrite 48 = .ok (.iload_n 1, 1) := by decide +kernel
theorem dX12_asksToWrite_49 : decode cX12_asksToWrite 49 = .ok (.imul, 1) := by decide +kernel
theorem dX12_asksToWrite_50 : decode cX12_asksToWrite 50 = .ok (.aload_n 0, 1) := by decide +kernel
theorem dX12_asksToWrite_51 : decode cX12_asksToWrite 51 = .ok (.getfield 290, 3) := by decide +kernel
theorem dX12_asksToWrite_54 : decode cX12_asksToWrite 54 = .ok (.iconst 3, 1) := by decide +kernel
theorem dX12_asksToWrite_55 : decode cX12_asksToWrite 55 = .ok (.aload_n 0, 1) := by decide +kernel
theorem dX12_asksToWrite_56 : decode cX12_asksToWrite 56 = .ok (.getfield 380, 3) := by decide +kernel
theorem dX12_asksToWrite_59 : decode cX12_asksToWrite 59 = .ok (.iload_n 1, 1) := by decide +kernel
theorem dX12_asksToWrite_60 : decode cX12_asksToWrite 60 = .ok (.iaload, 1) := by decide +kernel
theorem dX12_asksToWrite_61 : decode cX12_asksToWrite 61 = .ok (.invokestatic 29, 3) := by decide +kernel
theorem dX12_asksToWrite_64 : decode cX12_asksToWrite 64 = .ok (.aload_n 0, 1) := by decide +kernel
theorem dX12_asksToWrite_65 : decode cX12_asksToWrite 65 = .ok (.iload_n 1, 1) := by decide +kernel
theorem dX12_asksToWrite_66 : decode cX12_asksToWrite 66 = .ok (.bipush 18, 2) := by decide +kernel
theorem dX12_asksToWrite_68 : decode cX12_asksToWrite 68 = .ok (.iconst 3, 1) := by decide +kernel
theorem dX12_asksToWrite_69 : decode cX12_asksToWrite 69 = .ok (.aload_n 0, 1) := by decide +kernel
theorem dX12_asksToWrite_70 : decode cX12_asksToWrite 70 = .ok (.getfield 380, 3) := by decide +kernel
theorem dX12_asksToWrite_73 : decode cX12_asksToWrite 73 = .ok (.iload_n 1, 1) := by decide +kernel
theorem dX12_asksToWrite_74 : decode cX12_asksToWrite 74 = .ok (.iaload, 1) := by decide +kernel
theorem dX12_asksToWrite_75 : decode cX12_asksToWrite 75 = .ok (.iadd, 1) := by decide +kernel
theorem dX12_asksToWrite_76 : decode cX12_asksToWrite 76 = .ok (.invokevirtual 606, 3) := by decide +kernel
theorem dX12_asksToWrite_79 : decode cX12_asksToWrite 79 = .ok (.goto 121, 3) := by decide +kernel
theorem dX12_asksToWrite_82 : decode cX12_asksToWrite 82 = .ok (.aload_n 0, 1) := by decide +kernel
theorem dX12_asksToWrite_83 : decode cX12_asksToWrite 83 = .ok (.getfield 377, 3) := by decide +kernel
theorem dX12_asksToWrite_86 : decode cX12_asksToWrite 86 = .ok (.iload_n 1, 1) := by decide +kernel
theorem dX12_asksToWrite_87 : decode cX12_asksToWrite 87 = .ok (.iaload, 1) := by decide +kernel
theorem dX12_asksToWrite_88 : decode cX12_asksToWrite 88 = .ok (.aload_n 0, 1) := by decide +kernel
theorem dX12_asksToWrite_89 : decode cX12_asksToWrite 89 = .ok (.getfield 380, 3) := by decide +kernel
theorem dX12_asksToWrite_92 : decode cX12_asksToWrite 92 = .ok (.iload_n 1, 1) := by decide +kernel
theorem dX12_asksToWrite_93 : decode cX12_asksToWrite 93 = .ok (.iaload, 1) := by decide +kernel
theorem dX12_asksToWrite_94 : decode cX12_asksToWrite 94 = .ok (.if_icmp .ge 91, 3) := by decide +kernel
theorem dX12_asksToWrite_97 : decode cX12_asksToWrite 97 = .ok (.aload_n 0, 1) := by decide +kernel
theorem dX12_asksToWrite_98 : decode cX12_asksToWrite 98 = .ok (.getfield 332, 3) := by decide +kernel
theorem dX12_asksToWrite_101 : decode cX12_asksToWrite 101 = .ok (.iload_n 1, 1) := by decide +kernel
theorem dX12_asksToWrite_102 : decode cX12_asksToWrite 102 = .ok (.iaload, 1) := by decide +kernel
theorem dX12_asksToWrite_103 : decode cX12_asksToWrite 103 = .ok (.iconst 5, 1) := by decide +kernel
theorem dX12_asksToWrite_104 : decode cX12_asksToWrite 104 = .ok (.isub, 1) := by decide +kernel
theorem dX12_asksToWrite_105 : decode cX12_asksToWrite 105 = .ok (.aload_n 0, 1) := by decide +kernel
theorem dX12_asksToWrite_106 : decode cX12_asksToWrite 106 = .ok (.getfield 380, 3) := by decide +kernel
theorem dX12_asksToWrite_109 : decode cX12_asksToWrite 109 = .ok (.iload_n 1, 1) := by decide +kernel
theorem dX12_asksToWrite_110 : decode cX12_asksToWrite 110 = .ok (.iaload, 1) := by decide +kernel
theorem dX12_asksToWrite_111 : decode cX12_asksToWrite 111 = .ok (.aload_n 0, 1) := by decide +kernel
theorem dX12_asksToWrite_112 : decode cX12_asksToWrite 112 = .ok (.getfield 377, 3) := by decide +kernel
theorem dX12_asksToWrite_115 : decode cX12_asksToWrite 115 = .ok (.iload_n 1, 1) := by decide +kernel
theorem dX12_asksToWrite_116 : decode cX12_asksToWrite 116 = .ok (.iaload, 1) := by decide +kernel
theorem dX12_asksToWrite_117 : decode cX12_asksToWrite 117 = .ok (.isub, 1) := by decide +kernel
theorem dX12_asksToWrite_118 : decode cX12_asksToWrite 118 = .ok (.invokestatic 404, 3) := by decide +kernel
theorem dX12_asksToWrite_121 : decode cX12_asksToWrite 121 = .ok (.istore_n 2, 1) := by decide +kernel
theorem dX12_asksToWrite_122 : decode cX12_asksToWrite 122 = .ok (.aload_n 0, 1) := by decide +kernel
theorem dX12_asksToWrite_123 : decode cX12_asksToWrite 123 = .ok (.getfield 290, 3) := by decide +kernel
theorem dX12_asksToWrite_126 : decode cX12_asksToWrite 126 = .ok (.iconst 3, 1) := by decide +kernel
theorem dX12_asksToWrite_127 : decode cX12_asksToWrite 127 = .ok (.aload_n 0, 1) := by decide +kernel
theorem dX12_asksToWrite_128 : decode cX12_asksToWrite 128 = .ok (.getfield 377, 3) := by decide +kernel
theorem dX12_asksToWrite_131 : decode cX12_asksToWrite 131 = .ok (.iload_n 1, 1) := by decide +kernel
theorem dX12_asksToWrite_132 : decode cX12_asksToWrite 132 = .ok (.iaload, 1) := by decide +kernel
theorem dX12_asksToWrite_133 : decode cX12_asksToWrite 133 = .ok (.i2l, 1) := by decide +kernel
theorem dX12_asksToWrite_134 : decode cX12_asksToWrite 134 = .ok (.iconst 2, 1) := by decide +kernel
theorem dX12_asksToWrite_135 : decode cX12_asksToWrite 135 = .ok (.invokestatic 432, 3) := by decide +kernel
theorem dX12_asksToWrite_138 : decode cX12_asksToWrite 138 = .ok (.aload_n 0, 1) := by decide +kernel
theorem dX12_asksToWrite_139 : decode cX12_asksToWrite 139 = .ok (.getfield 383, 3) := by decide +kernel
theorem dX12_asksToWrite_142 : decode cX12_asksToWrite 142 = .ok (.bipush 40, 2) := by decide +kernel
theorem dX12_asksToWrite_144 : decode cX12_asksToWrite 144 = .ok (.iload_n 1, 1) := by decide +kernel
theorem dX12_asksToWrite_145 : decode cX12_asksToWrite 145 = .ok (.imul, 1) := by decide +kernel
theorem dX12_asksToWrite_146 : decode cX12_asksToWrite 146 = .ok (.aload_n 0, 1) := by decide +kernel
theorem dX12_asksToWrite_147 : decode cX12_asksToWrite 147 = .ok (.getfield 377, 3) := by decide +kernel
theorem dX12_asksToWrite_150 : decode cX12_asksToWrite 150 = .ok (.iload_n 1, 1) := by decide +kernel
theorem dX12_asksToWrite_151 : decode cX12_asksToWrite 151 = .ok (.iaload, 1) := by decide +kernel
theorem dX12_asksToWrite_152 : decode cX12_asksToWrite 152 = .ok (.iadd, 1) := by decide +kernel
theorem dX12_asksToWrite_153 : decode cX12_asksToWrite 153 = .ok (.aload_n 0, 1) := by decide +kernel
theorem dX12_asksToWrite_154 : decode cX12_asksToWrite 154 = .ok (.getfield 290, 3) := by decide +kernel
theorem dX12_asksToWrite_157 : decode cX12_asksToWrite 157 = .ok (.iconst 5, 1) := by decide +kernel
theorem dX12_asksToWrite_158 : decode cX12_asksToWrite 158 = .ok (.iload_n 2, 1) := by decide +kernel
theorem dX12_asksToWrite_159 : decode cX12_asksToWrite 159 = .ok (.invokestatic 29, 3) := by decide +kernel
theorem dX12_asksToWrite_162 : decode cX12_asksToWrite 162 = .ok (.aload_n 0, 1) := by decide +kernel
theorem dX12_asksToWrite_163 : decode cX12_asksToWrite 163 = .ok (.getfield 377, 3) := by decide +kernel
theorem dX12_asksToWrite_166 : decode cX12_asksToWrite 166 = .ok (.iload_n 1, 1) := by decide +kernel
theorem dX12_asksToWrite_167 : decode cX12_asksToWrite 167 = .ok (.dup2, 1) := by decide +kernel
theorem dX12_asksToWrite_168 : decode cX12_asksToWrite 168 = .ok (.iaload, 1) := by decide +kernel
theorem dX12_asksToWrite_169 : decode cX12_asksToWrite 169 = .ok (.iload_n 2, 1) := by decide +kernel
theorem dX12_asksToWrite_170 : decode cX12_asksToWrite 170 = .ok (.iadd, 1) := by decide +kernel
theorem dX12_asksToWrite_171 : decode cX12_asksToWrite 171 = .ok (.iastore, 1) := by decide +kernel
theorem dX12_asksToWrite_172 : decode cX12_asksToWrite 172 = .ok (.aload_n 0, 1) := by decide +kernel
theorem dX12_asksToWrite_173 : decode cX12_asksToWrite 173 = .ok (.iload_n 1, 1) := by decide +kernel
theorem dX12_asksToWrite_174 : decode cX12_asksToWrite 174 = .ok (.bipush 22, 2) := by decide +kernel
theorem dX12_asksToWrite_176 : decode cX12_asksToWrite 176 = .ok (.iconst 5, 1) := by decide +kernel
theorem dX12_asksToWrite_177 : decode cX12_asksToWrite 177 = .ok (.iload_n 2, 1) := by decide +kernel
theorem dX12_asksToWrite_178 : decode cX12_asksToWrite 178 = .ok (.iadd, 1) := by decide +kernel
theorem dX12_asksToWrite_179 : decode cX12_asksToWrite 179 = .ok (.invokevirtual 606, 3) := by decide +kernel
theorem dX12_asksToWrite_182 : decode cX12_asksToWrite 182 = .ok (.goto 18, 3) := by decide +kernel
theorem dX12_asksToWrite_185 : decode cX12_asksToWrite 185 = .ok (.aload_n 0, 1) := by decide +kernel
theorem dX12_asksToWrite_186 : decode cX12_asksToWrite 186 = .ok (.getfield 290, 3) := by decide +kernel
theorem dX12_asksToWrite_189 : decode cX12_asksToWrite 189 = .ok (.iconst 1, 1) := by decide +kernel
theorem dX12_asksToWrite_190 : decode cX12_asksToWrite 190 = .ok (.iconst 1, 1) := by decide +kernel
theorem dX12_asksToWrite_191 : decode cX12_asksToWrite 191 = .ok (.bastore, 1) := by decide +kernel
theorem dX12_asksToWrite_192 : decode cX12_asksToWrite 192 = .ok (.aload_n 0, 1) := by decide +kernel
theorem dX12_asksToWrite_193 : decode cX12_asksToWrite 193 = .ok (.iload_n 1, 1) := by decide +kernel
theorem dX12_asksToWrite_194 : decode cX12_asksToWrite 194 = .ok (.bipush 24, 2) := by decide +kernel
theorem dX12_asksToWrite_196 : decode cX12_asksToWrite 196 = .ok (.iconst 2, 1) := by decide +kernel
theorem dX12_asksToWrite_197 : decode cX12_asksToWrite 197 = .ok (.invokevirtual 606, 3) := by decide +kernel
theorem dX12_asksToWrite_200 : decode cX12_asksToWrite 200 = .ok (.return_, 1) := by decide +kernel
theorem dX12_ends_0 : decode cX12_ends 0 = .ok (.aload_n 0, 1) := by decide +kernel
theorem dX12_ends_1 : decode cX12_ends 1 = .ok (.getfield 365, 3) := by decide +kernel
theorem dX12_ends_4 : decode cX12_ends 4 = .ok (.iload_n 1, 1) := by decide +kernel
theorem dX12_ends_5 : decode cX12_ends 5 = .ok (.iaload, 1) := by decide +kernel
theorem dX12_ends_6 : decode cX12_ends 6 = .ok (.istore_n 2, 1) := by decide +kernel
theorem dX12_ends_7 : decode cX12_ends 7 = .ok (.aload_n 0, 1) := by decide +kernel
theorem dX12_ends_8 : decode cX12_ends 8 = .ok (.getfield 365, 3) := by decide +kernel
theorem dX12_ends_11 : decode cX12_ends 11 = .ok (.iload_n 1, 1) := by decide +kernel
theorem dX12_ends_12 : decode cX12_ends 12 = .ok (.iconst (-1), 1) := by decide +kernel
theorem dX12_ends_13 : decode cX12_ends 13 = .ok (.iastore, 1) := by decide +kernel
theorem dX12_ends_14 : decode cX12_ends 14 = .ok (.aload_n 0, 1) := by decide +kernel
theorem dX12_ends_15 : decode cX12_ends 15 = .ok (.iload_n 1, 1) := by decide +kernel
theorem dX12_ends_16 : decode cX12_ends 16 = .ok (.bipush 8, 2) := by decide +kernel
theorem dX12_ends_18 : decode cX12_ends 18 = .ok (.iload_n 2, 1) := by decide +kernel
theorem dX12_ends_19 : decode cX12_ends 19 = .ok (.iconst 0, 1) := by decide +kernel
theorem dX12_ends_20 : decode cX12_ends 20 = .ok (.iconst 0, 1) := by decide +kernel
theorem dX12_ends_21 : decode cX12_ends 21 = .ok (.invokevirtual 504, 3) := by decide +kernel
theorem dX12_ends_24 : decode cX12_ends 24 = .ok (.return_, 1) := by decide +kernel
theorem dX12_areRows_0 : decode cX12_areRows 0 = .ok (.iload_n 2, 1) := by decide +kernel
theorem dX12_areRows_1 : decode cX12_areRows 1 = .ok (.iload_n 3, 1) := by decide +kernel
theorem dX12_areRows_2 : decode cX12_areRows 2 = .ok (.if_icmp .lt 20, 3) := by decide +kernel
theorem dX12_areRows_5 : decode cX12_areRows 5 = .ok (.iload_n 0, 1) := by decide +kernel
theorem dX12_areRows_6 : decode cX12_areRows 6 = .ok (.iload_n 1, 1) := by decide +kernel
theorem dX12_areRows_7 : decode cX12_areRows 7 = .ok (.if_icmp .le 15, 3) := by decide +kernel
theorem dX12_areRows_10 : decode cX12_areRows 10 = .ok (.iload_n 0, 1) := by decide +kernel
theorem dX12_areRows_11 : decode cX12_areRows 11 = .ok (.iload_n 1, 1) := by decide +kernel
theorem dX12_areRows_12 : decode cX12_areRows 12 = .ok (.isub, 1) := by decide +kernel
theorem dX12_areRows_13 : decode cX12_areRows 13 = .ok (.iload_n 2, 1) := by decide +kernel
theorem dX12_areRows_14 : decode cX12_areRows 14 = .ok (.irem, 1) := by decide +kernel
theorem dX12_areRows_15 : decode cX12_areRows 15 = .ok (.ifCond .ne 7, 3) := by decide +kernel
theorem dX12_areRows_18 : decode cX12_areRows 18 = .ok (.iconst 1, 1) := by decide +kernel
theorem dX12_areRows_19 : decode cX12_areRows 19 = .ok (.goto 4, 3) := by decide +kernel
theorem dX12_areRows_22 : decode cX12_areRows 22 = .ok (.iconst 0, 1) := by decide +kernel
theorem dX12_areRows_23 : decode cX12_areRows 23 = .ok (.ireturn, 1) := by decide +kernel
theorem dX12_isAnswer_0 : decode cX12_isAnswer 0 = .ok (.iload_n 1, 1) := by decide +kernel
theorem dX12_isAnswer_1 : decode cX12_isAnswer 1 = .ok (.tableswitch 239 3 25 #[107, 239, 118, 239, 149, 239, 157, 239, 239, 239, 239, 239, 239, 239, 187, 239, 228, 239, 239, 239, 217, 239, 228], 107) := by decide +kernel
theorem dX12_isAnswer_108 : decode cX12_isAnswer 108 = .ok (.iload_n 2, 1) := by decide +kernel
theorem dX12_isAnswer_109 : decode cX12_isAnswer 109 = .ok (.iconst 3, 1) := by decide +kernel
theorem dX12_isAnswer_110 : decode cX12_isAnswer 110 = .ok (.if_icmp .ne 7, 3) := by decide +kernel
theorem dX12_isAnswer_113 : decode cX12_isAnswer 113 = .ok (.iconst 1, 1) := by decide +kernel
theorem dX12_isAnswer_114 : decode cX12_isAnswer 114 = .ok (.goto 4, 3) := by decide +kernel
theorem dX12_isAnswer_117 : decode cX12_isAnswer 117 = .ok (.iconst 0, 1) := by decide +kernel
theorem dX12_isAnswer_118 : decode cX12_isAnswer 118 = .ok (.ireturn, 1) := by decide +kernel
theorem dX12_isAnswer_119 : decode cX12_isAnswer 119 = .ok (.iload_n 2, 1) := by decide +kernel
theorem dX12_isAnswer_120 : decode cX12_isAnswer 120 = .ok (.iconst 2, 1) := by decide +kernel
theorem dX12_isAnswer_121 : decode cX12_isAnswer 121 = .ok (.if_icmp .le 27, 3) := by decide +kernel
theorem dX12_isAnswer_124 : decode cX12_isAnswer 124 = .ok (.aload_n 0, 1) := by decide +kernel
theorem dX12_isAnswer_125 : decode cX12_isAnswer 125 = .ok (.getfield 293, 3) := by decide +kernel
theorem dX12_isAnswer_128 : decode cX12_isAnswer 128 = .ok (.iconst 1, 1) := by decide +kernel
theorem dX12_isAnswer_129 : decode cX12_isAnswer 129 = .ok (.baload, 1) := by decide +kernel
theorem dX12_isAnswer_130 : decode cX12_isAnswer 130 = .ok (.iconst 1, 1) := by decide +kernel
theorem dX12_isAnswer_131 : decode cX12_isAnswer 131 = .ok (.if_icmp .ne 17, 3) := by decide +kernel
theorem dX12_isAnswer_134 : decode cX12_isAnswer 134 = .ok (.iload_n 2, 1) := by decide +kernel
theorem dX12_isAnswer_135 : decode cX12_isAnswer 135 = .ok (.iconst 2, 1) := by decide +kernel
theorem dX12_isAnswer_136 : decode cX12_isAnswer 136 = .ok (.iconst 4, 1) := by decide +kernel
theorem dX12_isAnswer_137 : decode cX12_isAnswer 137 = .ok (.iconst 4, 1) := by decide +kernel
theorem dX12_isAnswer_138 : decode cX12_isAnswer 138 = .ok (.invokestatic 618, 3) := by decide +kernel
theorem dX12_isAnswer_141 : decode cX12_isAnswer 141 = .ok (.ifCond .eq 7, 3) := by decide +kernel
theorem dX12_isAnswer_144 : decode cX12_isAnswer 144 = .ok (.iconst 1, 1) := by decide +kernel
theorem dX12_isAnswer_145 : decode cX12_isAnswer 145 = .ok (.goto 4, 3) := by decide +kernel
theorem dX12_isAnswer_148 : decode cX12_isAnswer 148 = .ok (.iconst 0, 1) := by decide +kernel
theorem dX12_isAnswer_149 : decode cX12_isAnswer 149 = .ok (.ireturn, 1) := by decide +kernel
theorem dX12_isAnswer_150 : decode cX12_isAnswer 150 = .ok (.iload_n 2, 1) := by decide +kernel
theorem dX12_isAnswer_151 : decode cX12_isAnswer 151 = .ok (.iconst 1, 1) := by decide +kernel
theorem dX12_isAnswer_152 : decode cX12_isAnswer 152 = .ok (.iconst 4, 1) := by decide +kernel
theorem dX12_isAnswer_153 : decode cX12_isAnswer 153 = .ok (.iconst 4, 1) := by decide +kernel
theorem dX12_isAnswer_154 : decode cX12_isAnswer 154 = .ok (.invokestatic 618, 3) := by decide +kernel
theorem dX12_isAnswer_157 : decode cX12_isAnswer 157 = .ok (.ireturn, 1) := by decide +kernel
theorem dX12_isAnswer_158 : decode cX12_isAnswer 158 = .ok (.iload_n 2, 1) := by decide +kernel
theorem dX12_isAnswer_159 : decode cX12_isAnswer 159 = .ok (.iconst 2, 1) := by decide +kernel
theorem dX12_isAnswer_160 : decode cX12_isAnswer 160 = .ok (.if_icmp .le 26, 3) := by decide +kernel
theorem dX12_isAnswer_163 : decode cX12_isAnswer 163 = .ok (.iload_n 2, 1) := by decide +kernel
theorem dX12_isAnswer_164 : decode cX12_isAnswer 164 = .ok (.iconst 2, 1) := by decide +kernel
theorem dX12_isAnswer_165 : decode cX12_isAnswer 165 = .ok (.aload_n 0, 1) := by decide +kernel
theorem dX12_isAnswer_166 : decode cX12_isAnswer 166 = .ok (.getfield 293, 3) := by decide +kernel
theorem dX12_isAnswer_169 : decode cX12_isAnswer 169 = .ok (.iconst 1, 1) := by decide +kernel
theorem dX12_isAnswer_170 : decode cX12_isAnswer 170 = .ok (.baload, 1) := by decide +kernel
theorem dX12_isAnswer_171 : decode cX12_isAnswer 171 = .ok (.sipush 255, 3) := by decide +kernel
theorem dX12_isAnswer_174 : decode cX12_isAnswer 174 = .ok (.iand, 1) := by decide +kernel
theorem dX12_isAnswer_175 : decode cX12_isAnswer 175 = .ok (.iconst 2, 1) := by decide +kernel
theorem dX12_isAnswer_176 : decode cX12_isAnswer 176 = .ok (.invokestatic 618, 3) := by decide +kernel
theorem dX12_isAnswer_179 : decode cX12_isAnswer 179 = .ok (.ifCond .eq 7, 3) := by decide +kernel
theorem dX12_isAnswer_182 : decode cX12_isAnswer 182 = .ok (.iconst 1, 1) := by decide +kernel
theorem dX12_isAnswer_183 : decode cX12_isAnswer 183 = .ok (.goto 4, 3) := by decide +kernel
theorem dX12_isAnswer_186 : decode cX12_isAnswer 186 = .ok (.iconst 0, 1) := by decide +kernel
theorem dX12_isAnswer_187 : decode cX12_isAnswer 187 = .ok (.ireturn, 1) := by decide +kernel
theorem dX12_isAnswer_188 : decode cX12_isAnswer 188 = .ok (.iload_n 2, 1) := by decide +kernel
theorem dX12_isAnswer_189 : decode cX12_isAnswer 189 = .ok (.iconst 2, 1) := by decide +kernel
theorem dX12_isAnswer_190 : decode cX12_isAnswer 190 = .ok (.if_icmp .le 26, 3) := by decide +kernel
theorem dX12_isAnswer_193 : decode cX12_isAnswer 193 = .ok (.iload_n 2, 1) := by decide +kernel
theorem dX12_isAnswer_194 : decode cX12_isAnswer 194 = .ok (.iconst 2, 1) := by decide +kernel
theorem dX12_isAnswer_195 : decode cX12_isAnswer 195 = .ok (.aload_n 0, 1) := by decide +kernel
theorem dX12_isAnswer_196 : decode cX12_isAnswer 196 = .ok (.getfield 293, 3) := by decide +kernel
theorem dX12_isAnswer_199 : decode cX12_isAnswer 199 = .ok (.iconst 1, 1) := by decide +kernel
theorem dX12_isAnswer_200 : decode cX12_isAnswer 200 = .ok (.baload, 1) := by decide +kernel
theorem dX12_isAnswer_201 : decode cX12_isAnswer 201 = .ok (.sipush 255, 3) := by decide +kernel
theorem dX12_isAnswer_204 : decode cX12_isAnswer 204 = .ok (.iand, 1) := by decide +kernel
theorem dX12_isAnswer_205 : decode cX12_isAnswer 205 = .ok (.iconst 4, 1) := by decide +kernel
theorem dX12_isAnswer_206 : decode cX12_isAnswer 206 = .ok (.invokestatic 618, 3) := by decide +kernel
theorem dX12_isAnswer_209 : decode cX12_isAnswer 209 = .ok (.ifCond .eq 7, 3) := by decide +kernel
theorem dX12_isAnswer_212 : decode cX12_isAnswer 212 = .ok (.iconst 1, 1) := by decide +kernel
theorem dX12_isAnswer_213 : decode cX12_isAnswer 213 = .ok (.goto 4, 3) := by decide +kernel
theorem dX12_isAnswer_216 : decode cX12_isAnswer 216 = .ok (.iconst 0, 1) := by decide +kernel
theorem dX12_isAnswer_217 : decode cX12_isAnswer 217 = .ok (.ireturn, 1) := by decide +kernel
theorem dX12_isAnswer_218 : decode cX12_isAnswer 218 = .ok (.iload_n 2, 1) := by decide +kernel
theorem dX12_isAnswer_219 : decode cX12_isAnswer 219 = .ok (.iconst 5, 1) := by decide +kernel
theorem dX12_isAnswer_220 : decode cX12_isAnswer 220 = .ok (.if_icmp .lt 7, 3) := by decide +kernel
theorem dX12_isAnswer_223 : decode cX12_isAnswer 223 = .ok (.iconst 1, 1) := by decide +kernel
theorem dX12_isAnswer_224 : decode cX12_isAnswer 224 = .ok (.goto 4, 3) := by decide +kernel
theorem dX12_isAnswer_227 : decode cX12_isAnswer 227 = .ok (.iconst 0, 1) := by decide +kernel
theorem dX12_isAnswer_228 : decode cX12_isAnswer 228 = .ok (.ireturn, 1) := by decide +kernel
theorem dX12_isAnswer_229 : decode cX12_isAnswer 229 = .ok (.iload_n 2, 1) := by decide +kernel
theorem dX12_isAnswer_230 : decode cX12_isAnswer 230 = .ok (.iconst 1, 1) := by decide +kernel
theorem dX12_isAnswer_231 : decode cX12_isAnswer 231 = .ok (.if_icmp .ne 7, 3) := by decide +kernel
theorem dX12_isAnswer_234 : decode cX12_isAnswer 234 = .ok (.iconst 1, 1) := by decide +kernel
theorem dX12_isAnswer_235 : decode cX12_isAnswer 235 = .ok (.goto 4, 3) := by decide +kernel
theorem dX12_isAnswer_238 : decode cX12_isAnswer 238 = .ok (.iconst 0, 1) := by decide +kernel
theorem dX12_isAnswer_239 : decode cX12_isAnswer 239 = .ok (.ireturn, 1) := by decide +kernel
theorem dX12_isAnswer_240 : decode cX12_isAnswer 240 = .ok (.iconst 1, 1) := by decide +kernel
theorem dX12_isAnswer_241 : decode cX12_isAnswer 241 = .ok (.ireturn, 1) := by decide +kernel
theorem dX12_answered_0 : decode cX12_answered 0 = .ok (.aload_n 0, 1) := by decide +kernel
theorem dX12_answered_1 : decode cX12_answered 1 = .ok (.getfield 365, 3) := by decide +kernel
theorem dX12_answered_4 : decode cX12_answered 4 = .ok (.iload_n 1, 1) := by decide +kernel
theorem dX12_answered_5 : decode cX12_answered 5 = .ok (.iaload, 1) := by decide +kernel
theorem dX12_answered_6 : decode cX12_answered 6 = .ok (.iconst (-1), 1) := by decide +kernel
theorem dX12_answered_7 : decode cX12_answered 7 = .ok (.if_icmp .ne 4, 3) := by decide +kernel
theorem dX12_answered_10 : decode cX12_answered 10 = .ok (.return_, 1) := by decide +kernel
theorem dX12_answered_11 : decode cX12_answered 11 = .ok (.iload_n 2, 1) := by decide +kernel
theorem dX12_answered_12 : decode cX12_answered 12 = .ok (.iconst 1, 1) := by decide +kernel
theorem dX12_answered_13 : decode cX12_answered 13 = .ok (.if_icmp .ne 135, 3) := by decide +kernel
theorem dX12_answered_16 : decode cX12_answered 16 = .ok (.iload_n 3, 1) := by decide +kernel
theorem dX12_answered_17 : decode cX12_answered 17 = .ok (.iconst 5, 1) := by decide +kernel
theorem dX12_answered_18 : decode cX12_answered 18 = .ok (.if_icmp .ne 24, 3) := by decide +kernel
theorem dX12_answered_21 : decode cX12_answered 21 = .ok (.aload_n 0, 1) := by decide +kernel
theorem dX12_answered_22 : decode cX12_answered 22 = .ok (.getfield 293, 3) := by decide +kernel
theorem dX12_answered_25 : decode cX12_answered 25 = .ok (.iconst 1, 1) := by decide +kernel
theorem dX12_answered_26 : decode cX12_answered 26 = .ok (.baload, 1) := by decide +kernel
theorem dX12_answered_27 : decode cX12_answered 27 = .ok (.sipush 255, 3) := by decide +kernel
theorem dX12_answered_30 : decode cX12_answered 30 = .ok (.iand, 1) := by decide +kernel
theorem dX12_answered_31 : decode cX12_answered 31 = .ok (.aload_n 0, 1) := by decide +kernel
theorem dX12_answered_32 : decode cX12_answered 32 = .ok (.getfield 374, 3) := by decide +kernel
theorem dX12_answered_35 : decode cX12_answered 35 = .ok (.iload_n 1, 1) := by decide +kernel
theorem dX12_answered_36 : decode cX12_answered 36 = .ok (.iaload, 1) := by decide +kernel
theorem dX12_answered_37 : decode cX12_answered 37 = .ok (.iconst 1, 1) := by decide +kernel
theorem dX12_answered_38 : decode cX12_answered 38 = .ok (.isub, 1) := by decide +kernel
theorem dX12_answered_39 : decode cX12_answered 39 = .ok (.if_icmp .eq 4, 3) := by decide +kernel
theorem dX12_answered_42 : decode cX12_answered 42 = .ok (.return_, 1) := by decide +kernel
theorem dX12_answered_43 : decode cX12_answered 43 = .ok (.aload_n 0, 1) := by decide +kernel
theorem dX12_answered_44 : decode cX12_answered 44 = .ok (.getfield 365, 3) := by decide +kernel
theorem dX12_answered_47 : decode cX12_answered 47 = .ok (.iload_n 1, 1) := by decide +kernel
theorem dX12_answered_48 : decode cX12_answered 48 = .ok (.iaload, 1) := by decide +kernel
theorem dX12_answered_49 : decode cX12_answered 49 = .ok (.istore 4, 2) := by decide +kernel
theorem dX12_answered_51 : decode cX12_answered 51 = .ok (.iload 4, 2) := by decide +kernel
theorem dX12_answered_53 : decode cX12_answered 53 = .ok (.iconst 1, 1) := by decide +kernel
theorem dX12_answered_54 : decode cX12_answered 54 = .ok (.if_icmp .eq 22, 3) := by decide +kernel
theorem dX12_answered_57 : decode cX12_answered 57 = .ok (.iload 4, 2) := by decide +kernel
theorem dX12_answered_59 : decode cX12_answered 59 = .ok (.iconst 2, 1) := by decide +kernel
theorem dX12_answered_60 : decode cX12_answered 60 = .ok (.if_icmp .eq 16, 3) := by decide +kernel
theorem dX12_answered_63 : decode cX12_answered 63 = .ok (.iload 4, 2) := by decide +kernel
theorem dX12_answered_65 : decode cX12_answered 65 = .ok (.iconst 3, 1) := by decide +kernel
theorem dX12_answered_66 : decode cX12_answered 66 = .ok (.if_icmp .eq 10, 3) := by decide +kernel
theorem dX12_answered_69 : decode cX12_answered 69 = .ok (.iload 4, 2) := by decide +kernel
theorem dX12_answered_71 : decode cX12_answered 71 = .ok (.bipush 6, 2) := by decide +kernel
theorem dX12_answered_73 : decode cX12_answered 73 = .ok (.if_icmp .ne 7, 3) := by decide +kernel
theorem dX12_answered_76 : decode cX12_answered 76 = .ok (.iconst 1, 1) := by decide +kernel
theorem dX12_answered_77 : decode cX12_answered 77 = .ok (.goto 4, 3) := by decide +kernel
theorem dX12_answered_80 : decode cX12_answered 80 = .ok (.iconst 0, 1) := by decide +kernel
theorem dX12_answered_81 : decode cX12_answered 81 = .ok (.istore 5, 2) := by decide +kernel
theorem dX12_answered_83 : decode cX12_answered 83 = .ok (.iload 5, 2) := by decide +kernel
theorem dX12_answered_85 : decode cX12_answered 85 = .ok (.ifCond .eq 20, 3) := by decide +kernel
theorem dX12_answered_88 : decode cX12_answered 88 = .ok (.aload_n 0, 1) := by decide +kernel
theorem dX12_answered_89 : decode cX12_answered 89 = .ok (.getfield 293, 3) := by decide +kernel
theorem dX12_answered_92 : decode cX12_answered 92 = .ok (.iconst 4, 1) := by decide +kernel
theorem dX12_answered_93 : decode cX12_answered 93 = .ok (.baload, 1) := by decide +kernel
theorem dX12_answered_94 : decode cX12_answered 94 = .ok (.bipush 10, 2) := by decide +kernel
theorem dX12_answered_96 : decode cX12_answered 96 = .ok (.if_icmp .ne 9, 3) := by decide +kernel
theorem dX12_answered_99 : decode cX12_answered 99 = .ok (.aload_n 0, 1) := by decide +kernel
theorem dX12_answered_100 : decode cX12_answered 100 = .ok (.iload_n 1, 1) := by decide +kernel
theorem dX12_answered_101 : decode cX12_answered 101 = .ok (.invokevirtual 621, 3) := by decide +kernel
theorem dX12_answered_104 : decode cX12_answered 104 = .ok (.return_, 1) := by decide +kernel
theorem dX12_answered_105 : decode cX12_answered 105 = .ok (.aload_n 0, 1) := by decide +kernel
theorem dX12_answered_106 : decode cX12_answered 106 = .ok (.getfield 365, 3) := by decide +kernel
theorem dX12_answered_109 : decode cX12_answered 109 = .ok (.iload_n 1, 1) := by decide +kernel
theorem dX12_answered_110 : decode cX12_answered 110 = .ok (.iconst (-1), 1) := by decide +kernel
theorem dX12_answered_111 : decode cX12_answered 111 = .ok (.iastore, 1) := by decide +kernel
theorem dX12_answered_112 : decode cX12_answered 112 = .ok (.aload_n 0, 1) := by decide +kernel
theorem dX12_answered_113 : decode cX12_answered 113 = .ok (.iload_n 1, 1) := by decide +kernel
theorem dX12_answered_114 : decode cX12_answered 114 = .ok (.bipush 9, 2) := by decide +kernel
theorem dX12_answered_116 : decode cX12_answered 116 = .ok (.aload_n 0, 1) := by decide +kernel
theorem dX12_answered_117 : decode cX12_answered 117 = .ok (.getfield 293, 3) := by decide +kernel
theorem dX12_answered_120 : decode cX12_answered 120 = .ok (.iconst 1, 1) := by decide +kernel
theorem dX12_answered_121 : decode cX12_answered 121 = .ok (.baload, 1) := by decide +kernel
theorem dX12_answered_122 : decode cX12_answered 122 = .ok (.sipush 255, 3) := by decide +kernel
theorem dX12_answered_125 : decode cX12_answered 125 = .ok (.iand, 1) := by decide +kernel
theorem dX12_answered_126 : decode cX12_answered 126 = .ok (.aload_n 0, 1) := by decide +kernel
theorem dX12_answered_127 : decode cX12_answered 127 = .ok (.getfield 293, 3) := by decide +kernel
theorem dX12_answered_130 : decode cX12_answered 130 = .ok (.iconst 2, 1) := by decide +kernel
theorem dX12_answered_131 : decode cX12_answered 131 = .ok (.invokestatic 489, 3) := by decide +kernel
theorem dX12_answered_134 : decode cX12_answered 134 = .ok (.aload_n 0, 1) := by decide +kernel
theorem dX12_answered_135 : decode cX12_answered 135 = .ok (.getfield 293, 3) := by decide +kernel
theorem dX12_answered_138 : decode cX12_answered 138 = .ok (.iconst 4, 1) := by decide +kernel
theorem dX12_answered_139 : decode cX12_answered 139 = .ok (.baload, 1) := by decide +kernel
theorem dX12_answered_140 : decode cX12_answered 140 = .ok (.sipush 255, 3) := by decide +kernel
theorem dX12_answered_143 : decode cX12_answered 143 = .ok (.iand, 1) := by decide +kernel
theorem dX12_answered_144 : decode cX12_answered 144 = .ok (.invokevirtual 504, 3) := by decide +kernel
theorem dX12_answered_147 : decode cX12_answered 147 = .ok (.return_, 1) := by decide +kernel
theorem dX12_answered_148 : decode cX12_answered 148 = .ok (.iload_n 2, 1) := by decide +kernel
theorem dX12_answered_149 : decode cX12_answered 149 = .ok (.aload_n 0, 1) := by decide +kernel
theorem dX12_answered_150 : decode cX12_answered 150 = .ok (.getfield 374, 3) := by decide +kernel
theorem dX12_answered_153 : decode cX12_answered 153 = .ok (.iload_n 1, 1) := by decide +kernel
theorem dX12_answered_154 : decode cX12_answered 154 = .ok (.iaload, 1) := by decide +kernel
theorem dX12_answered_155 : decode cX12_answered 155 = .ok (.if_icmp .ne 12, 3) := by decide +kernel
theorem dX12_answered_158 : decode cX12_answered 158 = .ok (.aload_n 0, 1) := by decide +kernel
theorem dX12_answered_159 : decode cX12_answered 159 = .ok (.iload_n 2, 1) := by decide +kernel
theorem dX12_answered_160 : decode cX12_answered 160 = .ok (.iload_n 3, 1) := by decide +kernel
theorem dX12_answered_161 : decode cX12_answered 161 = .ok (.invokevirtual 624, 3) := by decide +kernel
theorem dX12_answered_164 : decode cX12_answered 164 = .ok (.ifCond .ne 4, 3) := by decide +kernel
theorem dX12_answered_167 : decode cX12_answered 167 = .ok (.return_, 1) := by decide +kernel
theorem dX12_answered_168 : decode cX12_answered 168 = .ok (.iload_n 2, 1) := by decide +kernel
theorem dX12_answered_169 : decode cX12_answered 169 = .ok (.tableswitch 280 3 23 #[99, 280, 135, 280, 135, 280, 135, 280, 145, 280, 145, 280, 280, 280, 135, 280, 280, 280, 280, 280, 271], 99) := by decide +kernel
theorem dX12_answered_268 : decode cX12_answered 268 = .ok (.aload_n 0, 1) := by decide +kernel
theorem dX12_answered_269 : decode cX12_answered 269 = .ok (.getfield 332, 3) := by decide +kernel
theorem dX12_answered_272 : decode cX12_answered 272 = .ok (.iload_n 1, 1) := by decide +kernel
theorem dX12_answered_273 : decode cX12_answered 273 = .ok (.bipush 23, 2) := by decide +kernel
theorem dX12_answered_275 : decode cX12_answered 275 = .ok (.aload_n 0, 1) := by decide +kernel
theorem dX12_answered_276 : decode cX12_answered 276 = .ok (.getfield 293, 3) := by decide +kernel
theorem dX12_answered_279 : decode cX12_answered 279 = .ok (.iconst 1, 1) := by decide +kernel
theorem dX12_answered_280 : decode cX12_answered 280 = .ok (.invokestatic 489, 3) := by decide +kernel
theorem dX12_answered_283 : decode cX12_answered 283 = .ok (.aload_n 0, 1) := by decide +kernel
theorem dX12_answered_284 : decode cX12_answered 284 = .ok (.getfield 335, 3) := by decide +kernel
theorem dX12_answered_287 : decode cX12_answered 287 = .ok (.iload_n 1, 1) := by decide +kernel
theorem dX12_answered_288 : decode cX12_answered 288 = .ok (.iaload, 1) := by decide +kernel
theorem dX12_answered_289 : decode cX12_answered 289 = .ok (.invokestatic 404, 3) := by decide +kernel
theorem dX12_answered_292 : decode cX12_answered 292 = .ok (.invokestatic 596, 3) := by decide +kernel
theorem dX12_answered_295 : decode cX12_answered 295 = .ok (.iastore, 1) := by decide +kernel
theorem dX12_answered_296 : decode cX12_answered 296 = .ok (.aload_n 0, 1) := by decide +kernel
theorem dX12_answered_297 : decode cX12_answered 297 = .ok (.iload_n 1, 1) := by decide +kernel
theorem dX12_answered_298 : decode cX12_answered 298 = .ok (.invokevirtual 621, 3) := by decide +kernel
theorem dX12_answered_301 : decode cX12_answered 301 = .ok (.goto 167, 3) := by decide +kernel
theorem dX12_answered_304 : decode cX12_answered 304 = .ok (.aload_n 0, 1) := by decide +kernel
theorem dX12_answered_305 : decode cX12_answered 305 = .ok (.iload_n 1, 1) := by decide +kernel
theorem dX12_answered_306 : decode cX12_answered 306 = .ok (.iload_n 2, 1) := by decide +kernel
theorem dX12_answered_307 : decode cX12_answered 307 = .ok (.iload_n 3, 1) := by decide +kernel
theorem dX12_answered_308 : decode cX12_answered 308 = .ok (.invokevirtual 627, 3) := by decide +kernel
theorem dX12_answered_311 : decode cX12_answered 311 = .ok (.goto 157, 3) := by decide +kernel
theorem dX12_answered_314 : decode cX12_answered 314 = .ok (.iconst 1, 1) := by decide +kernel
theorem dX12_answered_315 : decode cX12_answered 315 = .ok (.istore 4, 2) := by decide +kernel
theorem dX12_answered_317 : decode cX12_answered 317 = .ok (.iload 4, 2) := by decide +kernel
theorem dX12_answered_319 : decode cX12_answered 319 = .ok (.iload_n 3, 1) := by decide +kernel
theorem dX12_answered_320 : decode cX12_answered 320 = .ok (.if_icmp .ge 53, 3) := by decide +kernel
theorem dX12_answered_323 : decode cX12_answered 323 = .ok (.aload_n 0, 1) := by decide +kernel
theorem dX12_answered_324 : decode cX12_answered 324 = .ok (.getfield 380, 3) := by decide +kernel
theorem dX12_answered_327 : decode cX12_answered 327 = .ok (.iload_n 1, 1) := by decide +kernel
theorem dX12_answered_328 : decode cX12_answered 328 = .ok (.iaload, 1) := by decide +kernel
theorem dX12_answered_329 : decode cX12_answered 329 = .ok (.bipush 40, 2) := by decide +kernel
theorem dX12_answered_331 : decode cX12_answered 331 = .ok (.if_icmp .ge 42, 3) := by decide +kernel
theorem dX12_answered_334 : decode cX12_answered 334 = .ok (.aload_n 0, 1) := by decide +kernel
theorem dX12_answered_335 : decode cX12_answered 335 = .ok (.getfield 383, 3) := by decide +kernel
theorem dX12_answered_338 : decode cX12_answered 338 = .ok (.bipush 40, 2) := by decide +kernel
theorem dX12_answered_340 : decode cX12_answered 340 = .ok (.iload_n 1, 1) := by decide +kernel
theorem dX12_answered_341 : decode cX12_answered 341 = .ok (.imul, 1) := by decide +kernel
theorem dX12_answered_342 : decode cX12_answered 342 = .ok (.aload_n 0, 1) := by decide +kernel
theorem dX12_answered_343 : decode cX12_answered 343 = .ok (.getfield 380, 3) := by decide +kernel
theorem dX12_answered_346 : decode cX12_answered 346 = .ok (.iload_n 1, 1) := by decide +kernel
theorem dX12_answered_347 : decode cX12_answered 347 = .ok (.iaload, 1) := by decide +kernel
theorem dX12_answered_348 : decode cX12_answered 348 = .ok (.iadd, 1) := by decide +kernel
theorem dX12_answered_349 : decode cX12_answered 349 = .ok (.aload_n 0, 1) := by decide +kernel
theorem dX12_answered_350 : decode cX12_answered 350 = .ok (.getfield 293, 3) := by decide +kernel
theorem dX12_answered_353 : decode cX12_answered 353 = .ok (.iload 4, 2) := by decide +kernel
theorem dX12_answered_355 : decode cX12_answered 355 = .ok (.baload, 1) := by decide +kernel
theorem dX12_answered_356 : decode cX12_answered 356 = .ok (.bastore, 1) := by decide +kernel
theorem dX12_answered_357 : decode cX12_answered 357 = .ok (.aload_n 0, 1) := by decide +kernel
theorem dX12_answered_358 : decode cX12_answered 358 = .ok (.getfield 380, 3) := by decide +kernel
theorem dX12_answered_361 : decode cX12_answered 361 = .ok (.iload_n 1, 1) := by decide +kernel
theorem dX12_answered_362 : decode cX12_answered 362 = .ok (.dup2, 1) := by decide +kernel
theorem dX12_answered_363 : decode cX12_answered 363 = .ok (.iaload, 1) := by decide +kernel
theorem dX12_answered_364 : decode cX12_answered 364 = .ok (.iconst 1, 1) := by decide +kernel
theorem dX12_answered_365 : decode cX12_answered 365 = .ok (.iadd, 1) := by decide +kernel
theorem dX12_answered_366 : decode cX12_answered 366 = .ok (.iastore, 1) := by decide +kernel
theorem dX12_answered_367 : decode cX12_answered 367 = .ok (.iinc 4 1, 3) := by decide +kernel
theorem dX12_answered_370 : decode cX12_answered 370 = .ok (.goto (-53), 3) := by decide +kernel
theorem dX12_answered_373 : decode cX12_answered 373 = .ok (.aload_n 0, 1) := by decide +kernel
theorem dX12_answered_374 : decode cX12_answered 374 = .ok (.getfield 377, 3) := by decide +kernel
theorem dX12_answered_377 : decode cX12_answered 377 = .ok (.iload_n 1, 1) := by decide +kernel
theorem dX12_answered_378 : decode cX12_answered 378 = .ok (.aload_n 0, 1) := by decide +kernel
theorem dX12_answered_379 : decode cX12_answered 379 = .ok (.getfield 380, 3) := by decide +kernel
theorem dX12_answered_382 : decode cX12_answered 382 = .ok (.iload_n 1, 1) := by decide +kernel
theorem dX12_answered_383 : decode cX12_answered 383 = .ok (.iaload, 1) := by decide +kernel
theorem dX12_answered_384 : decode cX12_answered 384 = .ok (.iastore, 1) := by decide +kernel
theorem dX12_answered_385 : decode cX12_answered 385 = .ok (.iload_n 3, 1) := by decide +kernel
theorem dX12_answered_386 : decode cX12_answered 386 = .ok (.aload_n 0, 1) := by decide +kernel
theorem dX12_answered_387 : decode cX12_answered 387 = .ok (.getfield 332, 3) := by decide +kernel
theorem dX12_answered_390 : decode cX12_answered 390 = .ok (.iload_n 1, 1) := by decide +kernel
theorem dX12_answered_391 : decode cX12_answered 391 = .ok (.iaload, 1) := by decide +kernel
theorem dX12_answered_392 : decode cX12_answered 392 = .ok (.if_icmp .ne 12, 3) := by decide +kernel
theorem dX12_answered_395 : decode cX12_answered 395 = .ok (.aload_n 0, 1) := by decide +kernel
theorem dX12_answered_396 : decode cX12_answered 396 = .ok (.iload_n 1, 1) := by decide +kernel
theorem dX12_answered_397 : decode cX12_answered 397 = .ok (.iconst 0, 1) := by decide +kernel
theorem dX12_answered_398 : decode cX12_answered 398 = .ok (.invokevirtual 630, 3) := by decide +kernel
theorem dX12_answered_401 : decode cX12_answered 401 = .ok (.goto 67, 3) := by decide +kernel
theorem dX12_answered_404 : decode cX12_answered 404 = .ok (.aload_n 0, 1) := by decide +kernel
theorem dX12_answered_405 : decode cX12_answered 405 = .ok (.iload_n 1, 1) := by decide +kernel
theorem dX12_answered_406 : decode cX12_answered 406 = .ok (.iconst 4, 1) := by decide +kernel
theorem dX12_answered_407 : decode cX12_answered 407 = .ok (.aload_n 0, 1) := by decide +kernel
theorem dX12_answered_408 : decode cX12_answered 408 = .ok (.getfield 368, 3) := by decide +kernel
theorem dX12_answered_411 : decode cX12_answered 411 = .ok (.iload_n 1, 1) := by decide +kernel
theorem dX12_answered_412 : decode cX12_answered 412 = .ok (.iaload, 1) := by decide +kernel
theorem dX12_answered_413 : decode cX12_answered 413 = .ok (.iconst 0, 1) := by decide +kernel
theorem dX12_answered_414 : decode cX12_answered 414 = .ok (.iconst 0, 1) := by decide +kernel
theorem dX12_answered_415 : decode cX12_answered 415 = .ok (.aload_n 0, 1) := by decide +kernel
theorem dX12_answered_416 : decode cX12_answered 416 = .ok (.getfield 383, 3) := by decide +kernel
theorem dX12_answered_419 : decode cX12_answered 419 = .ok (.bipush 40, 2) := by decide +kernel
theorem dX12_answered_421 : decode cX12_answered 421 = .ok (.iload_n 1, 1) := by decide +kernel
theorem dX12_answered_422 : decode cX12_answered 422 = .ok (.imul, 1) := by decide +kernel
theorem dX12_answered_423 : decode cX12_answered 423 = .ok (.aload_n 0, 1) := by decide +kernel
theorem dX12_answered_424 : decode cX12_answered 424 = .ok (.getfield 380, 3) := by decide +kernel
theorem dX12_answered_427 : decode cX12_answered 427 = .ok (.iload_n 1, 1) := by decide +kernel
theorem dX12_answered_428 : decode cX12_answered 428 = .ok (.iaload, 1) := by decide +kernel
theorem dX12_answered_429 : decode cX12_answered 429 = .ok (.invokevirtual 409, 3) := by decide +kernel
theorem dX12_answered_432 : decode cX12_answered 432 = .ok (.aload_n 0, 1) := by decide +kernel
theorem dX12_answered_433 : decode cX12_answered 433 = .ok (.iload_n 1, 1) := by decide +kernel
theorem dX12_answered_434 : decode cX12_answered 434 = .ok (.invokevirtual 621, 3) := by decide +kernel
theorem dX12_answered_437 : decode cX12_answered 437 = .ok (.goto 31, 3) := by decide +kernel
theorem dX12_answered_440 : decode cX12_answered 440 = .ok (.aload_n 0, 1) := by decide +kernel
theorem dX12_answered_441 : decode cX12_answered 441 = .ok (.iload_n 1, 1) := by decide +kernel
theorem dX12_answered_442 : decode cX12_answered 442 = .ok (.iconst 0, 1) := by decide +kernel
theorem dX12_answered_443 : decode cX12_answered 443 = .ok (.invokevirtual 630, 3) := by decide +kernel
theorem dX12_answered_446 : decode cX12_answered 446 = .ok (.goto 22, 3) := by decide +kernel
theorem dX12_answered_449 : decode cX12_answered 449 = .ok (.aload_n 0, 1) := by decide +kernel
theorem dX12_answered_450 : decode cX12_answered 450 = .ok (.iload_n 1, 1) := by decide +kernel
theorem dX12_answered_451 : decode cX12_answered 451 = .ok (.iconst 5, 1) := by decide +kernel
theorem dX12_answered_452 : decode cX12_answered 452 = .ok (.aload_n 0, 1) := by decide +kernel
theorem dX12_answered_453 : decode cX12_answered 453 = .ok (.getfield 368, 3) := by decide +kernel
theorem dX12_answered_456 : decode cX12_answered 456 = .ok (.iload_n 1, 1) := by decide +kernel
theorem dX12_answered_457 : decode cX12_answered 457 = .ok (.iaload, 1) := by decide +kernel
theorem dX12_answered_458 : decode cX12_answered 458 = .ok (.iconst 0, 1) := by decide +kernel
theorem dX12_answered_459 : decode cX12_answered 459 = .ok (.iconst 0, 1) := by decide +kernel
theorem dX12_answered_460 : decode cX12_answered 460 = .ok (.invokevirtual 504, 3) := by decide +kernel
theorem dX12_answered_463 : decode cX12_answered 463 = .ok (.aload_n 0, 1) := by decide +kernel
theorem dX12_answered_464 : decode cX12_answered 464 = .ok (.iload_n 1, 1) := by decide +kernel
theorem dX12_answered_465 : decode cX12_answered 465 = .ok (.invokevirtual 621, 3) := by decide +kernel
theorem dX12_answered_468 : decode cX12_answered 468 = .ok (.return_, 1) := by decide +kernel
theorem dX12_rows_0 : decode cX12_rows 0 = .ok (.iload_n 2, 1) := by decide +kernel
theorem dX12_rows_1 : decode cX12_rows 1 = .ok (.bipush 7, 2) := by decide +kernel
theorem dX12_rows_3 : decode cX12_rows 3 = .ok (.if_icmp .ne 7, 3) := by decide +kernel
theorem dX12_rows_6 : decode cX12_rows 6 = .ok (.iconst 1, 1) := by decide +kernel
theorem dX12_rows_7 : decode cX12_rows 7 = .ok (.goto 4, 3) := by decide +kernel
theorem dX12_rows_10 : decode cX12_rows 10 = .ok (.iconst 2, 1) := by decide +kernel
theorem dX12_rows_11 : decode cX12_rows 11 = .ok (.istore 4, 2) := by decide +kernel
theorem dX12_rows_13 : decode cX12_rows 13 = .ok (.iload_n 2, 1) := by decide +kernel
theorem dX12_rows_14 : decode cX12_rows 14 = .ok (.iconst 5, 1) := by decide +kernel
theorem dX12_rows_15 : decode cX12_rows 15 = .ok (.if_icmp .eq 9, 3) := by decide +kernel
theorem dX12_rows_18 : decode cX12_rows 18 = .ok (.iload_n 2, 1) := by decide +kernel
theorem dX12_rows_19 : decode cX12_rows 19 = .ok (.bipush 7, 2) := by decide +kernel
theorem dX12_rows_21 : decode cX12_rows 21 = .ok (.if_icmp .ne 7, 3) := by decide +kernel
theorem dX12_rows_24 : decode cX12_rows 24 = .ok (.iconst 4, 1) := by decide +kernel
theorem dX12_rows_25 : decode cX12_rows 25 = .ok (.goto 13, 3) := by decide +kernel
theorem dX12_rows_28 : decode cX12_rows 28 = .ok (.aload_n 0, 1) := by decide +kernel
theorem dX12_rows_29 : decode cX12_rows 29 = .ok (.getfield 293, 3) := by decide +kernel
theorem dX12_rows_32 : decode cX12_rows 32 = .ok (.iconst 1, 1) := by decide +kernel
theorem dX12_rows_33 : decode cX12_rows 33 = .ok (.baload, 1) := by decide +kernel
theorem dX12_rows_34 : decode cX12_rows 34 = .ok (.sipush 255, 3) := by decide +kernel
theorem dX12_rows_37 : decode cX12_rows 37 = .ok (.iand, 1) := by decide +kernel
theorem dX12_rows_38 : decode cX12_rows 38 = .ok (.istore 5, 2) := by decide +kernel
theorem dX12_rows_40 : decode cX12_rows 40 = .ok (.iconst 0, 1) := by decide +kernel
theorem dX12_rows_41 : decode cX12_rows 41 = .ok (.istore 6, 2) := by decide +kernel
theorem dX12_rows_43 : decode cX12_rows 43 = .ok (.iload 4, 2) := by decide +kernel
theorem dX12_rows_45 : decode cX12_rows 45 = .ok (.istore 7, 2) := by decide +kernel
theorem dX12_rows_47 : decode cX12_rows 47 = .ok (.iload 7, 2) := by decide +kernel
theorem dX12_rows_49 : decode cX12_rows 49 = .ok (.iload_n 3, 1) := by decide +kernel
theorem dX12_rows_50 : decode cX12_rows 50 = .ok (.if_icmp .ge 111, 3) := by decide +kernel
theorem dX12_rows_53 : decode cX12_rows 53 = .ok (.aload_n 0, 1) := by decide +kernel
theorem dX12_rows_54 : decode cX12_rows 54 = .ok (.getfield 293, 3) := by decide +kernel
theorem dX12_rows_57 : decode cX12_rows 57 = .ok (.iload 7, 2) := by decide +kernel
theorem dX12_rows_59 : decode cX12_rows 59 = .ok (.invokestatic 489, 3) := by decide +kernel
theorem dX12_rows_62 : decode cX12_rows 62 = .ok (.istore 8, 2) := by decide +kernel
theorem dX12_rows_64 : decode cX12_rows 64 = .ok (.iload_n 2, 1) := by decide +kernel
theorem dX12_rows_65 : decode cX12_rows 65 = .ok (.bipush 9, 2) := by decide +kernel
theorem dX12_rows_67 : decode cX12_rows 67 = .ok (.if_icmp .ne 7, 3) := by decide +kernel
theorem dX12_rows_70 : decode cX12_rows 70 = .ok (.iconst 0, 1) := by decide +kernel
theorem dX12_rows_71 : decode cX12_rows 71 = .ok (.goto 14, 3) := by decide +kernel
theorem dX12_rows_74 : decode cX12_rows 74 = .ok (.aload_n 0, 1) := by decide +kernel
theorem dX12_rows_75 : decode cX12_rows 75 = .ok (.getfield 293, 3) := by decide +kernel
theorem dX12_rows_78 : decode cX12_rows 78 = .ok (.iload 7, 2) := by decide +kernel
theorem dX12_rows_80 : decode cX12_rows 80 = .ok (.iconst 2, 1) := by decide +kernel
theorem dX12_rows_81 : decode cX12_rows 81 = .ok (.iadd, 1) := by decide +kernel
theorem dX12_rows_82 : decode cX12_rows 82 = .ok (.invokestatic 489, 3) := by decide +kernel
theorem dX12_rows_85 : decode cX12_rows 85 = .ok (.istore 9, 2) := by decide +kernel
theorem dX12_rows_87 : decode cX12_rows 87 = .ok (.iload_n 2, 1) := by decide +kernel
theorem dX12_rows_88 : decode cX12_rows 88 = .ok (.bipush 9, 2) := by decide +kernel
theorem dX12_rows_90 : decode cX12_rows 90 = .ok (.if_icmp .ne 7, 3) := by decide +kernel
theorem dX12_rows_93 : decode cX12_rows 93 = .ok (.iconst 2, 1) := by decide +kernel
theorem dX12_rows_94 : decode cX12_rows 94 = .ok (.goto 4, 3) := by decide +kernel
theorem dX12_rows_97 : decode cX12_rows 97 = .ok (.iconst 4, 1) := by decide +kernel
theorem dX12_rows_98 : decode cX12_rows 98 = .ok (.istore 10, 2) := by decide +kernel
theorem dX12_rows_100 : decode cX12_rows 100 = .ok (.aload_n 0, 1) := by decide +kernel
theorem dX12_rows_101 : decode cX12_rows 101 = .ok (.iload_n 1, 1) := by decide +kernel
theorem dX12_rows_102 : decode cX12_rows 102 = .ok (.aload_n 0, 1) := by decide +kernel
theorem dX12_rows_103 : decode cX12_rows 103 = .ok (.getfield 365, 3) := by decide +kernel
theorem dX12_rows_106 : decode cX12_rows 106 = .ok (.iload_n 1, 1) := by decide +kernel
theorem dX12_rows_107 : decode cX12_rows 107 = .ok (.iaload, 1) := by decide +kernel
theorem dX12_rows_108 : decode cX12_rows 108 = .ok (.iload 8, 2) := by decide +kernel
theorem dX12_rows_110 : decode cX12_rows 110 = .ok (.iload 9, 2) := by decide +kernel
theorem dX12_rows_112 : decode cX12_rows 112 = .ok (.iconst 0, 1) := by decide +kernel
theorem dX12_rows_113 : decode cX12_rows 113 = .ok (.aload_n 0, 1) := by decide +kernel
theorem dX12_rows_114 : decode cX12_rows 114 = .ok (.getfield 293, 3) := by decide +kernel
theorem dX12_rows_117 : decode cX12_rows 117 = .ok (.iload 7, 2) := by decide +kernel
theorem dX12_rows_119 : decode cX12_rows 119 = .ok (.iload 10, 2) := by decide +kernel
theorem dX12_rows_121 : decode cX12_rows 121 = .ok (.iadd, 1) := by decide +kernel
theorem dX12_rows_122 : decode cX12_rows 122 = .ok (.iload 5, 2) := by decide +kernel
theorem dX12_rows_124 : decode cX12_rows 124 = .ok (.iload 10, 2) := by decide +kernel
theorem dX12_rows_126 : decode cX12_rows 126 = .ok (.isub, 1) := by decide +kernel
theorem dX12_rows_127 : decode cX12_rows 127 = .ok (.invokevirtual 409, 3) := by decide +kernel
theorem dX12_rows_130 : decode cX12_rows 130 = .ok (.iload_n 2, 1) := by decide +kernel
theorem dX12_rows_131 : decode cX12_rows 131 = .ok (.bipush 17, 2) := by decide +kernel
theorem dX12_rows_133 : decode cX12_rows 133 = .ok (.if_icmp .eq 9, 3) := by decide +kernel
theorem dX12_rows_136 : decode cX12_rows 136 = .ok (.iload_n 2, 1) := by decide +kernel
theorem dX12_rows_137 : decode cX12_rows 137 = .ok (.bipush 7, 2) := by decide +kernel
theorem dX12_rows_139 : decode cX12_rows 139 = .ok (.if_icmp .ne 8, 3) := by decide +kernel
theorem dX12_rows_142 : decode cX12_rows 142 = .ok (.iload 9, 2) := by decide +kernel
theorem dX12_rows_144 : decode cX12_rows 144 = .ok (.goto 5, 3) := by decide +kernel
theorem dX12_rows_147 : decode cX12_rows 147 = .ok (.iload 8, 2) := by decide +kernel
theorem dX12_rows_149 : decode cX12_rows 149 = .ok (.istore 6, 2) := by decide +kernel
theorem dX12_rows_151 : decode cX12_rows 151 = .ok (.iload 7, 2) := by decide +kernel
theorem dX12_rows_153 : decode cX12_rows 153 = .ok (.iload 5, 2) := by decide +kernel
theorem dX12_rows_155 : decode cX12_rows 155 = .ok (.iadd, 1) := by decide +kernel
theorem dX12_rows_156 : decode cX12_rows 156 = .ok (.istore 7, 2) := by decide +kernel
theorem dX12_rows_158 : decode cX12_rows 158 = .ok (.goto (-111), 3) := by decide +kernel
theorem dX12_rows_161 : decode cX12_rows 161 = .ok (.iload_n 2, 1) := by decide +kernel
theorem dX12_rows_162 : decode cX12_rows 162 = .ok (.bipush 17, 2) := by decide +kernel
theorem dX12_rows_164 : decode cX12_rows 164 = .ok (.if_icmp .eq 9, 3) := by decide +kernel
theorem dX12_rows_167 : decode cX12_rows 167 = .ok (.iload_n 2, 1) := by decide +kernel
theorem dX12_rows_168 : decode cX12_rows 168 = .ok (.bipush 7, 2) := by decide +kernel
theorem dX12_rows_170 : decode cX12_rows 170 = .ok (.if_icmp .ne 9, 3) := by decide +kernel
theorem dX12_rows_173 : decode cX12_rows 173 = .ok (.ldc_w 493, 3) := by decide +kernel
theorem dX12_rows_176 : decode cX12_rows 176 = .ok (.goto 9, 3) := by decide +kernel
theorem dX12_rows_179 : decode cX12_rows 179 = .ok (.aload_n 0, 1) := by decide +kernel
theorem dX12_rows_180 : decode cX12_rows 180 = .ok (.getfield 371, 3) := by decide +kernel
theorem dX12_rows_183 : decode cX12_rows 183 = .ok (.iload_n 1, 1) := by decide +kernel
theorem dX12_rows_184 : decode cX12_rows 184 = .ok (.iaload, 1) := by decide +kernel
theorem dX12_rows_185 : decode cX12_rows 185 = .ok (.istore 7, 2) := by decide +kernel
theorem dX12_rows_187 : decode cX12_rows 187 = .ok (.iload 6, 2) := by decide +kernel
theorem dX12_rows_189 : decode cX12_rows 189 = .ok (.iload 7, 2) := by decide +kernel
theorem dX12_rows_191 : decode cX12_rows 191 = .ok (.if_icmp .ge 15, 3) := by decide +kernel
theorem dX12_rows_194 : decode cX12_rows 194 = .ok (.aload_n 0, 1) := by decide +kernel
theorem dX12_rows_195 : decode cX12_rows 195 = .ok (.iload_n 1, 1) := by decide +kernel
theorem dX12_rows_196 : decode cX12_rows 196 = .ok (.iload 6, 2) := by decide +kernel
theorem dX12_rows_198 : decode cX12_rows 198 = .ok (.iconst 1, 1) := by decide +kernel
theorem dX12_rows_199 : decode cX12_rows 199 = .ok (.iadd, 1) := by decide +kernel
theorem dX12_rows_200 : decode cX12_rows 200 = .ok (.invokevirtual 630, 3) := by decide +kernel
theorem dX12_rows_203 : decode cX12_rows 203 = .ok (.goto 8, 3) := by decide +kernel
theorem dX12_rows_206 : decode cX12_rows 206 = .ok (.aload_n 0, 1) := by decide +kernel
theorem dX12_rows_207 : decode cX12_rows 207 = .ok (.iload_n 1, 1) := by decide +kernel
theorem dX12_rows_208 : decode cX12_rows 208 = .ok (.invokevirtual 621, 3) := by decide +kernel
theorem dX12_rows_211 : decode cX12_rows 211 = .ok (.return_, 1) := by decide +kernel
theorem dX12_sendsFirst_0 : decode cX12_sendsFirst 0 = .ok (.aload_n 0, 1) := by decide +kernel
theorem dX12_sendsFirst_1 : decode cX12_sendsFirst 1 = .ok (.getfield 176, 3) := by decide +kernel
theorem dX12_sendsFirst_4 : decode cX12_sendsFirst 4 = .ok (.bipush 6, 2) := by decide +kernel
theorem dX12_sendsFirst_6 : decode cX12_sendsFirst 6 = .ok (.aload_n 0, 1) := by decide +kernel
theorem dX12_sendsFirst_7 : decode cX12_sendsFirst 7 = .ok (.getfield 60, 3) := by decide +kernel
theorem dX12_sendsFirst_10 : decode cX12_sendsFirst 10 = .ok (.iload_n 1, 1) := by decide +kernel
theorem dX12_sendsFirst_11 : decode cX12_sendsFirst 11 = .ok (.laload, 1) := by decide +kernel
theorem dX12_sendsFirst_12 : decode cX12_sendsFirst 12 = .ok (.bipush 6, 2) := by decide +kernel
theorem dX12_sendsFirst_14 : decode cX12_sendsFirst 14 = .ok (.invokestatic 432, 3) := by decide +kernel
theorem dX12_sendsFirst_17 : decode cX12_sendsFirst 17 = .ok (.aload_n 0, 1) := by decide +kernel
theorem dX12_sendsFirst_18 : decode cX12_sendsFirst 18 = .ok (.getfield 82, 3) := by decide +kernel
theorem dX12_sendsFirst_21 : decode cX12_sendsFirst 21 = .ok (.bipush 20, 2) := by decide +kernel
theorem dX12_sendsFirst_23 : decode cX12_sendsFirst 23 = .ok (.iload_n 1, 1) := by decide +kernel
theorem dX12_sendsFirst_24 : decode cX12_sendsFirst 24 = .ok (.imul, 1) := by decide +kernel
theorem dX12_sendsFirst_25 : decode cX12_sendsFirst 25 = .ok (.aload_n 0, 1) := by decide +kernel
theorem dX12_sendsFirst_26 : decode cX12_sendsFirst 26 = .ok (.getfield 176, 3) := by decide +kernel
theorem dX12_sendsFirst_29 : decode cX12_sendsFirst 29 = .ok (.bipush 12, 2) := by decide +kernel
theorem dX12_sendsFirst_31 : decode cX12_sendsFirst 31 = .ok (.aload_n 0, 1) := by decide +kernel
theorem dX12_sendsFirst_32 : decode cX12_sendsFirst 32 = .ok (.getfield 57, 3) := by decide +kernel
theorem dX12_sendsFirst_35 : decode cX12_sendsFirst 35 = .ok (.iload_n 1, 1) := by decide +kernel
theorem dX12_sendsFirst_36 : decode cX12_sendsFirst 36 = .ok (.iaload, 1) := by decide +kernel
theorem dX12_sendsFirst_37 : decode cX12_sendsFirst 37 = .ok (.invokestatic 29, 3) := by decide +kernel
theorem dX12_sendsFirst_40 : decode cX12_sendsFirst 40 = .ok (.aload_n 0, 1) := by decide +kernel
theorem dX12_sendsFirst_41 : decode cX12_sendsFirst 41 = .ok (.iload_n 1, 1) := by decide +kernel
theorem dX12_sendsFirst_42 : decode cX12_sendsFirst 42 = .ok (.getstatic 633, 3) := by decide +kernel
theorem dX12_sendsFirst_45 : decode cX12_sendsFirst 45 = .ok (.iconst 0, 1) := by decide +kernel
theorem dX12_sendsFirst_46 : decode cX12_sendsFirst 46 = .ok (.ldc_w 636, 3) := by decide +kernel
theorem dX12_sendsFirst_49 : decode cX12_sendsFirst 49 = .ok (.iload_n 2, 1) := by decide +kernel
theorem dX12_sendsFirst_50 : decode cX12_sendsFirst 50 = .ok (.iconst 0, 1) := by decide +kernel
theorem dX12_sendsFirst_51 : decode cX12_sendsFirst 51 = .ok (.bipush 6, 2) := by decide +kernel
theorem dX12_sendsFirst_53 : decode cX12_sendsFirst 53 = .ok (.aload_n 0, 1) := by decide +kernel
theorem dX12_sendsFirst_54 : decode cX12_sendsFirst 54 = .ok (.getfield 57, 3) := by decide +kernel
theorem dX12_sendsFirst_57 : decode cX12_sendsFirst 57 = .ok (.iload_n 1, 1) := by decide +kernel
theorem dX12_sendsFirst_58 : decode cX12_sendsFirst 58 = .ok (.iaload, 1) := by decide +kernel
theorem dX12_sendsFirst_59 : decode cX12_sendsFirst 59 = .ok (.iadd, 1) := by decide +kernel
theorem dX12_sendsFirst_60 : decode cX12_sendsFirst 60 = .ok (.invokevirtual 466, 3) := by decide +kernel
theorem dX12_sendsFirst_63 : decode cX12_sendsFirst 63 = .ok (.ireturn, 1) := by decide +kernel
theorem dX12_begins_0 : decode cX12_begins 0 = .ok (.aload_n 0, 1) := by decide +kernel
theorem dX12_begins_1 : decode cX12_begins 1 = .ok (.iload_n 1, 1) := by decide +kernel
theorem dX12_begins_2 : decode cX12_begins 2 = .ok (.invokevirtual 391, 3) := by decide +kernel
theorem dX12_begins_5 : decode cX12_begins 5 = .ok (.aload_n 0, 1) := by decide +kernel
theorem dX12_begins_6 : decode cX12_begins 6 = .ok (.getfield 45, 3) := by decide +kernel
theorem dX12_begins_9 : decode cX12_begins 9 = .ok (.iload_n 1, 1) := by decide +kernel
theorem dX12_begins_10 : decode cX12_begins 10 = .ok (.iload_n 2, 1) := by decide +kernel
theorem dX12_begins_11 : decode cX12_begins 11 = .ok (.iastore, 1) := by decide +kernel
theorem dX12_begins_12 : decode cX12_begins 12 = .ok (.aload_n 0, 1) := by decide +kernel
theorem dX12_begins_13 : decode cX12_begins 13 = .ok (.getfield 121, 3) := by decide +kernel
theorem dX12_begins_16 : decode cX12_begins 16 = .ok (.iload_n 1, 1) := by decide +kernel
theorem dX12_begins_17 : decode cX12_begins 17 = .ok (.aload_n 0, 1) := by decide +kernel
theorem dX12_begins_18 : decode cX12_begins 18 = .ok (.getfield 470, 3) := by decide +kernel
theorem dX12_begins_21 : decode cX12_begins 21 = .ok (.aload_n 0, 1) := by decide +kernel
theorem dX12_begins_22 : decode cX12_begins 22 = .ok (.getfield 51, 3) := by decide +kernel
theorem dX12_begins_25 : decode cX12_begins 25 = .ok (.iload_n 1, 1) := by decide +kernel
theorem dX12_begins_26 : decode cX12_begins 26 = .ok (.iaload, 1) := by decide +kernel
theorem dX12_begins_27 : decode cX12_begins 27 = .ok (.iadd, 1) := by decide +kernel
theorem dX12_begins_28 : decode cX12_begins 28 = .ok (.iastore, 1) := by decide +kernel
theorem dX12_begins_29 : decode cX12_begins 29 = .ok (.aload_n 0, 1) := by decide +kernel
theorem dX12_begins_30 : decode cX12_begins 30 = .ok (.getfield 112, 3) := by decide +kernel
theorem dX12_begins_33 : decode cX12_begins 33 = .ok (.iload_n 1, 1) := by decide +kernel
theorem dX12_begins_34 : decode cX12_begins 34 = .ok (.iconst 0, 1) := by decide +kernel
theorem dX12_begins_35 : decode cX12_begins 35 = .ok (.iastore, 1) := by decide +kernel
theorem dX12_begins_36 : decode cX12_begins 36 = .ok (.aload_n 0, 1) := by decide +kernel
theorem dX12_begins_37 : decode cX12_begins 37 = .ok (.getfield 115, 3) := by decide +kernel
theorem dX12_begins_40 : decode cX12_begins 40 = .ok (.iload_n 1, 1) := by decide +kernel
theorem dX12_begins_41 : decode cX12_begins 41 = .ok (.iconst 0, 1) := by decide +kernel
theorem dX12_begins_42 : decode cX12_begins 42 = .ok (.iastore, 1) := by decide +kernel
theorem dX12_begins_43 : decode cX12_begins 43 = .ok (.aload_n 0, 1) := by decide +kernel
theorem dX12_begins_44 : decode cX12_begins 44 = .ok (.getfield 124, 3) := by decide +kernel
theorem dX12_begins_47 : decode cX12_begins 47 = .ok (.iload_n 1, 1) := by decide +kernel
theorem dX12_begins_48 : decode cX12_begins 48 = .ok (.iconst 0, 1) := by decide +kernel
theorem dX12_begins_49 : decode cX12_begins 49 = .ok (.iastore, 1) := by decide +kernel
theorem dX12_begins_50 : decode cX12_begins 50 = .ok (.aload_n 0, 1) := by decide +kernel
theorem dX12_begins_51 : decode cX12_begins 51 = .ok (.getfield 127, 3) := by decide +kernel
theorem dX12_begins_54 : decode cX12_begins 54 = .ok (.iload_n 1, 1) := by decide +kernel
theorem dX12_begins_55 : decode cX12_begins 55 = .ok (.iconst 0, 1) := by decide +kernel
theorem dX12_begins_56 : decode cX12_begins 56 = .ok (.iastore, 1) := by decide +kernel
theorem dX12_begins_57 : decode cX12_begins 57 = .ok (.aload_n 0, 1) := by decide +kernel
theorem dX12_begins_58 : decode cX12_begins 58 = .ok (.getfield 130, 3) := by decide +kernel
theorem dX12_begins_61 : decode cX12_begins 61 = .ok (.iload_n 1, 1) := by decide +kernel
theorem dX12_begins_62 : decode cX12_begins 62 = .ok (.aload_n 0, 1) := by decide +kernel
theorem dX12_begins_63 : decode cX12_begins 63 = .ok (.getfield 470, 3) := by decide +kernel
theorem dX12_begins_66 : decode cX12_begins 66 = .ok (.iastore, 1) := by decide +kernel
theorem dX12_begins_67 : decode cX12_begins 67 = .ok (.aload_n 0, 1) := by decide +kernel
theorem dX12_begins_68 : decode cX12_begins 68 = .ok (.iload_n 1, 1) := by decide +kernel
theorem dX12_begins_69 : decode cX12_begins 69 = .ok (.iconst 0, 1) := by decide +kernel
theorem dX12_begins_70 : decode cX12_begins 70 = .ok (.iload_n 2, 1) := by decide +kernel
theorem dX12_begins_71 : decode cX12_begins 71 = .ok (.iconst 0, 1) := by decide +kernel
theorem dX12_begins_72 : decode cX12_begins 72 = .ok (.iconst 0, 1) := by decide +kernel
theorem dX12_begins_73 : decode cX12_begins 73 = .ok (.invokevirtual 504, 3) := by decide +kernel
theorem dX12_begins_76 : decode cX12_begins 76 = .ok (.return_, 1) := by decide +kernel
theorem dX12_advertises_0 : decode cX12_advertises 0 = .ok (.aload_n 0, 1) := by decide +kernel
theorem dX12_advertises_1 : decode cX12_advertises 1 = .ok (.getfield 54, 3) := by decide +kernel
theorem dX12_advertises_4 : decode cX12_advertises 4 = .ok (.iload_n 1, 1) := by decide +kernel
theorem dX12_advertises_5 : decode cX12_advertises 5 = .ok (.aload_n 0, 1) := by decide +kernel
theorem dX12_advertises_6 : decode cX12_advertises 6 = .ok (.getfield 470, 3) := by decide +kernel
theorem dX12_advertises_9 : decode cX12_advertises 9 = .ok (.aload_n 0, 1) := by decide +kernel
theorem dX12_advertises_10 : decode cX12_advertises 10 = .ok (.getfield 51, 3) := by decide +kernel
theorem dX12_advertises_13 : decode cX12_advertises 13 = .ok (.iload_n 1, 1) := by decide +kernel
theorem dX12_advertises_14 : decode cX12_advertises 14 = .ok (.iaload, 1) := by decide +kernel
theorem dX12_advertises_15 : decode cX12_advertises 15 = .ok (.iadd, 1) := by decide +kernel
theorem dX12_advertises_16 : decode cX12_advertises 16 = .ok (.aload_n 0, 1) := by decide +kernel
theorem dX12_advertises_17 : decode cX12_advertises 17 = .ok (.iload_n 1, 1) := by decide +kernel
theorem dX12_advertises_18 : decode cX12_advertises 18 = .ok (.invokevirtual 480, 3) := by decide +kernel
theorem dX12_advertises_21 : decode cX12_advertises 21 = .ok (.iconst 3, 1) := by decide +kernel
theorem dX12_advertises_22 : decode cX12_advertises 22 = .ok (.iand, 1) := by decide +kernel
theorem dX12_advertises_23 : decode cX12_advertises 23 = .ok (.iadd, 1) := by decide +kernel
theorem dX12_advertises_24 : decode cX12_advertises 24 = .ok (.iastore, 1) := by decide +kernel
theorem dX12_advertises_25 : decode cX12_advertises 25 = .ok (.iconst 1, 1) := by decide +kernel
theorem dX12_advertises_26 : decode cX12_advertises 26 = .ok (.iload_n 1, 1) := by decide +kernel
theorem dX12_advertises_27 : decode cX12_advertises 27 = .ok (.isub, 1) := by decide +kernel
theorem dX12_advertises_28 : decode cX12_advertises 28 = .ok (.istore_n 2, 1) := by decide +kernel
theorem dX12_advertises_29 : decode cX12_advertises 29 = .ok (.bipush 37, 2) := by decide +kernel
theorem dX12_advertises_31 : decode cX12_advertises 31 = .ok (.istore_n 3, 1) := by decide +kernel
theorem dX12_advertises_32 : decode cX12_advertises 32 = .ok (.iload_n 3, 1) := by decide +kernel
theorem dX12_advertises_33 : decode cX12_advertises 33 = .ok (.bipush 40, 2) := by decide +kernel
theorem dX12_advertises_35 : decode cX12_advertises 35 = .ok (.if_icmp .ge 218, 3) := by decide +kernel
theorem dX12_advertises_38 : decode cX12_advertises 38 = .ok (.aload_n 0, 1) := by decide +kernel
theorem dX12_advertises_39 : decode cX12_advertises 39 = .ok (.getfield 45, 3) := by decide +kernel
theorem dX12_advertises_42 : decode cX12_advertises 42 = .ok (.iload_n 1, 1) := by decide +kernel
theorem dX12_advertises_43 : decode cX12_advertises 43 = .ok (.iaload, 1) := by decide +kernel
theorem dX12_advertises_44 : decode cX12_advertises 44 = .ok (.iconst 1, 1) := by decide +kernel
theorem dX12_advertises_45 : decode cX12_advertises 45 = .ok (.if_icmp .ne 208, 3) := by decide +kernel
theorem dX12_advertises_48 : decode cX12_advertises 48 = .ok (.aload_n 0, 1) := by decide +kernel
theorem dX12_advertises_49 : decode cX12_advertises 49 = .ok (.iload_n 1, 1) := by decide +kernel
theorem dX12_advertises_50 : decode cX12_advertises 50 = .ok (.iload_n 3, 1) := by decide +kernel
theorem dX12_advertises_51 : decode cX12_advertises 51 = .ok (.invokevirtual 637, 3) := by decide +kernel
theorem dX12_advertises_54 : decode cX12_advertises 54 = .ok (.istore 4, 2) := by decide +kernel
theorem dX12_advertises_56 : decode cX12_advertises 56 = .ok (.aload_n 0, 1) := by decide +kernel
theorem dX12_advertises_57 : decode cX12_advertises 57 = .ok (.getfield 45, 3) := by decide +kernel
theorem dX12_advertises_60 : decode cX12_advertises 60 = .ok (.iload_n 2, 1) := by decide +kernel
theorem dX12_advertises_61 : decode cX12_advertises 61 = .ok (.iaload, 1) := by decide +kernel
theorem dX12_advertises_62 : decode cX12_advertises 62 = .ok (.iconst 2, 1) := by decide +kernel
theorem dX12_advertises_63 : decode cX12_advertises 63 = .ok (.if_icmp .eq 13, 3) := by decide +kernel
theorem dX12_advertises_66 : decode cX12_advertises 66 = .ok (.aload_n 0, 1) := by decide +kernel
theorem dX12_advertises_67 : decode cX12_advertises 67 = .ok (.getfield 45, 3) := by decide +kernel
theorem dX12_advertises_70 : decode cX12_advertises 70 = .ok (.iload_n 2, 1) := by decide +kernel
theorem dX12_advertises_71 : decode cX12_advertises 71 = .ok (.iaload, 1) := by decide +kernel
theorem dX12_advertises_72 : decode cX12_advertises 72 = .ok (.iconst 3, 1) := by decide +kernel
theorem dX12_advertises_73 : decode cX12_advertises 73 = .ok (.if_icmp .ne 174, 3) := by decide +kernel
theorem dX12_advertises_76 : decode cX12_advertises 76 = .ok (.iload_n 3, 1) := by decide +kernel
theorem dX12_advertises_77 : decode cX12_advertises 77 = .ok (.bipush 37, 2) := by decide +kernel
theorem dX12_advertises_79 : decode cX12_advertises 79 = .ok (.aload_n 0, 1) := by decide +kernel
theorem dX12_advertises_80 : decode cX12_advertises 80 = .ok (.getfield 470, 3) := by decide +kernel
theorem dX12_advertises_83 : decode cX12_advertises 83 = .ok (.iconst 3, 1) := by decide +kernel
theorem dX12_advertises_84 : decode cX12_advertises 84 = .ok (.irem, 1) := by decide +kernel
theorem dX12_advertises_85 : decode cX12_advertises 85 = .ok (.iadd, 1) := by decide +kernel
theorem dX12_advertises_86 : decode cX12_advertises 86 = .ok (.if_icmp .eq 6, 3) := by decide +kernel
theorem dX12_advertises_89 : decode cX12_advertises 89 = .ok (.goto 158, 3) := by decide +kernel
theorem dX12_advertises_92 : decode cX12_advertises 92 = .ok (.aload_n 0, 1) := by decide +kernel
theorem dX12_advertises_93 : decode cX12_advertises 93 = .ok (.iload 4, 2) := by decide +kernel
theorem dX12_advertises_95 : decode cX12_advertises 95 = .ok (.getstatic 633, 3) := by decide +kernel
theorem dX12_advertises_98 : decode cX12_advertises 98 = .ok (.iconst 0, 1) := by decide +kernel
theorem dX12_advertises_99 : decode cX12_advertises 99 = .ok (.iload_n 3, 1) := by decide +kernel
theorem dX12_advertises_100 : decode cX12_advertises 100 = .ok (.invokevirtual 640, 3) := by decide +kernel
theorem dX12_advertises_103 : decode cX12_advertises 103 = .ok (.ifCond .eq 144, 3) := by decide +kernel
theorem dX12_advertises_106 : decode cX12_advertises 106 = .ok (.aload_n 0, 1) := by decide +kernel
theorem dX12_advertises_107 : decode cX12_advertises 107 = .ok (.iload 4, 2) := by decide +kernel
theorem dX12_advertises_109 : decode cX12_advertises 109 = .ok (.ldc_w 636, 3) := by decide +kernel
theorem dX12_advertises_112 : decode cX12_advertises 112 = .ok (.invokevirtual 644, 3) := by decide +kernel
theorem dX12_advertises_115 : decode cX12_advertises 115 = .ok (.ifCond .ne 6, 3) := by decide +kernel
theorem dX12_advertises_118 : decode cX12_advertises 118 = .ok (.goto 129, 3) := by decide +kernel
theorem dX12_advertises_121 : decode cX12_advertises 121 = .ok (.aload_n 0, 1) := by decide +kernel
theorem dX12_advertises_122 : decode cX12_advertises 122 = .ok (.getfield 167, 3) := by decide +kernel
theorem dX12_advertises_125 : decode cX12_advertises 125 = .ok (.iload 4, 2) := by decide +kernel
theorem dX12_advertises_127 : decode cX12_advertises 127 = .ok (.iaload, 1) := by decide +kernel
theorem dX12_advertises_128 : decode cX12_advertises 128 = .ok (.bipush 9, 2) := by decide +kernel
theorem dX12_advertises_130 : decode cX12_advertises 130 = .ok (.isub, 1) := by decide +kernel
theorem dX12_advertises_131 : decode cX12_advertises 131 = .ok (.istore 5, 2) := by decide +kernel
theorem dX12_advertises_133 : decode cX12_advertises 133 = .ok (.aload_n 0, 1) := by decide +kernel
theorem dX12_advertises_134 : decode cX12_advertises 134 = .ok (.getfield 179, 3) := by decide +kernel
theorem dX12_advertises_137 : decode cX12_advertises 137 = .ok (.iconst 4, 1) := by decide +kernel
theorem dX12_advertises_138 : decode cX12_advertises 138 = .ok (.baload, 1) := by decide +kernel
theorem dX12_advertises_139 : decode cX12_advertises 139 = .ok (.ifCond .ne 108, 3) := by decide +kernel
theorem dX12_advertises_142 : decode cX12_advertises 142 = .ok (.iload 5, 2) := by decide +kernel
theorem dX12_advertises_144 : decode cX12_advertises 144 = .ok (.bipush 6, 2) := by decide +kernel
theorem dX12_advertises_146 : decode cX12_advertises 146 = .ok (.if_icmp .ge 6, 3) := by decide +kernel
theorem dX12_advertises_149 : decode cX12_advertises 149 = .ok (.goto 98, 3) := by decide +kernel
theorem dX12_advertises_152 : decode cX12_advertises 152 = .ok (.aload_n 0, 1) := by decide +kernel
theorem dX12_advertises_153 : decode cX12_advertises 153 = .ok (.getfield 179, 3) := by decide +kernel
theorem dX12_advertises_156 : decode cX12_advertises 156 = .ok (.bipush 6, 2) := by decide +kernel
theorem dX12_advertises_158 : decode cX12_advertises 158 = .ok (.bipush 6, 2) := by decide +kernel
theorem dX12_advertises_160 : decode cX12_advertises 160 = .ok (.invokestatic 494, 3) := by decide +kernel
theorem dX12_advertises_163 : decode cX12_advertises 163 = .ok (.lstore 6, 2) := by decide +kernel
theorem dX12_advertises_165 : decode cX12_advertises 165 = .ok (.aload_n 0, 1) := by decide +kernel
theorem dX12_advertises_166 : decode cX12_advertises 166 = .ok (.getfield 45, 3) := by decide +kernel
theorem dX12_advertises_169 : decode cX12_advertises 169 = .ok (.iload_n 2, 1) := by decide +kernel
theorem dX12_advertises_170 : decode cX12_advertises 170 = .ok (.iaload, 1) := by decide +kernel
theorem dX12_advertises_171 : decode cX12_advertises 171 = .ok (.iconst 2, 1) := by decide +kernel
theorem dX12_advertises_172 : decode cX12_advertises 172 = .ok (.if_icmp .ne 57, 3) := by decide +kernel
theorem dX12_advertises_175 : decode cX12_advertises 175 = .ok (.aload_n 0, 1) := by decide +kernel
theorem dX12_advertises_176 : decode cX12_advertises 176 = .ok (.getfield 88, 3) := by decide +kernel
theorem dX12_advertises_179 : decode cX12_advertises 179 = .ok (.iload_n 2, 1) := by decide +kernel
theorem dX12_advertises_180 : decode cX12_advertises 180 = .ok (.dup2, 1) := by decide +kernel
theorem dX12_advertises_181 : decode cX12_advertises 181 = .ok (.iaload, 1) := by decide +kernel
theorem dX12_advertises_182 : decode cX12_advertises 182 = .ok (.iconst 1, 1) := by decide +kernel
theorem dX12_advertises_183 : decode cX12_advertises 183 = .ok (.iadd, 1) := by decide +kernel
theorem dX12_advertises_184 : decode cX12_advertises 184 = .ok (.iastore, 1) := by decide +kernel
theorem dX12_advertises_185 : decode cX12_advertises 185 = .ok (.aload_n 0, 1) := by decide +kernel
theorem dX12_advertises_186 : decode cX12_advertises 186 = .ok (.getfield 79, 3) := by decide +kernel
theorem dX12_advertises_189 : decode cX12_advertises 189 = .ok (.iload_n 2, 1) := by decide +kernel
theorem dX12_advertises_190 : decode cX12_advertises 190 = .ok (.lload 6, 2) := by decide +kernel
theorem dX12_advertises_192 : decode cX12_advertises 192 = .ok (.lastore, 1) := by decide +kernel
theorem dX12_advertises_193 : decode cX12_advertises 193 = .ok (.aload_n 0, 1) := by decide +kernel
theorem dX12_advertises_194 : decode cX12_advertises 194 = .ok (.getfield 91, 3) := by decide +kernel
theorem dX12_advertises_197 : decode cX12_advertises 197 = .ok (.iload_n 2, 1) := by decide +kernel
theorem dX12_advertises_198 : decode cX12_advertises 198 = .ok (.iload 5, 2) := by decide +kernel
theorem dX12_advertises_200 : decode cX12_advertises 200 = .ok (.bipush 6, 2) := by decide +kernel
theorem dX12_advertises_202 : decode cX12_advertises 202 = .ok (.isub, 1) := by decide +kernel
theorem dX12_advertises_203 : decode cX12_advertises 203 = .ok (.iastore, 1) := by decide +kernel
theorem dX12_advertises_204 : decode cX12_advertises 204 = .ok (.aload_n 0, 1) := by decide +kernel
theorem dX12_advertises_205 : decode cX12_advertises 205 = .ok (.getfield 179, 3) := by decide +kernel
theorem dX12_advertises_208 : decode cX12_advertises 208 = .ok (.bipush 12, 2) := by decide +kernel
theorem dX12_advertises_210 : decode cX12_advertises 210 = .ok (.aload_n 0, 1) := by decide +kernel
theorem dX12_advertises_211 : decode cX12_advertises 211 = .ok (.getfield 85, 3) := by decide +kernel
theorem dX12_advertises_214 : decode cX12_advertises 214 = .ok (.bipush 32, 2) := by decide +kernel
theorem dX12_advertises_216 : decode cX12_advertises 216 = .ok (.iload_n 2, 1) := by decide +kernel
theorem dX12_advertises_217 : decode cX12_advertises 217 = .ok (.imul, 1) := by decide +kernel
theorem dX12_advertises_218 : decode cX12_advertises 218 = .ok (.iload 5, 2) := by decide +kernel
theorem dX12_advertises_220 : decode cX12_advertises 220 = .ok (.bipush 6, 2) := by decide +kernel
theorem dX12_advertises_222 : decode cX12_advertises 222 = .ok (.isub, 1) := by decide +kernel
theorem dX12_advertises_223 : decode cX12_advertises 223 = .ok (.invokestatic 29, 3) := by decide +kernel
theorem dX12_advertises_226 : decode cX12_advertises 226 = .ok (.goto 21, 3) := by decide +kernel
theorem dX12_advertises_229 : decode cX12_advertises 229 = .ok (.lload 6, 2) := by decide +kernel
theorem dX12_advertises_231 : decode cX12_advertises 231 = .ok (.aload_n 0, 1) := by decide +kernel
theorem dX12_advertises_232 : decode cX12_advertises 232 = .ok (.getfield 67, 3) := by decide +kernel
theorem dX12_advertises_235 : decode cX12_advertises 235 = .ok (.iload_n 2, 1) := by decide +kernel
theorem dX12_advertises_236 : decode cX12_advertises 236 = .ok (.laload, 1) := by decide +kernel
theorem dX12_advertises_237 : decode cX12_advertises 237 = .ok (.lcmp, 1) := by decide +kernel
theorem dX12_advertises_238 : decode cX12_advertises 238 = .ok (.ifCond .ne 9, 3) := by decide +kernel
theorem dX12_advertises_241 : decode cX12_advertises 241 = .ok (.aload_n 0, 1) := by decide +kernel
theorem dX12_advertises_242 : decode cX12_advertises 242 = .ok (.iload_n 2, 1) := by decide +kernel
theorem dX12_advertises_243 : decode cX12_advertises 243 = .ok (.iload_n 3, 1) := by decide +kernel
theorem dX12_advertises_244 : decode cX12_advertises 244 = .ok (.invokevirtual 647, 3) := by decide +kernel
theorem dX12_advertises_247 : decode cX12_advertises 247 = .ok (.iinc 3 1, 3) := by decide +kernel
theorem dX12_advertises_250 : decode cX12_advertises 250 = .ok (.goto (-218), 3) := by decide +kernel
theorem dX12_advertises_253 : decode cX12_advertises 253 = .ok (.return_, 1) := by decide +kernel
theorem dX12_initiates_0 : decode cX12_initiates 0 = .ok (.iconst 1, 1) := by decide +kernel
theorem dX12_initiates_1 : decode cX12_initiates 1 = .ok (.iload_n 1, 1) := by decide +kernel
theorem dX12_initiates_2 : decode cX12_initiates 2 = .ok (.isub, 1) := by decide +kernel
theorem dX12_initiates_3 : decode cX12_initiates 3 = .ok (.istore_n 3, 1) := by decide +kernel
theorem dX12_initiates_4 : decode cX12_initiates 4 = .ok (.aload_n 0, 1) := by decide +kernel
theorem dX12_initiates_5 : decode cX12_initiates 5 = .ok (.iload_n 1, 1) := by decide +kernel
theorem dX12_initiates_6 : decode cX12_initiates 6 = .ok (.iconst 4, 1) := by decide +kernel
theorem dX12_initiates_7 : decode cX12_initiates 7 = .ok (.invokevirtual 650, 3) := by decide +kernel
theorem dX12_initiates_10 : decode cX12_initiates 10 = .ok (.aload_n 0, 1) := by decide +kernel
theorem dX12_initiates_11 : decode cX12_initiates 11 = .ok (.getfield 64, 3) := by decide +kernel
theorem dX12_initiates_14 : decode cX12_initiates 14 = .ok (.iload_n 1, 1) := by decide +kernel
theorem dX12_initiates_15 : decode cX12_initiates 15 = .ok (.aload_n 0, 1) := by decide +kernel
theorem dX12_initiates_16 : decode cX12_initiates 16 = .ok (.getfield 67, 3) := by decide +kernel
theorem dX12_initiates_19 : decode cX12_initiates 19 = .ok (.iload_n 1, 1) := by decide +kernel
theorem dX12_initiates_20 : decode cX12_initiates 20 = .ok (.laload, 1) := by decide +kernel
theorem dX12_initiates_21 : decode cX12_initiates 21 = .ok (.lastore, 1) := by decide +kernel
theorem dX12_initiates_22 : decode cX12_initiates 22 = .ok (.iconst 0, 1) := by decide +kernel
theorem dX12_initiates_23 : decode cX12_initiates 23 = .ok (.istore 4, 2) := by decide +kernel
theorem dX12_initiates_25 : decode cX12_initiates 25 = .ok (.iload 4, 2) := by decide +kernel
theorem dX12_initiates_27 : decode cX12_initiates 27 = .ok (.iconst 4, 1) := by decide +kernel
theorem dX12_initiates_28 : decode cX12_initiates 28 = .ok (.if_icmp .ge 26, 3) := by decide +kernel
theorem dX12_initiates_31 : decode cX12_initiates 31 = .ok (.aload_n 0, 1) := by decide +kernel
theorem dX12_initiates_32 : decode cX12_initiates 32 = .ok (.getfield 142, 3) := by decide +kernel
theorem dX12_initiates_35 : decode cX12_initiates 35 = .ok (.iconst 4, 1) := by decide +kernel
theorem dX12_initiates_36 : decode cX12_initiates 36 = .ok (.iload_n 1, 1) := by decide +kernel
theorem dX12_initiates_37 : decode cX12_initiates 37 = .ok (.imul, 1) := by decide +kernel
theorem dX12_initiates_38 : decode cX12_initiates 38 = .ok (.iload 4, 2) := by decide +kernel
theorem dX12_initiates_40 : decode cX12_initiates 40 = .ok (.iadd, 1) := by decide +kernel
theorem dX12_initiates_41 : decode cX12_initiates 41 = .ok (.aload_n 0, 1) := by decide +kernel
theorem dX12_initiates_42 : decode cX12_initiates 42 = .ok (.iload_n 1, 1) := by decide +kernel
theorem dX12_initiates_43 : decode cX12_initiates 43 = .ok (.invokevirtual 480, 3) := by decide +kernel
theorem dX12_initiates_46 : decode cX12_initiates 46 = .ok (.i2b, 1) := by decide +kernel
theorem dX12_initiates_47 : decode cX12_initiates 47 = .ok (.bastore, 1) := by decide +kernel
theorem dX12_initiates_48 : decode cX12_initiates 48 = .ok (.iinc 4 1, 3) := by decide +kernel
theorem dX12_initiates_51 : decode cX12_initiates 51 = .ok (.goto (-26), 3) := by decide +kernel
theorem dX12_initiates_54 : decode cX12_initiates 54 = .ok (.aload_n 0, 1) := by decide +kernel
theorem dX12_initiates_55 : decode cX12_initiates 55 = .ok (.getfield 109, 3) := by decide +kernel
theorem dX12_initiates_58 : decode cX12_initiates 58 = .ok (.iload_n 1, 1) := by decide +kernel
theorem dX12_initiates_59 : decode cX12_initiates 59 = .ok (.iconst 0, 1) := by decide +kernel
theorem dX12_initiates_60 : decode cX12_initiates 60 = .ok (.iastore, 1) := by decide +kernel
theorem dX12_initiates_61 : decode cX12_initiates 61 = .ok (.iconst 0, 1) := by decide +kernel
theorem dX12_initiates_62 : decode cX12_initiates 62 = .ok (.istore 4, 2) := by decide +kernel
theorem dX12_initiates_64 : decode cX12_initiates 64 = .ok (.iload 4, 2) := by decide +kernel
theorem dX12_initiates_66 : decode cX12_initiates 66 = .ok (.iconst 3, 1) := by decide +kernel
theorem dX12_initiates_67 : decode cX12_initiates 67 = .ok (.if_icmp .ge 29, 3) := by decide +kernel
theorem dX12_initiates_70 : decode cX12_initiates 70 = .ok (.aload_n 0, 1) := by decide +kernel
theorem dX12_initiates_71 : decode cX12_initiates 71 = .ok (.getfield 109, 3) := by decide +kernel
theorem dX12_initiates_74 : decode cX12_initiates 74 = .ok (.iload_n 1, 1) := by decide +kernel
theorem dX12_initiates_75 : decode cX12_initiates 75 = .ok (.dup2, 1) := by decide +kernel
theorem dX12_initiates_76 : decode cX12_initiates 76 = .ok (.iaload, 1) := by decide +kernel
theorem dX12_initiates_77 : decode cX12_initiates 77 = .ok (.aload_n 0, 1) := by decide +kernel
theorem dX12_initiates_78 : decode cX12_initiates 78 = .ok (.iload_n 1, 1) := by decide +kernel
theorem dX12_initiates_79 : decode cX12_initiates 79 = .ok (.invokevirtual 480, 3) := by decide +kernel
theorem dX12_initiates_82 : decode cX12_initiates 82 = .ok (.bipush 8, 2) := by decide +kernel
theorem dX12_initiates_84 : decode cX12_initiates 84 = .ok (.iload 4, 2) := by decide +kernel
theorem dX12_initiates_86 : decode cX12_initiates 86 = .ok (.imul, 1) := by decide +kernel
theorem dX12_initiates_87 : decode cX12_initiates 87 = .ok (.ishl, 1) := by decide +kernel
theorem dX12_initiates_88 : decode cX12_initiates 88 = .ok (.ior, 1) := by decide +kernel
theorem dX12_initiates_89 : decode cX12_initiates 89 = .ok (.iastore, 1) := by decide +kernel
theorem dX12_initiates_90 : decode cX12_initiates 90 = .ok (.iinc 4 1, 3) := by decide +kernel
theorem dX12_initiates_93 : decode cX12_initiates 93 = .ok (.goto (-29), 3) := by decide +kernel
theorem dX12_initiates_96 : decode cX12_initiates 96 = .ok (.aload_n 0, 1) := by decide +kernel
theorem dX12_initiates_97 : decode cX12_initiates 97 = .ok (.getfield 176, 3) := by decide +kernel
theorem dX12_initiates_100 : decode cX12_initiates 100 = .ok (.bipush 6, 2) := by decide +kernel
theorem dX12_initiates_102 : decode cX12_initiates 102 = .ok (.aload_n 0, 1) := by decide +kernel
theorem dX12_initiates_103 : decode cX12_initiates 103 = .ok (.getfield 60, 3) := by decide +kernel
theorem dX12_initiates_106 : decode cX12_initiates 106 = .ok (.iload_n 1, 1) := by decide +kernel
theorem dX12_initiates_107 : decode cX12_initiates 107 = .ok (.laload, 1) := by decide +kernel
theorem dX12_initiates_108 : decode cX12_initiates 108 = .ok (.bipush 6, 2) := by decide +kernel
theorem dX12_initiates_110 : decode cX12_initiates 110 = .ok (.invokestatic 432, 3) := by decide +kernel
theorem dX12_initiates_113 : decode cX12_initiates 113 = .ok (.aload_n 0, 1) := by decide +kernel
theorem dX12_initiates_114 : decode cX12_initiates 114 = .ok (.getfield 176, 3) := by decide +kernel
theorem dX12_initiates_117 : decode cX12_initiates 117 = .ok (.bipush 12, 2) := by decide +kernel
theorem dX12_initiates_119 : decode cX12_initiates 119 = .ok (.aload_n 0, 1) := by decide +kernel
theorem dX12_initiates_120 : decode cX12_initiates 120 = .ok (.getfield 67, 3) := by decide +kernel
theorem dX12_initiates_123 : decode cX12_initiates 123 = .ok (.iload_n 1, 1) := by decide +kernel
theorem dX12_initiates_124 : decode cX12_initiates 124 = .ok (.laload, 1) := by decide +kernel
theorem dX12_initiates_125 : decode cX12_initiates 125 = .ok (.bipush 6, 2) := by decide +kernel
theorem dX12_initiates_127 : decode cX12_initiates 127 = .ok (.invokestatic 432, 3) := by decide +kernel
theorem dX12_initiates_130 : decode cX12_initiates 130 = .ok (.aload_n 0, 1) := by decide +kernel
theorem dX12_initiates_131 : decode cX12_initiates 131 = .ok (.getfield 142, 3) := by decide +kernel
theorem dX12_initiates_134 : decode cX12_initiates 134 = .ok (.iconst 4, 1) := by decide +kernel
theorem dX12_initiates_135 : decode cX12_initiates 135 = .ok (.iload_n 1, 1) := by decide +kernel
theorem dX12_initiates_136 : decode cX12_initiates 136 = .ok (.imul, 1) := by decide +kernel
theorem dX12_initiates_137 : decode cX12_initiates 137 = .ok (.aload_n 0, 1) := by decide +kernel
theorem dX12_initiates_138 : decode cX12_initiates 138 = .ok (.getfield 176, 3) := by decide +kernel
theorem dX12_initiates_141 : decode cX12_initiates 141 = .ok (.bipush 18, 2) := by decide +kernel
theorem dX12_initiates_143 : decode cX12_initiates 143 = .ok (.iconst 4, 1) := by decide +kernel
theorem dX12_initiates_144 : decode cX12_initiates 144 = .ok (.invokestatic 29, 3) := by decide +kernel
theorem dX12_initiates_147 : decode cX12_initiates 147 = .ok (.aload_n 0, 1) := by decide +kernel
theorem dX12_initiates_148 : decode cX12_initiates 148 = .ok (.getfield 176, 3) := by decide +kernel
theorem dX12_initiates_151 : decode cX12_initiates 151 = .ok (.bipush 22, 2) := by decide +kernel
theorem dX12_initiates_153 : decode cX12_initiates 153 = .ok (.aload_n 0, 1) := by decide +kernel
theorem dX12_initiates_154 : decode cX12_initiates 154 = .ok (.getfield 109, 3) := by decide +kernel
theorem dX12_initiates_157 : decode cX12_initiates 157 = .ok (.iload_n 1, 1) := by decide +kernel
theorem dX12_initiates_158 : decode cX12_initiates 158 = .ok (.iaload, 1) := by decide +kernel
theorem dX12_initiates_159 : decode cX12_initiates 159 = .ok (.i2l, 1) := by decide +kernel
theorem dX12_initiates_160 : decode cX12_initiates 160 = .ok (.iconst 3, 1) := by decide +kernel
theorem dX12_initiates_161 : decode cX12_initiates 161 = .ok (.invokestatic 432, 3) := by decide +kernel
theorem dX12_initiates_164 : decode cX12_initiates 164 = .ok (.aload_n 0, 1) := by decide +kernel
theorem dX12_initiates_165 : decode cX12_initiates 165 = .ok (.getfield 176, 3) := by decide +kernel
theorem dX12_initiates_168 : decode cX12_initiates 168 = .ok (.bipush 25, 2) := by decide +kernel
theorem dX12_initiates_170 : decode cX12_initiates 170 = .ok (.aload_n 0, 1) := by decide +kernel
theorem dX12_initiates_171 : decode cX12_initiates 171 = .ok (.getfield 51, 3) := by decide +kernel
theorem dX12_initiates_174 : decode cX12_initiates 174 = .ok (.iload_n 1, 1) := by decide +kernel
theorem dX12_initiates_175 : decode cX12_initiates 175 = .ok (.iaload, 1) := by decide +kernel
theorem dX12_initiates_176 : decode cX12_initiates 176 = .ok (.i2l, 1) := by decide +kernel
theorem dX12_initiates_177 : decode cX12_initiates 177 = .ok (.iconst 2, 1) := by decide +kernel
theorem dX12_initiates_178 : decode cX12_initiates 178 = .ok (.invokestatic 432, 3) := by decide +kernel
theorem dX12_initiates_181 : decode cX12_initiates 181 = .ok (.aload_n 0, 1) := by decide +kernel
theorem dX12_initiates_182 : decode cX12_initiates 182 = .ok (.getfield 176, 3) := by decide +kernel
theorem dX12_initiates_185 : decode cX12_initiates 185 = .ok (.bipush 27, 2) := by decide +kernel
theorem dX12_initiates_187 : decode cX12_initiates 187 = .ok (.aload_n 0, 1) := by decide +kernel
theorem dX12_initiates_188 : decode cX12_initiates 188 = .ok (.getfield 103, 3) := by decide +kernel
theorem dX12_initiates_191 : decode cX12_initiates 191 = .ok (.iload_n 1, 1) := by decide +kernel
theorem dX12_initiates_192 : decode cX12_initiates 192 = .ok (.iaload, 1) := by decide +kernel
theorem dX12_initiates_193 : decode cX12_initiates 193 = .ok (.i2l, 1) := by decide +kernel
theorem dX12_initiates_194 : decode cX12_initiates 194 = .ok (.iconst 2, 1) := by decide +kernel
theorem dX12_initiates_195 : decode cX12_initiates 195 = .ok (.invokestatic 432, 3) := by decide +kernel
theorem dX12_initiates_198 : decode cX12_initiates 198 = .ok (.aload_n 0, 1) := by decide +kernel
theorem dX12_initiates_199 : decode cX12_initiates 199 = .ok (.getfield 176, 3) := by decide +kernel
theorem dX12_initiates_202 : decode cX12_initiates 202 = .ok (.bipush 29, 2) := by decide +kernel
theorem dX12_initiates_204 : decode cX12_initiates 204 = .ok (.aload_n 0, 1) := by decide +kernel
theorem dX12_initiates_205 : decode cX12_initiates 205 = .ok (.getfield 70, 3) := by decide +kernel
theorem dX12_initiates_208 : decode cX12_initiates 208 = .ok (.iload_n 1, 1) := by decide +kernel
theorem dX12_initiates_209 : decode cX12_initiates 209 = .ok (.laload, 1) := by decide +kernel
theorem dX12_initiates_210 : decode cX12_initiates 210 = .ok (.iconst 5, 1) := by decide +kernel
theorem dX12_initiates_211 : decode cX12_initiates 211 = .ok (.invokestatic 432, 3) := by decide +kernel
theorem dX12_initiates_214 : decode cX12_initiates 214 = .ok (.aload_n 0, 1) := by decide +kernel
theorem dX12_initiates_215 : decode cX12_initiates 215 = .ok (.getfield 176, 3) := by decide +kernel
theorem dX12_initiates_218 : decode cX12_initiates 218 = .ok (.bipush 34, 2) := by decide +kernel
theorem dX12_initiates_220 : decode cX12_initiates 220 = .ok (.aload_n 0, 1) := by decide +kernel
theorem dX12_initiates_221 : decode cX12_initiates 221 = .ok (.getfield 106, 3) := by decide +kernel
theorem dX12_initiates_224 : decode cX12_initiates 224 = .ok (.iload_n 1, 1) := by decide +kernel
theorem dX12_initiates_225 : decode cX12_initiates 225 = .ok (.iaload, 1) := by decide +kernel
theorem dX12_initiates_226 : decode cX12_initiates 226 = .ok (.i2l, 1) := by decide +kernel
theorem dX12_initiates_227 : decode cX12_initiates 227 = .ok (.iconst 1, 1) := by decide +kernel
theorem dX12_initiates_228 : decode cX12_initiates 228 = .ok (.invokestatic 432, 3) := by decide +kernel
theorem dX12_initiates_231 : decode cX12_initiates 231 = .ok (.aload_n 0, 1) := by decide +kernel
theorem dX12_initiates_232 : decode cX12_initiates 232 = .ok (.iload_n 1, 1) := by decide +kernel
theorem dX12_initiates_233 : decode cX12_initiates 233 = .ok (.getstatic 633, 3) := by decide +kernel
theorem dX12_initiates_236 : decode cX12_initiates 236 = .ok (.iconst 0, 1) := by decide +kernel
theorem dX12_initiates_237 : decode cX12_initiates 237 = .ok (.ldc_w 636, 3) := by decide +kernel
theorem dX12_initiates_240 : decode cX12_initiates 240 = .ok (.iload_n 2, 1) := by decide +kernel
theorem dX12_initiates_241 : decode cX12_initiates 241 = .ok (.iconst 5, 1) := by decide +kernel
theorem dX12_initiates_242 : decode cX12_initiates 242 = .ok (.bipush 29, 2) := by decide +kernel
theorem dX12_initiates_244 : decode cX12_initiates 244 = .ok (.invokevirtual 466, 3) := by decide +kernel
theorem dX12_initiates_247 : decode cX12_initiates 247 = .ok (.istore 4, 2) := by decide +kernel
theorem dX12_initiates_249 : decode cX12_initiates 249 = .ok (.aload_n 0, 1) := by decide +kernel
theorem dX12_initiates_250 : decode cX12_initiates 250 = .ok (.iload 4, 2) := by decide +kernel
theorem dX12_initiates_252 : decode cX12_initiates 252 = .ok (.getstatic 633, 3) := by decide +kernel
theorem dX12_initiates_255 : decode cX12_initiates 255 = .ok (.iconst 0, 1) := by decide +kernel
theorem dX12_initiates_256 : decode cX12_initiates 256 = .ok (.iload_n 2, 1) := by decide +kernel
theorem dX12_initiates_257 : decode cX12_initiates 257 = .ok (.invokevirtual 640, 3) := by decide +kernel
theorem dX12_initiates_260 : decode cX12_initiates 260 = .ok (.ifCond .eq 15, 3) := by decide +kernel
theorem dX12_initiates_263 : decode cX12_initiates 263 = .ok (.aload_n 0, 1) := by decide +kernel
theorem dX12_initiates_264 : decode cX12_initiates 264 = .ok (.iload 4, 2) := by decide +kernel
theorem dX12_initiates_266 : decode cX12_initiates 266 = .ok (.ldc_w 636, 3) := by decide +kernel
theorem dX12_initiates_269 : decode cX12_initiates 269 = .ok (.invokevirtual 644, 3) := by decide +kernel
theorem dX12_initiates_272 : decode cX12_initiates 272 = .ok (.ifCond .ne 4, 3) := by decide +kernel
theorem dX12_initiates_275 : decode cX12_initiates 275 = .ok (.return_, 1) := by decide +kernel
theorem dX12_initiates_276 : decode cX12_initiates 276 = .ok (.aload_n 0, 1) := by decide +kernel
theorem dX12_initiates_277 : decode cX12_initiates 277 = .ok (.getfield 179, 3) := by decide +kernel
theorem dX12_initiates_280 : decode cX12_initiates 280 = .ok (.iconst 4, 1) := by decide +kernel
theorem dX12_initiates_281 : decode cX12_initiates 281 = .ok (.baload, 1) := by decide +kernel
theorem dX12_initiates_282 : decode cX12_initiates 282 = .ok (.iconst 5, 1) := by decide +kernel
theorem dX12_initiates_283 : decode cX12_initiates 283 = .ok (.if_icmp .ne 36, 3) := by decide +kernel
theorem dX12_initiates_286 : decode cX12_initiates 286 = .ok (.aload_n 0, 1) := by decide +kernel
theorem dX12_initiates_287 : decode cX12_initiates 287 = .ok (.getfield 167, 3) := by decide +kernel
theorem dX12_initiates_290 : decode cX12_initiates 290 = .ok (.iload 4, 2) := by decide +kernel
theorem dX12_initiates_292 : decode cX12_initiates 292 = .ok (.iaload, 1) := by decide +kernel
theorem dX12_initiates_293 : decode cX12_initiates 293 = .ok (.bipush 38, 2) := by decide +kernel
theorem dX12_initiates_295 : decode cX12_initiates 295 = .ok (.if_icmp .ne 24, 3) := by decide +kernel
theorem dX12_initiates_298 : decode cX12_initiates 298 = .ok (.aload_n 0, 1) := by decide +kernel
theorem dX12_initiates_299 : decode cX12_initiates 299 = .ok (.getfield 179, 3) := by decide +kernel
theorem dX12_initiates_302 : decode cX12_initiates 302 = .ok (.bipush 12, 2) := by decide +kernel
theorem dX12_initiates_304 : decode cX12_initiates 304 = .ok (.bipush 6, 2) := by decide +kernel
theorem dX12_initiates_306 : decode cX12_initiates 306 = .ok (.invokestatic 494, 3) := by decide +kernel
theorem dX12_initiates_309 : decode cX12_initiates 309 = .ok (.aload_n 0, 1) := by decide +kernel
theorem dX12_initiates_310 : decode cX12_initiates 310 = .ok (.getfield 60, 3) := by decide +kernel
theorem dX12_initiates_313 : decode cX12_initiates 313 = .ok (.iload_n 3, 1) := by decide +kernel
theorem dX12_initiates_314 : decode cX12_initiates 314 = .ok (.laload, 1) := by decide +kernel
theorem dX12_initiates_315 : decode cX12_initiates 315 = .ok (.lcmp, 1) := by decide +kernel
theorem dX12_initiates_316 : decode cX12_initiates 316 = .ok (.ifCond .eq 4, 3) := by decide +kernel
theorem dX12_initiates_319 : decode cX12_initiates 319 = .ok (.return_, 1) := by decide +kernel
theorem dX12_initiates_320 : decode cX12_initiates 320 = .ok (.aload_n 0, 1) := by decide +kernel
theorem dX12_initiates_321 : decode cX12_initiates 321 = .ok (.getfield 179, 3) := by decide +kernel
theorem dX12_initiates_324 : decode cX12_initiates 324 = .ok (.bipush 25, 2) := by decide +kernel
theorem dX12_initiates_326 : decode cX12_initiates 326 = .ok (.invokestatic 489, 3) := by decide +kernel
theorem dX12_initiates_329 : decode cX12_initiates 329 = .ok (.istore 5, 2) := by decide +kernel
theorem dX12_initiates_331 : decode cX12_initiates 331 = .ok (.aload_n 0, 1) := by decide +kernel
theorem dX12_initiates_332 : decode cX12_initiates 332 = .ok (.getfield 179, 3) := by decide +kernel
theorem dX12_initiates_335 : decode cX12_initiates 335 = .ok (.bipush 27, 2) := by decide +kernel
theorem dX12_initiates_337 : decode cX12_initiates 337 = .ok (.invokestatic 489, 3) := by decide +kernel
theorem dX12_initiates_340 : decode cX12_initiates 340 = .ok (.istore 6, 2) := by decide +kernel
theorem dX12_initiates_342 : decode cX12_initiates 342 = .ok (.aload_n 0, 1) := by decide +kernel
theorem dX12_initiates_343 : decode cX12_initiates 343 = .ok (.getfield 179, 3) := by decide +kernel
theorem dX12_initiates_346 : decode cX12_initiates 346 = .ok (.bipush 29, 2) := by decide +kernel
theorem dX12_initiates_348 : decode cX12_initiates 348 = .ok (.iconst 5, 1) := by decide +kernel
theorem dX12_initiates_349 : decode cX12_initiates 349 = .ok (.invokestatic 494, 3) := by decide +kernel
theorem dX12_initiates_352 : decode cX12_initiates 352 = .ok (.lstore 7, 2) := by decide +kernel
theorem dX12_initiates_354 : decode cX12_initiates 354 = .ok (.aload_n 0, 1) := by decide +kernel
theorem dX12_initiates_355 : decode cX12_initiates 355 = .ok (.getfield 179, 3) := by decide +kernel
theorem dX12_initiates_358 : decode cX12_initiates 358 = .ok (.bipush 34, 2) := by decide +kernel
theorem dX12_initiates_360 : decode cX12_initiates 360 = .ok (.baload, 1) := by decide +kernel
theorem dX12_initiates_361 : decode cX12_initiates 361 = .ok (.sipush 255, 3) := by decide +kernel
theorem dX12_initiates_364 : decode cX12_initiates 364 = .ok (.iand, 1) := by decide +kernel
theorem dX12_initiates_365 : decode cX12_initiates 365 = .ok (.istore 9, 2) := by decide +kernel
theorem dX12_initiates_367 : decode cX12_initiates 367 = .ok (.iload 5, 2) := by decide +kernel
theorem dX12_initiates_369 : decode cX12_initiates 369 = .ok (.iconst 2, 1) := by decide +kernel
theorem dX12_initiates_370 : decode cX12_initiates 370 = .ok (.if_icmp .lt 46, 3) := by decide +kernel
theorem dX12_initiates_373 : decode cX12_initiates 373 = .ok (.iload 5, 2) := by decide +kernel
theorem dX12_initiates_375 : decode cX12_initiates 375 = .ok (.bipush 50, 2) := by decide +kernel
theorem dX12_initiates_377 : decode cX12_initiates 377 = .ok (.if_icmp .gt 39, 3) := by decide +kernel
theorem dX12_initiates_380 : decode cX12_initiates 380 = .ok (.iload 6, 2) := by decide +kernel
theorem dX12_initiates_382 : decode cX12_initiates 382 = .ok (.bipush 10, 2) := by decide +kernel
theorem dX12_initiates_384 : decode cX12_initiates 384 = .ok (.if_icmp .lt 32, 3) := by decide +kernel
theorem dX12_initiates_387 : decode cX12_initiates 387 = .ok (.iload 6, 2) := by decide +kernel
theorem dX12_initiates_389 : decode cX12_initiates 389 = .ok (.sipush 2000, 3) := by decide +kernel
theorem dX12_initiates_392 : decode cX12_initiates 392 = .ok (.if_icmp .gt 24, 3) := by decide +kernel
theorem dX12_initiates_395 : decode cX12_initiates 395 = .ok (.lload 7, 2) := by decide +kernel
theorem dX12_initiates_397 : decode cX12_initiates 397 = .ok (.invokestatic 497, 3) := by decide +kernel
theorem dX12_initiates_400 : decode cX12_initiates 400 = .ok (.ifCond .eq 16, 3) := by decide +kernel
theorem dX12_initiates_403 : decode cX12_initiates 403 = .ok (.iload 9, 2) := by decide +kernel
theorem dX12_initiates_405 : decode cX12_initiates 405 = .ok (.iconst 5, 1) := by decide +kernel
theorem dX12_initiates_406 : decode cX12_initiates 406 = .ok (.if_icmp .lt 10, 3) := by decide +kernel
theorem dX12_initiates_409 : decode cX12_initiates 409 = .ok (.iload 9, 2) := by decide +kernel
theorem dX12_initiates_411 : decode cX12_initiates 411 = .ok (.bipush 16, 2) := by decide +kernel
theorem dX12_initiates_413 : decode cX12_initiates 413 = .ok (.if_icmp .le 4, 3) := by decide +kernel
theorem dX12_initiates_416 : decode cX12_initiates 416 = .ok (.return_, 1) := by decide +kernel
theorem dX12_initiates_417 : decode cX12_initiates 417 = .ok (.aload_n 0, 1) := by decide +kernel
theorem dX12_initiates_418 : decode cX12_initiates 418 = .ok (.getfield 51, 3) := by decide +kernel
theorem dX12_initiates_421 : decode cX12_initiates 421 = .ok (.iload_n 3, 1) := by decide +kernel
theorem dX12_initiates_422 : decode cX12_initiates 422 = .ok (.iload 5, 2) := by decide +kernel
theorem dX12_initiates_424 : decode cX12_initiates 424 = .ok (.iastore, 1) := by decide +kernel
theorem dX12_initiates_425 : decode cX12_initiates 425 = .ok (.aload_n 0, 1) := by decide +kernel
theorem dX12_initiates_426 : decode cX12_initiates 426 = .ok (.getfield 103, 3) := by decide +kernel
theorem dX12_initiates_429 : decode cX12_initiates 429 = .ok (.iload_n 3, 1) := by decide +kernel
theorem dX12_initiates_430 : decode cX12_initiates 430 = .ok (.iload 6, 2) := by decide +kernel
theorem dX12_initiates_432 : decode cX12_initiates 432 = .ok (.iastore, 1) := by decide +kernel
theorem dX12_initiates_433 : decode cX12_initiates 433 = .ok (.aload_n 0, 1) := by decide +kernel
theorem dX12_initiates_434 : decode cX12_initiates 434 = .ok (.getfield 70, 3) := by decide +kernel
theorem dX12_initiates_437 : decode cX12_initiates 437 = .ok (.iload_n 3, 1) := by decide +kernel
theorem dX12_initiates_438 : decode cX12_initiates 438 = .ok (.lload 7, 2) := by decide +kernel
theorem dX12_initiates_440 : decode cX12_initiates 440 = .ok (.lastore, 1) := by decide +kernel
theorem dX12_initiates_441 : decode cX12_initiates 441 = .ok (.aload_n 0, 1) := by decide +kernel
theorem dX12_initiates_442 : decode cX12_initiates 442 = .ok (.getfield 106, 3) := by decide +kernel
theorem dX12_initiates_445 : decode cX12_initiates 445 = .ok (.iload_n 3, 1) := by decide +kernel
theorem dX12_initiates_446 : decode cX12_initiates 446 = .ok (.iload 9, 2) := by decide +kernel
theorem dX12_initiates_448 : decode cX12_initiates 448 = .ok (.iastore, 1) := by decide +kernel
theorem dX12_initiates_449 : decode cX12_initiates 449 = .ok (.aload_n 0, 1) := by decide +kernel
theorem dX12_initiates_450 : decode cX12_initiates 450 = .ok (.getfield 64, 3) := by decide +kernel
theorem dX12_initiates_453 : decode cX12_initiates 453 = .ok (.iload_n 3, 1) := by decide +kernel
theorem dX12_initiates_454 : decode cX12_initiates 454 = .ok (.aload_n 0, 1) := by decide +kernel
theorem dX12_initiates_455 : decode cX12_initiates 455 = .ok (.getfield 179, 3) := by decide +kernel
theorem dX12_initiates_458 : decode cX12_initiates 458 = .ok (.bipush 6, 2) := by decide +kernel
theorem dX12_initiates_460 : decode cX12_initiates 460 = .ok (.bipush 6, 2) := by decide +kernel
theorem dX12_initiates_462 : decode cX12_initiates 462 = .ok (.invokestatic 494, 3) := by decide +kernel
theorem dX12_initiates_465 : decode cX12_initiates 465 = .ok (.lastore, 1) := by decide +kernel
theorem dX12_initiates_466 : decode cX12_initiates 466 = .ok (.aload_n 0, 1) := by decide +kernel
theorem dX12_initiates_467 : decode cX12_initiates 467 = .ok (.getfield 179, 3) := by decide +kernel
theorem dX12_initiates_470 : decode cX12_initiates 470 = .ok (.bipush 18, 2) := by decide +kernel
theorem dX12_initiates_472 : decode cX12_initiates 472 = .ok (.aload_n 0, 1) := by decide +kernel
theorem dX12_initiates_473 : decode cX12_initiates 473 = .ok (.getfield 142, 3) := by decide +kernel
theorem dX12_initiates_476 : decode cX12_initiates 476 = .ok (.iconst 4, 1) := by decide +kernel
theorem dX12_initiates_477 : decode cX12_initiates 477 = .ok (.iload_n 3, 1) := by decide +kernel
theorem dX12_initiates_478 : decode cX12_initiates 478 = .ok (.imul, 1) := by decide +kernel
theorem dX12_initiates_479 : decode cX12_initiates 479 = .ok (.iconst 4, 1) := by decide +kernel
theorem dX12_initiates_480 : decode cX12_initiates 480 = .ok (.invokestatic 29, 3) := by decide +kernel
theorem dX12_initiates_483 : decode cX12_initiates 483 = .ok (.aload_n 0, 1) := by decide +kernel
theorem dX12_initiates_484 : decode cX12_initiates 484 = .ok (.getfield 109, 3) := by decide +kernel
theorem dX12_initiates_487 : decode cX12_initiates 487 = .ok (.iload_n 3, 1) := by decide +kernel
theorem dX12_initiates_488 : decode cX12_initiates 488 = .ok (.aload_n 0, 1) := by decide +kernel
theorem dX12_initiates_489 : decode cX12_initiates 489 = .ok (.getfield 179, 3) := by decide +kernel
theorem dX12_initiates_492 : decode cX12_initiates 492 = .ok (.bipush 22, 2) := by decide +kernel
theorem dX12_initiates_494 : decode cX12_initiates 494 = .ok (.iconst 3, 1) := by decide +kernel
theorem dX12_initiates_495 : decode cX12_initiates 495 = .ok (.invokestatic 494, 3) := by decide +kernel
theorem dX12_initiates_498 : decode cX12_initiates 498 = .ok (.l2i, 1) := by decide +kernel
theorem dX12_initiates_499 : decode cX12_initiates 499 = .ok (.iastore, 1) := by decide +kernel
theorem dX12_initiates_500 : decode cX12_initiates 500 = .ok (.aload_n 0, 1) := by decide +kernel
theorem dX12_initiates_501 : decode cX12_initiates 501 = .ok (.iload_n 3, 1) := by decide +kernel
theorem dX12_initiates_502 : decode cX12_initiates 502 = .ok (.iconst 5, 1) := by decide +kernel
theorem dX12_initiates_503 : decode cX12_initiates 503 = .ok (.invokevirtual 650, 3) := by decide +kernel
theorem dX12_initiates_506 : decode cX12_initiates 506 = .ok (.return_, 1) := by decide +kernel
theorem dX12_hops_0 : decode cX12_hops 0 = .ok (.aload_n 0, 1) := by decide +kernel
theorem dX12_hops_1 : decode cX12_hops 1 = .ok (.getfield 149, 3) := by decide +kernel
theorem dX12_hops_4 : decode cX12_hops 4 = .ok (.iload_n 1, 1) := by decide +kernel
theorem dX12_hops_5 : decode cX12_hops 5 = .ok (.baload, 1) := by decide +kernel
theorem dX12_hops_6 : decode cX12_hops 6 = .ok (.ifCond .eq 37, 3) := by decide +kernel
theorem dX12_hops_9 : decode cX12_hops 9 = .ok (.aload_n 0, 1) := by decide +kernel
theorem dX12_hops_10 : decode cX12_hops 10 = .ok (.getfield 112, 3) := by decide +kernel
theorem dX12_hops_13 : decode cX12_hops 13 = .ok (.iload_n 1, 1) := by decide +kernel
theorem dX12_hops_14 : decode cX12_hops 14 = .ok (.iaload, 1) := by decide +kernel
theorem dX12_hops_15 : decode cX12_hops 15 = .ok (.aload_n 0, 1) := by decide +kernel
theorem dX12_hops_16 : decode cX12_hops 16 = .ok (.getfield 139, 3) := by decide +kernel
theorem dX12_hops_19 : decode cX12_hops 19 = .ok (.iload_n 1, 1) := by decide +kernel
theorem dX12_hops_20 : decode cX12_hops 20 = .ok (.iaload, 1) := by decide +kernel
theorem dX12_hops_21 : decode cX12_hops 21 = .ok (.if_icmp .ne 22, 3) := by decide +kernel
theorem dX12_hops_24 : decode cX12_hops 24 = .ok (.aload_n 0, 1) := by decide +kernel
theorem dX12_hops_25 : decode cX12_hops 25 = .ok (.getfield 70, 3) := by decide +kernel
theorem dX12_hops_28 : decode cX12_hops 28 = .ok (.iload_n 1, 1) := by decide +kernel
theorem dX12_hops_29 : decode cX12_hops 29 = .ok (.aload_n 0, 1) := by decide +kernel
theorem dX12_hops_30 : decode cX12_hops 30 = .ok (.getfield 73, 3) := by decide +kernel
theorem dX12_hops_33 : decode cX12_hops 33 = .ok (.iload_n 1, 1) := by decide +kernel
theorem dX12_hops_34 : decode cX12_hops 34 = .ok (.laload, 1) := by decide +kernel
theorem dX12_hops_35 : decode cX12_hops 35 = .ok (.lastore, 1) := by decide +kernel
theorem dX12_hops_36 : decode cX12_hops 36 = .ok (.aload_n 0, 1) := by decide +kernel
theorem dX12_hops_37 : decode cX12_hops 37 = .ok (.getfield 149, 3) := by decide +kernel
theorem dX12_hops_40 : decode cX12_hops 40 = .ok (.iload_n 1, 1) := by decide +kernel
theorem dX12_hops_41 : decode cX12_hops 41 = .ok (.iconst 0, 1) := by decide +kernel
theorem dX12_hops_42 : decode cX12_hops 42 = .ok (.bastore, 1) := by decide +kernel
theorem dX12_hops_43 : decode cX12_hops 43 = .ok (.aload_n 0, 1) := by decide +kernel
theorem dX12_hops_44 : decode cX12_hops 44 = .ok (.getfield 115, 3) := by decide +kernel
theorem dX12_hops_47 : decode cX12_hops 47 = .ok (.iload_n 1, 1) := by decide +kernel
theorem dX12_hops_48 : decode cX12_hops 48 = .ok (.aload_n 0, 1) := by decide +kernel
theorem dX12_hops_49 : decode cX12_hops 49 = .ok (.getfield 115, 3) := by decide +kernel
theorem dX12_hops_52 : decode cX12_hops 52 = .ok (.iload_n 1, 1) := by decide +kernel
theorem dX12_hops_53 : decode cX12_hops 53 = .ok (.iaload, 1) := by decide +kernel
theorem dX12_hops_54 : decode cX12_hops 54 = .ok (.aload_n 0, 1) := by decide +kernel
theorem dX12_hops_55 : decode cX12_hops 55 = .ok (.getfield 106, 3) := by decide +kernel
theorem dX12_hops_58 : decode cX12_hops 58 = .ok (.iload_n 1, 1) := by decide +kernel
theorem dX12_hops_59 : decode cX12_hops 59 = .ok (.iaload, 1) := by decide +kernel
theorem dX12_hops_60 : decode cX12_hops 60 = .ok (.iadd, 1) := by decide +kernel
theorem dX12_hops_61 : decode cX12_hops 61 = .ok (.bipush 37, 2) := by decide +kernel
theorem dX12_hops_63 : decode cX12_hops 63 = .ok (.irem, 1) := by decide +kernel
theorem dX12_hops_64 : decode cX12_hops 64 = .ok (.iastore, 1) := by decide +kernel
theorem dX12_hops_65 : decode cX12_hops 65 = .ok (.aload_n 0, 1) := by decide +kernel
theorem dX12_hops_66 : decode cX12_hops 66 = .ok (.getfield 118, 3) := by decide +kernel
theorem dX12_hops_69 : decode cX12_hops 69 = .ok (.iload_n 1, 1) := by decide +kernel
theorem dX12_hops_70 : decode cX12_hops 70 = .ok (.aload_n 0, 1) := by decide +kernel
theorem dX12_hops_71 : decode cX12_hops 71 = .ok (.getfield 115, 3) := by decide +kernel
theorem dX12_hops_74 : decode cX12_hops 74 = .ok (.iload_n 1, 1) := by decide +kernel
theorem dX12_hops_75 : decode cX12_hops 75 = .ok (.iaload, 1) := by decide +kernel
theorem dX12_hops_76 : decode cX12_hops 76 = .ok (.iastore, 1) := by decide +kernel
theorem dX12_hops_77 : decode cX12_hops 77 = .ok (.aload_n 0, 1) := by decide +kernel
theorem dX12_hops_78 : decode cX12_hops 78 = .ok (.getfield 70, 3) := by decide +kernel
theorem dX12_hops_81 : decode cX12_hops 81 = .ok (.iload_n 1, 1) := by decide +kernel
theorem dX12_hops_82 : decode cX12_hops 82 = .ok (.laload, 1) := by decide +kernel
theorem dX12_hops_83 : decode cX12_hops 83 = .ok (.aload_n 0, 1) := by decide +kernel
theorem dX12_hops_84 : decode cX12_hops 84 = .ok (.getfield 115, 3) := by decide +kernel
theorem dX12_hops_87 : decode cX12_hops 87 = .ok (.iload_n 1, 1) := by decide +kernel
theorem dX12_hops_88 : decode cX12_hops 88 = .ok (.iaload, 1) := by decide +kernel
theorem dX12_hops_89 : decode cX12_hops 89 = .ok (.lshr, 1) := by decide +kernel
theorem dX12_hops_90 : decode cX12_hops 90 = .ok (.lconst 1, 1) := by decide +kernel
theorem dX12_hops_91 : decode cX12_hops 91 = .ok (.land, 1) := by decide +kernel
theorem dX12_hops_92 : decode cX12_hops 92 = .ok (.lconst 1, 1) := by decide +kernel
theorem dX12_hops_93 : decode cX12_hops 93 = .ok (.lcmp, 1) := by decide +kernel
theorem dX12_hops_94 : decode cX12_hops 94 = .ok (.ifCond .ne 4, 3) := by decide +kernel
theorem dX12_hops_97 : decode cX12_hops 97 = .ok (.return_, 1) := by decide +kernel
theorem dX12_hops_98 : decode cX12_hops 98 = .ok (.aload_n 0, 1) := by decide +kernel
theorem dX12_hops_99 : decode cX12_hops 99 = .ok (.getfield 115, 3) := by decide +kernel
theorem dX12_hops_102 : decode cX12_hops 102 = .ok (.iload_n 1, 1) := by decide +kernel
theorem dX12_hops_103 : decode cX12_hops 103 = .ok (.iaload, 1) := by decide +kernel
theorem dX12_hops_104 : decode cX12_hops 104 = .ok (.aload_n 0, 1) := by decide +kernel
theorem dX12_hops_105 : decode cX12_hops 105 = .ok (.getfield 70, 3) := by decide +kernel
theorem dX12_hops_108 : decode cX12_hops 108 = .ok (.iload_n 1, 1) := by decide +kernel
theorem dX12_hops_109 : decode cX12_hops 109 = .ok (.laload, 1) := by decide +kernel
theorem dX12_hops_110 : decode cX12_hops 110 = .ok (.invokestatic 398, 3) := by decide +kernel
theorem dX12_hops_113 : decode cX12_hops 113 = .ok (.irem, 1) := by decide +kernel
theorem dX12_hops_114 : decode cX12_hops 114 = .ok (.istore_n 2, 1) := by decide +kernel
theorem dX12_hops_115 : decode cX12_hops 115 = .ok (.iconst 0, 1) := by decide +kernel
theorem dX12_hops_116 : decode cX12_hops 116 = .ok (.istore_n 3, 1) := by decide +kernel
theorem dX12_hops_117 : decode cX12_hops 117 = .ok (.aload_n 0, 1) := by decide +kernel
theorem dX12_hops_118 : decode cX12_hops 118 = .ok (.getfield 70, 3) := by decide +kernel
theorem dX12_hops_121 : decode cX12_hops 121 = .ok (.iload_n 1, 1) := by decide +kernel
theorem dX12_hops_122 : decode cX12_hops 122 = .ok (.laload, 1) := by decide +kernel
theorem dX12_hops_123 : decode cX12_hops 123 = .ok (.iload_n 3, 1) := by decide +kernel
theorem dX12_hops_124 : decode cX12_hops 124 = .ok (.lshr, 1) := by decide +kernel
theorem dX12_hops_125 : decode cX12_hops 125 = .ok (.lconst 1, 1) := by decide +kernel
theorem dX12_hops_126 : decode cX12_hops 126 = .ok (.land, 1) := by decide +kernel
theorem dX12_hops_127 : decode cX12_hops 127 = .ok (.lconst 0, 1) := by decide +kernel
theorem dX12_hops_128 : decode cX12_hops 128 = .ok (.lcmp, 1) := by decide +kernel
theorem dX12_hops_129 : decode cX12_hops 129 = .ok (.ifCond .eq 7, 3) := by decide +kernel
theorem dX12_hops_132 : decode cX12_hops 132 = .ok (.iload_n 2, 1) := by decide +kernel
theorem dX12_hops_133 : decode cX12_hops 133 = .ok (.ifCond .le 32, 3) := by decide +kernel
theorem dX12_hops_136 : decode cX12_hops 136 = .ok (.iload_n 2, 1) := by decide +kernel
theorem dX12_hops_137 : decode cX12_hops 137 = .ok (.aload_n 0, 1) := by decide +kernel
theorem dX12_hops_138 : decode cX12_hops 138 = .ok (.getfield 70, 3) := by decide +kernel
theorem dX12_hops_141 : decode cX12_hops 141 = .ok (.iload_n 1, 1) := by decide +kernel
theorem dX12_hops_142 : decode cX12_hops 142 = .ok (.laload, 1) := by decide +kernel
theorem dX12_hops_143 : decode cX12_hops 143 = .ok (.iload_n 3, 1) := by decide +kernel
theorem dX12_hops_144 : decode cX12_hops 144 = .ok (.lshr, 1) := by decide +kernel
theorem dX12_hops_145 : decode cX12_hops 145 = .ok (.lconst 1, 1) := by decide +kernel
theorem dX12_hops_146 : decode cX12_hops 146 = .ok (.land, 1) := by decide +kernel
theorem dX12_hops_147 : decode cX12_hops 147 = .ok (.lconst 1, 1) := by decide +kernel
theorem dX12_hops_148 : decode cX12_hops 148 = .ok (.lcmp, 1) := by decide +kernel
theorem dX12_hops_149 : decode cX12_hops 149 = .ok (.ifCond .ne 7, 3) := by decide +kernel
theorem dX12_hops_152 : decode cX12_hops 152 = .ok (.iconst 1, 1) := by decide +kernel
theorem dX12_hops_153 : decode cX12_hops 153 = .ok (.goto 4, 3) := by decide +kernel
theorem dX12_hops_156 : decode cX12_hops 156 = .ok (.iconst 0, 1) := by decide +kernel
theorem dX12_hops_157 : decode cX12_hops 157 = .ok (.isub, 1) := by decide +kernel
theorem dX12_hops_158 : decode cX12_hops 158 = .ok (.istore_n 2, 1) := by decide +kernel
theorem dX12_hops_159 : decode cX12_hops 159 = .ok (.iinc 3 1, 3) := by decide +kernel
theorem dX12_hops_162 : decode cX12_hops 162 = .ok (.goto (-45), 3) := by decide +kernel
theorem dX12_hops_165 : decode cX12_hops 165 = .ok (.aload_n 0, 1) := by decide +kernel
theorem dX12_hops_166 : decode cX12_hops 166 = .ok (.getfield 118, 3) := by decide +kernel
theorem dX12_hops_169 : decode cX12_hops 169 = .ok (.iload_n 1, 1) := by decide +kernel
theorem dX12_hops_170 : decode cX12_hops 170 = .ok (.iload_n 3, 1) := by decide +kernel
theorem dX12_hops_171 : decode cX12_hops 171 = .ok (.iastore, 1) := by decide +kernel
theorem dX12_hops_172 : decode cX12_hops 172 = .ok (.return_, 1) := by decide +kernel
theorem dX12_meets_0 : decode cX12_meets 0 = .ok (.iconst 1, 1) := by decide +kernel
theorem dX12_meets_1 : decode cX12_meets 1 = .ok (.iload_n 1, 1) := by decide +kernel
theorem dX12_meets_2 : decode cX12_meets 2 = .ok (.isub, 1) := by decide +kernel
theorem dX12_meets_3 : decode cX12_meets 3 = .ok (.istore_n 2, 1) := by decide +kernel
theorem dX12_meets_4 : decode cX12_meets 4 = .ok (.aload_n 0, 1) := by decide +kernel
theorem dX12_meets_5 : decode cX12_meets 5 = .ok (.iload_n 1, 1) := by decide +kernel
theorem dX12_meets_6 : decode cX12_meets 6 = .ok (.invokevirtual 653, 3) := by decide +kernel
theorem dX12_meets_9 : decode cX12_meets 9 = .ok (.istore_n 3, 1) := by decide +kernel
theorem dX12_meets_10 : decode cX12_meets 10 = .ok (.aload_n 0, 1) := by decide +kernel
theorem dX12_meets_11 : decode cX12_meets 11 = .ok (.getfield 45, 3) := by decide +kernel
theorem dX12_meets_14 : decode cX12_meets 14 = .ok (.iload_n 2, 1) := by decide +kernel
theorem dX12_meets_15 : decode cX12_meets 15 = .ok (.iaload, 1) := by decide +kernel
theorem dX12_meets_16 : decode cX12_meets 16 = .ok (.iconst 5, 1) := by decide +kernel
theorem dX12_meets_17 : decode cX12_meets 17 = .ok (.if_icmp .ne 33, 3) := by decide +kernel
theorem dX12_meets_20 : decode cX12_meets 20 = .ok (.aload_n 0, 1) := by decide +kernel
theorem dX12_meets_21 : decode cX12_meets 21 = .ok (.getfield 152, 3) := by decide +kernel
theorem dX12_meets_24 : decode cX12_meets 24 = .ok (.iload_n 2, 1) := by decide +kernel
theorem dX12_meets_25 : decode cX12_meets 25 = .ok (.baload, 1) := by decide +kernel
theorem dX12_meets_26 : decode cX12_meets 26 = .ok (.ifCond .eq 24, 3) := by decide +kernel
theorem dX12_meets_29 : decode cX12_meets 29 = .ok (.aload_n 0, 1) := by decide +kernel
theorem dX12_meets_30 : decode cX12_meets 30 = .ok (.iload_n 3, 1) := by decide +kernel
theorem dX12_meets_31 : decode cX12_meets 31 = .ok (.aload_n 0, 1) := by decide +kernel
theorem dX12_meets_32 : decode cX12_meets 32 = .ok (.getfield 142, 3) := by decide +kernel
theorem dX12_meets_35 : decode cX12_meets 35 = .ok (.iconst 4, 1) := by decide +kernel
theorem dX12_meets_36 : decode cX12_meets 36 = .ok (.iload_n 2, 1) := by decide +kernel
theorem dX12_meets_37 : decode cX12_meets 37 = .ok (.imul, 1) := by decide +kernel
theorem dX12_meets_38 : decode cX12_meets 38 = .ok (.aload_n 0, 1) := by decide +kernel
theorem dX12_meets_39 : decode cX12_meets 39 = .ok (.getfield 118, 3) := by decide +kernel
theorem dX12_meets_42 : decode cX12_meets 42 = .ok (.iload_n 2, 1) := by decide +kernel
theorem dX12_meets_43 : decode cX12_meets 43 = .ok (.iaload, 1) := by decide +kernel
theorem dX12_meets_44 : decode cX12_meets 44 = .ok (.invokevirtual 640, 3) := by decide +kernel
theorem dX12_meets_47 : decode cX12_meets 47 = .ok (.ifCond .ne 4, 3) := by decide +kernel
theorem dX12_meets_50 : decode cX12_meets 50 = .ok (.return_, 1) := by decide +kernel
theorem dX12_meets_51 : decode cX12_meets 51 = .ok (.aload_n 0, 1) := by decide +kernel
theorem dX12_meets_52 : decode cX12_meets 52 = .ok (.iload_n 3, 1) := by decide +kernel
theorem dX12_meets_53 : decode cX12_meets 53 = .ok (.aload_n 0, 1) := by decide +kernel
theorem dX12_meets_54 : decode cX12_meets 54 = .ok (.getfield 109, 3) := by decide +kernel
theorem dX12_meets_57 : decode cX12_meets 57 = .ok (.iload_n 2, 1) := by decide +kernel
theorem dX12_meets_58 : decode cX12_meets 58 = .ok (.iaload, 1) := by decide +kernel
theorem dX12_meets_59 : decode cX12_meets 59 = .ok (.invokevirtual 644, 3) := by decide +kernel
theorem dX12_meets_62 : decode cX12_meets 62 = .ok (.ifCond .eq 17, 3) := by decide +kernel
theorem dX12_meets_65 : decode cX12_meets 65 = .ok (.aload_n 0, 1) := by decide +kernel
theorem dX12_meets_66 : decode cX12_meets 66 = .ok (.iload_n 2, 1) := by decide +kernel
theorem dX12_meets_67 : decode cX12_meets 67 = .ok (.aload_n 0, 1) := by decide +kernel
theorem dX12_meets_68 : decode cX12_meets 68 = .ok (.getfield 167, 3) := by decide +kernel
theorem dX12_meets_71 : decode cX12_meets 71 = .ok (.iload_n 3, 1) := by decide +kernel
theorem dX12_meets_72 : decode cX12_meets 72 = .ok (.iaload, 1) := by decide +kernel
theorem dX12_meets_73 : decode cX12_meets 73 = .ok (.bipush 9, 2) := by decide +kernel
theorem dX12_meets_75 : decode cX12_meets 75 = .ok (.isub, 1) := by decide +kernel
theorem dX12_meets_76 : decode cX12_meets 76 = .ok (.invokevirtual 656, 3) := by decide +kernel
theorem dX12_meets_79 : decode cX12_meets 79 = .ok (.aload_n 0, 1) := by decide +kernel
theorem dX12_meets_80 : decode cX12_meets 80 = .ok (.iload_n 2, 1) := by decide +kernel
theorem dX12_meets_81 : decode cX12_meets 81 = .ok (.invokevirtual 653, 3) := by decide +kernel
theorem dX12_meets_84 : decode cX12_meets 84 = .ok (.istore_n 3, 1) := by decide +kernel
theorem dX12_meets_85 : decode cX12_meets 85 = .ok (.aload_n 0, 1) := by decide +kernel
theorem dX12_meets_86 : decode cX12_meets 86 = .ok (.iload_n 3, 1) := by decide +kernel
theorem dX12_meets_87 : decode cX12_meets 87 = .ok (.aload_n 0, 1) := by decide +kernel
theorem dX12_meets_88 : decode cX12_meets 88 = .ok (.getfield 142, 3) := by decide +kernel
theorem dX12_meets_91 : decode cX12_meets 91 = .ok (.iconst 4, 1) := by decide +kernel
theorem dX12_meets_92 : decode cX12_meets 92 = .ok (.iload_n 1, 1) := by decide +kernel
theorem dX12_meets_93 : decode cX12_meets 93 = .ok (.imul, 1) := by decide +kernel
theorem dX12_meets_94 : decode cX12_meets 94 = .ok (.aload_n 0, 1) := by decide +kernel
theorem dX12_meets_95 : decode cX12_meets 95 = .ok (.getfield 118, 3) := by decide +kernel
theorem dX12_meets_98 : decode cX12_meets 98 = .ok (.iload_n 1, 1) := by decide +kernel
theorem dX12_meets_99 : decode cX12_meets 99 = .ok (.iaload, 1) := by decide +kernel
theorem dX12_meets_100 : decode cX12_meets 100 = .ok (.invokevirtual 640, 3) := by decide +kernel
theorem dX12_meets_103 : decode cX12_meets 103 = .ok (.ifCond .eq 31, 3) := by decide +kernel
theorem dX12_meets_106 : decode cX12_meets 106 = .ok (.aload_n 0, 1) := by decide +kernel
theorem dX12_meets_107 : decode cX12_meets 107 = .ok (.iload_n 3, 1) := by decide +kernel
theorem dX12_meets_108 : decode cX12_meets 108 = .ok (.aload_n 0, 1) := by decide +kernel
theorem dX12_meets_109 : decode cX12_meets 109 = .ok (.getfield 109, 3) := by decide +kernel
theorem dX12_meets_112 : decode cX12_meets 112 = .ok (.iload_n 1, 1) := by decide +kernel
theorem dX12_meets_113 : decode cX12_meets 113 = .ok (.iaload, 1) := by decide +kernel
theorem dX12_meets_114 : decode cX12_meets 114 = .ok (.invokevirtual 644, 3) := by decide +kernel
theorem dX12_meets_117 : decode cX12_meets 117 = .ok (.ifCond .eq 17, 3) := by decide +kernel
theorem dX12_meets_120 : decode cX12_meets 120 = .ok (.aload_n 0, 1) := by decide +kernel
theorem dX12_meets_121 : decode cX12_meets 121 = .ok (.iload_n 1, 1) := by decide +kernel
theorem dX12_meets_122 : decode cX12_meets 122 = .ok (.aload_n 0, 1) := by decide +kernel
theorem dX12_meets_123 : decode cX12_meets 123 = .ok (.getfield 167, 3) := by decide +kernel
theorem dX12_meets_126 : decode cX12_meets 126 = .ok (.iload_n 3, 1) := by decide +kernel
theorem dX12_meets_127 : decode cX12_meets 127 = .ok (.iaload, 1) := by decide +kernel
theorem dX12_meets_128 : decode cX12_meets 128 = .ok (.bipush 9, 2) := by decide +kernel
theorem dX12_meets_130 : decode cX12_meets 130 = .ok (.isub, 1) := by decide +kernel
theorem dX12_meets_131 : decode cX12_meets 131 = .ok (.invokevirtual 656, 3) := by decide +kernel
theorem dX12_meets_134 : decode cX12_meets 134 = .ok (.return_, 1) := by decide +kernel
theorem dX12_looks_0 : decode cX12_looks 0 = .ok (.aload_n 0, 1) := by decide +kernel
theorem dX12_looks_1 : decode cX12_looks 1 = .ok (.getfield 470, 3) := by decide +kernel
theorem dX12_looks_4 : decode cX12_looks 4 = .ok (.aload_n 0, 1) := by decide +kernel
theorem dX12_looks_5 : decode cX12_looks 5 = .ok (.getfield 130, 3) := by decide +kernel
theorem dX12_looks_8 : decode cX12_looks 8 = .ok (.iload_n 1, 1) := by decide +kernel
theorem dX12_looks_9 : decode cX12_looks 9 = .ok (.iaload, 1) := by decide +kernel
theorem dX12_looks_10 : decode cX12_looks 10 = .ok (.isub, 1) := by decide +kernel
theorem dX12_looks_11 : decode cX12_looks 11 = .ok (.istore_n 2, 1) := by decide +kernel
theorem dX12_looks_12 : decode cX12_looks 12 = .ok (.aload_n 0, 1) := by decide +kernel
theorem dX12_looks_13 : decode cX12_looks 13 = .ok (.getfield 145, 3) := by decide +kernel
theorem dX12_looks_16 : decode cX12_looks 16 = .ok (.iload_n 1, 1) := by decide +kernel
theorem dX12_looks_17 : decode cX12_looks 17 = .ok (.baload, 1) := by decide +kernel
theorem dX12_looks_18 : decode cX12_looks 18 = .ok (.ifCond .ne 23, 3) := by decide +kernel
theorem dX12_looks_21 : decode cX12_looks 21 = .ok (.iload_n 2, 1) := by decide +kernel
theorem dX12_looks_22 : decode cX12_looks 22 = .ok (.bipush 6, 2) := by decide +kernel
theorem dX12_looks_24 : decode cX12_looks 24 = .ok (.aload_n 0, 1) := by decide +kernel
theorem dX12_looks_25 : decode cX12_looks 25 = .ok (.getfield 51, 3) := by decide +kernel
theorem dX12_looks_28 : decode cX12_looks 28 = .ok (.iload_n 1, 1) := by decide +kernel
theorem dX12_looks_29 : decode cX12_looks 29 = .ok (.iaload, 1) := by decide +kernel
theorem dX12_looks_30 : decode cX12_looks 30 = .ok (.imul, 1) := by decide +kernel
theorem dX12_looks_31 : decode cX12_looks 31 = .ok (.if_icmp .lt 10, 3) := by decide +kernel
theorem dX12_looks_34 : decode cX12_looks 34 = .ok (.aload_n 0, 1) := by decide +kernel
theorem dX12_looks_35 : decode cX12_looks 35 = .ok (.iload_n 1, 1) := by decide +kernel
theorem dX12_looks_36 : decode cX12_looks 36 = .ok (.bipush 62, 2) := by decide +kernel
theorem dX12_looks_38 : decode cX12_looks 38 = .ok (.invokevirtual 459, 3) := by decide +kernel
theorem dX12_looks_41 : decode cX12_looks 41 = .ok (.aload_n 0, 1) := by decide +kernel
theorem dX12_looks_42 : decode cX12_looks 42 = .ok (.getfield 145, 3) := by decide +kernel
theorem dX12_looks_45 : decode cX12_looks 45 = .ok (.iload_n 1, 1) := by decide +kernel
theorem dX12_looks_46 : decode cX12_looks 46 = .ok (.baload, 1) := by decide +kernel
theorem dX12_looks_47 : decode cX12_looks 47 = .ok (.ifCond .eq 20, 3) := by decide +kernel
theorem dX12_looks_50 : decode cX12_looks 50 = .ok (.iload_n 2, 1) := by decide +kernel
theorem dX12_looks_51 : decode cX12_looks 51 = .ok (.aload_n 0, 1) := by decide +kernel
theorem dX12_looks_52 : decode cX12_looks 52 = .ok (.getfield 103, 3) := by decide +kernel
theorem dX12_looks_55 : decode cX12_looks 55 = .ok (.iload_n 1, 1) := by decide +kernel
theorem dX12_looks_56 : decode cX12_looks 56 = .ok (.iaload, 1) := by decide +kernel
theorem dX12_looks_57 : decode cX12_looks 57 = .ok (.if_icmp .lt 10, 3) := by decide +kernel
theorem dX12_looks_60 : decode cX12_looks 60 = .ok (.aload_n 0, 1) := by decide +kernel
theorem dX12_looks_61 : decode cX12_looks 61 = .ok (.iload_n 1, 1) := by decide +kernel
theorem dX12_looks_62 : decode cX12_looks 62 = .ok (.bipush 8, 2) := by decide +kernel
theorem dX12_looks_64 : decode cX12_looks 64 = .ok (.invokevirtual 459, 3) := by decide +kernel
theorem dX12_looks_67 : decode cX12_looks 67 = .ok (.aload_n 0, 1) := by decide +kernel
theorem dX12_looks_68 : decode cX12_looks 68 = .ok (.getfield 133, 3) := by decide +kernel
theorem dX12_looks_71 : decode cX12_looks 71 = .ok (.iload_n 1, 1) := by decide +kernel
theorem dX12_looks_72 : decode cX12_looks 72 = .ok (.iaload, 1) := by decide +kernel
theorem dX12_looks_73 : decode cX12_looks 73 = .ok (.iconst (-1), 1) := by decide +kernel
theorem dX12_looks_74 : decode cX12_looks 74 = .ok (.if_icmp .ne 4, 3) := by decide +kernel
theorem dX12_looks_77 : decode cX12_looks 77 = .ok (.return_, 1) := by decide +kernel
theorem dX12_looks_78 : decode cX12_looks 78 = .ok (.aload_n 0, 1) := by decide +kernel
theorem dX12_looks_79 : decode cX12_looks 79 = .ok (.getfield 133, 3) := by decide +kernel
theorem dX12_looks_82 : decode cX12_looks 82 = .ok (.iload_n 1, 1) := by decide +kernel
theorem dX12_looks_83 : decode cX12_looks 83 = .ok (.iaload, 1) := by decide +kernel
theorem dX12_looks_84 : decode cX12_looks 84 = .ok (.istore_n 3, 1) := by decide +kernel
theorem dX12_looks_85 : decode cX12_looks 85 = .ok (.aload_n 0, 1) := by decide +kernel
theorem dX12_looks_86 : decode cX12_looks 86 = .ok (.getfield 45, 3) := by decide +kernel
theorem dX12_looks_89 : decode cX12_looks 89 = .ok (.iload_n 1, 1) := by decide +kernel
theorem dX12_looks_90 : decode cX12_looks 90 = .ok (.iconst 0, 1) := by decide +kernel
theorem dX12_looks_91 : decode cX12_looks 91 = .ok (.iastore, 1) := by decide +kernel
theorem dX12_looks_92 : decode cX12_looks 92 = .ok (.aload_n 0, 1) := by decide +kernel
theorem dX12_looks_93 : decode cX12_looks 93 = .ok (.iload_n 1, 1) := by decide +kernel
theorem dX12_looks_94 : decode cX12_looks 94 = .ok (.invokevirtual 391, 3) := by decide +kernel
theorem dX12_looks_97 : decode cX12_looks 97 = .ok (.aload_n 0, 1) := by decide +kernel
theorem dX12_looks_98 : decode cX12_looks 98 = .ok (.iload_n 1, 1) := by decide +kernel
theorem dX12_looks_99 : decode cX12_looks 99 = .ok (.bipush 7, 2) := by decide +kernel
theorem dX12_looks_101 : decode cX12_looks 101 = .ok (.iload_n 3, 1) := by decide +kernel
theorem dX12_looks_102 : decode cX12_looks 102 = .ok (.iconst 0, 1) := by decide +kernel
theorem dX12_looks_103 : decode cX12_looks 103 = .ok (.iconst 0, 1) := by decide +kernel
theorem dX12_looks_104 : decode cX12_looks 104 = .ok (.invokevirtual 504, 3) := by decide +kernel
theorem dX12_looks_107 : decode cX12_looks 107 = .ok (.return_, 1) := by decide +kernel
theorem dX12_one_0 : decode cX12_one 0 = .ok (.aload_n 0, 1) := by decide +kernel
theorem dX12_one_1 : decode cX12_one 1 = .ok (.iconst 0, 1) := by decide +kernel
theorem dX12_one_2 : decode cX12_one 2 = .ok (.putfield 429, 3) := by decide +kernel
theorem dX12_one_5 : decode cX12_one 5 = .ok (.iconst 0, 1) := by decide +kernel
theorem dX12_one_6 : decode cX12_one 6 = .ok (.istore_n 1, 1) := by decide +kernel
theorem dX12_one_7 : decode cX12_one 7 = .ok (.iload_n 1, 1) := by decide +kernel
theorem dX12_one_8 : decode cX12_one 8 = .ok (.iconst 2, 1) := by decide +kernel
theorem dX12_one_9 : decode cX12_one 9 = .ok (.if_icmp .ge 37, 3) := by decide +kernel
theorem dX12_one_12 : decode cX12_one 12 = .ok (.aload_n 0, 1) := by decide +kernel
theorem dX12_one_13 : decode cX12_one 13 = .ok (.getfield 45, 3) := by decide +kernel
theorem dX12_one_16 : decode cX12_one 16 = .ok (.iload_n 1, 1) := by decide +kernel
theorem dX12_one_17 : decode cX12_one 17 = .ok (.iaload, 1) := by decide +kernel
theorem dX12_one_18 : decode cX12_one 18 = .ok (.iconst 1, 1) := by decide +kernel
theorem dX12_one_19 : decode cX12_one 19 = .ok (.if_icmp .ne 21, 3) := by decide +kernel
theorem dX12_one_22 : decode cX12_one 22 = .ok (.aload_n 0, 1) := by decide +kernel
theorem dX12_one_23 : decode cX12_one 23 = .ok (.getfield 54, 3) := by decide +kernel
theorem dX12_one_26 : decode cX12_one 26 = .ok (.iload_n 1, 1) := by decide +kernel
theorem dX12_one_27 : decode cX12_one 27 = .ok (.iaload, 1) := by decide +kernel
theorem dX12_one_28 : decode cX12_one 28 = .ok (.aload_n 0, 1) := by decide +kernel
theorem dX12_one_29 : decode cX12_one 29 = .ok (.getfield 470, 3) := by decide +kernel
theorem dX12_one_32 : decode cX12_one 32 = .ok (.if_icmp .ne 8, 3) := by decide +kernel
theorem dX12_one_35 : decode cX12_one 35 = .ok (.aload_n 0, 1) := by decide +kernel
theorem dX12_one_36 : decode cX12_one 36 = .ok (.iload_n 1, 1) := by decide +kernel
theorem dX12_one_37 : decode cX12_one 37 = .ok (.invokevirtual 659, 3) := by decide +kernel
theorem dX12_one_40 : decode cX12_one 40 = .ok (.iinc 1 1, 3) := by decide +kernel
theorem dX12_one_43 : decode cX12_one 43 = .ok (.goto (-36), 3) := by decide +kernel
theorem dX12_one_46 : decode cX12_one 46 = .ok (.iconst 0, 1) := by decide +kernel
theorem dX12_one_47 : decode cX12_one 47 = .ok (.istore_n 1, 1) := by decide +kernel
theorem dX12_one_48 : decode cX12_one 48 = .ok (.iload_n 1, 1) := by decide +kernel
theorem dX12_one_49 : decode cX12_one 49 = .ok (.iconst 2, 1) := by decide +kernel
theorem dX12_one_50 : decode cX12_one 50 = .ok (.if_icmp .ge 55, 3) := by decide +kernel
theorem dX12_one_53 : decode cX12_one 53 = .ok (.aload_n 0, 1) := by decide +kernel
theorem dX12_one_54 : decode cX12_one 54 = .ok (.getfield 152, 3) := by decide +kernel
theorem dX12_one_57 : decode cX12_one 57 = .ok (.iload_n 1, 1) := by decide +kernel
theorem dX12_one_58 : decode cX12_one 58 = .ok (.aload_n 0, 1) := by decide +kernel
theorem dX12_one_59 : decode cX12_one 59 = .ok (.iload_n 1, 1) := by decide +kernel
theorem dX12_one_60 : decode cX12_one 60 = .ok (.invokevirtual 662, 3) := by decide +kernel
theorem dX12_one_63 : decode cX12_one 63 = .ok (.ifCond .eq 20, 3) := by decide +kernel
theorem dX12_one_66 : decode cX12_one 66 = .ok (.aload_n 0, 1) := by decide +kernel
theorem dX12_one_67 : decode cX12_one 67 = .ok (.getfield 121, 3) := by decide +kernel
theorem dX12_one_70 : decode cX12_one 70 = .ok (.iload_n 1, 1) := by decide +kernel
theorem dX12_one_71 : decode cX12_one 71 = .ok (.iaload, 1) := by decide +kernel
theorem dX12_one_72 : decode cX12_one 72 = .ok (.aload_n 0, 1) := by decide +kernel
theorem dX12_one_73 : decode cX12_one 73 = .ok (.getfield 470, 3) := by decide +kernel
theorem dX12_one_76 : decode cX12_one 76 = .ok (.if_icmp .ne 7, 3) := by decide +kernel
theorem dX12_one_79 : decode cX12_one 79 = .ok (.iconst 1, 1) := by decide +kernel
theorem dX12_one_80 : decode cX12_one 80 = .ok (.goto 4, 3) := by decide +kernel
theorem dX12_one_83 : decode cX12_one 83 = .ok (.iconst 0, 1) := by decide +kernel
theorem dX12_one_84 : decode cX12_one 84 = .ok (.bastore, 1) := by decide +kernel
theorem dX12_one_85 : decode cX12_one 85 = .ok (.aload_n 0, 1) := by decide +kernel
theorem dX12_one_86 : decode cX12_one 86 = .ok (.getfield 152, 3) := by decide +kernel
theorem dX12_one_89 : decode cX12_one 89 = .ok (.iload_n 1, 1) := by decide +kernel
theorem dX12_one_90 : decode cX12_one 90 = .ok (.baload, 1) := by decide +kernel
theorem dX12_one_91 : decode cX12_one 91 = .ok (.ifCond .eq 8, 3) := by decide +kernel
theorem dX12_one_94 : decode cX12_one 94 = .ok (.aload_n 0, 1) := by decide +kernel
theorem dX12_one_95 : decode cX12_one 95 = .ok (.iload_n 1, 1) := by decide +kernel
theorem dX12_one_96 : decode cX12_one 96 = .ok (.invokevirtual 666, 3) := by decide +kernel
theorem dX12_one_99 : decode cX12_one 99 = .ok (.iinc 1 1, 3) := by decide +kernel
theorem dX12_one_102 : decode cX12_one 102 = .ok (.goto (-54), 3) := by decide +kernel
theorem dX12_one_105 : decode cX12_one 105 = .ok (.iconst 0, 1) := by decide +kernel
theorem dX12_one_106 : decode cX12_one 106 = .ok (.istore_n 1, 1) := by decide +kernel
theorem dX12_one_107 : decode cX12_one 107 = .ok (.iload_n 1, 1) := by decide +kernel
theorem dX12_one_108 : decode cX12_one 108 = .ok (.iconst 2, 1) := by decide +kernel
theorem dX12_one_109 : decode cX12_one 109 = .ok (.if_icmp .ge 33, 3) := by decide +kernel
theorem dX12_one_112 : decode cX12_one 112 = .ok (.aload_n 0, 1) := by decide +kernel
theorem dX12_one_113 : decode cX12_one 113 = .ok (.getfield 152, 3) := by decide +kernel
theorem dX12_one_116 : decode cX12_one 116 = .ok (.iload_n 1, 1) := by decide +kernel
theorem dX12_one_117 : decode cX12_one 117 = .ok (.baload, 1) := by decide +kernel
theorem dX12_one_118 : decode cX12_one 118 = .ok (.ifCond .eq 18, 3) := by decide +kernel
theorem dX12_one_121 : decode cX12_one 121 = .ok (.aload_n 0, 1) := by decide +kernel
theorem dX12_one_122 : decode cX12_one 122 = .ok (.getfield 45, 3) := by decide +kernel
theorem dX12_one_125 : decode cX12_one 125 = .ok (.iload_n 1, 1) := by decide +kernel
theorem dX12_one_126 : decode cX12_one 126 = .ok (.iaload, 1) := by decide +kernel
theorem dX12_one_127 : decode cX12_one 127 = .ok (.iconst 4, 1) := by decide +kernel
theorem dX12_one_128 : decode cX12_one 128 = .ok (.if_icmp .ne 8, 3) := by decide +kernel
theorem dX12_one_131 : decode cX12_one 131 = .ok (.aload_n 0, 1) := by decide +kernel
theorem dX12_one_132 : decode cX12_one 132 = .ok (.iload_n 1, 1) := by decide +kernel
theorem dX12_one_133 : decode cX12_one 133 = .ok (.invokevirtual 669, 3) := by decide +kernel
theorem dX12_one_136 : decode cX12_one 136 = .ok (.iinc 1 1, 3) := by decide +kernel
theorem dX12_one_139 : decode cX12_one 139 = .ok (.goto (-32), 3) := by decide +kernel
theorem dX12_one_142 : decode cX12_one 142 = .ok (.iconst 0, 1) := by decide +kernel
theorem dX12_one_143 : decode cX12_one 143 = .ok (.istore_n 1, 1) := by decide +kernel
theorem dX12_one_144 : decode cX12_one 144 = .ok (.iload_n 1, 1) := by decide +kernel
theorem dX12_one_145 : decode cX12_one 145 = .ok (.iconst 2, 1) := by decide +kernel
theorem dX12_one_146 : decode cX12_one 146 = .ok (.if_icmp .ge 54, 3) := by decide +kernel
theorem dX12_one_149 : decode cX12_one 149 = .ok (.aload_n 0, 1) := by decide +kernel
theorem dX12_one_150 : decode cX12_one 150 = .ok (.getfield 152, 3) := by decide +kernel
theorem dX12_one_153 : decode cX12_one 153 = .ok (.iload_n 1, 1) := by decide +kernel
theorem dX12_one_154 : decode cX12_one 154 = .ok (.baload, 1) := by decide +kernel
theorem dX12_one_155 : decode cX12_one 155 = .ok (.ifCond .ne 6, 3) := by decide +kernel
theorem dX12_one_158 : decode cX12_one 158 = .ok (.goto 36, 3) := by decide +kernel
theorem dX12_one_161 : decode cX12_one 161 = .ok (.aload_n 0, 1) := by decide +kernel
theorem dX12_one_162 : decode cX12_one 162 = .ok (.getfield 112, 3) := by decide +kernel
theorem dX12_one_165 : decode cX12_one 165 = .ok (.iload_n 1, 1) := by decide +kernel
theorem dX12_one_166 : decode cX12_one 166 = .ok (.aload_n 0, 1) := by decide +kernel
theorem dX12_one_167 : decode cX12_one 167 = .ok (.getfield 112, 3) := by decide +kernel
theorem dX12_one_170 : decode cX12_one 170 = .ok (.iload_n 1, 1) := by decide +kernel
theorem dX12_one_171 : decode cX12_one 171 = .ok (.iaload, 1) := by decide +kernel
theorem dX12_one_172 : decode cX12_one 172 = .ok (.iconst 1, 1) := by decide +kernel
theorem dX12_one_173 : decode cX12_one 173 = .ok (.iadd, 1) := by decide +kernel
theorem dX12_one_174 : decode cX12_one 174 = .ok (.ldc_w 493, 3) := by decide +kernel
theorem dX12_one_177 : decode cX12_one 177 = .ok (.iand, 1) := by decide +kernel
theorem dX12_one_178 : decode cX12_one 178 = .ok (.iastore, 1) := by decide +kernel
theorem dX12_one_179 : decode cX12_one 179 = .ok (.aload_n 0, 1) := by decide +kernel
theorem dX12_one_180 : decode cX12_one 180 = .ok (.getfield 121, 3) := by decide +kernel
theorem dX12_one_183 : decode cX12_one 183 = .ok (.iload_n 1, 1) := by decide +kernel
theorem dX12_one_184 : decode cX12_one 184 = .ok (.dup2, 1) := by decide +kernel
theorem dX12_one_185 : decode cX12_one 185 = .ok (.iaload, 1) := by decide +kernel
theorem dX12_one_186 : decode cX12_one 186 = .ok (.aload_n 0, 1) := by decide +kernel
theorem dX12_one_187 : decode cX12_one 187 = .ok (.getfield 51, 3) := by decide +kernel
theorem dX12_one_190 : decode cX12_one 190 = .ok (.iload_n 1, 1) := by decide +kernel
theorem dX12_one_191 : decode cX12_one 191 = .ok (.iaload, 1) := by decide +kernel
theorem dX12_one_192 : decode cX12_one 192 = .ok (.iadd, 1) := by decide +kernel
theorem dX12_one_193 : decode cX12_one 193 = .ok (.iastore, 1) := by decide +kernel
theorem dX12_one_194 : decode cX12_one 194 = .ok (.iinc 1 1, 3) := by decide +kernel
theorem dX12_one_197 : decode cX12_one 197 = .ok (.goto (-53), 3) := by decide +kernel
theorem dX12_one_200 : decode cX12_one 200 = .ok (.iconst 0, 1) := by decide +kernel
theorem dX12_one_201 : decode cX12_one 201 = .ok (.istore_n 1, 1) := by decide +kernel
theorem dX12_one_202 : decode cX12_one 202 = .ok (.iload_n 1, 1) := by decide +kernel
theorem dX12_one_203 : decode cX12_one 203 = .ok (.iconst 2, 1) := by decide +kernel
theorem dX12_one_204 : decode cX12_one 204 = .ok (.if_icmp .ge 22, 3) := by decide +kernel
theorem dX12_one_207 : decode cX12_one 207 = .ok (.aload_n 0, 1) := by decide +kernel
theorem dX12_one_208 : decode cX12_one 208 = .ok (.iload_n 1, 1) := by decide +kernel
theorem dX12_one_209 : decode cX12_one 209 = .ok (.invokevirtual 662, 3) := by decide +kernel
theorem dX12_one_212 : decode cX12_one 212 = .ok (.ifCond .eq 8, 3) := by decide +kernel
theorem dX12_one_215 : decode cX12_one 215 = .ok (.aload_n 0, 1) := by decide +kernel
theorem dX12_one_216 : decode cX12_one 216 = .ok (.iload_n 1, 1) := by decide +kernel
theorem dX12_one_217 : decode cX12_one 217 = .ok (.invokevirtual 672, 3) := by decide +kernel
theorem dX12_one_220 : decode cX12_one 220 = .ok (.iinc 1 1, 3) := by decide +kernel
theorem dX12_one_223 : decode cX12_one 223 = .ok (.goto (-21), 3) := by decide +kernel
theorem dX12_one_226 : decode cX12_one 226 = .ok (.aload_n 0, 1) := by decide +kernel
theorem dX12_one_227 : decode cX12_one 227 = .ok (.dup, 1) := by decide +kernel
theorem dX12_one_228 : decode cX12_one 228 = .ok (.getfield 470, 3) := by decide +kernel
theorem dX12_one_231 : decode cX12_one 231 = .ok (.iconst 1, 1) := by decide +kernel
theorem dX12_one_232 : decode cX12_one 232 = .ok (.iadd, 1) := by decide +kernel
theorem dX12_one_233 : decode cX12_one 233 = .ok (.putfield 470, 3) := by decide +kernel
theorem dX12_one_236 : decode cX12_one 236 = .ok (.return_, 1) := by decide +kernel
theorem dX12_tick_0 : decode cX12_tick 0 = .ok (.aload_n 0, 1) := by decide +kernel
theorem dX12_tick_1 : decode cX12_tick 1 = .ok (.iload_n 1, 1) := by decide +kernel
theorem dX12_tick_2 : decode cX12_tick 2 = .ok (.iconst 1, 1) := by decide +kernel
theorem dX12_tick_3 : decode cX12_tick 3 = .ok (.if_icmp .lt 10, 3) := by decide +kernel
theorem dX12_tick_6 : decode cX12_tick 6 = .ok (.iload_n 1, 1) := by decide +kernel
theorem dX12_tick_7 : decode cX12_tick 7 = .ok (.sipush 1000, 3) := by decide +kernel
theorem dX12_tick_10 : decode cX12_tick 10 = .ok (.if_icmp .le 7, 3) := by decide +kernel
theorem dX12_tick_13 : decode cX12_tick 13 = .ok (.iconst 1, 1) := by decide +kernel
theorem dX12_tick_14 : decode cX12_tick 14 = .ok (.goto 4, 3) := by decide +kernel
theorem dX12_tick_17 : decode cX12_tick 17 = .ok (.iconst 0, 1) := by decide +kernel
theorem dX12_tick_18 : decode cX12_tick 18 = .ok (.putfield 1, 3) := by decide +kernel
theorem dX12_tick_21 : decode cX12_tick 21 = .ok (.iconst 0, 1) := by decide +kernel
theorem dX12_tick_22 : decode cX12_tick 22 = .ok (.istore_n 2, 1) := by decide +kernel
theorem dX12_tick_23 : decode cX12_tick 23 = .ok (.iconst 0, 1) := by decide +kernel
theorem dX12_tick_24 : decode cX12_tick 24 = .ok (.istore_n 3, 1) := by decide +kernel
theorem dX12_tick_25 : decode cX12_tick 25 = .ok (.iload_n 3, 1) := by decide +kernel
theorem dX12_tick_26 : decode cX12_tick 26 = .ok (.iload_n 1, 1) := by decide +kernel
theorem dX12_tick_27 : decode cX12_tick 27 = .ok (.if_icmp .ge 27, 3) := by decide +kernel
theorem dX12_tick_30 : decode cX12_tick 30 = .ok (.aload_n 0, 1) := by decide +kernel
theorem dX12_tick_31 : decode cX12_tick 31 = .ok (.getfield 1, 3) := by decide +kernel
theorem dX12_tick_34 : decode cX12_tick 34 = .ok (.ifCond .ne 20, 3) := by decide +kernel
theorem dX12_tick_37 : decode cX12_tick 37 = .ok (.aload_n 0, 1) := by decide +kernel
theorem dX12_tick_38 : decode cX12_tick 38 = .ok (.invokevirtual 675, 3) := by decide +kernel
theorem dX12_tick_41 : decode cX12_tick 41 = .ok (.iload_n 2, 1) := by decide +kernel
theorem dX12_tick_42 : decode cX12_tick 42 = .ok (.aload_n 0, 1) := by decide +kernel
theorem dX12_tick_43 : decode cX12_tick 43 = .ok (.getfield 429, 3) := by decide +kernel
theorem dX12_tick_46 : decode cX12_tick 46 = .ok (.iadd, 1) := by decide +kernel
theorem dX12_tick_47 : decode cX12_tick 47 = .ok (.istore_n 2, 1) := by decide +kernel
theorem dX12_tick_48 : decode cX12_tick 48 = .ok (.iinc 3 1, 3) := by decide +kernel
theorem dX12_tick_51 : decode cX12_tick 51 = .ok (.goto (-26), 3) := by decide +kernel
theorem dX12_tick_54 : decode cX12_tick 54 = .ok (.iload_n 2, 1) := by decide +kernel
theorem dX12_tick_55 : decode cX12_tick 55 = .ok (.ireturn, 1) := by decide +kernel
theorem dX12_seed_0 : decode cX12_seed 0 = .ok (.aload_n 0, 1) := by decide +kernel
theorem dX12_seed_1 : decode cX12_seed 1 = .ok (.iconst 0, 1) := by decide +kernel
theorem dX12_seed_2 : decode cX12_seed 2 = .ok (.putfield 1, 3) := by decide +kernel
theorem dX12_seed_5 : decode cX12_seed 5 = .ok (.iload_n 1, 1) := by decide +kernel
theorem dX12_seed_6 : decode cX12_seed 6 = .ok (.iconst 2, 1) := by decide +kernel
theorem dX12_seed_7 : decode cX12_seed 7 = .ok (.invokestatic 413, 3) := by decide +kernel
theorem dX12_seed_10 : decode cX12_seed 10 = .ok (.ifCond .ne 5, 3) := by decide +kernel
theorem dX12_seed_13 : decode cX12_seed 13 = .ok (.iconst 0, 1) := by decide +kernel
theorem dX12_seed_14 : decode cX12_seed 14 = .ok (.ireturn, 1) := by decide +kernel
theorem dX12_seed_15 : decode cX12_seed 15 = .ok (.aload_n 0, 1) := by decide +kernel
theorem dX12_seed_16 : decode cX12_seed 16 = .ok (.getfield 48, 3) := by decide +kernel
theorem dX12_seed_19 : decode cX12_seed 19 = .ok (.iload_n 1, 1) := by decide +kernel
theorem dX12_seed_20 : decode cX12_seed 20 = .ok (.iload_n 2, 1) := by decide +kernel
theorem dX12_seed_21 : decode cX12_seed 21 = .ok (.iastore, 1) := by decide +kernel
theorem dX12_seed_22 : decode cX12_seed 22 = .ok (.iconst 1, 1) := by decide +kernel
theorem dX12_seed_23 : decode cX12_seed 23 = .ok (.ireturn, 1) := by decide +kernel
theorem dX12_isStandby_0 : decode cX12_isStandby 0 = .ok (.iload_n 1, 1) := by decide +kernel
theorem dX12_isStandby_1 : decode cX12_isStandby 1 = .ok (.iconst 2, 1) := by decide +kernel
theorem dX12_isStandby_2 : decode cX12_isStandby 2 = .ok (.invokestatic 413, 3) := by decide +kernel
theorem dX12_isStandby_5 : decode cX12_isStandby 5 = .ok (.ifCond .eq 16, 3) := by decide +kernel
theorem dX12_isStandby_8 : decode cX12_isStandby 8 = .ok (.aload_n 0, 1) := by decide +kernel
theorem dX12_isStandby_9 : decode cX12_isStandby 9 = .ok (.getfield 45, 3) := by decide +kernel
theorem dX12_isStandby_12 : decode cX12_isStandby 12 = .ok (.iload_n 1, 1) := by decide +kernel
theorem dX12_isStandby_13 : decode cX12_isStandby 13 = .ok (.iaload, 1) := by decide +kernel
theorem dX12_isStandby_14 : decode cX12_isStandby 14 = .ok (.ifCond .ne 7, 3) := by decide +kernel
theorem dX12_isStandby_17 : decode cX12_isStandby 17 = .ok (.iconst 1, 1) := by decide +kernel
theorem dX12_isStandby_18 : decode cX12_isStandby 18 = .ok (.goto 4, 3) := by decide +kernel
theorem dX12_isStandby_21 : decode cX12_isStandby 21 = .ok (.iconst 0, 1) := by decide +kernel
theorem dX12_isStandby_22 : decode cX12_isStandby 22 = .ok (.ireturn, 1) := by decide +kernel
theorem dX12_advertise_0 : decode cX12_advertise 0 = .ok (.aload_n 0, 1) := by decide +kernel
theorem dX12_advertise_1 : decode cX12_advertise 1 = .ok (.iconst 0, 1) := by decide +kernel
theorem dX12_advertise_2 : decode cX12_advertise 2 = .ok (.putfield 1, 3) := by decide +kernel
theorem dX12_advertise_5 : decode cX12_advertise 5 = .ok (.aload_n 0, 1) := by decide +kernel
theorem dX12_advertise_6 : decode cX12_advertise 6 = .ok (.iload_n 1, 1) := by decide +kernel
theorem dX12_advertise_7 : decode cX12_advertise 7 = .ok (.invokevirtual 678, 3) := by decide +kernel
theorem dX12_advertise_10 : decode cX12_advertise 10 = .ok (.ifCond .eq 24, 3) := by decide +kernel
theorem dX12_advertise_13 : decode cX12_advertise 13 = .ok (.iload_n 2, 1) := by decide +kernel
theorem dX12_advertise_14 : decode cX12_advertise 14 = .ok (.iconst 5, 1) := by decide +kernel
theorem dX12_advertise_15 : decode cX12_advertise 15 = .ok (.if_icmp .lt 19, 3) := by decide +kernel
theorem dX12_advertise_18 : decode cX12_advertise 18 = .ok (.iload_n 2, 1) := by decide +kernel
theorem dX12_advertise_19 : decode cX12_advertise 19 = .ok (.sipush 1000, 3) := by decide +kernel
theorem dX12_advertise_22 : decode cX12_advertise 22 = .ok (.if_icmp .gt 12, 3) := by decide +kernel
theorem dX12_advertise_25 : decode cX12_advertise 25 = .ok (.aload_n 0, 1) := by decide +kernel
theorem dX12_advertise_26 : decode cX12_advertise 26 = .ok (.getfield 7, 3) := by decide +kernel
theorem dX12_advertise_29 : decode cX12_advertise 29 = .ok (.bipush 20, 2) := by decide +kernel
theorem dX12_advertise_31 : decode cX12_advertise 31 = .ok (.if_icmp .le 5, 3) := by decide +kernel
theorem dX12_advertise_34 : decode cX12_advertise 34 = .ok (.iconst 0, 1) := by decide +kernel
theorem dX12_advertise_35 : decode cX12_advertise 35 = .ok (.ireturn, 1) := by decide +kernel
theorem dX12_advertise_36 : decode cX12_advertise 36 = .ok (.aload_n 0, 1) := by decide +kernel
theorem dX12_advertise_37 : decode cX12_advertise 37 = .ok (.getfield 45, 3) := by decide +kernel
theorem dX12_advertise_40 : decode cX12_advertise 40 = .ok (.iload_n 1, 1) := by decide +kernel
theorem dX12_advertise_41 : decode cX12_advertise 41 = .ok (.iconst 1, 1) := by decide +kernel
theorem dX12_advertise_42 : decode cX12_advertise 42 = .ok (.iastore, 1) := by decide +kernel
theorem dX12_advertise_43 : decode cX12_advertise 43 = .ok (.aload_n 0, 1) := by decide +kernel
theorem dX12_advertise_44 : decode cX12_advertise 44 = .ok (.getfield 51, 3) := by decide +kernel
theorem dX12_advertise_47 : decode cX12_advertise 47 = .ok (.iload_n 1, 1) := by decide +kernel
theorem dX12_advertise_48 : decode cX12_advertise 48 = .ok (.iload_n 2, 1) := by decide +kernel
theorem dX12_advertise_49 : decode cX12_advertise 49 = .ok (.iastore, 1) := by decide +kernel
theorem dX12_advertise_50 : decode cX12_advertise 50 = .ok (.aload_n 0, 1) := by decide +kernel
theorem dX12_advertise_51 : decode cX12_advertise 51 = .ok (.getfield 54, 3) := by decide +kernel
theorem dX12_advertise_54 : decode cX12_advertise 54 = .ok (.iload_n 1, 1) := by decide +kernel
theorem dX12_advertise_55 : decode cX12_advertise 55 = .ok (.aload_n 0, 1) := by decide +kernel
theorem dX12_advertise_56 : decode cX12_advertise 56 = .ok (.getfield 470, 3) := by decide +kernel
theorem dX12_advertise_59 : decode cX12_advertise 59 = .ok (.iastore, 1) := by decide +kernel
theorem dX12_advertise_60 : decode cX12_advertise 60 = .ok (.aload_n 0, 1) := by decide +kernel
theorem dX12_advertise_61 : decode cX12_advertise 61 = .ok (.getfield 57, 3) := by decide +kernel
theorem dX12_advertise_64 : decode cX12_advertise 64 = .ok (.iload_n 1, 1) := by decide +kernel
theorem dX12_advertise_65 : decode cX12_advertise 65 = .ok (.aload_n 0, 1) := by decide +kernel
theorem dX12_advertise_66 : decode cX12_advertise 66 = .ok (.getfield 7, 3) := by decide +kernel
theorem dX12_advertise_69 : decode cX12_advertise 69 = .ok (.iastore, 1) := by decide +kernel
theorem dX12_advertise_70 : decode cX12_advertise 70 = .ok (.aload_n 0, 1) := by decide +kernel
theorem dX12_advertise_71 : decode cX12_advertise 71 = .ok (.getfield 10, 3) := by decide +kernel
theorem dX12_advertise_74 : decode cX12_advertise 74 = .ok (.iconst 0, 1) := by decide +kernel
theorem dX12_advertise_75 : decode cX12_advertise 75 = .ok (.aload_n 0, 1) := by decide +kernel
theorem dX12_advertise_76 : decode cX12_advertise 76 = .ok (.getfield 82, 3) := by decide +kernel
theorem dX12_advertise_79 : decode cX12_advertise 79 = .ok (.bipush 20, 2) := by decide +kernel
theorem dX12_advertise_81 : decode cX12_advertise 81 = .ok (.iload_n 1, 1) := by decide +kernel
theorem dX12_advertise_82 : decode cX12_advertise 82 = .ok (.imul, 1) := by decide +kernel
theorem dX12_advertise_83 : decode cX12_advertise 83 = .ok (.aload_n 0, 1) := by decide +kernel
theorem dX12_advertise_84 : decode cX12_advertise 84 = .ok (.getfield 7, 3) := by decide +kernel
theorem dX12_advertise_87 : decode cX12_advertise 87 = .ok (.invokestatic 29, 3) := by decide +kernel
theorem dX12_advertise_90 : decode cX12_advertise 90 = .ok (.aload_n 0, 1) := by decide +kernel
theorem dX12_advertise_91 : decode cX12_advertise 91 = .ok (.iconst 0, 1) := by decide +kernel
theorem dX12_advertise_92 : decode cX12_advertise 92 = .ok (.putfield 7, 3) := by decide +kernel
theorem dX12_advertise_95 : decode cX12_advertise 95 = .ok (.iconst 1, 1) := by decide +kernel
theorem dX12_advertise_96 : decode cX12_advertise 96 = .ok (.ireturn, 1) := by decide +kernel
theorem dX12_scan_0 : decode cX12_scan 0 = .ok (.aload_n 0, 1) := by decide +kernel
theorem dX12_scan_1 : decode cX12_scan 1 = .ok (.iconst 0, 1) := by decide +kernel
theorem dX12_scan_2 : decode cX12_scan 2 = .ok (.putfield 1, 3) := by decide +kernel
theorem dX12_scan_5 : decode cX12_scan 5 = .ok (.aload_n 0, 1) := by decide +kernel
theorem dX12_scan_6 : decode cX12_scan 6 = .ok (.iload_n 1, 1) := by decide +kernel
theorem dX12_scan_7 : decode cX12_scan 7 = .ok (.invokevirtual 678, 3) := by decide +kernel
theorem dX12_scan_10 : decode cX12_scan 10 = .ok (.ifCond .ne 5, 3) := by decide +kernel
theorem dX12_scan_13 : decode cX12_scan 13 = .ok (.iconst 0, 1) := by decide +kernel
theorem dX12_scan_14 : decode cX12_scan 14 = .ok (.ireturn, 1) := by decide +kernel
theorem dX12_scan_15 : decode cX12_scan 15 = .ok (.aload_n 0, 1) := by decide +kernel
theorem dX12_scan_16 : decode cX12_scan 16 = .ok (.getfield 45, 3) := by decide +kernel
theorem dX12_scan_19 : decode cX12_scan 19 = .ok (.iload_n 1, 1) := by decide +kernel
theorem dX12_scan_20 : decode cX12_scan 20 = .ok (.iconst 2, 1) := by decide +kernel
theorem dX12_scan_21 : decode cX12_scan 21 = .ok (.iastore, 1) := by decide +kernel
theorem dX12_scan_22 : decode cX12_scan 22 = .ok (.iconst 1, 1) := by decide +kernel
theorem dX12_scan_23 : decode cX12_scan 23 = .ok (.ireturn, 1) := by decide +kernel
theorem dX12_connect_0 : decode cX12_connect 0 = .ok (.aload_n 0, 1) := by decide +kernel
theorem dX12_connect_1 : decode cX12_connect 1 = .ok (.iconst 0, 1) := by decide +kernel
theorem dX12_connect_2 : decode cX12_connect 2 = .ok (.putfield 1, 3) := by decide +kernel
theorem dX12_connect_5 : decode cX12_connect 5 = .ok (.aload_n 0, 1) := by decide +kernel
theorem dX12_connect_6 : decode cX12_connect 6 = .ok (.iload_n 1, 1) := by decide +kernel
theorem dX12_connect_7 : decode cX12_connect 7 = .ok (.invokevirtual 678, 3) := by decide +kernel
theorem dX12_connect_10 : decode cX12_connect 10 = .ok (.ifCond .eq 52, 3) := by decide +kernel
theorem dX12_connect_13 : decode cX12_connect 13 = .ok (.iload 4, 2) := by decide +kernel
theorem dX12_connect_15 : decode cX12_connect 15 = .ok (.iconst 2, 1) := by decide +kernel
theorem dX12_connect_16 : decode cX12_connect 16 = .ok (.if_icmp .lt 46, 3) := by decide +kernel
theorem dX12_connect_19 : decode cX12_connect 19 = .ok (.iload 4, 2) := by decide +kernel
theorem dX12_connect_21 : decode cX12_connect 21 = .ok (.bipush 50, 2) := by decide +kernel
theorem dX12_connect_23 : decode cX12_connect 23 = .ok (.if_icmp .gt 39, 3) := by decide +kernel
theorem dX12_connect_26 : decode cX12_connect 26 = .ok (.iload 5, 2) := by decide +kernel
theorem dX12_connect_28 : decode cX12_connect 28 = .ok (.bipush 10, 2) := by decide +kernel
theorem dX12_connect_30 : decode cX12_connect 30 = .ok (.if_icmp .lt 32, 3) := by decide +kernel
theorem dX12_connect_33 : decode cX12_connect 33 = .ok (.iload 5, 2) := by decide +kernel
theorem dX12_connect_35 : decode cX12_connect 35 = .ok (.sipush 2000, 3) := by decide +kernel
theorem dX12_connect_38 : decode cX12_connect 38 = .ok (.if_icmp .gt 24, 3) := by decide +kernel
theorem dX12_connect_41 : decode cX12_connect 41 = .ok (.iload 6, 2) := by decide +kernel
theorem dX12_connect_43 : decode cX12_connect 43 = .ok (.iconst 5, 1) := by decide +kernel
theorem dX12_connect_44 : decode cX12_connect 44 = .ok (.if_icmp .lt 18, 3) := by decide +kernel
theorem dX12_connect_47 : decode cX12_connect 47 = .ok (.iload 6, 2) := by decide +kernel
theorem dX12_connect_49 : decode cX12_connect 49 = .ok (.bipush 16, 2) := by decide +kernel
theorem dX12_connect_51 : decode cX12_connect 51 = .ok (.if_icmp .gt 11, 3) := by decide +kernel
theorem dX12_connect_54 : decode cX12_connect 54 = .ok (.lload 7, 2) := by decide +kernel
theorem dX12_connect_56 : decode cX12_connect 56 = .ok (.invokestatic 497, 3) := by decide +kernel
theorem dX12_connect_59 : decode cX12_connect 59 = .ok (.ifCond .ne 5, 3) := by decide +kernel
theorem dX12_connect_62 : decode cX12_connect 62 = .ok (.iconst 0, 1) := by decide +kernel
theorem dX12_connect_63 : decode cX12_connect 63 = .ok (.ireturn, 1) := by decide +kernel
theorem dX12_connect_64 : decode cX12_connect 64 = .ok (.aload_n 0, 1) := by decide +kernel
theorem dX12_connect_65 : decode cX12_connect 65 = .ok (.getfield 45, 3) := by decide +kernel
theorem dX12_connect_68 : decode cX12_connect 68 = .ok (.iload_n 1, 1) := by decide +kernel
theorem dX12_connect_69 : decode cX12_connect 69 = .ok (.iconst 3, 1) := by decide +kernel
theorem dX12_connect_70 : decode cX12_connect 70 = .ok (.iastore, 1) := by decide +kernel
theorem dX12_connect_71 : decode cX12_connect 71 = .ok (.aload_n 0, 1) := by decide +kernel
theorem dX12_connect_72 : decode cX12_connect 72 = .ok (.getfield 67, 3) := by decide +kernel
theorem dX12_connect_75 : decode cX12_connect 75 = .ok (.iload_n 1, 1) := by decide +kernel
theorem dX12_connect_76 : decode cX12_connect 76 = .ok (.lload_n 2, 1) := by decide +kernel
theorem dX12_connect_77 : decode cX12_connect 77 = .ok (.ldc2_w 389, 3) := by decide +kernel
theorem dX12_connect_80 : decode cX12_connect 80 = .ok (.land, 1) := by decide +kernel
theorem dX12_connect_81 : decode cX12_connect 81 = .ok (.lastore, 1) := by decide +kernel
theorem dX12_connect_82 : decode cX12_connect 82 = .ok (.aload_n 0, 1) := by decide +kernel
theorem dX12_connect_83 : decode cX12_connect 83 = .ok (.getfield 51, 3) := by decide +kernel
theorem dX12_connect_86 : decode cX12_connect 86 = .ok (.iload_n 1, 1) := by decide +kernel
theorem dX12_connect_87 : decode cX12_connect 87 = .ok (.iload 4, 2) := by decide +kernel
theorem dX12_connect_89 : decode cX12_connect 89 = .ok (.iastore, 1) := by decide +kernel
theorem dX12_connect_90 : decode cX12_connect 90 = .ok (.aload_n 0, 1) := by decide +kernel
theorem dX12_connect_91 : decode cX12_connect 91 = .ok (.getfield 103, 3) := by decide +kernel
theorem dX12_connect_94 : decode cX12_connect 94 = .ok (.iload_n 1, 1) := by decide +kernel
theorem dX12_connect_95 : decode cX12_connect 95 = .ok (.iload 5, 2) := by decide +kernel
theorem dX12_connect_97 : decode cX12_connect 97 = .ok (.iastore, 1) := by decide +kernel
theorem dX12_connect_98 : decode cX12_connect 98 = .ok (.aload_n 0, 1) := by decide +kernel
theorem dX12_connect_99 : decode cX12_connect 99 = .ok (.getfield 106, 3) := by decide +kernel
theorem dX12_connect_102 : decode cX12_connect 102 = .ok (.iload_n 1, 1) := by decide +kernel
theorem dX12_connect_103 : decode cX12_connect 103 = .ok (.iload 6, 2) := by decide +kernel
theorem dX12_connect_105 : decode cX12_connect 105 = .ok (.iastore, 1) := by decide +kernel
theorem dX12_connect_106 : decode cX12_connect 106 = .ok (.aload_n 0, 1) := by decide +kernel
theorem dX12_connect_107 : decode cX12_connect 107 = .ok (.getfield 70, 3) := by decide +kernel
theorem dX12_connect_110 : decode cX12_connect 110 = .ok (.iload_n 1, 1) := by decide +kernel
theorem dX12_connect_111 : decode cX12_connect 111 = .ok (.lload 7, 2) := by decide +kernel
theorem dX12_connect_113 : decode cX12_connect 113 = .ok (.lastore, 1) := by decide +kernel
theorem dX12_connect_114 : decode cX12_connect 114 = .ok (.iconst 1, 1) := by decide +kernel
theorem dX12_connect_115 : decode cX12_connect 115 = .ok (.ireturn, 1) := by decide +kernel
theorem dX12_stop_0 : decode cX12_stop 0 = .ok (.aload_n 0, 1) := by decide +kernel
theorem dX12_stop_1 : decode cX12_stop 1 = .ok (.iconst 0, 1) := by decide +kernel
theorem dX12_stop_2 : decode cX12_stop 2 = .ok (.putfield 1, 3) := by decide +kernel
theorem dX12_stop_5 : decode cX12_stop 5 = .ok (.iload_n 1, 1) := by decide +kernel
theorem dX12_stop_6 : decode cX12_stop 6 = .ok (.iconst 2, 1) := by decide +kernel
theorem dX12_stop_7 : decode cX12_stop 7 = .ok (.invokestatic 413, 3) := by decide +kernel
theorem dX12_stop_10 : decode cX12_stop 10 = .ok (.ifCond .eq 23, 3) := by decide +kernel
theorem dX12_stop_13 : decode cX12_stop 13 = .ok (.aload_n 0, 1) := by decide +kernel
theorem dX12_stop_14 : decode cX12_stop 14 = .ok (.getfield 45, 3) := by decide +kernel
theorem dX12_stop_17 : decode cX12_stop 17 = .ok (.iload_n 1, 1) := by decide +kernel
theorem dX12_stop_18 : decode cX12_stop 18 = .ok (.iaload, 1) := by decide +kernel
theorem dX12_stop_19 : decode cX12_stop 19 = .ok (.iconst 1, 1) := by decide +kernel
theorem dX12_stop_20 : decode cX12_stop 20 = .ok (.if_icmp .lt 13, 3) := by decide +kernel
theorem dX12_stop_23 : decode cX12_stop 23 = .ok (.aload_n 0, 1) := by decide +kernel
theorem dX12_stop_24 : decode cX12_stop 24 = .ok (.getfield 45, 3) := by decide +kernel
theorem dX12_stop_27 : decode cX12_stop 27 = .ok (.iload_n 1, 1) := by decide +kernel
theorem dX12_stop_28 : decode cX12_stop 28 = .ok (.iaload, 1) := by decide +kernel
theorem dX12_stop_29 : decode cX12_stop 29 = .ok (.iconst 3, 1) := by decide +kernel
theorem dX12_stop_30 : decode cX12_stop 30 = .ok (.if_icmp .le 5, 3) := by decide +kernel
theorem dX12_stop_33 : decode cX12_stop 33 = .ok (.iconst 0, 1) := by decide +kernel
theorem dX12_stop_34 : decode cX12_stop 34 = .ok (.ireturn, 1) := by decide +kernel
theorem dX12_stop_35 : decode cX12_stop 35 = .ok (.aload_n 0, 1) := by decide +kernel
theorem dX12_stop_36 : decode cX12_stop 36 = .ok (.getfield 45, 3) := by decide +kernel
theorem dX12_stop_39 : decode cX12_stop 39 = .ok (.iload_n 1, 1) := by decide +kernel
theorem dX12_stop_40 : decode cX12_stop 40 = .ok (.iconst 0, 1) := by decide +kernel
theorem dX12_stop_41 : decode cX12_stop 41 = .ok (.iastore, 1) := by decide +kernel
theorem dX12_stop_42 : decode cX12_stop 42 = .ok (.iconst 1, 1) := by decide +kernel
theorem dX12_stop_43 : decode cX12_stop 43 = .ok (.ireturn, 1) := by decide +kernel
theorem dX12_noise_0 : decode cX12_noise 0 = .ok (.aload_n 0, 1) := by decide +kernel
theorem dX12_noise_1 : decode cX12_noise 1 = .ok (.iconst 0, 1) := by decide +kernel
theorem dX12_noise_2 : decode cX12_noise 2 = .ok (.putfield 1, 3) := by decide +kernel
theorem dX12_noise_5 : decode cX12_noise 5 = .ok (.iload_n 1, 1) := by decide +kernel
theorem dX12_noise_6 : decode cX12_noise 6 = .ok (.iconst 2, 1) := by decide +kernel
theorem dX12_noise_7 : decode cX12_noise 7 = .ok (.invokestatic 413, 3) := by decide +kernel
theorem dX12_noise_10 : decode cX12_noise 10 = .ok (.ifCond .eq 24, 3) := by decide +kernel
theorem dX12_noise_13 : decode cX12_noise 13 = .ok (.iload_n 2, 1) := by decide +kernel
theorem dX12_noise_14 : decode cX12_noise 14 = .ok (.sipush 320, 3) := by decide +kernel
theorem dX12_noise_17 : decode cX12_noise 17 = .ok (.invokestatic 413, 3) := by decide +kernel
theorem dX12_noise_20 : decode cX12_noise 20 = .ok (.ifCond .eq 14, 3) := by decide +kernel
theorem dX12_noise_23 : decode cX12_noise 23 = .ok (.aload_n 0, 1) := by decide +kernel
theorem dX12_noise_24 : decode cX12_noise 24 = .ok (.getfield 97, 3) := by decide +kernel
theorem dX12_noise_27 : decode cX12_noise 27 = .ok (.iload_n 1, 1) := by decide +kernel
theorem dX12_noise_28 : decode cX12_noise 28 = .ok (.iaload, 1) := by decide +kernel
theorem dX12_noise_29 : decode cX12_noise 29 = .ok (.bipush 64, 2) := by decide +kernel
theorem dX12_noise_31 : decode cX12_noise 31 = .ok (.if_icmp .ne 5, 3) := by decide +kernel
theorem dX12_noise_34 : decode cX12_noise 34 = .ok (.iconst 0, 1) := by decide +kernel
theorem dX12_noise_35 : decode cX12_noise 35 = .ok (.ireturn, 1) := by decide +kernel
theorem dX12_noise_36 : decode cX12_noise 36 = .ok (.aload_n 0, 1) := by decide +kernel
theorem dX12_noise_37 : decode cX12_noise 37 = .ok (.getfield 100, 3) := by decide +kernel
theorem dX12_noise_40 : decode cX12_noise 40 = .ok (.bipush 64, 2) := by decide +kernel
theorem dX12_noise_42 : decode cX12_noise 42 = .ok (.iload_n 1, 1) := by decide +kernel
theorem dX12_noise_43 : decode cX12_noise 43 = .ok (.imul, 1) := by decide +kernel
theorem dX12_noise_44 : decode cX12_noise 44 = .ok (.aload_n 0, 1) := by decide +kernel
theorem dX12_noise_45 : decode cX12_noise 45 = .ok (.getfield 97, 3) := by decide +kernel
theorem dX12_noise_48 : decode cX12_noise 48 = .ok (.iload_n 1, 1) := by decide +kernel
theorem dX12_noise_49 : decode cX12_noise 49 = .ok (.iaload, 1) := by decide +kernel
theorem dX12_noise_50 : decode cX12_noise 50 = .ok (.iadd, 1) := by decide +kernel
theorem dX12_noise_51 : decode cX12_noise 51 = .ok (.iload_n 2, 1) := by decide +kernel
theorem dX12_noise_52 : decode cX12_noise 52 = .ok (.iastore, 1) := by decide +kernel
theorem dX12_noise_53 : decode cX12_noise 53 = .ok (.aload_n 0, 1) := by decide +kernel
theorem dX12_noise_54 : decode cX12_noise 54 = .ok (.getfield 97, 3) := by decide +kernel
theorem dX12_noise_57 : decode cX12_noise 57 = .ok (.iload_n 1, 1) := by decide +kernel
theorem dX12_noise_58 : decode cX12_noise 58 = .ok (.dup2, 1) := by decide +kernel
theorem dX12_noise_59 : decode cX12_noise 59 = .ok (.iaload, 1) := by decide +kernel
theorem dX12_noise_60 : decode cX12_noise 60 = .ok (.iconst 1, 1) := by decide +kernel
theorem dX12_noise_61 : decode cX12_noise 61 = .ok (.iadd, 1) := by decide +kernel
theorem dX12_noise_62 : decode cX12_noise 62 = .ok (.iastore, 1) := by decide +kernel
theorem dX12_noise_63 : decode cX12_noise 63 = .ok (.iconst 1, 1) := by decide +kernel
theorem dX12_noise_64 : decode cX12_noise 64 = .ok (.ireturn, 1) := by decide +kernel
theorem dX12_lose_0 : decode cX12_lose 0 = .ok (.aload_n 0, 1) := by decide +kernel
theorem dX12_lose_1 : decode cX12_lose 1 = .ok (.iconst 0, 1) := by decide +kernel
theorem dX12_lose_2 : decode cX12_lose 2 = .ok (.putfield 1, 3) := by decide +kernel
theorem dX12_lose_5 : decode cX12_lose 5 = .ok (.iload_n 1, 1) := by decide +kernel
theorem dX12_lose_6 : decode cX12_lose 6 = .ok (.iconst 2, 1) := by decide +kernel
theorem dX12_lose_7 : decode cX12_lose 7 = .ok (.invokestatic 413, 3) := by decide +kernel
theorem dX12_lose_10 : decode cX12_lose 10 = .ok (.ifCond .eq 12, 3) := by decide +kernel
theorem dX12_lose_13 : decode cX12_lose 13 = .ok (.iload_n 2, 1) := by decide +kernel
theorem dX12_lose_14 : decode cX12_lose 14 = .ok (.bipush 101, 2) := by decide +kernel
theorem dX12_lose_16 : decode cX12_lose 16 = .ok (.invokestatic 413, 3) := by decide +kernel
theorem dX12_lose_19 : decode cX12_lose 19 = .ok (.ifCond .ne 5, 3) := by decide +kernel
theorem dX12_lose_22 : decode cX12_lose 22 = .ok (.iconst 0, 1) := by decide +kernel
theorem dX12_lose_23 : decode cX12_lose 23 = .ok (.ireturn, 1) := by decide +kernel
theorem dX12_lose_24 : decode cX12_lose 24 = .ok (.aload_n 0, 1) := by decide +kernel
theorem dX12_lose_25 : decode cX12_lose 25 = .ok (.getfield 94, 3) := by decide +kernel
theorem dX12_lose_28 : decode cX12_lose 28 = .ok (.iload_n 1, 1) := by decide +kernel
theorem dX12_lose_29 : decode cX12_lose 29 = .ok (.iload_n 2, 1) := by decide +kernel
theorem dX12_lose_30 : decode cX12_lose 30 = .ok (.iastore, 1) := by decide +kernel
theorem dX12_lose_31 : decode cX12_lose 31 = .ok (.iconst 1, 1) := by decide +kernel
theorem dX12_lose_32 : decode cX12_lose 32 = .ok (.ireturn, 1) := by decide +kernel
theorem dX12_air_0 : decode cX12_air 0 = .ok (.aload_n 0, 1) := by decide +kernel
theorem dX12_air_1 : decode cX12_air 1 = .ok (.iload_n 1, 1) := by decide +kernel
theorem dX12_air_2 : decode cX12_air 2 = .ok (.aload_n 0, 1) := by decide +kernel
theorem dX12_air_3 : decode cX12_air 3 = .ok (.getfield 429, 3) := by decide +kernel
theorem dX12_air_6 : decode cX12_air 6 = .ok (.invokestatic 413, 3) := by decide +kernel
theorem dX12_air_9 : decode cX12_air 9 = .ok (.ifCond .eq 31, 3) := by decide +kernel
theorem dX12_air_12 : decode cX12_air 12 = .ok (.iload_n 2, 1) := by decide +kernel
theorem dX12_air_13 : decode cX12_air 13 = .ok (.iconst (-1), 1) := by decide +kernel
theorem dX12_air_14 : decode cX12_air 14 = .ok (.if_icmp .eq 22, 3) := by decide +kernel
theorem dX12_air_17 : decode cX12_air 17 = .ok (.iload_n 2, 1) := by decide +kernel
theorem dX12_air_18 : decode cX12_air 18 = .ok (.bipush (-2), 2) := by decide +kernel
theorem dX12_air_20 : decode cX12_air 20 = .ok (.if_icmp .eq 16, 3) := by decide +kernel
theorem dX12_air_23 : decode cX12_air 23 = .ok (.iload_n 2, 1) := by decide +kernel
theorem dX12_air_24 : decode cX12_air 24 = .ok (.aload_n 0, 1) := by decide +kernel
theorem dX12_air_25 : decode cX12_air 25 = .ok (.getfield 167, 3) := by decide +kernel
theorem dX12_air_28 : decode cX12_air 28 = .ok (.iload_n 1, 1) := by decide +kernel
theorem dX12_air_29 : decode cX12_air 29 = .ok (.iaload, 1) := by decide +kernel
theorem dX12_air_30 : decode cX12_air 30 = .ok (.invokestatic 413, 3) := by decide +kernel
theorem dX12_air_33 : decode cX12_air 33 = .ok (.ifCond .eq 7, 3) := by decide +kernel
theorem dX12_air_36 : decode cX12_air 36 = .ok (.iconst 0, 1) := by decide +kernel
theorem dX12_air_37 : decode cX12_air 37 = .ok (.goto 4, 3) := by decide +kernel
theorem dX12_air_40 : decode cX12_air 40 = .ok (.iconst 1, 1) := by decide +kernel
theorem dX12_air_41 : decode cX12_air 41 = .ok (.putfield 1, 3) := by decide +kernel
theorem dX12_air_44 : decode cX12_air 44 = .ok (.aload_n 0, 1) := by decide +kernel
theorem dX12_air_45 : decode cX12_air 45 = .ok (.getfield 1, 3) := by decide +kernel
theorem dX12_air_48 : decode cX12_air 48 = .ok (.ifCond .le 5, 3) := by decide +kernel
theorem dX12_air_51 : decode cX12_air 51 = .ok (.iconst 0, 1) := by decide +kernel
theorem dX12_air_52 : decode cX12_air 52 = .ok (.ireturn, 1) := by decide +kernel
theorem dX12_air_53 : decode cX12_air 53 = .ok (.iload_n 2, 1) := by decide +kernel
theorem dX12_air_54 : decode cX12_air 54 = .ok (.iconst (-1), 1) := by decide +kernel
theorem dX12_air_55 : decode cX12_air 55 = .ok (.if_icmp .ne 12, 3) := by decide +kernel
theorem dX12_air_58 : decode cX12_air 58 = .ok (.aload_n 0, 1) := by decide +kernel
theorem dX12_air_59 : decode cX12_air 59 = .ok (.getfield 167, 3) := by decide +kernel
theorem dX12_air_62 : decode cX12_air 62 = .ok (.iload_n 1, 1) := by decide +kernel
theorem dX12_air_63 : decode cX12_air 63 = .ok (.iaload, 1) := by decide +kernel
theorem dX12_air_64 : decode cX12_air 64 = .ok (.goto 33, 3) := by decide +kernel
theorem dX12_air_67 : decode cX12_air 67 = .ok (.iload_n 2, 1) := by decide +kernel
theorem dX12_air_68 : decode cX12_air 68 = .ok (.bipush (-2), 2) := by decide +kernel
theorem dX12_air_70 : decode cX12_air 70 = .ok (.if_icmp .ne 12, 3) := by decide +kernel
theorem dX12_air_73 : decode cX12_air 73 = .ok (.aload_n 0, 1) := by decide +kernel
theorem dX12_air_74 : decode cX12_air 74 = .ok (.getfield 170, 3) := by decide +kernel
theorem dX12_air_77 : decode cX12_air 77 = .ok (.iload_n 1, 1) := by decide +kernel
theorem dX12_air_78 : decode cX12_air 78 = .ok (.iaload, 1) := by decide +kernel
theorem dX12_air_79 : decode cX12_air 79 = .ok (.goto 18, 3) := by decide +kernel
theorem dX12_air_82 : decode cX12_air 82 = .ok (.aload_n 0, 1) := by decide +kernel
theorem dX12_air_83 : decode cX12_air 83 = .ok (.getfield 164, 3) := by decide +kernel
theorem dX12_air_86 : decode cX12_air 86 = .ok (.bipush 40, 2) := by decide +kernel
theorem dX12_air_88 : decode cX12_air 88 = .ok (.iload_n 1, 1) := by decide +kernel
theorem dX12_air_89 : decode cX12_air 89 = .ok (.imul, 1) := by decide +kernel
theorem dX12_air_90 : decode cX12_air 90 = .ok (.iload_n 2, 1) := by decide +kernel
theorem dX12_air_91 : decode cX12_air 91 = .ok (.iadd, 1) := by decide +kernel
theorem dX12_air_92 : decode cX12_air 92 = .ok (.baload, 1) := by decide +kernel
theorem dX12_air_93 : decode cX12_air 93 = .ok (.sipush 255, 3) := by decide +kernel
theorem dX12_air_96 : decode cX12_air 96 = .ok (.iand, 1) := by decide +kernel
theorem dX12_air_97 : decode cX12_air 97 = .ok (.ireturn, 1) := by decide +kernel
theorem dX12_device_0 : decode cX12_device 0 = .ok (.aload_n 0, 1) := by decide +kernel
theorem dX12_device_1 : decode cX12_device 1 = .ok (.iconst 0, 1) := by decide +kernel
theorem dX12_device_2 : decode cX12_device 2 = .ok (.putfield 1, 3) := by decide +kernel
theorem dX12_device_5 : decode cX12_device 5 = .ok (.iload_n 1, 1) := by decide +kernel
theorem dX12_device_6 : decode cX12_device 6 = .ok (.iconst 2, 1) := by decide +kernel
theorem dX12_device_7 : decode cX12_device 7 = .ok (.invokestatic 413, 3) := by decide +kernel
theorem dX12_device_10 : decode cX12_device 10 = .ok (.ifCond .ne 5, 3) := by decide +kernel
theorem dX12_device_13 : decode cX12_device 13 = .ok (.iconst (-1), 1) := by decide +kernel
theorem dX12_device_14 : decode cX12_device 14 = .ok (.ireturn, 1) := by decide +kernel
theorem dX12_device_15 : decode cX12_device 15 = .ok (.iload_n 1, 1) := by decide +kernel
theorem dX12_device_16 : decode cX12_device 16 = .ok (.istore_n 3, 1) := by decide +kernel
theorem dX12_device_17 : decode cX12_device 17 = .ok (.aload_n 0, 1) := by decide +kernel
theorem dX12_device_18 : decode cX12_device 18 = .ok (.iload_n 3, 1) := by decide +kernel
theorem dX12_device_19 : decode cX12_device 19 = .ok (.invokevirtual 662, 3) := by decide +kernel
theorem dX12_device_22 : decode cX12_device 22 = .ok (.istore 4, 2) := by decide +kernel
theorem dX12_device_24 : decode cX12_device 24 = .ok (.iload_n 2, 1) := by decide +kernel
theorem dX12_device_25 : decode cX12_device 25 = .ok (.tableswitch 473 0 28 #[131, 138, 154, 170, 186, 202, 218, 234, 250, 295, 302, 309, 316, 323, 338, 353, 360, 367, 374, 381, 388, 395, 402, 409, 416, 423, 430, 451, 458], 131) := by decide +kernel
theorem dX12_device_156 : decode cX12_device 156 = .ok (.aload_n 0, 1) := by decide +kernel
theorem dX12_device_157 : decode cX12_device 157 = .ok (.getfield 45, 3) := by decide +kernel
theorem dX12_device_160 : decode cX12_device 160 = .ok (.iload_n 3, 1) := by decide +kernel
theorem dX12_device_161 : decode cX12_device 161 = .ok (.iaload, 1) := by decide +kernel
theorem dX12_device_162 : decode cX12_device 162 = .ok (.ireturn, 1) := by decide +kernel
theorem dX12_device_163 : decode cX12_device 163 = .ok (.iload 4, 2) := by decide +kernel
theorem dX12_device_165 : decode cX12_device 165 = .ok (.ifCond .eq 12, 3) := by decide +kernel
theorem dX12_device_168 : decode cX12_device 168 = .ok (.aload_n 0, 1) := by decide +kernel
theorem dX12_device_169 : decode cX12_device 169 = .ok (.getfield 112, 3) := by decide +kernel
theorem dX12_device_172 : decode cX12_device 172 = .ok (.iload_n 3, 1) := by decide +kernel
theorem dX12_device_173 : decode cX12_device 173 = .ok (.iaload, 1) := by decide +kernel
theorem dX12_device_174 : decode cX12_device 174 = .ok (.goto 4, 3) := by decide +kernel
theorem dX12_device_177 : decode cX12_device 177 = .ok (.iconst 0, 1) := by decide +kernel
theorem dX12_device_178 : decode cX12_device 178 = .ok (.ireturn, 1) := by decide +kernel
theorem dX12_device_179 : decode cX12_device 179 = .ok (.iload 4, 2) := by decide +kernel
theorem dX12_device_181 : decode cX12_device 181 = .ok (.ifCond .eq 12, 3) := by decide +kernel
theorem dX12_device_184 : decode cX12_device 184 = .ok (.aload_n 0, 1) := by decide +kernel
theorem dX12_device_185 : decode cX12_device 185 = .ok (.getfield 118, 3) := by decide +kernel
theorem dX12_device_188 : decode cX12_device 188 = .ok (.iload_n 3, 1) := by decide +kernel
theorem dX12_device_189 : decode cX12_device 189 = .ok (.iaload, 1) := by decide +kernel
theorem dX12_device_190 : decode cX12_device 190 = .ok (.goto 4, 3) := by decide +kernel
theorem dX12_device_193 : decode cX12_device 193 = .ok (.iconst (-1), 1) := by decide +kernel
theorem dX12_device_194 : decode cX12_device 194 = .ok (.ireturn, 1) := by decide +kernel
theorem dX12_device_195 : decode cX12_device 195 = .ok (.iload 4, 2) := by decide +kernel
theorem dX12_device_197 : decode cX12_device 197 = .ok (.ifCond .eq 12, 3) := by decide +kernel
theorem dX12_device_200 : decode cX12_device 200 = .ok (.aload_n 0, 1) := by decide +kernel
theorem dX12_device_201 : decode cX12_device 201 = .ok (.getfield 124, 3) := by decide +kernel
theorem dX12_device_204 : decode cX12_device 204 = .ok (.iload_n 3, 1) := by decide +kernel
theorem dX12_device_205 : decode cX12_device 205 = .ok (.iaload, 1) := by decide +kernel
theorem dX12_device_206 : decode cX12_device 206 = .ok (.goto 4, 3) := by decide +kernel
theorem dX12_device_209 : decode cX12_device 209 = .ok (.iconst 0, 1) := by decide +kernel
theorem dX12_device_210 : decode cX12_device 210 = .ok (.ireturn, 1) := by decide +kernel
theorem dX12_device_211 : decode cX12_device 211 = .ok (.iload 4, 2) := by decide +kernel
theorem dX12_device_213 : decode cX12_device 213 = .ok (.ifCond .eq 12, 3) := by decide +kernel
theorem dX12_device_216 : decode cX12_device 216 = .ok (.aload_n 0, 1) := by decide +kernel
theorem dX12_device_217 : decode cX12_device 217 = .ok (.getfield 127, 3) := by decide +kernel
theorem dX12_device_220 : decode cX12_device 220 = .ok (.iload_n 3, 1) := by decide +kernel
theorem dX12_device_221 : decode cX12_device 221 = .ok (.iaload, 1) := by decide +kernel
theorem dX12_device_222 : decode cX12_device 222 = .ok (.goto 4, 3) := by decide +kernel
theorem dX12_device_225 : decode cX12_device 225 = .ok (.iconst 0, 1) := by decide +kernel
theorem dX12_device_226 : decode cX12_device 226 = .ok (.ireturn, 1) := by decide +kernel
theorem dX12_device_227 : decode cX12_device 227 = .ok (.iload 4, 2) := by decide +kernel
theorem dX12_device_229 : decode cX12_device 229 = .ok (.ifCond .eq 12, 3) := by decide +kernel
theorem dX12_device_232 : decode cX12_device 232 = .ok (.aload_n 0, 1) := by decide +kernel
theorem dX12_device_233 : decode cX12_device 233 = .ok (.getfield 51, 3) := by decide +kernel
theorem dX12_device_236 : decode cX12_device 236 = .ok (.iload_n 3, 1) := by decide +kernel
theorem dX12_device_237 : decode cX12_device 237 = .ok (.iaload, 1) := by decide +kernel
theorem dX12_device_238 : decode cX12_device 238 = .ok (.goto 4, 3) := by decide +kernel
theorem dX12_device_241 : decode cX12_device 241 = .ok (.iconst 0, 1) := by decide +kernel
theorem dX12_device_242 : decode cX12_device 242 = .ok (.ireturn, 1) := by decide +kernel
theorem dX12_device_243 : decode cX12_device 243 = .ok (.iload 4, 2) := by decide +kernel
theorem dX12_device_245 : decode cX12_device 245 = .ok (.ifCond .eq 12, 3) := by decide +kernel
theorem dX12_device_248 : decode cX12_device 248 = .ok (.aload_n 0, 1) := by decide +kernel
theorem dX12_device_249 : decode cX12_device 249 = .ok (.getfield 106, 3) := by decide +kernel
theorem dX12_device_252 : decode cX12_device 252 = .ok (.iload_n 3, 1) := by decide +kernel
theorem dX12_device_253 : decode cX12_device 253 = .ok (.iaload, 1) := by decide +kernel
theorem dX12_device_254 : decode cX12_device 254 = .ok (.goto 4, 3) := by decide +kernel
theorem dX12_device_257 : decode cX12_device 257 = .ok (.iconst 0, 1) := by decide +kernel
theorem dX12_device_258 : decode cX12_device 258 = .ok (.ireturn, 1) := by decide +kernel
theorem dX12_device_259 : decode cX12_device 259 = .ok (.iload 4, 2) := by decide +kernel
theorem dX12_device_261 : decode cX12_device 261 = .ok (.ifCond .eq 12, 3) := by decide +kernel
theorem dX12_device_264 : decode cX12_device 264 = .ok (.aload_n 0, 1) := by decide +kernel
theorem dX12_device_265 : decode cX12_device 265 = .ok (.getfield 103, 3) := by decide +kernel
theorem dX12_device_268 : decode cX12_device 268 = .ok (.iload_n 3, 1) := by decide +kernel
theorem dX12_device_269 : decode cX12_device 269 = .ok (.iaload, 1) := by decide +kernel
theorem dX12_device_270 : decode cX12_device 270 = .ok (.goto 4, 3) := by decide +kernel
theorem dX12_device_273 : decode cX12_device 273 = .ok (.iconst 0, 1) := by decide +kernel
theorem dX12_device_274 : decode cX12_device 274 = .ok (.ireturn, 1) := by decide +kernel
theorem dX12_device_275 : decode cX12_device 275 = .ok (.iload 4, 2) := by decide +kernel
theorem dX12_device_277 : decode cX12_device 277 = .ok (.ifCond .eq 17, 3) := by decide +kernel
theorem dX12_device_280 : decode cX12_device 280 = .ok (.aload_n 0, 1) := by decide +kernel
theorem dX12_device_281 : decode cX12_device 281 = .ok (.getfield 121, 3) := by decide +kernel
theorem dX12_device_284 : decode cX12_device 284 = .ok (.iload_n 3, 1) := by decide +kernel
theorem dX12_device_285 : decode cX12_device 285 = .ok (.iaload, 1) := by decide +kernel
theorem dX12_device_286 : decode cX12_device 286 = .ok (.aload_n 0, 1) := by decide +kernel
theorem dX12_device_287 : decode cX12_device 287 = .ok (.getfield 470, 3) := by decide +kernel
theorem dX12_device_290 : decode cX12_device 290 = .ok (.isub, 1) := by decide +kernel
theorem dX12_device_291 : decode cX12_device 291 = .ok (.goto 28, 3) := by decide +kernel
theorem dX12_device_294 : decode cX12_device 294 = .ok (.aload_n 0, 1) := by decide +kernel
theorem dX12_device_295 : decode cX12_device 295 = .ok (.getfield 45, 3) := by decide +kernel
theorem dX12_device_298 : decode cX12_device 298 = .ok (.iload_n 3, 1) := by decide +kernel
theorem dX12_device_299 : decode cX12_device 299 = .ok (.iaload, 1) := by decide +kernel
theorem dX12_device_300 : decode cX12_device 300 = .ok (.iconst 1, 1) := by decide +kernel
theorem dX12_device_301 : decode cX12_device 301 = .ok (.if_icmp .ne 17, 3) := by decide +kernel
theorem dX12_device_304 : decode cX12_device 304 = .ok (.aload_n 0, 1) := by decide +kernel
theorem dX12_device_305 : decode cX12_device 305 = .ok (.getfield 54, 3) := by decide +kernel
theorem dX12_device_308 : decode cX12_device 308 = .ok (.iload_n 3, 1) := by decide +kernel
theorem dX12_device_309 : decode cX12_device 309 = .ok (.iaload, 1) := by decide +kernel
theorem dX12_device_310 : decode cX12_device 310 = .ok (.aload_n 0, 1) := by decide +kernel
theorem dX12_device_311 : decode cX12_device 311 = .ok (.getfield 470, 3) := by decide +kernel
theorem dX12_device_314 : decode cX12_device 314 = .ok (.isub, 1) := by decide +kernel
theorem dX12_device_315 : decode cX12_device 315 = .ok (.goto 4, 3) := by decide +kernel
theorem dX12_device_318 : decode cX12_device 318 = .ok (.iconst 0, 1) := by decide +kernel
theorem dX12_device_319 : decode cX12_device 319 = .ok (.ireturn, 1) := by decide +kernel
theorem dX12_device_320 : decode cX12_device 320 = .ok (.aload_n 0, 1) := by decide +kernel
theorem dX12_device_321 : decode cX12_device 321 = .ok (.getfield 191, 3) := by decide +kernel
theorem dX12_device_324 : decode cX12_device 324 = .ok (.iload_n 3, 1) := by decide +kernel
theorem dX12_device_325 : decode cX12_device 325 = .ok (.iaload, 1) := by decide +kernel
theorem dX12_device_326 : decode cX12_device 326 = .ok (.ireturn, 1) := by decide +kernel
theorem dX12_device_327 : decode cX12_device 327 = .ok (.aload_n 0, 1) := by decide +kernel
theorem dX12_device_328 : decode cX12_device 328 = .ok (.getfield 275, 3) := by decide +kernel
theorem dX12_device_331 : decode cX12_device 331 = .ok (.iload_n 3, 1) := by decide +kernel
theorem dX12_device_332 : decode cX12_device 332 = .ok (.iaload, 1) := by decide +kernel
theorem dX12_device_333 : decode cX12_device 333 = .ok (.ireturn, 1) := by decide +kernel
theorem dX12_device_334 : decode cX12_device 334 = .ok (.aload_n 0, 1) := by decide +kernel
theorem dX12_device_335 : decode cX12_device 335 = .ok (.getfield 182, 3) := by decide +kernel
theorem dX12_device_338 : decode cX12_device 338 = .ok (.iload_n 3, 1) := by decide +kernel
theorem dX12_device_339 : decode cX12_device 339 = .ok (.iaload, 1) := by decide +kernel
theorem dX12_device_340 : decode cX12_device 340 = .ok (.ireturn, 1) := by decide +kernel
theorem dX12_device_341 : decode cX12_device 341 = .ok (.aload_n 0, 1) := by decide +kernel
theorem dX12_device_342 : decode cX12_device 342 = .ok (.getfield 185, 3) := by decide +kernel
theorem dX12_device_345 : decode cX12_device 345 = .ok (.iload_n 3, 1) := by decide +kernel
theorem dX12_device_346 : decode cX12_device 346 = .ok (.iaload, 1) := by decide +kernel
theorem dX12_device_347 : decode cX12_device 347 = .ok (.ireturn, 1) := by decide +kernel
theorem dX12_device_348 : decode cX12_device 348 = .ok (.aload_n 0, 1) := by decide +kernel
theorem dX12_device_349 : decode cX12_device 349 = .ok (.getfield 224, 3) := by decide +kernel
theorem dX12_device_352 : decode cX12_device 352 = .ok (.iload_n 3, 1) := by decide +kernel
theorem dX12_device_353 : decode cX12_device 353 = .ok (.baload, 1) := by decide +kernel
theorem dX12_device_354 : decode cX12_device 354 = .ok (.ifCond .eq 7, 3) := by decide +kernel
theorem dX12_device_357 : decode cX12_device 357 = .ok (.iconst 1, 1) := by decide +kernel
theorem dX12_device_358 : decode cX12_device 358 = .ok (.goto 4, 3) := by decide +kernel
theorem dX12_device_361 : decode cX12_device 361 = .ok (.iconst 0, 1) := by decide +kernel
theorem dX12_device_362 : decode cX12_device 362 = .ok (.ireturn, 1) := by decide +kernel
theorem dX12_device_363 : decode cX12_device 363 = .ok (.aload_n 0, 1) := by decide +kernel
theorem dX12_device_364 : decode cX12_device 364 = .ok (.getfield 239, 3) := by decide +kernel
theorem dX12_device_367 : decode cX12_device 367 = .ok (.iload_n 3, 1) := by decide +kernel
theorem dX12_device_368 : decode cX12_device 368 = .ok (.baload, 1) := by decide +kernel
theorem dX12_device_369 : decode cX12_device 369 = .ok (.ifCond .eq 7, 3) := by decide +kernel
theorem dX12_device_372 : decode cX12_device 372 = .ok (.iconst 1, 1) := by decide +kernel
theorem dX12_device_373 : decode cX12_device 373 = .ok (.goto 4, 3) := by decide +kernel
theorem dX12_device_376 : decode cX12_device 376 = .ok (.iconst 0, 1) := by decide +kernel
theorem dX12_device_377 : decode cX12_device 377 = .ok (.ireturn, 1) := by decide +kernel
theorem dX12_device_378 : decode cX12_device 378 = .ok (.aload_n 0, 1) := by decide +kernel
theorem dX12_device_379 : decode cX12_device 379 = .ok (.getfield 194, 3) := by decide +kernel
theorem dX12_device_382 : decode cX12_device 382 = .ok (.iload_n 3, 1) := by decide +kernel
theorem dX12_device_383 : decode cX12_device 383 = .ok (.iaload, 1) := by decide +kernel
theorem dX12_device_384 : decode cX12_device 384 = .ok (.ireturn, 1) := by decide +kernel
theorem dX12_device_385 : decode cX12_device 385 = .ok (.aload_n 0, 1) := by decide +kernel
theorem dX12_device_386 : decode cX12_device 386 = .ok (.getfield 197, 3) := by decide +kernel
theorem dX12_device_389 : decode cX12_device 389 = .ok (.iload_n 3, 1) := by decide +kernel
theorem dX12_device_390 : decode cX12_device 390 = .ok (.iaload, 1) := by decide +kernel
theorem dX12_device_391 : decode cX12_device 391 = .ok (.ireturn, 1) := by decide +kernel
theorem dX12_device_392 : decode cX12_device 392 = .ok (.aload_n 0, 1) := by decide +kernel
theorem dX12_device_393 : decode cX12_device 393 = .ok (.getfield 332, 3) := by decide +kernel
theorem dX12_device_396 : decode cX12_device 396 = .ok (.iload_n 3, 1) := by decide +kernel
theorem dX12_device_397 : decode cX12_device 397 = .ok (.iaload, 1) := by decide +kernel
theorem dX12_device_398 : decode cX12_device 398 = .ok (.ireturn, 1) := by decide +kernel
theorem dX12_device_399 : decode cX12_device 399 = .ok (.aload_n 0, 1) := by decide +kernel
theorem dX12_device_400 : decode cX12_device 400 = .ok (.getfield 296, 3) := by decide +kernel
theorem dX12_device_403 : decode cX12_device 403 = .ok (.iload_n 3, 1) := by decide +kernel
theorem dX12_device_404 : decode cX12_device 404 = .ok (.iaload, 1) := by decide +kernel
theorem dX12_device_405 : decode cX12_device 405 = .ok (.ireturn, 1) := by decide +kernel
theorem dX12_device_406 : decode cX12_device 406 = .ok (.aload_n 0, 1) := by decide +kernel
theorem dX12_device_407 : decode cX12_device 407 = .ok (.getfield 365, 3) := by decide +kernel
theorem dX12_device_410 : decode cX12_device 410 = .ok (.iload_n 3, 1) := by decide +kernel
theorem dX12_device_411 : decode cX12_device 411 = .ok (.iaload, 1) := by decide +kernel
theorem dX12_device_412 : decode cX12_device 412 = .ok (.ireturn, 1) := by decide +kernel
theorem dX12_device_413 : decode cX12_device 413 = .ok (.aload_n 0, 1) := by decide +kernel
theorem dX12_device_414 : decode cX12_device 414 = .ok (.getfield 338, 3) := by decide +kernel
theorem dX12_device_417 : decode cX12_device 417 = .ok (.iload_n 3, 1) := by decide +kernel
theorem dX12_device_418 : decode cX12_device 418 = .ok (.iaload, 1) := by decide +kernel
theorem dX12_device_419 : decode cX12_device 419 = .ok (.ireturn, 1) := by decide +kernel
theorem dX12_device_420 : decode cX12_device 420 = .ok (.aload_n 0, 1) := by decide +kernel
theorem dX12_device_421 : decode cX12_device 421 = .ok (.getfield 88, 3) := by decide +kernel
theorem dX12_device_424 : decode cX12_device 424 = .ok (.iload_n 3, 1) := by decide +kernel
theorem dX12_device_425 : decode cX12_device 425 = .ok (.iaload, 1) := by decide +kernel
theorem dX12_device_426 : decode cX12_device 426 = .ok (.ireturn, 1) := by decide +kernel
theorem dX12_device_427 : decode cX12_device 427 = .ok (.aload_n 0, 1) := by decide +kernel
theorem dX12_device_428 : decode cX12_device 428 = .ok (.getfield 91, 3) := by decide +kernel
theorem dX12_device_431 : decode cX12_device 431 = .ok (.iload_n 3, 1) := by decide +kernel
theorem dX12_device_432 : decode cX12_device 432 = .ok (.iaload, 1) := by decide +kernel
theorem dX12_device_433 : decode cX12_device 433 = .ok (.ireturn, 1) := by decide +kernel
theorem dX12_device_434 : decode cX12_device 434 = .ok (.aload_n 0, 1) := by decide +kernel
theorem dX12_device_435 : decode cX12_device 435 = .ok (.getfield 320, 3) := by decide +kernel
theorem dX12_device_438 : decode cX12_device 438 = .ok (.iload_n 3, 1) := by decide +kernel
theorem dX12_device_439 : decode cX12_device 439 = .ok (.iaload, 1) := by decide +kernel
theorem dX12_device_440 : decode cX12_device 440 = .ok (.ireturn, 1) := by decide +kernel
theorem dX12_device_441 : decode cX12_device 441 = .ok (.aload_n 0, 1) := by decide +kernel
theorem dX12_device_442 : decode cX12_device 442 = .ok (.getfield 158, 3) := by decide +kernel
theorem dX12_device_445 : decode cX12_device 445 = .ok (.iload_n 3, 1) := by decide +kernel
theorem dX12_device_446 : decode cX12_device 446 = .ok (.iaload, 1) := by decide +kernel
theorem dX12_device_447 : decode cX12_device 447 = .ok (.ireturn, 1) := by decide +kernel
theorem dX12_device_448 : decode cX12_device 448 = .ok (.aload_n 0, 1) := by decide +kernel
theorem dX12_device_449 : decode cX12_device 449 = .ok (.getfield 161, 3) := by decide +kernel
theorem dX12_device_452 : decode cX12_device 452 = .ok (.iload_n 3, 1) := by decide +kernel
theorem dX12_device_453 : decode cX12_device 453 = .ok (.iaload, 1) := by decide +kernel
theorem dX12_device_454 : decode cX12_device 454 = .ok (.ireturn, 1) := by decide +kernel
theorem dX12_device_455 : decode cX12_device 455 = .ok (.iload 4, 2) := by decide +kernel
theorem dX12_device_457 : decode cX12_device 457 = .ok (.ifCond .eq 17, 3) := by decide +kernel
theorem dX12_device_460 : decode cX12_device 460 = .ok (.aload_n 0, 1) := by decide +kernel
theorem dX12_device_461 : decode cX12_device 461 = .ok (.getfield 470, 3) := by decide +kernel
theorem dX12_device_464 : decode cX12_device 464 = .ok (.aload_n 0, 1) := by decide +kernel
theorem dX12_device_465 : decode cX12_device 465 = .ok (.getfield 130, 3) := by decide +kernel
theorem dX12_device_468 : decode cX12_device 468 = .ok (.iload_n 3, 1) := by decide +kernel
theorem dX12_device_469 : decode cX12_device 469 = .ok (.iaload, 1) := by decide +kernel
theorem dX12_device_470 : decode cX12_device 470 = .ok (.isub, 1) := by decide +kernel
theorem dX12_device_471 : decode cX12_device 471 = .ok (.goto 4, 3) := by decide +kernel
theorem dX12_device_474 : decode cX12_device 474 = .ok (.iconst 0, 1) := by decide +kernel
theorem dX12_device_475 : decode cX12_device 475 = .ok (.ireturn, 1) := by decide +kernel
theorem dX12_device_476 : decode cX12_device 476 = .ok (.aload_n 0, 1) := by decide +kernel
theorem dX12_device_477 : decode cX12_device 477 = .ok (.getfield 94, 3) := by decide +kernel
theorem dX12_device_480 : decode cX12_device 480 = .ok (.iload_n 3, 1) := by decide +kernel
theorem dX12_device_481 : decode cX12_device 481 = .ok (.iaload, 1) := by decide +kernel
theorem dX12_device_482 : decode cX12_device 482 = .ok (.ireturn, 1) := by decide +kernel
theorem dX12_device_483 : decode cX12_device 483 = .ok (.aload_n 0, 1) := by decide +kernel
theorem dX12_device_484 : decode cX12_device 484 = .ok (.getfield 362, 3) := by decide +kernel
theorem dX12_device_487 : decode cX12_device 487 = .ok (.iload_n 3, 1) := by decide +kernel
theorem dX12_device_488 : decode cX12_device 488 = .ok (.baload, 1) := by decide +kernel
theorem dX12_device_489 : decode cX12_device 489 = .ok (.ifCond .eq 7, 3) := by decide +kernel
theorem dX12_device_492 : decode cX12_device 492 = .ok (.iconst 1, 1) := by decide +kernel
theorem dX12_device_493 : decode cX12_device 493 = .ok (.goto 4, 3) := by decide +kernel
theorem dX12_device_496 : decode cX12_device 496 = .ok (.iconst 0, 1) := by decide +kernel
theorem dX12_device_497 : decode cX12_device 497 = .ok (.ireturn, 1) := by decide +kernel
theorem dX12_device_498 : decode cX12_device 498 = .ok (.iconst (-1), 1) := by decide +kernel
theorem dX12_device_499 : decode cX12_device 499 = .ok (.ireturn, 1) := by decide +kernel
theorem dX12_number___0 : decode cX12_number__ 0 = .ok (.aload_n 0, 1) := by decide +kernel
theorem dX12_number___1 : decode cX12_number__ 1 = .ok (.iconst 0, 1) := by decide +kernel
theorem dX12_number___2 : decode cX12_number__ 2 = .ok (.putfield 1, 3) := by decide +kernel
theorem dX12_number___5 : decode cX12_number__ 5 = .ok (.iload_n 1, 1) := by decide +kernel
theorem dX12_number___6 : decode cX12_number__ 6 = .ok (.iconst 2, 1) := by decide +kernel
theorem dX12_number___7 : decode cX12_number__ 7 = .ok (.invokestatic 413, 3) := by decide +kernel
theorem dX12_number___10 : decode cX12_number__ 10 = .ok (.ifCond .ne 7, 3) := by decide +kernel
theorem dX12_number___13 : decode cX12_number__ 13 = .ok (.ldc2_w 681, 3) := by decide +kernel
theorem dX12_number___16 : decode cX12_number__ 16 = .ok (.lreturn, 1) := by decide +kernel
theorem dX12_number___17 : decode cX12_number__ 17 = .ok (.iload_n 2, 1) := by decide +kernel
theorem dX12_number___18 : decode cX12_number__ 18 = .ok (.tableswitch 59 0 2 #[26, 45, 52], 26) := by decide +kernel
theorem dX12_number___44 : decode cX12_number__ 44 = .ok (.aload_n 0, 1) := by decide +kernel
theorem dX12_number___45 : decode cX12_number__ 45 = .ok (.iload_n 1, 1) := by decide +kernel
theorem dX12_number___46 : decode cX12_number__ 46 = .ok (.invokevirtual 662, 3) := by decide +kernel
theorem dX12_number___49 : decode cX12_number__ 49 = .ok (.ifCond .eq 12, 3) := by decide +kernel
theorem dX12_number___52 : decode cX12_number__ 52 = .ok (.aload_n 0, 1) := by decide +kernel
theorem dX12_number___53 : decode cX12_number__ 53 = .ok (.getfield 70, 3) := by decide +kernel
theorem dX12_number___56 : decode cX12_number__ 56 = .ok (.iload_n 1, 1) := by decide +kernel
theorem dX12_number___57 : decode cX12_number__ 57 = .ok (.laload, 1) := by decide +kernel
theorem dX12_number___58 : decode cX12_number__ 58 = .ok (.goto 4, 3) := by decide +kernel
theorem dX12_number___61 : decode cX12_number__ 61 = .ok (.lconst 0, 1) := by decide +kernel
theorem dX12_number___62 : decode cX12_number__ 62 = .ok (.lreturn, 1) := by decide +kernel
theorem dX12_number___63 : decode cX12_number__ 63 = .ok (.aload_n 0, 1) := by decide +kernel
theorem dX12_number___64 : decode cX12_number__ 64 = .ok (.getfield 79, 3) := by decide +kernel
theorem dX12_number___67 : decode cX12_number__ 67 = .ok (.iload_n 1, 1) := by decide +kernel
theorem dX12_number___68 : decode cX12_number__ 68 = .ok (.laload, 1) := by decide +kernel
theorem dX12_number___69 : decode cX12_number__ 69 = .ok (.lreturn, 1) := by decide +kernel
theorem dX12_number___70 : decode cX12_number__ 70 = .ok (.aload_n 0, 1) := by decide +kernel
theorem dX12_number___71 : decode cX12_number__ 71 = .ok (.getfield 60, 3) := by decide +kernel
theorem dX12_number___74 : decode cX12_number__ 74 = .ok (.iload_n 1, 1) := by decide +kernel
theorem dX12_number___75 : decode cX12_number__ 75 = .ok (.laload, 1) := by decide +kernel
theorem dX12_number___76 : decode cX12_number__ 76 = .ok (.lreturn, 1) := by decide +kernel
theorem dX12_number___77 : decode cX12_number__ 77 = .ok (.ldc2_w 681, 3) := by decide +kernel
theorem dX12_number___80 : decode cX12_number__ 80 = .ok (.lreturn, 1) := by decide +kernel
theorem dX12_byteOf_0 : decode cX12_byteOf 0 = .ok (.aload_n 0, 1) := by decide +kernel
theorem dX12_byteOf_1 : decode cX12_byteOf 1 = .ok (.iconst 0, 1) := by decide +kernel
theorem dX12_byteOf_2 : decode cX12_byteOf 2 = .ok (.putfield 1, 3) := by decide +kernel
theorem dX12_byteOf_5 : decode cX12_byteOf 5 = .ok (.iload_n 1, 1) := by decide +kernel
theorem dX12_byteOf_6 : decode cX12_byteOf 6 = .ok (.iconst 2, 1) := by decide +kernel
theorem dX12_byteOf_7 : decode cX12_byteOf 7 = .ok (.invokestatic 413, 3) := by decide +kernel
theorem dX12_byteOf_10 : decode cX12_byteOf 10 = .ok (.ifCond .eq 7, 3) := by decide +kernel
theorem dX12_byteOf_13 : decode cX12_byteOf 13 = .ok (.iload_n 3, 1) := by decide +kernel
theorem dX12_byteOf_14 : decode cX12_byteOf 14 = .ok (.ifCond .ge 5, 3) := by decide +kernel
theorem dX12_byteOf_17 : decode cX12_byteOf 17 = .ok (.iconst (-1), 1) := by decide +kernel
theorem dX12_byteOf_18 : decode cX12_byteOf 18 = .ok (.ireturn, 1) := by decide +kernel
theorem dX12_byteOf_19 : decode cX12_byteOf 19 = .ok (.iload_n 2, 1) := by decide +kernel
theorem dX12_byteOf_20 : decode cX12_byteOf 20 = .ok (.iconst 4, 1) := by decide +kernel
theorem dX12_byteOf_21 : decode cX12_byteOf 21 = .ok (.if_icmp .ne 26, 3) := by decide +kernel
theorem dX12_byteOf_24 : decode cX12_byteOf 24 = .ok (.iload_n 3, 1) := by decide +kernel
theorem dX12_byteOf_25 : decode cX12_byteOf 25 = .ok (.aload_n 0, 1) := by decide +kernel
theorem dX12_byteOf_26 : decode cX12_byteOf 26 = .ok (.getfield 7, 3) := by decide +kernel
theorem dX12_byteOf_29 : decode cX12_byteOf 29 = .ok (.if_icmp .ge 16, 3) := by decide +kernel
theorem dX12_byteOf_32 : decode cX12_byteOf 32 = .ok (.aload_n 0, 1) := by decide +kernel
theorem dX12_byteOf_33 : decode cX12_byteOf 33 = .ok (.getfield 10, 3) := by decide +kernel
theorem dX12_byteOf_36 : decode cX12_byteOf 36 = .ok (.iload_n 3, 1) := by decide +kernel
theorem dX12_byteOf_37 : decode cX12_byteOf 37 = .ok (.baload, 1) := by decide +kernel
theorem dX12_byteOf_38 : decode cX12_byteOf 38 = .ok (.sipush 255, 3) := by decide +kernel
theorem dX12_byteOf_41 : decode cX12_byteOf 41 = .ok (.iand, 1) := by decide +kernel
theorem dX12_byteOf_42 : decode cX12_byteOf 42 = .ok (.goto 4, 3) := by decide +kernel
theorem dX12_byteOf_45 : decode cX12_byteOf 45 = .ok (.iconst (-1), 1) := by decide +kernel
theorem dX12_byteOf_46 : decode cX12_byteOf 46 = .ok (.ireturn, 1) := by decide +kernel
theorem dX12_byteOf_47 : decode cX12_byteOf 47 = .ok (.iload_n 2, 1) := by decide +kernel
theorem dX12_byteOf_48 : decode cX12_byteOf 48 = .ok (.tableswitch 167 0 3 #[32, 62, 97, 132], 32) := by decide +kernel
theorem dX12_byteOf_80 : decode cX12_byteOf 80 = .ok (.iload_n 3, 1) := by decide +kernel
theorem dX12_byteOf_81 : decode cX12_byteOf 81 = .ok (.aload_n 0, 1) := by decide +kernel
theorem dX12_byteOf_82 : decode cX12_byteOf 82 = .ok (.getfield 91, 3) := by decide +kernel
theorem dX12_byteOf_85 : decode cX12_byteOf 85 = .ok (.iload_n 1, 1) := by decide +kernel
theorem dX12_byteOf_86 : decode cX12_byteOf 86 = .ok (.iaload, 1) := by decide +kernel
theorem dX12_byteOf_87 : decode cX12_byteOf 87 = .ok (.if_icmp .ge 21, 3) := by decide +kernel
theorem dX12_byteOf_90 : decode cX12_byteOf 90 = .ok (.aload_n 0, 1) := by decide +kernel
theorem dX12_byteOf_91 : decode cX12_byteOf 91 = .ok (.getfield 85, 3) := by decide +kernel
theorem dX12_byteOf_94 : decode cX12_byteOf 94 = .ok (.bipush 32, 2) := by decide +kernel
theorem dX12_byteOf_96 : decode cX12_byteOf 96 = .ok (.iload_n 1, 1) := by decide +kernel
theorem dX12_byteOf_97 : decode cX12_byteOf 97 = .ok (.imul, 1) := by decide +kernel
theorem dX12_byteOf_98 : decode cX12_byteOf 98 = .ok (.iload_n 3, 1) := by decide +kernel
theorem dX12_byteOf_99 : decode cX12_byteOf 99 = .ok (.iadd, 1) := by decide +kernel
theorem dX12_byteOf_100 : decode cX12_byteOf 100 = .ok (.baload, 1) := by decide +kernel
theorem dX12_byteOf_101 : decode cX12_byteOf 101 = .ok (.sipush 255, 3) := by decide +kernel
theorem dX12_byteOf_104 : decode cX12_byteOf 104 = .ok (.iand, 1) := by decide +kernel
theorem dX12_byteOf_105 : decode cX12_byteOf 105 = .ok (.goto 4, 3) := by decide +kernel
theorem dX12_byteOf_108 : decode cX12_byteOf 108 = .ok (.iconst (-1), 1) := by decide +kernel
theorem dX12_byteOf_109 : decode cX12_byteOf 109 = .ok (.ireturn, 1) := by decide +kernel
theorem dX12_byteOf_110 : decode cX12_byteOf 110 = .ok (.iload_n 3, 1) := by decide +kernel
theorem dX12_byteOf_111 : decode cX12_byteOf 111 = .ok (.bipush 16, 2) := by decide +kernel
theorem dX12_byteOf_113 : decode cX12_byteOf 113 = .ok (.if_icmp .ge 30, 3) := by decide +kernel
theorem dX12_byteOf_116 : decode cX12_byteOf 116 = .ok (.aload_n 0, 1) := by decide +kernel
theorem dX12_byteOf_117 : decode cX12_byteOf 117 = .ok (.getfield 245, 3) := by decide +kernel
theorem dX12_byteOf_120 : decode cX12_byteOf 120 = .ok (.iload_n 1, 1) := by decide +kernel
theorem dX12_byteOf_121 : decode cX12_byteOf 121 = .ok (.baload, 1) := by decide +kernel
theorem dX12_byteOf_122 : decode cX12_byteOf 122 = .ok (.ifCond .eq 21, 3) := by decide +kernel
theorem dX12_byteOf_125 : decode cX12_byteOf 125 = .ok (.aload_n 0, 1) := by decide +kernel
theorem dX12_byteOf_126 : decode cX12_byteOf 126 = .ok (.getfield 206, 3) := by decide +kernel
theorem dX12_byteOf_129 : decode cX12_byteOf 129 = .ok (.bipush 16, 2) := by decide +kernel
theorem dX12_byteOf_131 : decode cX12_byteOf 131 = .ok (.iload_n 1, 1) := by decide +kernel
theorem dX12_byteOf_132 : decode cX12_byteOf 132 = .ok (.imul, 1) := by decide +kernel
theorem dX12_byteOf_133 : decode cX12_byteOf 133 = .ok (.iload_n 3, 1) := by decide +kernel
theorem dX12_byteOf_134 : decode cX12_byteOf 134 = .ok (.iadd, 1) := by decide +kernel
theorem dX12_byteOf_135 : decode cX12_byteOf 135 = .ok (.baload, 1) := by decide +kernel
theorem dX12_byteOf_136 : decode cX12_byteOf 136 = .ok (.sipush 255, 3) := by decide +kernel
theorem dX12_byteOf_139 : decode cX12_byteOf 139 = .ok (.iand, 1) := by decide +kernel
theorem dX12_byteOf_140 : decode cX12_byteOf 140 = .ok (.goto 4, 3) := by decide +kernel
theorem dX12_byteOf_143 : decode cX12_byteOf 143 = .ok (.iconst (-1), 1) := by decide +kernel
theorem dX12_byteOf_144 : decode cX12_byteOf 144 = .ok (.ireturn, 1) := by decide +kernel
theorem dX12_byteOf_145 : decode cX12_byteOf 145 = .ok (.iload_n 3, 1) := by decide +kernel
theorem dX12_byteOf_146 : decode cX12_byteOf 146 = .ok (.bipush 16, 2) := by decide +kernel
theorem dX12_byteOf_148 : decode cX12_byteOf 148 = .ok (.if_icmp .ge 30, 3) := by decide +kernel
theorem dX12_byteOf_151 : decode cX12_byteOf 151 = .ok (.aload_n 0, 1) := by decide +kernel
theorem dX12_byteOf_152 : decode cX12_byteOf 152 = .ok (.getfield 242, 3) := by decide +kernel
theorem dX12_byteOf_155 : decode cX12_byteOf 155 = .ok (.iload_n 1, 1) := by decide +kernel
theorem dX12_byteOf_156 : decode cX12_byteOf 156 = .ok (.baload, 1) := by decide +kernel
theorem dX12_byteOf_157 : decode cX12_byteOf 157 = .ok (.ifCond .eq 21, 3) := by decide +kernel
theorem dX12_byteOf_160 : decode cX12_byteOf 160 = .ok (.aload_n 0, 1) := by decide +kernel
theorem dX12_byteOf_161 : decode cX12_byteOf 161 = .ok (.getfield 209, 3) := by decide +kernel
theorem dX12_byteOf_164 : decode cX12_byteOf 164 = .ok (.bipush 16, 2) := by decide +kernel
theorem dX12_byteOf_166 : decode cX12_byteOf 166 = .ok (.iload_n 1, 1) := by decide +kernel
theorem dX12_byteOf_167 : decode cX12_byteOf 167 = .ok (.imul, 1) := by decide +kernel
theorem dX12_byteOf_168 : decode cX12_byteOf 168 = .ok (.iload_n 3, 1) := by decide +kernel
theorem dX12_byteOf_169 : decode cX12_byteOf 169 = .ok (.iadd, 1) := by decide +kernel
theorem dX12_byteOf_170 : decode cX12_byteOf 170 = .ok (.baload, 1) := by decide +kernel
theorem dX12_byteOf_171 : decode cX12_byteOf 171 = .ok (.sipush 255, 3) := by decide +kernel
theorem dX12_byteOf_174 : decode cX12_byteOf 174 = .ok (.iand, 1) := by decide +kernel
theorem dX12_byteOf_175 : decode cX12_byteOf 175 = .ok (.goto 4, 3) := by decide +kernel
theorem dX12_byteOf_178 : decode cX12_byteOf 178 = .ok (.iconst (-1), 1) := by decide +kernel
theorem dX12_byteOf_179 : decode cX12_byteOf 179 = .ok (.ireturn, 1) := by decide +kernel
theorem dX12_byteOf_180 : decode cX12_byteOf 180 = .ok (.iload_n 3, 1) := by decide +kernel
theorem dX12_byteOf_181 : decode cX12_byteOf 181 = .ok (.bipush 8, 2) := by decide +kernel
theorem dX12_byteOf_183 : decode cX12_byteOf 183 = .ok (.if_icmp .ge 30, 3) := by decide +kernel
theorem dX12_byteOf_186 : decode cX12_byteOf 186 = .ok (.aload_n 0, 1) := by decide +kernel
theorem dX12_byteOf_187 : decode cX12_byteOf 187 = .ok (.getfield 242, 3) := by decide +kernel
theorem dX12_byteOf_190 : decode cX12_byteOf 190 = .ok (.iload_n 1, 1) := by decide +kernel
theorem dX12_byteOf_191 : decode cX12_byteOf 191 = .ok (.baload, 1) := by decide +kernel
theorem dX12_byteOf_192 : decode cX12_byteOf 192 = .ok (.ifCond .eq 21, 3) := by decide +kernel
theorem dX12_byteOf_195 : decode cX12_byteOf 195 = .ok (.aload_n 0, 1) := by decide +kernel
theorem dX12_byteOf_196 : decode cX12_byteOf 196 = .ok (.getfield 212, 3) := by decide +kernel
theorem dX12_byteOf_199 : decode cX12_byteOf 199 = .ok (.bipush 8, 2) := by decide +kernel
theorem dX12_byteOf_201 : decode cX12_byteOf 201 = .ok (.iload_n 1, 1) := by decide +kernel
theorem dX12_byteOf_202 : decode cX12_byteOf 202 = .ok (.imul, 1) := by decide +kernel
theorem dX12_byteOf_203 : decode cX12_byteOf 203 = .ok (.iload_n 3, 1) := by decide +kernel
theorem dX12_byteOf_204 : decode cX12_byteOf 204 = .ok (.iadd, 1) := by decide +kernel
theorem dX12_byteOf_205 : decode cX12_byteOf 205 = .ok (.baload, 1) := by decide +kernel
theorem dX12_byteOf_206 : decode cX12_byteOf 206 = .ok (.sipush 255, 3) := by decide +kernel
theorem dX12_byteOf_209 : decode cX12_byteOf 209 = .ok (.iand, 1) := by decide +kernel
theorem dX12_byteOf_210 : decode cX12_byteOf 210 = .ok (.goto 4, 3) := by decide +kernel
theorem dX12_byteOf_213 : decode cX12_byteOf 213 = .ok (.iconst (-1), 1) := by decide +kernel
theorem dX12_byteOf_214 : decode cX12_byteOf 214 = .ok (.ireturn, 1) := by decide +kernel
theorem dX12_byteOf_215 : decode cX12_byteOf 215 = .ok (.iconst (-1), 1) := by decide +kernel
theorem dX12_byteOf_216 : decode cX12_byteOf 216 = .ok (.ireturn, 1) := by decide +kernel
theorem dX12_mayControl_0 : decode cX12_mayControl 0 = .ok (.iload_n 1, 1) := by decide +kernel
theorem dX12_mayControl_1 : decode cX12_mayControl 1 = .ok (.iconst 2, 1) := by decide +kernel
theorem dX12_mayControl_2 : decode cX12_mayControl 2 = .ok (.invokestatic 413, 3) := by decide +kernel
theorem dX12_mayControl_5 : decode cX12_mayControl 5 = .ok (.ifCond .eq 34, 3) := by decide +kernel
theorem dX12_mayControl_8 : decode cX12_mayControl 8 = .ok (.aload_n 0, 1) := by decide +kernel
theorem dX12_mayControl_9 : decode cX12_mayControl 9 = .ok (.iload_n 1, 1) := by decide +kernel
theorem dX12_mayControl_10 : decode cX12_mayControl 10 = .ok (.invokevirtual 662, 3) := by decide +kernel
theorem dX12_mayControl_13 : decode cX12_mayControl 13 = .ok (.ifCond .eq 26, 3) := by decide +kernel
theorem dX12_mayControl_16 : decode cX12_mayControl 16 = .ok (.aload_n 0, 1) := by decide +kernel
theorem dX12_mayControl_17 : decode cX12_mayControl 17 = .ok (.getfield 191, 3) := by decide +kernel
theorem dX12_mayControl_20 : decode cX12_mayControl 20 = .ok (.iload_n 1, 1) := by decide +kernel
theorem dX12_mayControl_21 : decode cX12_mayControl 21 = .ok (.iaload, 1) := by decide +kernel
theorem dX12_mayControl_22 : decode cX12_mayControl 22 = .ok (.iconst 4, 1) := by decide +kernel
theorem dX12_mayControl_23 : decode cX12_mayControl 23 = .ok (.if_icmp .gt 16, 3) := by decide +kernel
theorem dX12_mayControl_26 : decode cX12_mayControl 26 = .ok (.aload_n 0, 1) := by decide +kernel
theorem dX12_mayControl_27 : decode cX12_mayControl 27 = .ok (.getfield 224, 3) := by decide +kernel
theorem dX12_mayControl_30 : decode cX12_mayControl 30 = .ok (.iload_n 1, 1) := by decide +kernel
theorem dX12_mayControl_31 : decode cX12_mayControl 31 = .ok (.baload, 1) := by decide +kernel
theorem dX12_mayControl_32 : decode cX12_mayControl 32 = .ok (.ifCond .ne 7, 3) := by decide +kernel
theorem dX12_mayControl_35 : decode cX12_mayControl 35 = .ok (.iconst 1, 1) := by decide +kernel
theorem dX12_mayControl_36 : decode cX12_mayControl 36 = .ok (.goto 4, 3) := by decide +kernel
theorem dX12_mayControl_39 : decode cX12_mayControl 39 = .ok (.iconst 0, 1) := by decide +kernel
theorem dX12_mayControl_40 : decode cX12_mayControl 40 = .ok (.ireturn, 1) := by decide +kernel
theorem dX12_control_0 : decode cX12_control 0 = .ok (.aload_n 0, 1) := by decide +kernel
theorem dX12_control_1 : decode cX12_control 1 = .ok (.iconst 0, 1) := by decide +kernel
theorem dX12_control_2 : decode cX12_control 2 = .ok (.putfield 1, 3) := by decide +kernel
theorem dX12_control_5 : decode cX12_control 5 = .ok (.aload_n 0, 1) := by decide +kernel
theorem dX12_control_6 : decode cX12_control 6 = .ok (.iload_n 1, 1) := by decide +kernel
theorem dX12_control_7 : decode cX12_control 7 = .ok (.invokevirtual 683, 3) := by decide +kernel
theorem dX12_control_10 : decode cX12_control 10 = .ok (.ifCond .eq 24, 3) := by decide +kernel
theorem dX12_control_13 : decode cX12_control 13 = .ok (.iload_n 2, 1) := by decide +kernel
theorem dX12_control_14 : decode cX12_control 14 = .ok (.iconst 3, 1) := by decide +kernel
theorem dX12_control_15 : decode cX12_control 15 = .ok (.invokestatic 413, 3) := by decide +kernel
theorem dX12_control_18 : decode cX12_control 18 = .ok (.ifCond .eq 16, 3) := by decide +kernel
theorem dX12_control_21 : decode cX12_control 21 = .ok (.iload_n 2, 1) := by decide +kernel
theorem dX12_control_22 : decode cX12_control 22 = .ok (.ifCond .ne 14, 3) := by decide +kernel
theorem dX12_control_25 : decode cX12_control 25 = .ok (.aload_n 0, 1) := by decide +kernel
theorem dX12_control_26 : decode cX12_control 26 = .ok (.getfield 248, 3) := by decide +kernel
theorem dX12_control_29 : decode cX12_control 29 = .ok (.iload_n 1, 1) := by decide +kernel
theorem dX12_control_30 : decode cX12_control 30 = .ok (.baload, 1) := by decide +kernel
theorem dX12_control_31 : decode cX12_control 31 = .ok (.ifCond .eq 5, 3) := by decide +kernel
theorem dX12_control_34 : decode cX12_control 34 = .ok (.iconst 0, 1) := by decide +kernel
theorem dX12_control_35 : decode cX12_control 35 = .ok (.ireturn, 1) := by decide +kernel
theorem dX12_control_36 : decode cX12_control 36 = .ok (.iload_n 2, 1) := by decide +kernel
theorem dX12_control_37 : decode cX12_control 37 = .ok (.ifCond .ne 11, 3) := by decide +kernel
theorem dX12_control_40 : decode cX12_control 40 = .ok (.aload_n 0, 1) := by decide +kernel
theorem dX12_control_41 : decode cX12_control 41 = .ok (.iload_n 1, 1) := by decide +kernel
theorem dX12_control_42 : decode cX12_control 42 = .ok (.invokevirtual 507, 3) := by decide +kernel
theorem dX12_control_45 : decode cX12_control 45 = .ok (.goto 55, 3) := by decide +kernel
theorem dX12_control_48 : decode cX12_control 48 = .ok (.iload_n 2, 1) := by decide +kernel
theorem dX12_control_49 : decode cX12_control 49 = .ok (.iconst 1, 1) := by decide +kernel
theorem dX12_control_50 : decode cX12_control 50 = .ok (.if_icmp .ne 41, 3) := by decide +kernel
theorem dX12_control_53 : decode cX12_control 53 = .ok (.aload_n 0, 1) := by decide +kernel
theorem dX12_control_54 : decode cX12_control 54 = .ok (.getfield 260, 3) := by decide +kernel
theorem dX12_control_57 : decode cX12_control 57 = .ok (.iconst 0, 1) := by decide +kernel
theorem dX12_control_58 : decode cX12_control 58 = .ok (.bipush 8, 2) := by decide +kernel
theorem dX12_control_60 : decode cX12_control 60 = .ok (.bastore, 1) := by decide +kernel
theorem dX12_control_61 : decode cX12_control 61 = .ok (.aload_n 0, 1) := by decide +kernel
theorem dX12_control_62 : decode cX12_control 62 = .ok (.getfield 260, 3) := by decide +kernel
theorem dX12_control_65 : decode cX12_control 65 = .ok (.iconst 1, 1) := by decide +kernel
theorem dX12_control_66 : decode cX12_control 66 = .ok (.aload_n 0, 1) := by decide +kernel
theorem dX12_control_67 : decode cX12_control 67 = .ok (.getfield 76, 3) := by decide +kernel
theorem dX12_control_70 : decode cX12_control 70 = .ok (.iload_n 1, 1) := by decide +kernel
theorem dX12_control_71 : decode cX12_control 71 = .ok (.laload, 1) := by decide +kernel
theorem dX12_control_72 : decode cX12_control 72 = .ok (.bipush 8, 2) := by decide +kernel
theorem dX12_control_74 : decode cX12_control 74 = .ok (.invokestatic 432, 3) := by decide +kernel
theorem dX12_control_77 : decode cX12_control 77 = .ok (.aload_n 0, 1) := by decide +kernel
theorem dX12_control_78 : decode cX12_control 78 = .ok (.iload_n 1, 1) := by decide +kernel
theorem dX12_control_79 : decode cX12_control 79 = .ok (.aload_n 0, 1) := by decide +kernel
theorem dX12_control_80 : decode cX12_control 80 = .ok (.getfield 260, 3) := by decide +kernel
theorem dX12_control_83 : decode cX12_control 83 = .ok (.bipush 9, 2) := by decide +kernel
theorem dX12_control_85 : decode cX12_control 85 = .ok (.invokevirtual 436, 3) := by decide +kernel
theorem dX12_control_88 : decode cX12_control 88 = .ok (.goto 12, 3) := by decide +kernel
theorem dX12_control_91 : decode cX12_control 91 = .ok (.aload_n 0, 1) := by decide +kernel
theorem dX12_control_92 : decode cX12_control 92 = .ok (.iload_n 1, 1) := by decide +kernel
theorem dX12_control_93 : decode cX12_control 93 = .ok (.iconst 2, 1) := by decide +kernel
theorem dX12_control_94 : decode cX12_control 94 = .ok (.bipush 19, 2) := by decide +kernel
theorem dX12_control_96 : decode cX12_control 96 = .ok (.iconst 1, 1) := by decide +kernel
theorem dX12_control_97 : decode cX12_control 97 = .ok (.invokevirtual 486, 3) := by decide +kernel
theorem dX12_control_100 : decode cX12_control 100 = .ok (.iconst 1, 1) := by decide +kernel
theorem dX12_control_101 : decode cX12_control 101 = .ok (.ireturn, 1) := by decide +kernel
theorem dX12_map_0 : decode cX12_map 0 = .ok (.aload_n 0, 1) := by decide +kernel
theorem dX12_map_1 : decode cX12_map 1 = .ok (.iconst 0, 1) := by decide +kernel
theorem dX12_map_2 : decode cX12_map 2 = .ok (.putfield 1, 3) := by decide +kernel
theorem dX12_map_5 : decode cX12_map 5 = .ok (.aload_n 0, 1) := by decide +kernel
theorem dX12_map_6 : decode cX12_map 6 = .ok (.iload_n 1, 1) := by decide +kernel
theorem dX12_map_7 : decode cX12_map 7 = .ok (.invokevirtual 683, 3) := by decide +kernel
theorem dX12_map_10 : decode cX12_map 10 = .ok (.ifCond .eq 29, 3) := by decide +kernel
theorem dX12_map_13 : decode cX12_map 13 = .ok (.aload_n 0, 1) := by decide +kernel
theorem dX12_map_14 : decode cX12_map 14 = .ok (.getfield 45, 3) := by decide +kernel
theorem dX12_map_17 : decode cX12_map 17 = .ok (.iload_n 1, 1) := by decide +kernel
theorem dX12_map_18 : decode cX12_map 18 = .ok (.iaload, 1) := by decide +kernel
theorem dX12_map_19 : decode cX12_map 19 = .ok (.iconst 4, 1) := by decide +kernel
theorem dX12_map_20 : decode cX12_map 20 = .ok (.if_icmp .ne 19, 3) := by decide +kernel
theorem dX12_map_23 : decode cX12_map 23 = .ok (.aload_n 0, 1) := by decide +kernel
theorem dX12_map_24 : decode cX12_map 24 = .ok (.getfield 149, 3) := by decide +kernel
theorem dX12_map_27 : decode cX12_map 27 = .ok (.iload_n 1, 1) := by decide +kernel
theorem dX12_map_28 : decode cX12_map 28 = .ok (.baload, 1) := by decide +kernel
theorem dX12_map_29 : decode cX12_map 29 = .ok (.ifCond .ne 10, 3) := by decide +kernel
theorem dX12_map_32 : decode cX12_map 32 = .ok (.lload_n 2, 1) := by decide +kernel
theorem dX12_map_33 : decode cX12_map 33 = .ok (.invokestatic 497, 3) := by decide +kernel
theorem dX12_map_36 : decode cX12_map 36 = .ok (.ifCond .ne 5, 3) := by decide +kernel
theorem dX12_map_39 : decode cX12_map 39 = .ok (.iconst 0, 1) := by decide +kernel
theorem dX12_map_40 : decode cX12_map 40 = .ok (.ireturn, 1) := by decide +kernel
theorem dX12_map_41 : decode cX12_map 41 = .ok (.aload_n 0, 1) := by decide +kernel
theorem dX12_map_42 : decode cX12_map 42 = .ok (.getfield 73, 3) := by decide +kernel
theorem dX12_map_45 : decode cX12_map 45 = .ok (.iload_n 1, 1) := by decide +kernel
theorem dX12_map_46 : decode cX12_map 46 = .ok (.lload_n 2, 1) := by decide +kernel
theorem dX12_map_47 : decode cX12_map 47 = .ok (.lastore, 1) := by decide +kernel
theorem dX12_map_48 : decode cX12_map 48 = .ok (.aload_n 0, 1) := by decide +kernel
theorem dX12_map_49 : decode cX12_map 49 = .ok (.getfield 139, 3) := by decide +kernel
theorem dX12_map_52 : decode cX12_map 52 = .ok (.iload_n 1, 1) := by decide +kernel
theorem dX12_map_53 : decode cX12_map 53 = .ok (.aload_n 0, 1) := by decide +kernel
theorem dX12_map_54 : decode cX12_map 54 = .ok (.getfield 112, 3) := by decide +kernel
theorem dX12_map_57 : decode cX12_map 57 = .ok (.iload_n 1, 1) := by decide +kernel
theorem dX12_map_58 : decode cX12_map 58 = .ok (.iaload, 1) := by decide +kernel
theorem dX12_map_59 : decode cX12_map 59 = .ok (.bipush 8, 2) := by decide +kernel
theorem dX12_map_61 : decode cX12_map 61 = .ok (.iadd, 1) := by decide +kernel
theorem dX12_map_62 : decode cX12_map 62 = .ok (.ldc_w 493, 3) := by decide +kernel
theorem dX12_map_65 : decode cX12_map 65 = .ok (.iand, 1) := by decide +kernel
theorem dX12_map_66 : decode cX12_map 66 = .ok (.iastore, 1) := by decide +kernel
theorem dX12_map_67 : decode cX12_map 67 = .ok (.aload_n 0, 1) := by decide +kernel
theorem dX12_map_68 : decode cX12_map 68 = .ok (.getfield 149, 3) := by decide +kernel
theorem dX12_map_71 : decode cX12_map 71 = .ok (.iload_n 1, 1) := by decide +kernel
theorem dX12_map_72 : decode cX12_map 72 = .ok (.iconst 1, 1) := by decide +kernel
theorem dX12_map_73 : decode cX12_map 73 = .ok (.bastore, 1) := by decide +kernel
theorem dX12_map_74 : decode cX12_map 74 = .ok (.aload_n 0, 1) := by decide +kernel
theorem dX12_map_75 : decode cX12_map 75 = .ok (.getfield 260, 3) := by decide +kernel
theorem dX12_map_78 : decode cX12_map 78 = .ok (.iconst 0, 1) := by decide +kernel
theorem dX12_map_79 : decode cX12_map 79 = .ok (.iconst 1, 1) := by decide +kernel
theorem dX12_map_80 : decode cX12_map 80 = .ok (.bastore, 1) := by decide +kernel
theorem dX12_map_81 : decode cX12_map 81 = .ok (.aload_n 0, 1) := by decide +kernel
theorem dX12_map_82 : decode cX12_map 82 = .ok (.getfield 260, 3) := by decide +kernel
theorem dX12_map_85 : decode cX12_map 85 = .ok (.iconst 1, 1) := by decide +kernel
theorem dX12_map_86 : decode cX12_map 86 = .ok (.lload_n 2, 1) := by decide +kernel
theorem dX12_map_87 : decode cX12_map 87 = .ok (.iconst 5, 1) := by decide +kernel
theorem dX12_map_88 : decode cX12_map 88 = .ok (.invokestatic 432, 3) := by decide +kernel
theorem dX12_map_91 : decode cX12_map 91 = .ok (.aload_n 0, 1) := by decide +kernel
theorem dX12_map_92 : decode cX12_map 92 = .ok (.getfield 260, 3) := by decide +kernel
theorem dX12_map_95 : decode cX12_map 95 = .ok (.bipush 6, 2) := by decide +kernel
theorem dX12_map_97 : decode cX12_map 97 = .ok (.aload_n 0, 1) := by decide +kernel
theorem dX12_map_98 : decode cX12_map 98 = .ok (.getfield 139, 3) := by decide +kernel
theorem dX12_map_101 : decode cX12_map 101 = .ok (.iload_n 1, 1) := by decide +kernel
theorem dX12_map_102 : decode cX12_map 102 = .ok (.iaload, 1) := by decide +kernel
theorem dX12_map_103 : decode cX12_map 103 = .ok (.i2l, 1) := by decide +kernel
theorem dX12_map_104 : decode cX12_map 104 = .ok (.iconst 2, 1) := by decide +kernel
theorem dX12_map_105 : decode cX12_map 105 = .ok (.invokestatic 432, 3) := by decide +kernel
theorem dX12_map_108 : decode cX12_map 108 = .ok (.aload_n 0, 1) := by decide +kernel
theorem dX12_map_109 : decode cX12_map 109 = .ok (.iload_n 1, 1) := by decide +kernel
theorem dX12_map_110 : decode cX12_map 110 = .ok (.aload_n 0, 1) := by decide +kernel
theorem dX12_map_111 : decode cX12_map 111 = .ok (.getfield 260, 3) := by decide +kernel
theorem dX12_map_114 : decode cX12_map 114 = .ok (.bipush 8, 2) := by decide +kernel
theorem dX12_map_116 : decode cX12_map 116 = .ok (.invokevirtual 436, 3) := by decide +kernel
theorem dX12_map_119 : decode cX12_map 119 = .ok (.iconst 1, 1) := by decide +kernel
theorem dX12_map_120 : decode cX12_map 120 = .ok (.ireturn, 1) := by decide +kernel
theorem dX12_encrypt_0 : decode cX12_encrypt 0 = .ok (.aload_n 0, 1) := by decide +kernel
theorem dX12_encrypt_1 : decode cX12_encrypt 1 = .ok (.iconst 0, 1) := by decide +kernel
theorem dX12_encrypt_2 : decode cX12_encrypt 2 = .ok (.putfield 1, 3) := by decide +kernel
theorem dX12_encrypt_5 : decode cX12_encrypt 5 = .ok (.aload_n 0, 1) := by decide +kernel
theorem dX12_encrypt_6 : decode cX12_encrypt 6 = .ok (.iload_n 1, 1) := by decide +kernel
theorem dX12_encrypt_7 : decode cX12_encrypt 7 = .ok (.invokevirtual 683, 3) := by decide +kernel
theorem dX12_encrypt_10 : decode cX12_encrypt 10 = .ok (.ifCond .eq 31, 3) := by decide +kernel
theorem dX12_encrypt_13 : decode cX12_encrypt 13 = .ok (.aload_n 0, 1) := by decide +kernel
theorem dX12_encrypt_14 : decode cX12_encrypt 14 = .ok (.getfield 45, 3) := by decide +kernel
theorem dX12_encrypt_17 : decode cX12_encrypt 17 = .ok (.iload_n 1, 1) := by decide +kernel
theorem dX12_encrypt_18 : decode cX12_encrypt 18 = .ok (.iaload, 1) := by decide +kernel
theorem dX12_encrypt_19 : decode cX12_encrypt 19 = .ok (.iconst 4, 1) := by decide +kernel
theorem dX12_encrypt_20 : decode cX12_encrypt 20 = .ok (.if_icmp .ne 21, 3) := by decide +kernel
theorem dX12_encrypt_23 : decode cX12_encrypt 23 = .ok (.aload_n 0, 1) := by decide +kernel
theorem dX12_encrypt_24 : decode cX12_encrypt 24 = .ok (.getfield 245, 3) := by decide +kernel
theorem dX12_encrypt_27 : decode cX12_encrypt 27 = .ok (.iload_n 1, 1) := by decide +kernel
theorem dX12_encrypt_28 : decode cX12_encrypt 28 = .ok (.baload, 1) := by decide +kernel
theorem dX12_encrypt_29 : decode cX12_encrypt 29 = .ok (.ifCond .eq 12, 3) := by decide +kernel
theorem dX12_encrypt_32 : decode cX12_encrypt 32 = .ok (.aload_n 0, 1) := by decide +kernel
theorem dX12_encrypt_33 : decode cX12_encrypt 33 = .ok (.getfield 239, 3) := by decide +kernel
theorem dX12_encrypt_36 : decode cX12_encrypt 36 = .ok (.iload_n 1, 1) := by decide +kernel
theorem dX12_encrypt_37 : decode cX12_encrypt 37 = .ok (.baload, 1) := by decide +kernel
theorem dX12_encrypt_38 : decode cX12_encrypt 38 = .ok (.ifCond .eq 5, 3) := by decide +kernel
theorem dX12_encrypt_41 : decode cX12_encrypt 41 = .ok (.iconst 0, 1) := by decide +kernel
theorem dX12_encrypt_42 : decode cX12_encrypt 42 = .ok (.ireturn, 1) := by decide +kernel
theorem dX12_encrypt_43 : decode cX12_encrypt 43 = .ok (.aload_n 0, 1) := by decide +kernel
theorem dX12_encrypt_44 : decode cX12_encrypt 44 = .ok (.getfield 224, 3) := by decide +kernel
theorem dX12_encrypt_47 : decode cX12_encrypt 47 = .ok (.iload_n 1, 1) := by decide +kernel
theorem dX12_encrypt_48 : decode cX12_encrypt 48 = .ok (.iconst 1, 1) := by decide +kernel
theorem dX12_encrypt_49 : decode cX12_encrypt 49 = .ok (.bastore, 1) := by decide +kernel
theorem dX12_encrypt_50 : decode cX12_encrypt 50 = .ok (.aload_n 0, 1) := by decide +kernel
theorem dX12_encrypt_51 : decode cX12_encrypt 51 = .ok (.getfield 227, 3) := by decide +kernel
theorem dX12_encrypt_54 : decode cX12_encrypt 54 = .ok (.iload_n 1, 1) := by decide +kernel
theorem dX12_encrypt_55 : decode cX12_encrypt 55 = .ok (.iconst 1, 1) := by decide +kernel
theorem dX12_encrypt_56 : decode cX12_encrypt 56 = .ok (.bastore, 1) := by decide +kernel
theorem dX12_encrypt_57 : decode cX12_encrypt 57 = .ok (.aload_n 0, 1) := by decide +kernel
theorem dX12_encrypt_58 : decode cX12_encrypt 58 = .ok (.getfield 230, 3) := by decide +kernel
theorem dX12_encrypt_61 : decode cX12_encrypt 61 = .ok (.iload_n 1, 1) := by decide +kernel
theorem dX12_encrypt_62 : decode cX12_encrypt 62 = .ok (.iconst 0, 1) := by decide +kernel
theorem dX12_encrypt_63 : decode cX12_encrypt 63 = .ok (.bastore, 1) := by decide +kernel
theorem dX12_encrypt_64 : decode cX12_encrypt 64 = .ok (.aload_n 0, 1) := by decide +kernel
theorem dX12_encrypt_65 : decode cX12_encrypt 65 = .ok (.getfield 242, 3) := by decide +kernel
theorem dX12_encrypt_68 : decode cX12_encrypt 68 = .ok (.iload_n 1, 1) := by decide +kernel
theorem dX12_encrypt_69 : decode cX12_encrypt 69 = .ok (.iconst 0, 1) := by decide +kernel
theorem dX12_encrypt_70 : decode cX12_encrypt 70 = .ok (.bastore, 1) := by decide +kernel
theorem dX12_encrypt_71 : decode cX12_encrypt 71 = .ok (.aload_n 0, 1) := by decide +kernel
theorem dX12_encrypt_72 : decode cX12_encrypt 72 = .ok (.iload_n 1, 1) := by decide +kernel
theorem dX12_encrypt_73 : decode cX12_encrypt 73 = .ok (.invokevirtual 512, 3) := by decide +kernel
theorem dX12_encrypt_76 : decode cX12_encrypt 76 = .ok (.aload_n 0, 1) := by decide +kernel
theorem dX12_encrypt_77 : decode cX12_encrypt 77 = .ok (.iload_n 1, 1) := by decide +kernel
theorem dX12_encrypt_78 : decode cX12_encrypt 78 = .ok (.iconst 3, 1) := by decide +kernel
theorem dX12_encrypt_79 : decode cX12_encrypt 79 = .ok (.invokevirtual 519, 3) := by decide +kernel
theorem dX12_encrypt_82 : decode cX12_encrypt 82 = .ok (.iconst 1, 1) := by decide +kernel
theorem dX12_encrypt_83 : decode cX12_encrypt 83 = .ok (.ireturn, 1) := by decide +kernel
theorem dX12_pair_0 : decode cX12_pair 0 = .ok (.aload_n 0, 1) := by decide +kernel
theorem dX12_pair_1 : decode cX12_pair 1 = .ok (.iconst 0, 1) := by decide +kernel
theorem dX12_pair_2 : decode cX12_pair 2 = .ok (.putfield 1, 3) := by decide +kernel
theorem dX12_pair_5 : decode cX12_pair 5 = .ok (.iload_n 1, 1) := by decide +kernel
theorem dX12_pair_6 : decode cX12_pair 6 = .ok (.iconst 2, 1) := by decide +kernel
theorem dX12_pair_7 : decode cX12_pair 7 = .ok (.invokestatic 413, 3) := by decide +kernel
theorem dX12_pair_10 : decode cX12_pair 10 = .ok (.ifCond .eq 43, 3) := by decide +kernel
theorem dX12_pair_13 : decode cX12_pair 13 = .ok (.aload_n 0, 1) := by decide +kernel
theorem dX12_pair_14 : decode cX12_pair 14 = .ok (.getfield 45, 3) := by decide +kernel
theorem dX12_pair_17 : decode cX12_pair 17 = .ok (.iload_n 1, 1) := by decide +kernel
theorem dX12_pair_18 : decode cX12_pair 18 = .ok (.iaload, 1) := by decide +kernel
theorem dX12_pair_19 : decode cX12_pair 19 = .ok (.iconst 4, 1) := by decide +kernel
theorem dX12_pair_20 : decode cX12_pair 20 = .ok (.if_icmp .ne 33, 3) := by decide +kernel
theorem dX12_pair_23 : decode cX12_pair 23 = .ok (.aload_n 0, 1) := by decide +kernel
theorem dX12_pair_24 : decode cX12_pair 24 = .ok (.getfield 296, 3) := by decide +kernel
theorem dX12_pair_27 : decode cX12_pair 27 = .ok (.iload_n 1, 1) := by decide +kernel
theorem dX12_pair_28 : decode cX12_pair 28 = .ok (.iaload, 1) := by decide +kernel
theorem dX12_pair_29 : decode cX12_pair 29 = .ok (.ifCond .ne 24, 3) := by decide +kernel
theorem dX12_pair_32 : decode cX12_pair 32 = .ok (.iload_n 2, 1) := by decide +kernel
theorem dX12_pair_33 : decode cX12_pair 33 = .ok (.ldc_w 686, 3) := by decide +kernel
theorem dX12_pair_36 : decode cX12_pair 36 = .ok (.invokestatic 413, 3) := by decide +kernel
theorem dX12_pair_39 : decode cX12_pair 39 = .ok (.ifCond .eq 14, 3) := by decide +kernel
theorem dX12_pair_42 : decode cX12_pair 42 = .ok (.aload_n 0, 1) := by decide +kernel
theorem dX12_pair_43 : decode cX12_pair 43 = .ok (.getfield 275, 3) := by decide +kernel
theorem dX12_pair_46 : decode cX12_pair 46 = .ok (.iload_n 1, 1) := by decide +kernel
theorem dX12_pair_47 : decode cX12_pair 47 = .ok (.iaload, 1) := by decide +kernel
theorem dX12_pair_48 : decode cX12_pair 48 = .ok (.bipush 8, 2) := by decide +kernel
theorem dX12_pair_50 : decode cX12_pair 50 = .ok (.if_icmp .ne 5, 3) := by decide +kernel
theorem dX12_pair_53 : decode cX12_pair 53 = .ok (.iconst 0, 1) := by decide +kernel
theorem dX12_pair_54 : decode cX12_pair 54 = .ok (.ireturn, 1) := by decide +kernel
theorem dX12_pair_55 : decode cX12_pair 55 = .ok (.aload_n 0, 1) := by decide +kernel
theorem dX12_pair_56 : decode cX12_pair 56 = .ok (.getfield 302, 3) := by decide +kernel
theorem dX12_pair_59 : decode cX12_pair 59 = .ok (.iload_n 1, 1) := by decide +kernel
theorem dX12_pair_60 : decode cX12_pair 60 = .ok (.iload_n 2, 1) := by decide +kernel
theorem dX12_pair_61 : decode cX12_pair 61 = .ok (.iastore, 1) := by decide +kernel
theorem dX12_pair_62 : decode cX12_pair 62 = .ok (.aload_n 0, 1) := by decide +kernel
theorem dX12_pair_63 : decode cX12_pair 63 = .ok (.iload_n 1, 1) := by decide +kernel
theorem dX12_pair_64 : decode cX12_pair 64 = .ok (.iconst 1, 1) := by decide +kernel
theorem dX12_pair_65 : decode cX12_pair 65 = .ok (.invokevirtual 534, 3) := by decide +kernel
theorem dX12_pair_68 : decode cX12_pair 68 = .ok (.aload_n 0, 1) := by decide +kernel
theorem dX12_pair_69 : decode cX12_pair 69 = .ok (.getfield 296, 3) := by decide +kernel
theorem dX12_pair_72 : decode cX12_pair 72 = .ok (.iload_n 1, 1) := by decide +kernel
theorem dX12_pair_73 : decode cX12_pair 73 = .ok (.iconst 1, 1) := by decide +kernel
theorem dX12_pair_74 : decode cX12_pair 74 = .ok (.iastore, 1) := by decide +kernel
theorem dX12_pair_75 : decode cX12_pair 75 = .ok (.iconst 1, 1) := by decide +kernel
theorem dX12_pair_76 : decode cX12_pair 76 = .ok (.ireturn, 1) := by decide +kernel
theorem dX12_allow_0 : decode cX12_allow 0 = .ok (.aload_n 0, 1) := by decide +kernel
theorem dX12_allow_1 : decode cX12_allow 1 = .ok (.iconst 0, 1) := by decide +kernel
theorem dX12_allow_2 : decode cX12_allow 2 = .ok (.putfield 1, 3) := by decide +kernel
theorem dX12_allow_5 : decode cX12_allow 5 = .ok (.iload_n 1, 1) := by decide +kernel
theorem dX12_allow_6 : decode cX12_allow 6 = .ok (.iconst 2, 1) := by decide +kernel
theorem dX12_allow_7 : decode cX12_allow 7 = .ok (.invokestatic 413, 3) := by decide +kernel
theorem dX12_allow_10 : decode cX12_allow 10 = .ok (.ifCond .eq 18, 3) := by decide +kernel
theorem dX12_allow_13 : decode cX12_allow 13 = .ok (.iload_n 2, 1) := by decide +kernel
theorem dX12_allow_14 : decode cX12_allow 14 = .ok (.iconst (-1), 1) := by decide +kernel
theorem dX12_allow_15 : decode cX12_allow 15 = .ok (.if_icmp .eq 15, 3) := by decide +kernel
theorem dX12_allow_18 : decode cX12_allow 18 = .ok (.iload_n 2, 1) := by decide +kernel
theorem dX12_allow_19 : decode cX12_allow 19 = .ok (.ldc_w 686, 3) := by decide +kernel
theorem dX12_allow_22 : decode cX12_allow 22 = .ok (.invokestatic 413, 3) := by decide +kernel
theorem dX12_allow_25 : decode cX12_allow 25 = .ok (.ifCond .ne 5, 3) := by decide +kernel
theorem dX12_allow_28 : decode cX12_allow 28 = .ok (.iconst 0, 1) := by decide +kernel
theorem dX12_allow_29 : decode cX12_allow 29 = .ok (.ireturn, 1) := by decide +kernel
theorem dX12_allow_30 : decode cX12_allow 30 = .ok (.aload_n 0, 1) := by decide +kernel
theorem dX12_allow_31 : decode cX12_allow 31 = .ok (.getfield 299, 3) := by decide +kernel
theorem dX12_allow_34 : decode cX12_allow 34 = .ok (.iload_n 1, 1) := by decide +kernel
theorem dX12_allow_35 : decode cX12_allow 35 = .ok (.iload_n 2, 1) := by decide +kernel
theorem dX12_allow_36 : decode cX12_allow 36 = .ok (.iastore, 1) := by decide +kernel
theorem dX12_allow_37 : decode cX12_allow 37 = .ok (.iconst 1, 1) := by decide +kernel
theorem dX12_allow_38 : decode cX12_allow 38 = .ok (.ireturn, 1) := by decide +kernel
theorem dX12_features_0 : decode cX12_features 0 = .ok (.aload_n 0, 1) := by decide +kernel
theorem dX12_features_1 : decode cX12_features 1 = .ok (.iconst 0, 1) := by decide +kernel
theorem dX12_features_2 : decode cX12_features 2 = .ok (.putfield 1, 3) := by decide +kernel
theorem dX12_features_5 : decode cX12_features 5 = .ok (.iload_n 1, 1) := by decide +kernel
theorem dX12_features_6 : decode cX12_features 6 = .ok (.iconst 2, 1) := by decide +kernel
theorem dX12_features_7 : decode cX12_features 7 = .ok (.invokestatic 413, 3) := by decide +kernel
theorem dX12_features_10 : decode cX12_features 10 = .ok (.ifCond .ne 5, 3) := by decide +kernel
theorem dX12_features_13 : decode cX12_features 13 = .ok (.iconst 0, 1) := by decide +kernel
theorem dX12_features_14 : decode cX12_features 14 = .ok (.ireturn, 1) := by decide +kernel
theorem dX12_features_15 : decode cX12_features 15 = .ok (.aload_n 0, 1) := by decide +kernel
theorem dX12_features_16 : decode cX12_features 16 = .ok (.getfield 76, 3) := by decide +kernel
theorem dX12_features_19 : decode cX12_features 19 = .ok (.iload_n 1, 1) := by decide +kernel
theorem dX12_features_20 : decode cX12_features 20 = .ok (.lload_n 2, 1) := by decide +kernel
theorem dX12_features_21 : decode cX12_features 21 = .ok (.lastore, 1) := by decide +kernel
theorem dX12_features_22 : decode cX12_features 22 = .ok (.iconst 1, 1) := by decide +kernel
theorem dX12_features_23 : decode cX12_features 23 = .ok (.ireturn, 1) := by decide +kernel
theorem dX12_attribute_0 : decode cX12_attribute 0 = .ok (.aload_n 0, 1) := by decide +kernel
theorem dX12_attribute_1 : decode cX12_attribute 1 = .ok (.iconst 0, 1) := by decide +kernel
theorem dX12_attribute_2 : decode cX12_attribute 2 = .ok (.putfield 1, 3) := by decide +kernel
theorem dX12_attribute_5 : decode cX12_attribute 5 = .ok (.iload_n 1, 1) := by decide +kernel
theorem dX12_attribute_6 : decode cX12_attribute 6 = .ok (.iconst 2, 1) := by decide +kernel
