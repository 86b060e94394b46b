theorem dMd_learn_60 : decode cMd_learn 60 = .ok (.iload 4, 2) := by decide +kernel
theorem dMd_learn_62 : decode cMd_learn 62 = .ok (.iaload, 1) := by decide +kernel
theorem dMd_learn_63 : decode cMd_learn 63 = .ok (.iload_n 3, 1) := by decide +kernel
theorem dMd_learn_64 : decode cMd_learn 64 = .ok (.invokestatic 128, 3) := by decide +kernel
theorem dMd_learn_67 : decode cMd_learn 67 = .ok (.iastore, 1) := by decide +kernel
theorem dMd_learn_68 : decode cMd_learn 68 = .ok (.goto 308, 3) := by decide +kernel
theorem dMd_learn_71 : decode cMd_learn 71 = .ok (.aload_n 0, 1) := by decide +kernel
theorem dMd_learn_72 : decode cMd_learn 72 = .ok (.getfield 69, 3) := by decide +kernel
theorem dMd_learn_75 : decode cMd_learn 75 = .ok (.iconst 3, 1) := by decide +kernel
theorem dMd_learn_76 : decode cMd_learn 76 = .ok (.if_icmp .ne 24, 3) := by decide +kernel
theorem dMd_learn_79 : decode cMd_learn 79 = .ok (.aload_n 0, 1) := by decide +kernel
theorem dMd_learn_80 : decode cMd_learn 80 = .ok (.getfield 16, 3) := by decide +kernel
theorem dMd_learn_83 : decode cMd_learn 83 = .ok (.iload 5, 2) := by decide +kernel
theorem dMd_learn_85 : decode cMd_learn 85 = .ok (.aload_n 0, 1) := by decide +kernel
theorem dMd_learn_86 : decode cMd_learn 86 = .ok (.getfield 16, 3) := by decide +kernel
theorem dMd_learn_89 : decode cMd_learn 89 = .ok (.iload 5, 2) := by decide +kernel
theorem dMd_learn_91 : decode cMd_learn 91 = .ok (.iaload, 1) := by decide +kernel
theorem dMd_learn_92 : decode cMd_learn 92 = .ok (.iload_n 3, 1) := by decide +kernel
theorem dMd_learn_93 : decode cMd_learn 93 = .ok (.invokestatic 128, 3) := by decide +kernel
theorem dMd_learn_96 : decode cMd_learn 96 = .ok (.iastore, 1) := by decide +kernel
theorem dMd_learn_97 : decode cMd_learn 97 = .ok (.goto 279, 3) := by decide +kernel
theorem dMd_learn_100 : decode cMd_learn 100 = .ok (.aload_n 0, 1) := by decide +kernel
theorem dMd_learn_101 : decode cMd_learn 101 = .ok (.getfield 69, 3) := by decide +kernel
theorem dMd_learn_104 : decode cMd_learn 104 = .ok (.iconst 4, 1) := by decide +kernel
theorem dMd_learn_105 : decode cMd_learn 105 = .ok (.if_icmp .ne 64, 3) := by decide +kernel
theorem dMd_learn_108 : decode cMd_learn 108 = .ok (.aload_n 0, 1) := by decide +kernel
theorem dMd_learn_109 : decode cMd_learn 109 = .ok (.getfield 25, 3) := by decide +kernel
theorem dMd_learn_112 : decode cMd_learn 112 = .ok (.aload_n 0, 1) := by decide +kernel
theorem dMd_learn_113 : decode cMd_learn 113 = .ok (.getfield 22, 3) := by decide +kernel
theorem dMd_learn_116 : decode cMd_learn 116 = .ok (.iload 4, 2) := by decide +kernel
theorem dMd_learn_118 : decode cMd_learn 118 = .ok (.iaload, 1) := by decide +kernel
theorem dMd_learn_119 : decode cMd_learn 119 = .ok (.aload_n 0, 1) := by decide +kernel
theorem dMd_learn_120 : decode cMd_learn 120 = .ok (.getfield 25, 3) := by decide +kernel
theorem dMd_learn_123 : decode cMd_learn 123 = .ok (.aload_n 0, 1) := by decide +kernel
theorem dMd_learn_124 : decode cMd_learn 124 = .ok (.getfield 22, 3) := by decide +kernel
theorem dMd_learn_127 : decode cMd_learn 127 = .ok (.iload 4, 2) := by decide +kernel
theorem dMd_learn_129 : decode cMd_learn 129 = .ok (.iaload, 1) := by decide +kernel
theorem dMd_learn_130 : decode cMd_learn 130 = .ok (.iaload, 1) := by decide +kernel
theorem dMd_learn_131 : decode cMd_learn 131 = .ok (.iload_n 3, 1) := by decide +kernel
theorem dMd_learn_132 : decode cMd_learn 132 = .ok (.invokestatic 128, 3) := by decide +kernel
theorem dMd_learn_135 : decode cMd_learn 135 = .ok (.iastore, 1) := by decide +kernel
theorem dMd_learn_136 : decode cMd_learn 136 = .ok (.aload_n 0, 1) := by decide +kernel
theorem dMd_learn_137 : decode cMd_learn 137 = .ok (.getfield 22, 3) := by decide +kernel
theorem dMd_learn_140 : decode cMd_learn 140 = .ok (.iload 4, 2) := by decide +kernel
theorem dMd_learn_142 : decode cMd_learn 142 = .ok (.aload_n 0, 1) := by decide +kernel
theorem dMd_learn_143 : decode cMd_learn 143 = .ok (.aload_n 0, 1) := by decide +kernel
theorem dMd_learn_144 : decode cMd_learn 144 = .ok (.getfield 22, 3) := by decide +kernel
theorem dMd_learn_147 : decode cMd_learn 147 = .ok (.iload 4, 2) := by decide +kernel
theorem dMd_learn_149 : decode cMd_learn 149 = .ok (.iaload, 1) := by decide +kernel
theorem dMd_learn_150 : decode cMd_learn 150 = .ok (.iconst 1, 1) := by decide +kernel
theorem dMd_learn_151 : decode cMd_learn 151 = .ok (.ishl, 1) := by decide +kernel
theorem dMd_learn_152 : decode cMd_learn 152 = .ok (.iload_n 3, 1) := by decide +kernel
theorem dMd_learn_153 : decode cMd_learn 153 = .ok (.ifCond .eq 7, 3) := by decide +kernel
theorem dMd_learn_156 : decode cMd_learn 156 = .ok (.iconst 1, 1) := by decide +kernel
theorem dMd_learn_157 : decode cMd_learn 157 = .ok (.goto 4, 3) := by decide +kernel
theorem dMd_learn_160 : decode cMd_learn 160 = .ok (.iconst 0, 1) := by decide +kernel
theorem dMd_learn_161 : decode cMd_learn 161 = .ok (.ior, 1) := by decide +kernel
theorem dMd_learn_162 : decode cMd_learn 162 = .ok (.invokevirtual 85, 3) := by decide +kernel
theorem dMd_learn_165 : decode cMd_learn 165 = .ok (.iastore, 1) := by decide +kernel
theorem dMd_learn_166 : decode cMd_learn 166 = .ok (.goto 210, 3) := by decide +kernel
theorem dMd_learn_169 : decode cMd_learn 169 = .ok (.aload_n 0, 1) := by decide +kernel
theorem dMd_learn_170 : decode cMd_learn 170 = .ok (.getfield 69, 3) := by decide +kernel
theorem dMd_learn_173 : decode cMd_learn 173 = .ok (.iconst 5, 1) := by decide +kernel
theorem dMd_learn_174 : decode cMd_learn 174 = .ok (.if_icmp .ne 122, 3) := by decide +kernel
theorem dMd_learn_177 : decode cMd_learn 177 = .ok (.aload_n 0, 1) := by decide +kernel
theorem dMd_learn_178 : decode cMd_learn 178 = .ok (.getfield 13, 3) := by decide +kernel
theorem dMd_learn_181 : decode cMd_learn 181 = .ok (.iload 4, 2) := by decide +kernel
theorem dMd_learn_183 : decode cMd_learn 183 = .ok (.iaload, 1) := by decide +kernel
theorem dMd_learn_184 : decode cMd_learn 184 = .ok (.iconst 1, 1) := by decide +kernel
theorem dMd_learn_185 : decode cMd_learn 185 = .ok (.if_icmp .le 7, 3) := by decide +kernel
theorem dMd_learn_188 : decode cMd_learn 188 = .ok (.iconst 1, 1) := by decide +kernel
theorem dMd_learn_189 : decode cMd_learn 189 = .ok (.goto 4, 3) := by decide +kernel
theorem dMd_learn_192 : decode cMd_learn 192 = .ok (.iconst 0, 1) := by decide +kernel
theorem dMd_learn_193 : decode cMd_learn 193 = .ok (.iload_n 3, 1) := by decide +kernel
theorem dMd_learn_194 : decode cMd_learn 194 = .ok (.if_icmp .ne 7, 3) := by decide +kernel
theorem dMd_learn_197 : decode cMd_learn 197 = .ok (.iconst 1, 1) := by decide +kernel
theorem dMd_learn_198 : decode cMd_learn 198 = .ok (.goto 4, 3) := by decide +kernel
theorem dMd_learn_201 : decode cMd_learn 201 = .ok (.iconst 0, 1) := by decide +kernel
theorem dMd_learn_202 : decode cMd_learn 202 = .ok (.istore 6, 2) := by decide +kernel
theorem dMd_learn_204 : decode cMd_learn 204 = .ok (.aload_n 0, 1) := by decide +kernel
theorem dMd_learn_205 : decode cMd_learn 205 = .ok (.getfield 16, 3) := by decide +kernel
theorem dMd_learn_208 : decode cMd_learn 208 = .ok (.iload 5, 2) := by decide +kernel
theorem dMd_learn_210 : decode cMd_learn 210 = .ok (.iaload, 1) := by decide +kernel
theorem dMd_learn_211 : decode cMd_learn 211 = .ok (.iconst 1, 1) := by decide +kernel
theorem dMd_learn_212 : decode cMd_learn 212 = .ok (.if_icmp .le 7, 3) := by decide +kernel
theorem dMd_learn_215 : decode cMd_learn 215 = .ok (.iconst 1, 1) := by decide +kernel
theorem dMd_learn_216 : decode cMd_learn 216 = .ok (.goto 4, 3) := by decide +kernel
theorem dMd_learn_219 : decode cMd_learn 219 = .ok (.iconst 0, 1) := by decide +kernel
theorem dMd_learn_220 : decode cMd_learn 220 = .ok (.iload_n 3, 1) := by decide +kernel
theorem dMd_learn_221 : decode cMd_learn 221 = .ok (.if_icmp .ne 7, 3) := by decide +kernel
theorem dMd_learn_224 : decode cMd_learn 224 = .ok (.iconst 1, 1) := by decide +kernel
theorem dMd_learn_225 : decode cMd_learn 225 = .ok (.goto 4, 3) := by decide +kernel
theorem dMd_learn_228 : decode cMd_learn 228 = .ok (.iconst 0, 1) := by decide +kernel
theorem dMd_learn_229 : decode cMd_learn 229 = .ok (.istore 7, 2) := by decide +kernel
theorem dMd_learn_231 : decode cMd_learn 231 = .ok (.iload 6, 2) := by decide +kernel
theorem dMd_learn_233 : decode cMd_learn 233 = .ok (.iload 7, 2) := by decide +kernel
theorem dMd_learn_235 : decode cMd_learn 235 = .ok (.if_icmp .eq 22, 3) := by decide +kernel
theorem dMd_learn_238 : decode cMd_learn 238 = .ok (.aload_n 0, 1) := by decide +kernel
theorem dMd_learn_239 : decode cMd_learn 239 = .ok (.getfield 19, 3) := by decide +kernel
theorem dMd_learn_242 : decode cMd_learn 242 = .ok (.iload 4, 2) := by decide +kernel
theorem dMd_learn_244 : decode cMd_learn 244 = .ok (.aload_n 0, 1) := by decide +kernel
theorem dMd_learn_245 : decode cMd_learn 245 = .ok (.getfield 19, 3) := by decide +kernel
theorem dMd_learn_248 : decode cMd_learn 248 = .ok (.iload 4, 2) := by decide +kernel
theorem dMd_learn_250 : decode cMd_learn 250 = .ok (.iaload, 1) := by decide +kernel
theorem dMd_learn_251 : decode cMd_learn 251 = .ok (.iload 7, 2) := by decide +kernel
theorem dMd_learn_253 : decode cMd_learn 253 = .ok (.invokestatic 128, 3) := by decide +kernel
theorem dMd_learn_256 : decode cMd_learn 256 = .ok (.iastore, 1) := by decide +kernel
theorem dMd_learn_257 : decode cMd_learn 257 = .ok (.aload_n 0, 1) := by decide +kernel
theorem dMd_learn_258 : decode cMd_learn 258 = .ok (.getfield 13, 3) := by decide +kernel
theorem dMd_learn_261 : decode cMd_learn 261 = .ok (.iload 4, 2) := by decide +kernel
theorem dMd_learn_263 : decode cMd_learn 263 = .ok (.aload_n 0, 1) := by decide +kernel
theorem dMd_learn_264 : decode cMd_learn 264 = .ok (.getfield 13, 3) := by decide +kernel
theorem dMd_learn_267 : decode cMd_learn 267 = .ok (.iload 4, 2) := by decide +kernel
theorem dMd_learn_269 : decode cMd_learn 269 = .ok (.iaload, 1) := by decide +kernel
theorem dMd_learn_270 : decode cMd_learn 270 = .ok (.iload_n 3, 1) := by decide +kernel
theorem dMd_learn_271 : decode cMd_learn 271 = .ok (.invokestatic 128, 3) := by decide +kernel
theorem dMd_learn_274 : decode cMd_learn 274 = .ok (.iastore, 1) := by decide +kernel
theorem dMd_learn_275 : decode cMd_learn 275 = .ok (.aload_n 0, 1) := by decide +kernel
theorem dMd_learn_276 : decode cMd_learn 276 = .ok (.getfield 16, 3) := by decide +kernel
theorem dMd_learn_279 : decode cMd_learn 279 = .ok (.iload 5, 2) := by decide +kernel
theorem dMd_learn_281 : decode cMd_learn 281 = .ok (.aload_n 0, 1) := by decide +kernel
theorem dMd_learn_282 : decode cMd_learn 282 = .ok (.getfield 16, 3) := by decide +kernel
theorem dMd_learn_285 : decode cMd_learn 285 = .ok (.iload 5, 2) := by decide +kernel
theorem dMd_learn_287 : decode cMd_learn 287 = .ok (.iaload, 1) := by decide +kernel
theorem dMd_learn_288 : decode cMd_learn 288 = .ok (.iload_n 3, 1) := by decide +kernel
theorem dMd_learn_289 : decode cMd_learn 289 = .ok (.invokestatic 128, 3) := by decide +kernel
theorem dMd_learn_292 : decode cMd_learn 292 = .ok (.iastore, 1) := by decide +kernel
theorem dMd_learn_293 : decode cMd_learn 293 = .ok (.goto 83, 3) := by decide +kernel
theorem dMd_learn_296 : decode cMd_learn 296 = .ok (.aload_n 0, 1) := by decide +kernel
theorem dMd_learn_297 : decode cMd_learn 297 = .ok (.getfield 69, 3) := by decide +kernel
theorem dMd_learn_300 : decode cMd_learn 300 = .ok (.bipush 6, 2) := by decide +kernel
theorem dMd_learn_302 : decode cMd_learn 302 = .ok (.if_icmp .ne 13, 3) := by decide +kernel
theorem dMd_learn_305 : decode cMd_learn 305 = .ok (.aload_n 0, 1) := by decide +kernel
theorem dMd_learn_306 : decode cMd_learn 306 = .ok (.iload_n 1, 1) := by decide +kernel
theorem dMd_learn_307 : decode cMd_learn 307 = .ok (.iload_n 2, 1) := by decide +kernel
theorem dMd_learn_308 : decode cMd_learn 308 = .ok (.iload_n 3, 1) := by decide +kernel
theorem dMd_learn_309 : decode cMd_learn 309 = .ok (.invokevirtual 144, 3) := by decide +kernel
theorem dMd_learn_312 : decode cMd_learn 312 = .ok (.goto 64, 3) := by decide +kernel
theorem dMd_learn_315 : decode cMd_learn 315 = .ok (.aload_n 0, 1) := by decide +kernel
theorem dMd_learn_316 : decode cMd_learn 316 = .ok (.getfield 69, 3) := by decide +kernel
theorem dMd_learn_319 : decode cMd_learn 319 = .ok (.bipush 7, 2) := by decide +kernel
theorem dMd_learn_321 : decode cMd_learn 321 = .ok (.if_icmp .ne 13, 3) := by decide +kernel
theorem dMd_learn_324 : decode cMd_learn 324 = .ok (.aload_n 0, 1) := by decide +kernel
theorem dMd_learn_325 : decode cMd_learn 325 = .ok (.iload_n 1, 1) := by decide +kernel
theorem dMd_learn_326 : decode cMd_learn 326 = .ok (.iload_n 2, 1) := by decide +kernel
theorem dMd_learn_327 : decode cMd_learn 327 = .ok (.iload_n 3, 1) := by decide +kernel
theorem dMd_learn_328 : decode cMd_learn 328 = .ok (.invokevirtual 148, 3) := by decide +kernel
theorem dMd_learn_331 : decode cMd_learn 331 = .ok (.goto 45, 3) := by decide +kernel
theorem dMd_learn_334 : decode cMd_learn 334 = .ok (.aload_n 0, 1) := by decide +kernel
theorem dMd_learn_335 : decode cMd_learn 335 = .ok (.getfield 69, 3) := by decide +kernel
theorem dMd_learn_338 : decode cMd_learn 338 = .ok (.bipush 8, 2) := by decide +kernel
theorem dMd_learn_340 : decode cMd_learn 340 = .ok (.if_icmp .ne 12, 3) := by decide +kernel
theorem dMd_learn_343 : decode cMd_learn 343 = .ok (.aload_n 0, 1) := by decide +kernel
theorem dMd_learn_344 : decode cMd_learn 344 = .ok (.iload_n 1, 1) := by decide +kernel
theorem dMd_learn_345 : decode cMd_learn 345 = .ok (.iload_n 3, 1) := by decide +kernel
theorem dMd_learn_346 : decode cMd_learn 346 = .ok (.invokevirtual 151, 3) := by decide +kernel
theorem dMd_learn_349 : decode cMd_learn 349 = .ok (.goto 27, 3) := by decide +kernel
theorem dMd_learn_352 : decode cMd_learn 352 = .ok (.aload_n 0, 1) := by decide +kernel
theorem dMd_learn_353 : decode cMd_learn 353 = .ok (.getfield 69, 3) := by decide +kernel
theorem dMd_learn_356 : decode cMd_learn 356 = .ok (.bipush 9, 2) := by decide +kernel
theorem dMd_learn_358 : decode cMd_learn 358 = .ok (.if_icmp .ne 18, 3) := by decide +kernel
theorem dMd_learn_361 : decode cMd_learn 361 = .ok (.aload_n 0, 1) := by decide +kernel
theorem dMd_learn_362 : decode cMd_learn 362 = .ok (.ldc 154, 2) := by decide +kernel
theorem dMd_learn_364 : decode cMd_learn 364 = .ok (.aload_n 0, 1) := by decide +kernel
theorem dMd_learn_365 : decode cMd_learn 365 = .ok (.getfield 79, 3) := by decide +kernel
theorem dMd_learn_368 : decode cMd_learn 368 = .ok (.imul, 1) := by decide +kernel
theorem dMd_learn_369 : decode cMd_learn 369 = .ok (.sipush 12345, 3) := by decide +kernel
theorem dMd_learn_372 : decode cMd_learn 372 = .ok (.iadd, 1) := by decide +kernel
theorem dMd_learn_373 : decode cMd_learn 373 = .ok (.putfield 79, 3) := by decide +kernel
theorem dMd_learn_376 : decode cMd_learn 376 = .ok (.return_, 1) := by decide +kernel
theorem dMd_told_0 : decode cMd_told 0 = .ok (.aload_n 0, 1) := by decide +kernel
theorem dMd_told_1 : decode cMd_told 1 = .ok (.iconst 0, 1) := by decide +kernel
theorem dMd_told_2 : decode cMd_told 2 = .ok (.putfield 82, 3) := by decide +kernel
theorem dMd_told_5 : decode cMd_told 5 = .ok (.aload_n 0, 1) := by decide +kernel
theorem dMd_told_6 : decode cMd_told 6 = .ok (.iload_n 1, 1) := by decide +kernel
theorem dMd_told_7 : decode cMd_told 7 = .ok (.aload_n 0, 1) := by decide +kernel
theorem dMd_told_8 : decode cMd_told 8 = .ok (.getfield 155, 3) := by decide +kernel
theorem dMd_told_11 : decode cMd_told 11 = .ok (.invokevirtual 158, 3) := by decide +kernel
theorem dMd_told_14 : decode cMd_told 14 = .ok (.istore_n 2, 1) := by decide +kernel
theorem dMd_told_15 : decode cMd_told 15 = .ok (.aload_n 0, 1) := by decide +kernel
theorem dMd_told_16 : decode cMd_told 16 = .ok (.getfield 162, 3) := by decide +kernel
theorem dMd_told_19 : decode cMd_told 19 = .ok (.ifCond .eq 67, 3) := by decide +kernel
theorem dMd_told_22 : decode cMd_told 22 = .ok (.aload_n 0, 1) := by decide +kernel
theorem dMd_told_23 : decode cMd_told 23 = .ok (.getfield 166, 3) := by decide +kernel
theorem dMd_told_26 : decode cMd_told 26 = .ok (.bipush 64, 2) := by decide +kernel
theorem dMd_told_28 : decode cMd_told 28 = .ok (.if_icmp .ge 58, 3) := by decide +kernel
theorem dMd_told_31 : decode cMd_told 31 = .ok (.aload_n 0, 1) := by decide +kernel
theorem dMd_told_32 : decode cMd_told 32 = .ok (.getfield 52, 3) := by decide +kernel
theorem dMd_told_35 : decode cMd_told 35 = .ok (.aload_n 0, 1) := by decide +kernel
theorem dMd_told_36 : decode cMd_told 36 = .ok (.getfield 166, 3) := by decide +kernel
theorem dMd_told_39 : decode cMd_told 39 = .ok (.iload_n 1, 1) := by decide +kernel
theorem dMd_told_40 : decode cMd_told 40 = .ok (.iastore, 1) := by decide +kernel
theorem dMd_told_41 : decode cMd_told 41 = .ok (.aload_n 0, 1) := by decide +kernel
theorem dMd_told_42 : decode cMd_told 42 = .ok (.getfield 55, 3) := by decide +kernel
theorem dMd_told_45 : decode cMd_told 45 = .ok (.aload_n 0, 1) := by decide +kernel
theorem dMd_told_46 : decode cMd_told 46 = .ok (.getfield 166, 3) := by decide +kernel
theorem dMd_told_49 : decode cMd_told 49 = .ok (.aload_n 0, 1) := by decide +kernel
theorem dMd_told_50 : decode cMd_told 50 = .ok (.getfield 155, 3) := by decide +kernel
theorem dMd_told_53 : decode cMd_told 53 = .ok (.iastore, 1) := by decide +kernel
theorem dMd_told_54 : decode cMd_told 54 = .ok (.aload_n 0, 1) := by decide +kernel
theorem dMd_told_55 : decode cMd_told 55 = .ok (.getfield 58, 3) := by decide +kernel
theorem dMd_told_58 : decode cMd_told 58 = .ok (.aload_n 0, 1) := by decide +kernel
theorem dMd_told_59 : decode cMd_told 59 = .ok (.getfield 166, 3) := by decide +kernel
theorem dMd_told_62 : decode cMd_told 62 = .ok (.iload_n 2, 1) := by decide +kernel
theorem dMd_told_63 : decode cMd_told 63 = .ok (.bastore, 1) := by decide +kernel
theorem dMd_told_64 : decode cMd_told 64 = .ok (.aload_n 0, 1) := by decide +kernel
theorem dMd_told_65 : decode cMd_told 65 = .ok (.dup, 1) := by decide +kernel
theorem dMd_told_66 : decode cMd_told 66 = .ok (.getfield 166, 3) := by decide +kernel
theorem dMd_told_69 : decode cMd_told 69 = .ok (.iconst 1, 1) := by decide +kernel
theorem dMd_told_70 : decode cMd_told 70 = .ok (.iadd, 1) := by decide +kernel
theorem dMd_told_71 : decode cMd_told 71 = .ok (.putfield 166, 3) := by decide +kernel
theorem dMd_told_74 : decode cMd_told 74 = .ok (.aload_n 0, 1) := by decide +kernel
theorem dMd_told_75 : decode cMd_told 75 = .ok (.aload_n 0, 1) := by decide +kernel
theorem dMd_told_76 : decode cMd_told 76 = .ok (.getfield 155, 3) := by decide +kernel
theorem dMd_told_79 : decode cMd_told 79 = .ok (.iload_n 2, 1) := by decide +kernel
theorem dMd_told_80 : decode cMd_told 80 = .ok (.invokestatic 169, 3) := by decide +kernel
theorem dMd_told_83 : decode cMd_told 83 = .ok (.putfield 155, 3) := by decide +kernel
theorem dMd_told_86 : decode cMd_told 86 = .ok (.iload_n 2, 1) := by decide +kernel
theorem dMd_told_87 : decode cMd_told 87 = .ok (.ireturn, 1) := by decide +kernel
theorem dMd_update_0 : decode cMd_update 0 = .ok (.aload_n 0, 1) := by decide +kernel
theorem dMd_update_1 : decode cMd_update 1 = .ok (.iconst 0, 1) := by decide +kernel
theorem dMd_update_2 : decode cMd_update 2 = .ok (.putfield 82, 3) := by decide +kernel
theorem dMd_update_5 : decode cMd_update 5 = .ok (.iconst 0, 1) := by decide +kernel
theorem dMd_update_6 : decode cMd_update 6 = .ok (.istore_n 3, 1) := by decide +kernel
theorem dMd_update_7 : decode cMd_update 7 = .ok (.iload_n 3, 1) := by decide +kernel
theorem dMd_update_8 : decode cMd_update 8 = .ok (.aload_n 0, 1) := by decide +kernel
theorem dMd_update_9 : decode cMd_update 9 = .ok (.getfield 166, 3) := by decide +kernel
theorem dMd_update_12 : decode cMd_update 12 = .ok (.if_icmp .ge 19, 3) := by decide +kernel
theorem dMd_update_15 : decode cMd_update 15 = .ok (.aload_n 0, 1) := by decide +kernel
theorem dMd_update_16 : decode cMd_update 16 = .ok (.getfield 52, 3) := by decide +kernel
theorem dMd_update_19 : decode cMd_update 19 = .ok (.iload_n 3, 1) := by decide +kernel
theorem dMd_update_20 : decode cMd_update 20 = .ok (.iaload, 1) := by decide +kernel
theorem dMd_update_21 : decode cMd_update 21 = .ok (.iload_n 1, 1) := by decide +kernel
theorem dMd_update_22 : decode cMd_update 22 = .ok (.if_icmp .eq 9, 3) := by decide +kernel
theorem dMd_update_25 : decode cMd_update 25 = .ok (.iinc 3 1, 3) := by decide +kernel
theorem dMd_update_28 : decode cMd_update 28 = .ok (.goto (-21), 3) := by decide +kernel
theorem dMd_update_31 : decode cMd_update 31 = .ok (.iload_n 3, 1) := by decide +kernel
theorem dMd_update_32 : decode cMd_update 32 = .ok (.aload_n 0, 1) := by decide +kernel
theorem dMd_update_33 : decode cMd_update 33 = .ok (.getfield 166, 3) := by decide +kernel
theorem dMd_update_36 : decode cMd_update 36 = .ok (.if_icmp .ge 12, 3) := by decide +kernel
theorem dMd_update_39 : decode cMd_update 39 = .ok (.aload_n 0, 1) := by decide +kernel
theorem dMd_update_40 : decode cMd_update 40 = .ok (.getfield 55, 3) := by decide +kernel
theorem dMd_update_43 : decode cMd_update 43 = .ok (.iload_n 3, 1) := by decide +kernel
theorem dMd_update_44 : decode cMd_update 44 = .ok (.iaload, 1) := by decide +kernel
theorem dMd_update_45 : decode cMd_update 45 = .ok (.goto 7, 3) := by decide +kernel
theorem dMd_update_48 : decode cMd_update 48 = .ok (.aload_n 0, 1) := by decide +kernel
theorem dMd_update_49 : decode cMd_update 49 = .ok (.getfield 155, 3) := by decide +kernel
theorem dMd_update_52 : decode cMd_update 52 = .ok (.istore 4, 2) := by decide +kernel
theorem dMd_update_54 : decode cMd_update 54 = .ok (.aload_n 0, 1) := by decide +kernel
theorem dMd_update_55 : decode cMd_update 55 = .ok (.iload_n 1, 1) := by decide +kernel
theorem dMd_update_56 : decode cMd_update 56 = .ok (.iload 4, 2) := by decide +kernel
theorem dMd_update_58 : decode cMd_update 58 = .ok (.invokevirtual 158, 3) := by decide +kernel
theorem dMd_update_61 : decode cMd_update 61 = .ok (.iload_n 2, 1) := by decide +kernel
theorem dMd_update_62 : decode cMd_update 62 = .ok (.if_icmp .ne 7, 3) := by decide +kernel
theorem dMd_update_65 : decode cMd_update 65 = .ok (.iconst 1, 1) := by decide +kernel
theorem dMd_update_66 : decode cMd_update 66 = .ok (.goto 4, 3) := by decide +kernel
theorem dMd_update_69 : decode cMd_update 69 = .ok (.iconst 0, 1) := by decide +kernel
theorem dMd_update_70 : decode cMd_update 70 = .ok (.istore 5, 2) := by decide +kernel
theorem dMd_update_72 : decode cMd_update 72 = .ok (.aload_n 0, 1) := by decide +kernel
theorem dMd_update_73 : decode cMd_update 73 = .ok (.iload_n 1, 1) := by decide +kernel
theorem dMd_update_74 : decode cMd_update 74 = .ok (.iload 4, 2) := by decide +kernel
theorem dMd_update_76 : decode cMd_update 76 = .ok (.iload_n 2, 1) := by decide +kernel
theorem dMd_update_77 : decode cMd_update 77 = .ok (.invokevirtual 172, 3) := by decide +kernel
theorem dMd_update_80 : decode cMd_update 80 = .ok (.aload_n 0, 1) := by decide +kernel
theorem dMd_update_81 : decode cMd_update 81 = .ok (.dup, 1) := by decide +kernel
theorem dMd_update_82 : decode cMd_update 82 = .ok (.getfield 175, 3) := by decide +kernel
theorem dMd_update_85 : decode cMd_update 85 = .ok (.iconst 1, 1) := by decide +kernel
theorem dMd_update_86 : decode cMd_update 86 = .ok (.iadd, 1) := by decide +kernel
theorem dMd_update_87 : decode cMd_update 87 = .ok (.putfield 175, 3) := by decide +kernel
theorem dMd_update_90 : decode cMd_update 90 = .ok (.aload_n 0, 1) := by decide +kernel
theorem dMd_update_91 : decode cMd_update 91 = .ok (.dup, 1) := by decide +kernel
theorem dMd_update_92 : decode cMd_update 92 = .ok (.getfield 178, 3) := by decide +kernel
theorem dMd_update_95 : decode cMd_update 95 = .ok (.iload 5, 2) := by decide +kernel
theorem dMd_update_97 : decode cMd_update 97 = .ok (.ifCond .eq 7, 3) := by decide +kernel
theorem dMd_update_100 : decode cMd_update 100 = .ok (.iconst 0, 1) := by decide +kernel
theorem dMd_update_101 : decode cMd_update 101 = .ok (.goto 4, 3) := by decide +kernel
theorem dMd_update_104 : decode cMd_update 104 = .ok (.iconst 1, 1) := by decide +kernel
theorem dMd_update_105 : decode cMd_update 105 = .ok (.iadd, 1) := by decide +kernel
theorem dMd_update_106 : decode cMd_update 106 = .ok (.putfield 178, 3) := by decide +kernel
theorem dMd_update_109 : decode cMd_update 109 = .ok (.aload_n 0, 1) := by decide +kernel
theorem dMd_update_110 : decode cMd_update 110 = .ok (.dup, 1) := by decide +kernel
theorem dMd_update_111 : decode cMd_update 111 = .ok (.getfield 181, 3) := by decide +kernel
theorem dMd_update_114 : decode cMd_update 114 = .ok (.iload_n 2, 1) := by decide +kernel
theorem dMd_update_115 : decode cMd_update 115 = .ok (.ifCond .eq 7, 3) := by decide +kernel
theorem dMd_update_118 : decode cMd_update 118 = .ok (.iconst 1, 1) := by decide +kernel
theorem dMd_update_119 : decode cMd_update 119 = .ok (.goto 4, 3) := by decide +kernel
theorem dMd_update_122 : decode cMd_update 122 = .ok (.iconst 0, 1) := by decide +kernel
theorem dMd_update_123 : decode cMd_update 123 = .ok (.iadd, 1) := by decide +kernel
theorem dMd_update_124 : decode cMd_update 124 = .ok (.putfield 181, 3) := by decide +kernel
theorem dMd_update_127 : decode cMd_update 127 = .ok (.iload_n 3, 1) := by decide +kernel
theorem dMd_update_128 : decode cMd_update 128 = .ok (.aload_n 0, 1) := by decide +kernel
theorem dMd_update_129 : decode cMd_update 129 = .ok (.getfield 166, 3) := by decide +kernel
theorem dMd_update_132 : decode cMd_update 132 = .ok (.if_icmp .ne 18, 3) := by decide +kernel
theorem dMd_update_135 : decode cMd_update 135 = .ok (.aload_n 0, 1) := by decide +kernel
theorem dMd_update_136 : decode cMd_update 136 = .ok (.aload_n 0, 1) := by decide +kernel
theorem dMd_update_137 : decode cMd_update 137 = .ok (.getfield 155, 3) := by decide +kernel
theorem dMd_update_140 : decode cMd_update 140 = .ok (.iload_n 2, 1) := by decide +kernel
theorem dMd_update_141 : decode cMd_update 141 = .ok (.invokestatic 169, 3) := by decide +kernel
theorem dMd_update_144 : decode cMd_update 144 = .ok (.putfield 155, 3) := by decide +kernel
theorem dMd_update_147 : decode cMd_update 147 = .ok (.goto 117, 3) := by decide +kernel
theorem dMd_update_150 : decode cMd_update 150 = .ok (.aload_n 0, 1) := by decide +kernel
theorem dMd_update_151 : decode cMd_update 151 = .ok (.getfield 58, 3) := by decide +kernel
theorem dMd_update_154 : decode cMd_update 154 = .ok (.iload_n 3, 1) := by decide +kernel
theorem dMd_update_155 : decode cMd_update 155 = .ok (.baload, 1) := by decide +kernel
theorem dMd_update_156 : decode cMd_update 156 = .ok (.iload_n 2, 1) := by decide +kernel
theorem dMd_update_157 : decode cMd_update 157 = .ok (.if_icmp .eq 31, 3) := by decide +kernel
theorem dMd_update_160 : decode cMd_update 160 = .ok (.aload_n 0, 1) := by decide +kernel
theorem dMd_update_161 : decode cMd_update 161 = .ok (.iload 4, 2) := by decide +kernel
theorem dMd_update_163 : decode cMd_update 163 = .ok (.iload_n 2, 1) := by decide +kernel
theorem dMd_update_164 : decode cMd_update 164 = .ok (.invokestatic 169, 3) := by decide +kernel
theorem dMd_update_167 : decode cMd_update 167 = .ok (.putfield 155, 3) := by decide +kernel
theorem dMd_update_170 : decode cMd_update 170 = .ok (.aload_n 0, 1) := by decide +kernel
theorem dMd_update_171 : decode cMd_update 171 = .ok (.iconst 0, 1) := by decide +kernel
theorem dMd_update_172 : decode cMd_update 172 = .ok (.putfield 166, 3) := by decide +kernel
theorem dMd_update_175 : decode cMd_update 175 = .ok (.aload_n 0, 1) := by decide +kernel
theorem dMd_update_176 : decode cMd_update 176 = .ok (.dup, 1) := by decide +kernel
theorem dMd_update_177 : decode cMd_update 177 = .ok (.getfield 184, 3) := by decide +kernel
theorem dMd_update_180 : decode cMd_update 180 = .ok (.iconst 1, 1) := by decide +kernel
theorem dMd_update_181 : decode cMd_update 181 = .ok (.iadd, 1) := by decide +kernel
theorem dMd_update_182 : decode cMd_update 182 = .ok (.putfield 184, 3) := by decide +kernel
theorem dMd_update_185 : decode cMd_update 185 = .ok (.goto 79, 3) := by decide +kernel
theorem dMd_update_188 : decode cMd_update 188 = .ok (.aload_n 0, 1) := by decide +kernel
theorem dMd_update_189 : decode cMd_update 189 = .ok (.dup, 1) := by decide +kernel
theorem dMd_update_190 : decode cMd_update 190 = .ok (.getfield 166, 3) := by decide +kernel
theorem dMd_update_193 : decode cMd_update 193 = .ok (.iconst 1, 1) := by decide +kernel
theorem dMd_update_194 : decode cMd_update 194 = .ok (.isub, 1) := by decide +kernel
theorem dMd_update_195 : decode cMd_update 195 = .ok (.putfield 166, 3) := by decide +kernel
theorem dMd_update_198 : decode cMd_update 198 = .ok (.iload_n 3, 1) := by decide +kernel
theorem dMd_update_199 : decode cMd_update 199 = .ok (.istore 6, 2) := by decide +kernel
theorem dMd_update_201 : decode cMd_update 201 = .ok (.iload 6, 2) := by decide +kernel
theorem dMd_update_203 : decode cMd_update 203 = .ok (.aload_n 0, 1) := by decide +kernel
theorem dMd_update_204 : decode cMd_update 204 = .ok (.getfield 166, 3) := by decide +kernel
theorem dMd_update_207 : decode cMd_update 207 = .ok (.if_icmp .ge 57, 3) := by decide +kernel
theorem dMd_update_210 : decode cMd_update 210 = .ok (.aload_n 0, 1) := by decide +kernel
theorem dMd_update_211 : decode cMd_update 211 = .ok (.getfield 52, 3) := by decide +kernel
theorem dMd_update_214 : decode cMd_update 214 = .ok (.iload 6, 2) := by decide +kernel
theorem dMd_update_216 : decode cMd_update 216 = .ok (.aload_n 0, 1) := by decide +kernel
theorem dMd_update_217 : decode cMd_update 217 = .ok (.getfield 52, 3) := by decide +kernel
theorem dMd_update_220 : decode cMd_update 220 = .ok (.iload 6, 2) := by decide +kernel
theorem dMd_update_222 : decode cMd_update 222 = .ok (.iconst 1, 1) := by decide +kernel
theorem dMd_update_223 : decode cMd_update 223 = .ok (.iadd, 1) := by decide +kernel
theorem dMd_update_224 : decode cMd_update 224 = .ok (.iaload, 1) := by decide +kernel
theorem dMd_update_225 : decode cMd_update 225 = .ok (.iastore, 1) := by decide +kernel
theorem dMd_update_226 : decode cMd_update 226 = .ok (.aload_n 0, 1) := by decide +kernel
theorem dMd_update_227 : decode cMd_update 227 = .ok (.getfield 55, 3) := by decide +kernel
theorem dMd_update_230 : decode cMd_update 230 = .ok (.iload 6, 2) := by decide +kernel
theorem dMd_update_232 : decode cMd_update 232 = .ok (.aload_n 0, 1) := by decide +kernel
theorem dMd_update_233 : decode cMd_update 233 = .ok (.getfield 55, 3) := by decide +kernel
theorem dMd_update_236 : decode cMd_update 236 = .ok (.iload 6, 2) := by decide +kernel
theorem dMd_update_238 : decode cMd_update 238 = .ok (.iconst 1, 1) := by decide +kernel
theorem dMd_update_239 : decode cMd_update 239 = .ok (.iadd, 1) := by decide +kernel
theorem dMd_update_240 : decode cMd_update 240 = .ok (.iaload, 1) := by decide +kernel
theorem dMd_update_241 : decode cMd_update 241 = .ok (.iastore, 1) := by decide +kernel
theorem dMd_update_242 : decode cMd_update 242 = .ok (.aload_n 0, 1) := by decide +kernel
theorem dMd_update_243 : decode cMd_update 243 = .ok (.getfield 58, 3) := by decide +kernel
theorem dMd_update_246 : decode cMd_update 246 = .ok (.iload 6, 2) := by decide +kernel
theorem dMd_update_248 : decode cMd_update 248 = .ok (.aload_n 0, 1) := by decide +kernel
theorem dMd_update_249 : decode cMd_update 249 = .ok (.getfield 58, 3) := by decide +kernel
theorem dMd_update_252 : decode cMd_update 252 = .ok (.iload 6, 2) := by decide +kernel
theorem dMd_update_254 : decode cMd_update 254 = .ok (.iconst 1, 1) := by decide +kernel
theorem dMd_update_255 : decode cMd_update 255 = .ok (.iadd, 1) := by decide +kernel
theorem dMd_update_256 : decode cMd_update 256 = .ok (.baload, 1) := by decide +kernel
theorem dMd_update_257 : decode cMd_update 257 = .ok (.bastore, 1) := by decide +kernel
theorem dMd_update_258 : decode cMd_update 258 = .ok (.iinc 6 1, 3) := by decide +kernel
theorem dMd_update_261 : decode cMd_update 261 = .ok (.goto (-60), 3) := by decide +kernel
theorem dMd_update_264 : decode cMd_update 264 = .ok (.iload 5, 2) := by decide +kernel
theorem dMd_update_266 : decode cMd_update 266 = .ok (.ireturn, 1) := by decide +kernel
theorem dMd_row_0 : decode cMd_row 0 = .ok (.aload_n 0, 1) := by decide +kernel
theorem dMd_row_1 : decode cMd_row 1 = .ok (.iconst 0, 1) := by decide +kernel
theorem dMd_row_2 : decode cMd_row 2 = .ok (.putfield 82, 3) := by decide +kernel
theorem dMd_row_5 : decode cMd_row 5 = .ok (.aload_n 0, 1) := by decide +kernel
theorem dMd_row_6 : decode cMd_row 6 = .ok (.iload_n 1, 1) := by decide +kernel
theorem dMd_row_7 : decode cMd_row 7 = .ok (.invokevirtual 105, 3) := by decide +kernel
theorem dMd_row_10 : decode cMd_row 10 = .ok (.istore_n 2, 1) := by decide +kernel
theorem dMd_row_11 : decode cMd_row 11 = .ok (.aload_n 0, 1) := by decide +kernel
theorem dMd_row_12 : decode cMd_row 12 = .ok (.getfield 69, 3) := by decide +kernel
theorem dMd_row_15 : decode cMd_row 15 = .ok (.bipush 6, 2) := by decide +kernel
theorem dMd_row_17 : decode cMd_row 17 = .ok (.if_icmp .ne 16, 3) := by decide +kernel
theorem dMd_row_20 : decode cMd_row 20 = .ok (.aload_n 0, 1) := by decide +kernel
theorem dMd_row_21 : decode cMd_row 21 = .ok (.iconst 3, 1) := by decide +kernel
theorem dMd_row_22 : decode cMd_row 22 = .ok (.iload_n 1, 1) := by decide +kernel
theorem dMd_row_23 : decode cMd_row 23 = .ok (.aload_n 0, 1) := by decide +kernel
theorem dMd_row_24 : decode cMd_row 24 = .ok (.getfield 155, 3) := by decide +kernel
theorem dMd_row_27 : decode cMd_row 27 = .ok (.invokevirtual 116, 3) := by decide +kernel
theorem dMd_row_30 : decode cMd_row 30 = .ok (.goto 4, 3) := by decide +kernel
theorem dMd_row_33 : decode cMd_row 33 = .ok (.iconst (-1), 1) := by decide +kernel
theorem dMd_row_34 : decode cMd_row 34 = .ok (.istore_n 3, 1) := by decide +kernel
theorem dMd_row_35 : decode cMd_row 35 = .ok (.aload_n 0, 1) := by decide +kernel
theorem dMd_row_36 : decode cMd_row 36 = .ok (.getfield 69, 3) := by decide +kernel
theorem dMd_row_39 : decode cMd_row 39 = .ok (.tableswitch 135 0 9 #[123, 53, 135, 60, 75, 87, 135, 94, 104, 125], 53) := by decide +kernel
theorem dMd_row_92 : decode cMd_row 92 = .ok (.aload_n 0, 1) := by decide +kernel
theorem dMd_row_93 : decode cMd_row 93 = .ok (.getfield 7, 3) := by decide +kernel
theorem dMd_row_96 : decode cMd_row 96 = .ok (.iload_n 2, 1) := by decide +kernel
theorem dMd_row_97 : decode cMd_row 97 = .ok (.iaload, 1) := by decide +kernel
theorem dMd_row_98 : decode cMd_row 98 = .ok (.ireturn, 1) := by decide +kernel
theorem dMd_row_99 : decode cMd_row 99 = .ok (.aload_n 0, 1) := by decide +kernel
theorem dMd_row_100 : decode cMd_row 100 = .ok (.getfield 16, 3) := by decide +kernel
theorem dMd_row_103 : decode cMd_row 103 = .ok (.aload_n 0, 1) := by decide +kernel
theorem dMd_row_104 : decode cMd_row 104 = .ok (.iload_n 1, 1) := by decide +kernel
theorem dMd_row_105 : decode cMd_row 105 = .ok (.aload_n 0, 1) := by decide +kernel
