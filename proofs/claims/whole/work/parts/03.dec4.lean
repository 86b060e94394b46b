theorem dMd_says_158 : decode cMd_says 158 = .ok (.if_icmp .le 7, 3) := by decide +kernel
theorem dMd_says_161 : decode cMd_says 161 = .ok (.iconst 1, 1) := by decide +kernel
theorem dMd_says_162 : decode cMd_says 162 = .ok (.goto 22, 3) := by decide +kernel
theorem dMd_says_165 : decode cMd_says 165 = .ok (.iconst 0, 1) := by decide +kernel
theorem dMd_says_166 : decode cMd_says 166 = .ok (.goto 18, 3) := by decide +kernel
theorem dMd_says_169 : decode cMd_says 169 = .ok (.aload_n 0, 1) := by decide +kernel
theorem dMd_says_170 : decode cMd_says 170 = .ok (.getfield 13, 3) := by decide +kernel
theorem dMd_says_173 : decode cMd_says 173 = .ok (.iload_n 3, 1) := by decide +kernel
theorem dMd_says_174 : decode cMd_says 174 = .ok (.iaload, 1) := by decide +kernel
theorem dMd_says_175 : decode cMd_says 175 = .ok (.iconst 1, 1) := by decide +kernel
theorem dMd_says_176 : decode cMd_says 176 = .ok (.if_icmp .le 7, 3) := by decide +kernel
theorem dMd_says_179 : decode cMd_says 179 = .ok (.iconst 1, 1) := by decide +kernel
theorem dMd_says_180 : decode cMd_says 180 = .ok (.goto 4, 3) := by decide +kernel
theorem dMd_says_183 : decode cMd_says 183 = .ok (.iconst 0, 1) := by decide +kernel
theorem dMd_says_184 : decode cMd_says 184 = .ok (.ireturn, 1) := by decide +kernel
theorem dMd_says_185 : decode cMd_says 185 = .ok (.aload_n 0, 1) := by decide +kernel
theorem dMd_says_186 : decode cMd_says 186 = .ok (.aload_n 0, 1) := by decide +kernel
theorem dMd_says_187 : decode cMd_says 187 = .ok (.iconst 3, 1) := by decide +kernel
theorem dMd_says_188 : decode cMd_says 188 = .ok (.iload_n 1, 1) := by decide +kernel
theorem dMd_says_189 : decode cMd_says 189 = .ok (.iload_n 2, 1) := by decide +kernel
theorem dMd_says_190 : decode cMd_says 190 = .ok (.invokevirtual 116, 3) := by decide +kernel
theorem dMd_says_193 : decode cMd_says 193 = .ok (.iload_n 1, 1) := by decide +kernel
theorem dMd_says_194 : decode cMd_says 194 = .ok (.iload_n 2, 1) := by decide +kernel
theorem dMd_says_195 : decode cMd_says 195 = .ok (.invokevirtual 119, 3) := by decide +kernel
theorem dMd_says_198 : decode cMd_says 198 = .ok (.ireturn, 1) := by decide +kernel
theorem dMd_says_199 : decode cMd_says 199 = .ok (.aload_n 0, 1) := by decide +kernel
theorem dMd_says_200 : decode cMd_says 200 = .ok (.iload_n 1, 1) := by decide +kernel
theorem dMd_says_201 : decode cMd_says 201 = .ok (.iload_n 2, 1) := by decide +kernel
theorem dMd_says_202 : decode cMd_says 202 = .ok (.invokevirtual 122, 3) := by decide +kernel
theorem dMd_says_205 : decode cMd_says 205 = .ok (.ifCond .lt 7, 3) := by decide +kernel
theorem dMd_says_208 : decode cMd_says 208 = .ok (.iconst 1, 1) := by decide +kernel
theorem dMd_says_209 : decode cMd_says 209 = .ok (.goto 4, 3) := by decide +kernel
theorem dMd_says_212 : decode cMd_says 212 = .ok (.iconst 0, 1) := by decide +kernel
theorem dMd_says_213 : decode cMd_says 213 = .ok (.ireturn, 1) := by decide +kernel
theorem dMd_says_214 : decode cMd_says 214 = .ok (.aload_n 0, 1) := by decide +kernel
theorem dMd_says_215 : decode cMd_says 215 = .ok (.iload_n 1, 1) := by decide +kernel
theorem dMd_says_216 : decode cMd_says 216 = .ok (.invokevirtual 125, 3) := by decide +kernel
theorem dMd_says_219 : decode cMd_says 219 = .ok (.ifCond .eq 26, 3) := by decide +kernel
theorem dMd_says_222 : decode cMd_says 222 = .ok (.aload_n 0, 1) := by decide +kernel
theorem dMd_says_223 : decode cMd_says 223 = .ok (.getfield 46, 3) := by decide +kernel
theorem dMd_says_226 : decode cMd_says 226 = .ok (.iload_n 3, 1) := by decide +kernel
theorem dMd_says_227 : decode cMd_says 227 = .ok (.iaload, 1) := by decide +kernel
theorem dMd_says_228 : decode cMd_says 228 = .ok (.aload_n 0, 1) := by decide +kernel
theorem dMd_says_229 : decode cMd_says 229 = .ok (.getfield 43, 3) := by decide +kernel
theorem dMd_says_232 : decode cMd_says 232 = .ok (.iload_n 3, 1) := by decide +kernel
theorem dMd_says_233 : decode cMd_says 233 = .ok (.iaload, 1) := by decide +kernel
theorem dMd_says_234 : decode cMd_says 234 = .ok (.if_icmp .ge 7, 3) := by decide +kernel
theorem dMd_says_237 : decode cMd_says 237 = .ok (.iconst 1, 1) := by decide +kernel
theorem dMd_says_238 : decode cMd_says 238 = .ok (.goto 22, 3) := by decide +kernel
theorem dMd_says_241 : decode cMd_says 241 = .ok (.iconst 0, 1) := by decide +kernel
theorem dMd_says_242 : decode cMd_says 242 = .ok (.goto 18, 3) := by decide +kernel
theorem dMd_says_245 : decode cMd_says 245 = .ok (.aload_n 0, 1) := by decide +kernel
theorem dMd_says_246 : decode cMd_says 246 = .ok (.getfield 13, 3) := by decide +kernel
theorem dMd_says_249 : decode cMd_says 249 = .ok (.iload_n 3, 1) := by decide +kernel
theorem dMd_says_250 : decode cMd_says 250 = .ok (.iaload, 1) := by decide +kernel
theorem dMd_says_251 : decode cMd_says 251 = .ok (.iconst 1, 1) := by decide +kernel
theorem dMd_says_252 : decode cMd_says 252 = .ok (.if_icmp .le 7, 3) := by decide +kernel
theorem dMd_says_255 : decode cMd_says 255 = .ok (.iconst 1, 1) := by decide +kernel
theorem dMd_says_256 : decode cMd_says 256 = .ok (.goto 4, 3) := by decide +kernel
theorem dMd_says_259 : decode cMd_says 259 = .ok (.iconst 0, 1) := by decide +kernel
theorem dMd_says_260 : decode cMd_says 260 = .ok (.ireturn, 1) := by decide +kernel
theorem dMd_says_261 : decode cMd_says 261 = .ok (.aload_n 0, 1) := by decide +kernel
theorem dMd_says_262 : decode cMd_says 262 = .ok (.getfield 79, 3) := by decide +kernel
theorem dMd_says_265 : decode cMd_says 265 = .ok (.bipush 16, 2) := by decide +kernel
theorem dMd_says_267 : decode cMd_says 267 = .ok (.iushr, 1) := by decide +kernel
theorem dMd_says_268 : decode cMd_says 268 = .ok (.iconst 1, 1) := by decide +kernel
theorem dMd_says_269 : decode cMd_says 269 = .ok (.iand, 1) := by decide +kernel
theorem dMd_says_270 : decode cMd_says 270 = .ok (.iconst 1, 1) := by decide +kernel
theorem dMd_says_271 : decode cMd_says 271 = .ok (.if_icmp .ne 7, 3) := by decide +kernel
theorem dMd_says_274 : decode cMd_says 274 = .ok (.iconst 1, 1) := by decide +kernel
theorem dMd_says_275 : decode cMd_says 275 = .ok (.goto 4, 3) := by decide +kernel
theorem dMd_says_278 : decode cMd_says 278 = .ok (.iconst 0, 1) := by decide +kernel
theorem dMd_says_279 : decode cMd_says 279 = .ok (.ireturn, 1) := by decide +kernel
theorem dMd_allot_0 : decode cMd_allot 0 = .ok (.iload_n 1, 1) := by decide +kernel
theorem dMd_allot_1 : decode cMd_allot 1 = .ok (.istore 5, 2) := by decide +kernel
theorem dMd_allot_3 : decode cMd_allot 3 = .ok (.iload 5, 2) := by decide +kernel
theorem dMd_allot_5 : decode cMd_allot 5 = .ok (.iconst 3, 1) := by decide +kernel
theorem dMd_allot_6 : decode cMd_allot 6 = .ok (.if_icmp .ge 25, 3) := by decide +kernel
theorem dMd_allot_9 : decode cMd_allot 9 = .ok (.aload_n 0, 1) := by decide +kernel
theorem dMd_allot_10 : decode cMd_allot 10 = .ok (.getfield 34, 3) := by decide +kernel
theorem dMd_allot_13 : decode cMd_allot 13 = .ok (.aload_n 0, 1) := by decide +kernel
theorem dMd_allot_14 : decode cMd_allot 14 = .ok (.iload 5, 2) := by decide +kernel
theorem dMd_allot_16 : decode cMd_allot 16 = .ok (.iload_n 2, 1) := by decide +kernel
theorem dMd_allot_17 : decode cMd_allot 17 = .ok (.iload_n 3, 1) := by decide +kernel
theorem dMd_allot_18 : decode cMd_allot 18 = .ok (.invokevirtual 95, 3) := by decide +kernel
theorem dMd_allot_21 : decode cMd_allot 21 = .ok (.iaload, 1) := by decide +kernel
theorem dMd_allot_22 : decode cMd_allot 22 = .ok (.ifCond .le 9, 3) := by decide +kernel
theorem dMd_allot_25 : decode cMd_allot 25 = .ok (.iinc 5 1, 3) := by decide +kernel
theorem dMd_allot_28 : decode cMd_allot 28 = .ok (.goto (-25), 3) := by decide +kernel
theorem dMd_allot_31 : decode cMd_allot 31 = .ok (.iload 5, 2) := by decide +kernel
theorem dMd_allot_33 : decode cMd_allot 33 = .ok (.iconst 3, 1) := by decide +kernel
theorem dMd_allot_34 : decode cMd_allot 34 = .ok (.if_icmp .ge 49, 3) := by decide +kernel
theorem dMd_allot_37 : decode cMd_allot 37 = .ok (.aload_n 0, 1) := by decide +kernel
theorem dMd_allot_38 : decode cMd_allot 38 = .ok (.getfield 28, 3) := by decide +kernel
theorem dMd_allot_41 : decode cMd_allot 41 = .ok (.aload_n 0, 1) := by decide +kernel
theorem dMd_allot_42 : decode cMd_allot 42 = .ok (.iload 5, 2) := by decide +kernel
theorem dMd_allot_44 : decode cMd_allot 44 = .ok (.iload_n 2, 1) := by decide +kernel
theorem dMd_allot_45 : decode cMd_allot 45 = .ok (.iload_n 3, 1) := by decide +kernel
theorem dMd_allot_46 : decode cMd_allot 46 = .ok (.invokevirtual 95, 3) := by decide +kernel
theorem dMd_allot_49 : decode cMd_allot 49 = .ok (.iload 5, 2) := by decide +kernel
theorem dMd_allot_51 : decode cMd_allot 51 = .ok (.iload_n 2, 1) := by decide +kernel
theorem dMd_allot_52 : decode cMd_allot 52 = .ok (.iload_n 3, 1) := by decide +kernel
theorem dMd_allot_53 : decode cMd_allot 53 = .ok (.invokestatic 98, 3) := by decide +kernel
theorem dMd_allot_56 : decode cMd_allot 56 = .ok (.iastore, 1) := by decide +kernel
theorem dMd_allot_57 : decode cMd_allot 57 = .ok (.aload_n 0, 1) := by decide +kernel
theorem dMd_allot_58 : decode cMd_allot 58 = .ok (.getfield 31, 3) := by decide +kernel
theorem dMd_allot_61 : decode cMd_allot 61 = .ok (.aload_n 0, 1) := by decide +kernel
theorem dMd_allot_62 : decode cMd_allot 62 = .ok (.iload 5, 2) := by decide +kernel
theorem dMd_allot_64 : decode cMd_allot 64 = .ok (.iload_n 2, 1) := by decide +kernel
theorem dMd_allot_65 : decode cMd_allot 65 = .ok (.iload_n 3, 1) := by decide +kernel
theorem dMd_allot_66 : decode cMd_allot 66 = .ok (.invokevirtual 95, 3) := by decide +kernel
theorem dMd_allot_69 : decode cMd_allot 69 = .ok (.iload 4, 2) := by decide +kernel
theorem dMd_allot_71 : decode cMd_allot 71 = .ok (.ifCond .eq 7, 3) := by decide +kernel
theorem dMd_allot_74 : decode cMd_allot 74 = .ok (.iconst 0, 1) := by decide +kernel
theorem dMd_allot_75 : decode cMd_allot 75 = .ok (.goto 4, 3) := by decide +kernel
theorem dMd_allot_78 : decode cMd_allot 78 = .ok (.iconst (-1), 1) := by decide +kernel
theorem dMd_allot_79 : decode cMd_allot 79 = .ok (.iastore, 1) := by decide +kernel
theorem dMd_allot_80 : decode cMd_allot 80 = .ok (.goto 35, 3) := by decide +kernel
theorem dMd_allot_83 : decode cMd_allot 83 = .ok (.iload_n 1, 1) := by decide +kernel
theorem dMd_allot_84 : decode cMd_allot 84 = .ok (.istore 6, 2) := by decide +kernel
theorem dMd_allot_86 : decode cMd_allot 86 = .ok (.iload 6, 2) := by decide +kernel
theorem dMd_allot_88 : decode cMd_allot 88 = .ok (.iconst 3, 1) := by decide +kernel
theorem dMd_allot_89 : decode cMd_allot 89 = .ok (.if_icmp .ge 26, 3) := by decide +kernel
theorem dMd_allot_92 : decode cMd_allot 92 = .ok (.aload_n 0, 1) := by decide +kernel
theorem dMd_allot_93 : decode cMd_allot 93 = .ok (.getfield 34, 3) := by decide +kernel
theorem dMd_allot_96 : decode cMd_allot 96 = .ok (.aload_n 0, 1) := by decide +kernel
theorem dMd_allot_97 : decode cMd_allot 97 = .ok (.iload 6, 2) := by decide +kernel
theorem dMd_allot_99 : decode cMd_allot 99 = .ok (.iload_n 2, 1) := by decide +kernel
theorem dMd_allot_100 : decode cMd_allot 100 = .ok (.iload_n 3, 1) := by decide +kernel
theorem dMd_allot_101 : decode cMd_allot 101 = .ok (.invokevirtual 95, 3) := by decide +kernel
theorem dMd_allot_104 : decode cMd_allot 104 = .ok (.dup2, 1) := by decide +kernel
theorem dMd_allot_105 : decode cMd_allot 105 = .ok (.iaload, 1) := by decide +kernel
theorem dMd_allot_106 : decode cMd_allot 106 = .ok (.iconst 1, 1) := by decide +kernel
theorem dMd_allot_107 : decode cMd_allot 107 = .ok (.isub, 1) := by decide +kernel
theorem dMd_allot_108 : decode cMd_allot 108 = .ok (.iastore, 1) := by decide +kernel
theorem dMd_allot_109 : decode cMd_allot 109 = .ok (.iinc 6 1, 3) := by decide +kernel
theorem dMd_allot_112 : decode cMd_allot 112 = .ok (.goto (-26), 3) := by decide +kernel
theorem dMd_allot_115 : decode cMd_allot 115 = .ok (.return_, 1) := by decide +kernel
theorem dMd_learnTagged_0 : decode cMd_learnTagged 0 = .ok (.aload_n 0, 1) := by decide +kernel
theorem dMd_learnTagged_1 : decode cMd_learnTagged 1 = .ok (.iconst 3, 1) := by decide +kernel
theorem dMd_learnTagged_2 : decode cMd_learnTagged 2 = .ok (.iload_n 1, 1) := by decide +kernel
theorem dMd_learnTagged_3 : decode cMd_learnTagged 3 = .ok (.iload_n 2, 1) := by decide +kernel
theorem dMd_learnTagged_4 : decode cMd_learnTagged 4 = .ok (.invokevirtual 116, 3) := by decide +kernel
theorem dMd_learnTagged_7 : decode cMd_learnTagged 7 = .ok (.istore 4, 2) := by decide +kernel
theorem dMd_learnTagged_9 : decode cMd_learnTagged 9 = .ok (.aload_n 0, 1) := by decide +kernel
theorem dMd_learnTagged_10 : decode cMd_learnTagged 10 = .ok (.iload 4, 2) := by decide +kernel
theorem dMd_learnTagged_12 : decode cMd_learnTagged 12 = .ok (.iload_n 1, 1) := by decide +kernel
theorem dMd_learnTagged_13 : decode cMd_learnTagged 13 = .ok (.iload_n 2, 1) := by decide +kernel
theorem dMd_learnTagged_14 : decode cMd_learnTagged 14 = .ok (.invokevirtual 119, 3) := by decide +kernel
theorem dMd_learnTagged_17 : decode cMd_learnTagged 17 = .ok (.istore 5, 2) := by decide +kernel
theorem dMd_learnTagged_19 : decode cMd_learnTagged 19 = .ok (.iload 4, 2) := by decide +kernel
theorem dMd_learnTagged_21 : decode cMd_learnTagged 21 = .ok (.ifCond .ge 30, 3) := by decide +kernel
theorem dMd_learnTagged_24 : decode cMd_learnTagged 24 = .ok (.aload_n 0, 1) := by decide +kernel
theorem dMd_learnTagged_25 : decode cMd_learnTagged 25 = .ok (.getfield 13, 3) := by decide +kernel
theorem dMd_learnTagged_28 : decode cMd_learnTagged 28 = .ok (.aload_n 0, 1) := by decide +kernel
theorem dMd_learnTagged_29 : decode cMd_learnTagged 29 = .ok (.iload_n 1, 1) := by decide +kernel
theorem dMd_learnTagged_30 : decode cMd_learnTagged 30 = .ok (.invokevirtual 105, 3) := by decide +kernel
theorem dMd_learnTagged_33 : decode cMd_learnTagged 33 = .ok (.aload_n 0, 1) := by decide +kernel
theorem dMd_learnTagged_34 : decode cMd_learnTagged 34 = .ok (.getfield 13, 3) := by decide +kernel
theorem dMd_learnTagged_37 : decode cMd_learnTagged 37 = .ok (.aload_n 0, 1) := by decide +kernel
theorem dMd_learnTagged_38 : decode cMd_learnTagged 38 = .ok (.iload_n 1, 1) := by decide +kernel
theorem dMd_learnTagged_39 : decode cMd_learnTagged 39 = .ok (.invokevirtual 105, 3) := by decide +kernel
theorem dMd_learnTagged_42 : decode cMd_learnTagged 42 = .ok (.iaload, 1) := by decide +kernel
theorem dMd_learnTagged_43 : decode cMd_learnTagged 43 = .ok (.iload_n 3, 1) := by decide +kernel
theorem dMd_learnTagged_44 : decode cMd_learnTagged 44 = .ok (.invokestatic 128, 3) := by decide +kernel
theorem dMd_learnTagged_47 : decode cMd_learnTagged 47 = .ok (.iastore, 1) := by decide +kernel
theorem dMd_learnTagged_48 : decode cMd_learnTagged 48 = .ok (.goto 114, 3) := by decide +kernel
theorem dMd_learnTagged_51 : decode cMd_learnTagged 51 = .ok (.aload_n 0, 1) := by decide +kernel
theorem dMd_learnTagged_52 : decode cMd_learnTagged 52 = .ok (.aload_n 0, 1) := by decide +kernel
theorem dMd_learnTagged_53 : decode cMd_learnTagged 53 = .ok (.iload 4, 2) := by decide +kernel
theorem dMd_learnTagged_55 : decode cMd_learnTagged 55 = .ok (.iload_n 1, 1) := by decide +kernel
theorem dMd_learnTagged_56 : decode cMd_learnTagged 56 = .ok (.iload_n 2, 1) := by decide +kernel
theorem dMd_learnTagged_57 : decode cMd_learnTagged 57 = .ok (.invokevirtual 116, 3) := by decide +kernel
theorem dMd_learnTagged_60 : decode cMd_learnTagged 60 = .ok (.iload_n 1, 1) := by decide +kernel
theorem dMd_learnTagged_61 : decode cMd_learnTagged 61 = .ok (.iload_n 2, 1) := by decide +kernel
theorem dMd_learnTagged_62 : decode cMd_learnTagged 62 = .ok (.invokevirtual 119, 3) := by decide +kernel
theorem dMd_learnTagged_65 : decode cMd_learnTagged 65 = .ok (.istore 6, 2) := by decide +kernel
theorem dMd_learnTagged_67 : decode cMd_learnTagged 67 = .ok (.aload_n 0, 1) := by decide +kernel
theorem dMd_learnTagged_68 : decode cMd_learnTagged 68 = .ok (.iload 4, 2) := by decide +kernel
theorem dMd_learnTagged_70 : decode cMd_learnTagged 70 = .ok (.iload_n 1, 1) := by decide +kernel
theorem dMd_learnTagged_71 : decode cMd_learnTagged 71 = .ok (.iload_n 2, 1) := by decide +kernel
theorem dMd_learnTagged_72 : decode cMd_learnTagged 72 = .ok (.invokevirtual 95, 3) := by decide +kernel
theorem dMd_learnTagged_75 : decode cMd_learnTagged 75 = .ok (.istore 7, 2) := by decide +kernel
theorem dMd_learnTagged_77 : decode cMd_learnTagged 77 = .ok (.aload_n 0, 1) := by decide +kernel
theorem dMd_learnTagged_78 : decode cMd_learnTagged 78 = .ok (.getfield 31, 3) := by decide +kernel
theorem dMd_learnTagged_81 : decode cMd_learnTagged 81 = .ok (.iload 7, 2) := by decide +kernel
theorem dMd_learnTagged_83 : decode cMd_learnTagged 83 = .ok (.iaload, 1) := by decide +kernel
theorem dMd_learnTagged_84 : decode cMd_learnTagged 84 = .ok (.iload_n 3, 1) := by decide +kernel
theorem dMd_learnTagged_85 : decode cMd_learnTagged 85 = .ok (.ifCond .eq 7, 3) := by decide +kernel
theorem dMd_learnTagged_88 : decode cMd_learnTagged 88 = .ok (.iconst 1, 1) := by decide +kernel
theorem dMd_learnTagged_89 : decode cMd_learnTagged 89 = .ok (.goto 4, 3) := by decide +kernel
theorem dMd_learnTagged_92 : decode cMd_learnTagged 92 = .ok (.iconst (-1), 1) := by decide +kernel
theorem dMd_learnTagged_93 : decode cMd_learnTagged 93 = .ok (.iadd, 1) := by decide +kernel
theorem dMd_learnTagged_94 : decode cMd_learnTagged 94 = .ok (.istore 8, 2) := by decide +kernel
theorem dMd_learnTagged_96 : decode cMd_learnTagged 96 = .ok (.aload_n 0, 1) := by decide +kernel
theorem dMd_learnTagged_97 : decode cMd_learnTagged 97 = .ok (.getfield 31, 3) := by decide +kernel
theorem dMd_learnTagged_100 : decode cMd_learnTagged 100 = .ok (.iload 7, 2) := by decide +kernel
theorem dMd_learnTagged_102 : decode cMd_learnTagged 102 = .ok (.iload 8, 2) := by decide +kernel
theorem dMd_learnTagged_104 : decode cMd_learnTagged 104 = .ok (.iconst 3, 1) := by decide +kernel
theorem dMd_learnTagged_105 : decode cMd_learnTagged 105 = .ok (.if_icmp .le 7, 3) := by decide +kernel
theorem dMd_learnTagged_108 : decode cMd_learnTagged 108 = .ok (.iconst 3, 1) := by decide +kernel
theorem dMd_learnTagged_109 : decode cMd_learnTagged 109 = .ok (.goto 17, 3) := by decide +kernel
theorem dMd_learnTagged_112 : decode cMd_learnTagged 112 = .ok (.iload 8, 2) := by decide +kernel
theorem dMd_learnTagged_114 : decode cMd_learnTagged 114 = .ok (.bipush (-4), 2) := by decide +kernel
theorem dMd_learnTagged_116 : decode cMd_learnTagged 116 = .ok (.if_icmp .ge 8, 3) := by decide +kernel
theorem dMd_learnTagged_119 : decode cMd_learnTagged 119 = .ok (.bipush (-4), 2) := by decide +kernel
theorem dMd_learnTagged_121 : decode cMd_learnTagged 121 = .ok (.goto 5, 3) := by decide +kernel
theorem dMd_learnTagged_124 : decode cMd_learnTagged 124 = .ok (.iload 8, 2) := by decide +kernel
theorem dMd_learnTagged_126 : decode cMd_learnTagged 126 = .ok (.iastore, 1) := by decide +kernel
theorem dMd_learnTagged_127 : decode cMd_learnTagged 127 = .ok (.iload 5, 2) := by decide +kernel
theorem dMd_learnTagged_129 : decode cMd_learnTagged 129 = .ok (.iload 6, 2) := by decide +kernel
theorem dMd_learnTagged_131 : decode cMd_learnTagged 131 = .ok (.if_icmp .eq 31, 3) := by decide +kernel
theorem dMd_learnTagged_134 : decode cMd_learnTagged 134 = .ok (.aload_n 0, 1) := by decide +kernel
theorem dMd_learnTagged_135 : decode cMd_learnTagged 135 = .ok (.getfield 34, 3) := by decide +kernel
theorem dMd_learnTagged_138 : decode cMd_learnTagged 138 = .ok (.iload 7, 2) := by decide +kernel
theorem dMd_learnTagged_140 : decode cMd_learnTagged 140 = .ok (.aload_n 0, 1) := by decide +kernel
theorem dMd_learnTagged_141 : decode cMd_learnTagged 141 = .ok (.getfield 34, 3) := by decide +kernel
theorem dMd_learnTagged_144 : decode cMd_learnTagged 144 = .ok (.iload 7, 2) := by decide +kernel
theorem dMd_learnTagged_146 : decode cMd_learnTagged 146 = .ok (.iaload, 1) := by decide +kernel
theorem dMd_learnTagged_147 : decode cMd_learnTagged 147 = .ok (.iload 5, 2) := by decide +kernel
theorem dMd_learnTagged_149 : decode cMd_learnTagged 149 = .ok (.iload_n 3, 1) := by decide +kernel
theorem dMd_learnTagged_150 : decode cMd_learnTagged 150 = .ok (.if_icmp .ne 7, 3) := by decide +kernel
theorem dMd_learnTagged_153 : decode cMd_learnTagged 153 = .ok (.iconst 1, 1) := by decide +kernel
theorem dMd_learnTagged_154 : decode cMd_learnTagged 154 = .ok (.goto 4, 3) := by decide +kernel
theorem dMd_learnTagged_157 : decode cMd_learnTagged 157 = .ok (.iconst 0, 1) := by decide +kernel
theorem dMd_learnTagged_158 : decode cMd_learnTagged 158 = .ok (.invokestatic 128, 3) := by decide +kernel
theorem dMd_learnTagged_161 : decode cMd_learnTagged 161 = .ok (.iastore, 1) := by decide +kernel
theorem dMd_learnTagged_162 : decode cMd_learnTagged 162 = .ok (.iload 5, 2) := by decide +kernel
theorem dMd_learnTagged_164 : decode cMd_learnTagged 164 = .ok (.iload_n 3, 1) := by decide +kernel
theorem dMd_learnTagged_165 : decode cMd_learnTagged 165 = .ok (.if_icmp .eq 14, 3) := by decide +kernel
theorem dMd_learnTagged_168 : decode cMd_learnTagged 168 = .ok (.aload_n 0, 1) := by decide +kernel
theorem dMd_learnTagged_169 : decode cMd_learnTagged 169 = .ok (.iload 4, 2) := by decide +kernel
theorem dMd_learnTagged_171 : decode cMd_learnTagged 171 = .ok (.iconst 1, 1) := by decide +kernel
theorem dMd_learnTagged_172 : decode cMd_learnTagged 172 = .ok (.iadd, 1) := by decide +kernel
theorem dMd_learnTagged_173 : decode cMd_learnTagged 173 = .ok (.iload_n 1, 1) := by decide +kernel
theorem dMd_learnTagged_174 : decode cMd_learnTagged 174 = .ok (.iload_n 2, 1) := by decide +kernel
theorem dMd_learnTagged_175 : decode cMd_learnTagged 175 = .ok (.iload_n 3, 1) := by decide +kernel
theorem dMd_learnTagged_176 : decode cMd_learnTagged 176 = .ok (.invokevirtual 132, 3) := by decide +kernel
theorem dMd_learnTagged_179 : decode cMd_learnTagged 179 = .ok (.return_, 1) := by decide +kernel
theorem dMd_learnSums_0 : decode cMd_learnSums 0 = .ok (.aload_n 0, 1) := by decide +kernel
theorem dMd_learnSums_1 : decode cMd_learnSums 1 = .ok (.iload_n 1, 1) := by decide +kernel
theorem dMd_learnSums_2 : decode cMd_learnSums 2 = .ok (.iload_n 2, 1) := by decide +kernel
theorem dMd_learnSums_3 : decode cMd_learnSums 3 = .ok (.invokevirtual 122, 3) := by decide +kernel
theorem dMd_learnSums_6 : decode cMd_learnSums 6 = .ok (.istore 4, 2) := by decide +kernel
theorem dMd_learnSums_8 : decode cMd_learnSums 8 = .ok (.iload 4, 2) := by decide +kernel
theorem dMd_learnSums_10 : decode cMd_learnSums 10 = .ok (.ifCond .lt 7, 3) := by decide +kernel
theorem dMd_learnSums_13 : decode cMd_learnSums 13 = .ok (.iconst 1, 1) := by decide +kernel
theorem dMd_learnSums_14 : decode cMd_learnSums 14 = .ok (.goto 4, 3) := by decide +kernel
theorem dMd_learnSums_17 : decode cMd_learnSums 17 = .ok (.iconst 0, 1) := by decide +kernel
theorem dMd_learnSums_18 : decode cMd_learnSums 18 = .ok (.iload_n 3, 1) := by decide +kernel
theorem dMd_learnSums_19 : decode cMd_learnSums 19 = .ok (.if_icmp .ne 18, 3) := by decide +kernel
theorem dMd_learnSums_22 : decode cMd_learnSums 22 = .ok (.iload 4, 2) := by decide +kernel
theorem dMd_learnSums_24 : decode cMd_learnSums 24 = .ok (.bipush 29, 2) := by decide +kernel
theorem dMd_learnSums_26 : decode cMd_learnSums 26 = .ok (.if_icmp .gt 10, 3) := by decide +kernel
theorem dMd_learnSums_29 : decode cMd_learnSums 29 = .ok (.iload 4, 2) := by decide +kernel
theorem dMd_learnSums_31 : decode cMd_learnSums 31 = .ok (.bipush (-29), 2) := by decide +kernel
theorem dMd_learnSums_33 : decode cMd_learnSums 33 = .ok (.if_icmp .ge 4, 3) := by decide +kernel
theorem dMd_learnSums_36 : decode cMd_learnSums 36 = .ok (.return_, 1) := by decide +kernel
theorem dMd_learnSums_37 : decode cMd_learnSums 37 = .ok (.bipush 9, 2) := by decide +kernel
theorem dMd_learnSums_39 : decode cMd_learnSums 39 = .ok (.aload_n 0, 1) := by decide +kernel
theorem dMd_learnSums_40 : decode cMd_learnSums 40 = .ok (.iload_n 1, 1) := by decide +kernel
theorem dMd_learnSums_41 : decode cMd_learnSums 41 = .ok (.invokevirtual 105, 3) := by decide +kernel
theorem dMd_learnSums_44 : decode cMd_learnSums 44 = .ok (.imul, 1) := by decide +kernel
theorem dMd_learnSums_45 : decode cMd_learnSums 45 = .ok (.istore 5, 2) := by decide +kernel
theorem dMd_learnSums_47 : decode cMd_learnSums 47 = .ok (.aload_n 0, 1) := by decide +kernel
theorem dMd_learnSums_48 : decode cMd_learnSums 48 = .ok (.iload 5, 2) := by decide +kernel
theorem dMd_learnSums_50 : decode cMd_learnSums 50 = .ok (.iload_n 3, 1) := by decide +kernel
theorem dMd_learnSums_51 : decode cMd_learnSums 51 = .ok (.invokevirtual 136, 3) := by decide +kernel
theorem dMd_learnSums_54 : decode cMd_learnSums 54 = .ok (.iconst 0, 1) := by decide +kernel
theorem dMd_learnSums_55 : decode cMd_learnSums 55 = .ok (.istore 6, 2) := by decide +kernel
theorem dMd_learnSums_57 : decode cMd_learnSums 57 = .ok (.iload 6, 2) := by decide +kernel
theorem dMd_learnSums_59 : decode cMd_learnSums 59 = .ok (.bipush 8, 2) := by decide +kernel
theorem dMd_learnSums_61 : decode cMd_learnSums 61 = .ok (.if_icmp .ge 44, 3) := by decide +kernel
theorem dMd_learnSums_64 : decode cMd_learnSums 64 = .ok (.aload_n 0, 1) := by decide +kernel
theorem dMd_learnSums_65 : decode cMd_learnSums 65 = .ok (.iload 5, 2) := by decide +kernel
theorem dMd_learnSums_67 : decode cMd_learnSums 67 = .ok (.iload 6, 2) := by decide +kernel
theorem dMd_learnSums_69 : decode cMd_learnSums 69 = .ok (.iadd, 1) := by decide +kernel
theorem dMd_learnSums_70 : decode cMd_learnSums 70 = .ok (.iconst 1, 1) := by decide +kernel
theorem dMd_learnSums_71 : decode cMd_learnSums 71 = .ok (.iadd, 1) := by decide +kernel
theorem dMd_learnSums_72 : decode cMd_learnSums 72 = .ok (.iload_n 2, 1) := by decide +kernel
theorem dMd_learnSums_73 : decode cMd_learnSums 73 = .ok (.iload 6, 2) := by decide +kernel
theorem dMd_learnSums_75 : decode cMd_learnSums 75 = .ok (.iushr, 1) := by decide +kernel
theorem dMd_learnSums_76 : decode cMd_learnSums 76 = .ok (.iconst 1, 1) := by decide +kernel
theorem dMd_learnSums_77 : decode cMd_learnSums 77 = .ok (.iand, 1) := by decide +kernel
theorem dMd_learnSums_78 : decode cMd_learnSums 78 = .ok (.iconst 1, 1) := by decide +kernel
theorem dMd_learnSums_79 : decode cMd_learnSums 79 = .ok (.if_icmp .ne 7, 3) := by decide +kernel
theorem dMd_learnSums_82 : decode cMd_learnSums 82 = .ok (.iconst 1, 1) := by decide +kernel
theorem dMd_learnSums_83 : decode cMd_learnSums 83 = .ok (.goto 4, 3) := by decide +kernel
theorem dMd_learnSums_86 : decode cMd_learnSums 86 = .ok (.iconst 0, 1) := by decide +kernel
theorem dMd_learnSums_87 : decode cMd_learnSums 87 = .ok (.iload_n 3, 1) := by decide +kernel
theorem dMd_learnSums_88 : decode cMd_learnSums 88 = .ok (.if_icmp .ne 7, 3) := by decide +kernel
theorem dMd_learnSums_91 : decode cMd_learnSums 91 = .ok (.iconst 1, 1) := by decide +kernel
theorem dMd_learnSums_92 : decode cMd_learnSums 92 = .ok (.goto 4, 3) := by decide +kernel
theorem dMd_learnSums_95 : decode cMd_learnSums 95 = .ok (.iconst 0, 1) := by decide +kernel
theorem dMd_learnSums_96 : decode cMd_learnSums 96 = .ok (.invokevirtual 136, 3) := by decide +kernel
theorem dMd_learnSums_99 : decode cMd_learnSums 99 = .ok (.iinc 6 1, 3) := by decide +kernel
theorem dMd_learnSums_102 : decode cMd_learnSums 102 = .ok (.goto (-45), 3) := by decide +kernel
theorem dMd_learnSums_105 : decode cMd_learnSums 105 = .ok (.return_, 1) := by decide +kernel
theorem dMd_clearLoop_0 : decode cMd_clearLoop 0 = .ok (.aload_n 0, 1) := by decide +kernel
theorem dMd_clearLoop_1 : decode cMd_clearLoop 1 = .ok (.getfield 49, 3) := by decide +kernel
theorem dMd_clearLoop_4 : decode cMd_clearLoop 4 = .ok (.iload_n 1, 1) := by decide +kernel
theorem dMd_clearLoop_5 : decode cMd_clearLoop 5 = .ok (.iconst 0, 1) := by decide +kernel
theorem dMd_clearLoop_6 : decode cMd_clearLoop 6 = .ok (.iastore, 1) := by decide +kernel
theorem dMd_clearLoop_7 : decode cMd_clearLoop 7 = .ok (.aload_n 0, 1) := by decide +kernel
theorem dMd_clearLoop_8 : decode cMd_clearLoop 8 = .ok (.getfield 43, 3) := by decide +kernel
theorem dMd_clearLoop_11 : decode cMd_clearLoop 11 = .ok (.iload_n 1, 1) := by decide +kernel
theorem dMd_clearLoop_12 : decode cMd_clearLoop 12 = .ok (.iconst 0, 1) := by decide +kernel
theorem dMd_clearLoop_13 : decode cMd_clearLoop 13 = .ok (.iastore, 1) := by decide +kernel
theorem dMd_clearLoop_14 : decode cMd_clearLoop 14 = .ok (.aload_n 0, 1) := by decide +kernel
theorem dMd_clearLoop_15 : decode cMd_clearLoop 15 = .ok (.getfield 46, 3) := by decide +kernel
theorem dMd_clearLoop_18 : decode cMd_clearLoop 18 = .ok (.iload_n 1, 1) := by decide +kernel
theorem dMd_clearLoop_19 : decode cMd_clearLoop 19 = .ok (.iconst 0, 1) := by decide +kernel
theorem dMd_clearLoop_20 : decode cMd_clearLoop 20 = .ok (.iastore, 1) := by decide +kernel
theorem dMd_clearLoop_21 : decode cMd_clearLoop 21 = .ok (.return_, 1) := by decide +kernel
theorem dMd_learnLoop_0 : decode cMd_learnLoop 0 = .ok (.aload_n 0, 1) := by decide +kernel
theorem dMd_learnLoop_1 : decode cMd_learnLoop 1 = .ok (.iload_n 1, 1) := by decide +kernel
theorem dMd_learnLoop_2 : decode cMd_learnLoop 2 = .ok (.invokevirtual 105, 3) := by decide +kernel
theorem dMd_learnLoop_5 : decode cMd_learnLoop 5 = .ok (.istore_n 3, 1) := by decide +kernel
theorem dMd_learnLoop_6 : decode cMd_learnLoop 6 = .ok (.aload_n 0, 1) := by decide +kernel
theorem dMd_learnLoop_7 : decode cMd_learnLoop 7 = .ok (.getfield 13, 3) := by decide +kernel
theorem dMd_learnLoop_10 : decode cMd_learnLoop 10 = .ok (.iload_n 3, 1) := by decide +kernel
theorem dMd_learnLoop_11 : decode cMd_learnLoop 11 = .ok (.aload_n 0, 1) := by decide +kernel
theorem dMd_learnLoop_12 : decode cMd_learnLoop 12 = .ok (.getfield 13, 3) := by decide +kernel
theorem dMd_learnLoop_15 : decode cMd_learnLoop 15 = .ok (.iload_n 3, 1) := by decide +kernel
theorem dMd_learnLoop_16 : decode cMd_learnLoop 16 = .ok (.iaload, 1) := by decide +kernel
theorem dMd_learnLoop_17 : decode cMd_learnLoop 17 = .ok (.iload_n 2, 1) := by decide +kernel
theorem dMd_learnLoop_18 : decode cMd_learnLoop 18 = .ok (.invokestatic 128, 3) := by decide +kernel
theorem dMd_learnLoop_21 : decode cMd_learnLoop 21 = .ok (.iastore, 1) := by decide +kernel
theorem dMd_learnLoop_22 : decode cMd_learnLoop 22 = .ok (.aload_n 0, 1) := by decide +kernel
theorem dMd_learnLoop_23 : decode cMd_learnLoop 23 = .ok (.iload_n 1, 1) := by decide +kernel
theorem dMd_learnLoop_24 : decode cMd_learnLoop 24 = .ok (.invokevirtual 108, 3) := by decide +kernel
theorem dMd_learnLoop_27 : decode cMd_learnLoop 27 = .ok (.istore 4, 2) := by decide +kernel
theorem dMd_learnLoop_29 : decode cMd_learnLoop 29 = .ok (.iload 4, 2) := by decide +kernel
theorem dMd_learnLoop_31 : decode cMd_learnLoop 31 = .ok (.ifCond .ne 8, 3) := by decide +kernel
theorem dMd_learnLoop_34 : decode cMd_learnLoop 34 = .ok (.iload_n 2, 1) := by decide +kernel
theorem dMd_learnLoop_35 : decode cMd_learnLoop 35 = .ok (.ifCond .eq 4, 3) := by decide +kernel
theorem dMd_learnLoop_38 : decode cMd_learnLoop 38 = .ok (.return_, 1) := by decide +kernel
theorem dMd_learnLoop_39 : decode cMd_learnLoop 39 = .ok (.iload 4, 2) := by decide +kernel
theorem dMd_learnLoop_41 : decode cMd_learnLoop 41 = .ok (.ifCond .ne 27, 3) := by decide +kernel
theorem dMd_learnLoop_44 : decode cMd_learnLoop 44 = .ok (.aload_n 0, 1) := by decide +kernel
theorem dMd_learnLoop_45 : decode cMd_learnLoop 45 = .ok (.getfield 40, 3) := by decide +kernel
theorem dMd_learnLoop_48 : decode cMd_learnLoop 48 = .ok (.iload_n 3, 1) := by decide +kernel
theorem dMd_learnLoop_49 : decode cMd_learnLoop 49 = .ok (.iload_n 1, 1) := by decide +kernel
theorem dMd_learnLoop_50 : decode cMd_learnLoop 50 = .ok (.aload_n 0, 1) := by decide +kernel
theorem dMd_learnLoop_51 : decode cMd_learnLoop 51 = .ok (.getfield 73, 3) := by decide +kernel
theorem dMd_learnLoop_54 : decode cMd_learnLoop 54 = .ok (.iushr, 1) := by decide +kernel
theorem dMd_learnLoop_55 : decode cMd_learnLoop 55 = .ok (.sipush 255, 3) := by decide +kernel
theorem dMd_learnLoop_58 : decode cMd_learnLoop 58 = .ok (.iand, 1) := by decide +kernel
theorem dMd_learnLoop_59 : decode cMd_learnLoop 59 = .ok (.iastore, 1) := by decide +kernel
theorem dMd_learnLoop_60 : decode cMd_learnLoop 60 = .ok (.aload_n 0, 1) := by decide +kernel
theorem dMd_learnLoop_61 : decode cMd_learnLoop 61 = .ok (.iload_n 3, 1) := by decide +kernel
theorem dMd_learnLoop_62 : decode cMd_learnLoop 62 = .ok (.invokevirtual 140, 3) := by decide +kernel
theorem dMd_learnLoop_65 : decode cMd_learnLoop 65 = .ok (.goto 127, 3) := by decide +kernel
theorem dMd_learnLoop_68 : decode cMd_learnLoop 68 = .ok (.iload_n 2, 1) := by decide +kernel
theorem dMd_learnLoop_69 : decode cMd_learnLoop 69 = .ok (.ifCond .eq 57, 3) := by decide +kernel
theorem dMd_learnLoop_72 : decode cMd_learnLoop 72 = .ok (.aload_n 0, 1) := by decide +kernel
theorem dMd_learnLoop_73 : decode cMd_learnLoop 73 = .ok (.getfield 46, 3) := by decide +kernel
theorem dMd_learnLoop_76 : decode cMd_learnLoop 76 = .ok (.iload_n 3, 1) := by decide +kernel
theorem dMd_learnLoop_77 : decode cMd_learnLoop 77 = .ok (.dup2, 1) := by decide +kernel
theorem dMd_learnLoop_78 : decode cMd_learnLoop 78 = .ok (.iaload, 1) := by decide +kernel
theorem dMd_learnLoop_79 : decode cMd_learnLoop 79 = .ok (.iconst 1, 1) := by decide +kernel
theorem dMd_learnLoop_80 : decode cMd_learnLoop 80 = .ok (.iadd, 1) := by decide +kernel
theorem dMd_learnLoop_81 : decode cMd_learnLoop 81 = .ok (.iastore, 1) := by decide +kernel
theorem dMd_learnLoop_82 : decode cMd_learnLoop 82 = .ok (.aload_n 0, 1) := by decide +kernel
theorem dMd_learnLoop_83 : decode cMd_learnLoop 83 = .ok (.getfield 46, 3) := by decide +kernel
theorem dMd_learnLoop_86 : decode cMd_learnLoop 86 = .ok (.iload_n 3, 1) := by decide +kernel
theorem dMd_learnLoop_87 : decode cMd_learnLoop 87 = .ok (.iaload, 1) := by decide +kernel
theorem dMd_learnLoop_88 : decode cMd_learnLoop 88 = .ok (.sipush 1000, 3) := by decide +kernel
theorem dMd_learnLoop_91 : decode cMd_learnLoop 91 = .ok (.if_icmp .gt 27, 3) := by decide +kernel
theorem dMd_learnLoop_94 : decode cMd_learnLoop 94 = .ok (.aload_n 0, 1) := by decide +kernel
theorem dMd_learnLoop_95 : decode cMd_learnLoop 95 = .ok (.getfield 49, 3) := by decide +kernel
theorem dMd_learnLoop_98 : decode cMd_learnLoop 98 = .ok (.iload_n 3, 1) := by decide +kernel
theorem dMd_learnLoop_99 : decode cMd_learnLoop 99 = .ok (.iaload, 1) := by decide +kernel
theorem dMd_learnLoop_100 : decode cMd_learnLoop 100 = .ok (.ifCond .le 92, 3) := by decide +kernel
theorem dMd_learnLoop_103 : decode cMd_learnLoop 103 = .ok (.aload_n 0, 1) := by decide +kernel
theorem dMd_learnLoop_104 : decode cMd_learnLoop 104 = .ok (.getfield 46, 3) := by decide +kernel
theorem dMd_learnLoop_107 : decode cMd_learnLoop 107 = .ok (.iload_n 3, 1) := by decide +kernel
theorem dMd_learnLoop_108 : decode cMd_learnLoop 108 = .ok (.iaload, 1) := by decide +kernel
theorem dMd_learnLoop_109 : decode cMd_learnLoop 109 = .ok (.aload_n 0, 1) := by decide +kernel
theorem dMd_learnLoop_110 : decode cMd_learnLoop 110 = .ok (.getfield 43, 3) := by decide +kernel
theorem dMd_learnLoop_113 : decode cMd_learnLoop 113 = .ok (.iload_n 3, 1) := by decide +kernel
theorem dMd_learnLoop_114 : decode cMd_learnLoop 114 = .ok (.iaload, 1) := by decide +kernel
theorem dMd_learnLoop_115 : decode cMd_learnLoop 115 = .ok (.if_icmp .le 77, 3) := by decide +kernel
theorem dMd_learnLoop_118 : decode cMd_learnLoop 118 = .ok (.aload_n 0, 1) := by decide +kernel
theorem dMd_learnLoop_119 : decode cMd_learnLoop 119 = .ok (.iload_n 3, 1) := by decide +kernel
theorem dMd_learnLoop_120 : decode cMd_learnLoop 120 = .ok (.invokevirtual 140, 3) := by decide +kernel
theorem dMd_learnLoop_123 : decode cMd_learnLoop 123 = .ok (.goto 69, 3) := by decide +kernel
theorem dMd_learnLoop_126 : decode cMd_learnLoop 126 = .ok (.aload_n 0, 1) := by decide +kernel
theorem dMd_learnLoop_127 : decode cMd_learnLoop 127 = .ok (.getfield 46, 3) := by decide +kernel
theorem dMd_learnLoop_130 : decode cMd_learnLoop 130 = .ok (.iload_n 3, 1) := by decide +kernel
theorem dMd_learnLoop_131 : decode cMd_learnLoop 131 = .ok (.iaload, 1) := by decide +kernel
theorem dMd_learnLoop_132 : decode cMd_learnLoop 132 = .ok (.aload_n 0, 1) := by decide +kernel
theorem dMd_learnLoop_133 : decode cMd_learnLoop 133 = .ok (.getfield 43, 3) := by decide +kernel
theorem dMd_learnLoop_136 : decode cMd_learnLoop 136 = .ok (.iload_n 3, 1) := by decide +kernel
theorem dMd_learnLoop_137 : decode cMd_learnLoop 137 = .ok (.iaload, 1) := by decide +kernel
theorem dMd_learnLoop_138 : decode cMd_learnLoop 138 = .ok (.if_icmp .ne 7, 3) := by decide +kernel
theorem dMd_learnLoop_141 : decode cMd_learnLoop 141 = .ok (.iconst 1, 1) := by decide +kernel
theorem dMd_learnLoop_142 : decode cMd_learnLoop 142 = .ok (.goto 4, 3) := by decide +kernel
theorem dMd_learnLoop_145 : decode cMd_learnLoop 145 = .ok (.iconst 0, 1) := by decide +kernel
theorem dMd_learnLoop_146 : decode cMd_learnLoop 146 = .ok (.istore 5, 2) := by decide +kernel
