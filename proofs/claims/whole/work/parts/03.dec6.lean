theorem dMd_update_203 : decode cMd_update 203 = .ok (.aload_n 0, 1) := by decide +kernel
theorem dMd_update_204 : decode cMd_update 204 = .ok (.getfield 166, 3) := by decide +kernel
theorem dMd_update_207 : decode cMd_update 207 = .ok (.if_icmp .ge 57, 3) := by decide +kernel
theorem dMd_update_210 : decode cMd_update 210 = .ok (.aload_n 0, 1) := by decide +kernel
theorem dMd_update_211 : decode cMd_update 211 = .ok (.getfield 52, 3) := by decide +kernel
theorem dMd_update_214 : decode cMd_update 214 = .ok (.iload 6, 2) := by decide +kernel
theorem dMd_update_216 : decode cMd_update 216 = .ok (.aload_n 0, 1) := by decide +kernel
theorem dMd_update_217 : decode cMd_update 217 = .ok (.getfield 52, 3) := by decide +kernel
theorem dMd_update_220 : decode cMd_update 220 = .ok (.iload 6, 2) := by decide +kernel
theorem dMd_update_222 : decode cMd_update 222 = .ok (.iconst 1, 1) := by decide +kernel
theorem dMd_update_223 : decode cMd_update 223 = .ok (.iadd, 1) := by decide +kernel
theorem dMd_update_224 : decode cMd_update 224 = .ok (.iaload, 1) := by decide +kernel
theorem dMd_update_225 : decode cMd_update 225 = .ok (.iastore, 1) := by decide +kernel
theorem dMd_update_226 : decode cMd_update 226 = .ok (.aload_n 0, 1) := by decide +kernel
theorem dMd_update_227 : decode cMd_update 227 = .ok (.getfield 55, 3) := by decide +kernel
theorem dMd_update_230 : decode cMd_update 230 = .ok (.iload 6, 2) := by decide +kernel
theorem dMd_update_232 : decode cMd_update 232 = .ok (.aload_n 0, 1) := by decide +kernel
theorem dMd_update_233 : decode cMd_update 233 = .ok (.getfield 55, 3) := by decide +kernel
theorem dMd_update_236 : decode cMd_update 236 = .ok (.iload 6, 2) := by decide +kernel
theorem dMd_update_238 : decode cMd_update 238 = .ok (.iconst 1, 1) := by decide +kernel
theorem dMd_update_239 : decode cMd_update 239 = .ok (.iadd, 1) := by decide +kernel
theorem dMd_update_240 : decode cMd_update 240 = .ok (.iaload, 1) := by decide +kernel
theorem dMd_update_241 : decode cMd_update 241 = .ok (.iastore, 1) := by decide +kernel
theorem dMd_update_242 : decode cMd_update 242 = .ok (.aload_n 0, 1) := by decide +kernel
theorem dMd_update_243 : decode cMd_update 243 = .ok (.getfield 58, 3) := by decide +kernel
theorem dMd_update_246 : decode cMd_update 246 = .ok (.iload 6, 2) := by decide +kernel
theorem dMd_update_248 : decode cMd_update 248 = .ok (.aload_n 0, 1) := by decide +kernel
theorem dMd_update_249 : decode cMd_update 249 = .ok (.getfield 58, 3) := by decide +kernel
theorem dMd_update_252 : decode cMd_update 252 = .ok (.iload 6, 2) := by decide +kernel
theorem dMd_update_254 : decode cMd_update 254 = .ok (.iconst 1, 1) := by decide +kernel
theorem dMd_update_255 : decode cMd_update 255 = .ok (.iadd, 1) := by decide +kernel
theorem dMd_update_256 : decode cMd_update 256 = .ok (.baload, 1) := by decide +kernel
theorem dMd_update_257 : decode cMd_update 257 = .ok (.bastore, 1) := by decide +kernel
theorem dMd_update_258 : decode cMd_update 258 = .ok (.iinc 6 1, 3) := by decide +kernel
theorem dMd_update_261 : decode cMd_update 261 = .ok (.goto (-60), 3) := by decide +kernel
theorem dMd_update_264 : decode cMd_update 264 = .ok (.iload 5, 2) := by decide +kernel
theorem dMd_update_266 : decode cMd_update 266 = .ok (.ireturn, 1) := by decide +kernel
theorem dMd_early_0 : decode cMd_early 0 = .ok (.aload_n 0, 1) := by decide +kernel
theorem dMd_early_1 : decode cMd_early 1 = .ok (.iconst 0, 1) := by decide +kernel
theorem dMd_early_2 : decode cMd_early 2 = .ok (.putfield 82, 3) := by decide +kernel
theorem dMd_early_5 : decode cMd_early 5 = .ok (.aload_n 0, 1) := by decide +kernel
theorem dMd_early_6 : decode cMd_early 6 = .ok (.getfield 162, 3) := by decide +kernel
theorem dMd_early_9 : decode cMd_early 9 = .ok (.istore_n 2, 1) := by decide +kernel
theorem dMd_early_10 : decode cMd_early 10 = .ok (.aload_n 0, 1) := by decide +kernel
theorem dMd_early_11 : decode cMd_early 11 = .ok (.iload_n 1, 1) := by decide +kernel
theorem dMd_early_12 : decode cMd_early 12 = .ok (.putfield 162, 3) := by decide +kernel
theorem dMd_early_15 : decode cMd_early 15 = .ok (.aload_n 0, 1) := by decide +kernel
theorem dMd_early_16 : decode cMd_early 16 = .ok (.iconst 0, 1) := by decide +kernel
theorem dMd_early_17 : decode cMd_early 17 = .ok (.putfield 166, 3) := by decide +kernel
theorem dMd_early_20 : decode cMd_early 20 = .ok (.iload_n 2, 1) := by decide +kernel
theorem dMd_early_21 : decode cMd_early 21 = .ok (.ireturn, 1) := by decide +kernel
theorem dMd_history_0 : decode cMd_history 0 = .ok (.aload_n 0, 1) := by decide +kernel
theorem dMd_history_1 : decode cMd_history 1 = .ok (.iconst 0, 1) := by decide +kernel
theorem dMd_history_2 : decode cMd_history 2 = .ok (.putfield 82, 3) := by decide +kernel
theorem dMd_history_5 : decode cMd_history 5 = .ok (.aload_n 0, 1) := by decide +kernel
theorem dMd_history_6 : decode cMd_history 6 = .ok (.getfield 155, 3) := by decide +kernel
theorem dMd_history_9 : decode cMd_history 9 = .ok (.ireturn, 1) := by decide +kernel
theorem dMd_mark_0 : decode cMd_mark 0 = .ok (.aload_n 0, 1) := by decide +kernel
theorem dMd_mark_1 : decode cMd_mark 1 = .ok (.iconst 0, 1) := by decide +kernel
theorem dMd_mark_2 : decode cMd_mark 2 = .ok (.putfield 82, 3) := by decide +kernel
theorem dMd_mark_5 : decode cMd_mark 5 = .ok (.aload_n 0, 1) := by decide +kernel
theorem dMd_mark_6 : decode cMd_mark 6 = .ok (.getfield 187, 3) := by decide +kernel
theorem dMd_mark_9 : decode cMd_mark 9 = .ok (.bipush 32, 2) := by decide +kernel
theorem dMd_mark_11 : decode cMd_mark 11 = .ok (.if_icmp .ne 9, 3) := by decide +kernel
theorem dMd_mark_14 : decode cMd_mark 14 = .ok (.aload_n 0, 1) := by decide +kernel
theorem dMd_mark_15 : decode cMd_mark 15 = .ok (.iconst 1, 1) := by decide +kernel
theorem dMd_mark_16 : decode cMd_mark 16 = .ok (.invokevirtual 190, 3) := by decide +kernel
theorem dMd_mark_19 : decode cMd_mark 19 = .ok (.ireturn, 1) := by decide +kernel
theorem dMd_mark_20 : decode cMd_mark 20 = .ok (.aload_n 0, 1) := by decide +kernel
theorem dMd_mark_21 : decode cMd_mark 21 = .ok (.getfield 62, 3) := by decide +kernel
theorem dMd_mark_24 : decode cMd_mark 24 = .ok (.aload_n 0, 1) := by decide +kernel
theorem dMd_mark_25 : decode cMd_mark 25 = .ok (.getfield 187, 3) := by decide +kernel
theorem dMd_mark_28 : decode cMd_mark 28 = .ok (.aload_n 0, 1) := by decide +kernel
theorem dMd_mark_29 : decode cMd_mark 29 = .ok (.getfield 155, 3) := by decide +kernel
theorem dMd_mark_32 : decode cMd_mark 32 = .ok (.iastore, 1) := by decide +kernel
theorem dMd_mark_33 : decode cMd_mark 33 = .ok (.aload_n 0, 1) := by decide +kernel
theorem dMd_mark_34 : decode cMd_mark 34 = .ok (.dup, 1) := by decide +kernel
theorem dMd_mark_35 : decode cMd_mark 35 = .ok (.getfield 187, 3) := by decide +kernel
theorem dMd_mark_38 : decode cMd_mark 38 = .ok (.iconst 1, 1) := by decide +kernel
theorem dMd_mark_39 : decode cMd_mark 39 = .ok (.iadd, 1) := by decide +kernel
theorem dMd_mark_40 : decode cMd_mark 40 = .ok (.putfield 187, 3) := by decide +kernel
theorem dMd_mark_43 : decode cMd_mark 43 = .ok (.aload_n 0, 1) := by decide +kernel
theorem dMd_mark_44 : decode cMd_mark 44 = .ok (.getfield 187, 3) := by decide +kernel
theorem dMd_mark_47 : decode cMd_mark 47 = .ok (.iconst 1, 1) := by decide +kernel
theorem dMd_mark_48 : decode cMd_mark 48 = .ok (.isub, 1) := by decide +kernel
theorem dMd_mark_49 : decode cMd_mark 49 = .ok (.ireturn, 1) := by decide +kernel
theorem dMd_repair_0 : decode cMd_repair 0 = .ok (.aload_n 0, 1) := by decide +kernel
theorem dMd_repair_1 : decode cMd_repair 1 = .ok (.iconst 0, 1) := by decide +kernel
theorem dMd_repair_2 : decode cMd_repair 2 = .ok (.putfield 82, 3) := by decide +kernel
theorem dMd_repair_5 : decode cMd_repair 5 = .ok (.iload_n 1, 1) := by decide +kernel
theorem dMd_repair_6 : decode cMd_repair 6 = .ok (.ifCond .lt 11, 3) := by decide +kernel
theorem dMd_repair_9 : decode cMd_repair 9 = .ok (.iload_n 1, 1) := by decide +kernel
theorem dMd_repair_10 : decode cMd_repair 10 = .ok (.aload_n 0, 1) := by decide +kernel
theorem dMd_repair_11 : decode cMd_repair 11 = .ok (.getfield 187, 3) := by decide +kernel
theorem dMd_repair_14 : decode cMd_repair 14 = .ok (.if_icmp .lt 9, 3) := by decide +kernel
theorem dMd_repair_17 : decode cMd_repair 17 = .ok (.aload_n 0, 1) := by decide +kernel
theorem dMd_repair_18 : decode cMd_repair 18 = .ok (.iconst 1, 1) := by decide +kernel
theorem dMd_repair_19 : decode cMd_repair 19 = .ok (.invokevirtual 190, 3) := by decide +kernel
theorem dMd_repair_22 : decode cMd_repair 22 = .ok (.ireturn, 1) := by decide +kernel
theorem dMd_repair_23 : decode cMd_repair 23 = .ok (.aload_n 0, 1) := by decide +kernel
theorem dMd_repair_24 : decode cMd_repair 24 = .ok (.getfield 155, 3) := by decide +kernel
theorem dMd_repair_27 : decode cMd_repair 27 = .ok (.istore_n 2, 1) := by decide +kernel
theorem dMd_repair_28 : decode cMd_repair 28 = .ok (.aload_n 0, 1) := by decide +kernel
theorem dMd_repair_29 : decode cMd_repair 29 = .ok (.aload_n 0, 1) := by decide +kernel
theorem dMd_repair_30 : decode cMd_repair 30 = .ok (.getfield 62, 3) := by decide +kernel
theorem dMd_repair_33 : decode cMd_repair 33 = .ok (.iload_n 1, 1) := by decide +kernel
theorem dMd_repair_34 : decode cMd_repair 34 = .ok (.iaload, 1) := by decide +kernel
theorem dMd_repair_35 : decode cMd_repair 35 = .ok (.putfield 155, 3) := by decide +kernel
theorem dMd_repair_38 : decode cMd_repair 38 = .ok (.aload_n 0, 1) := by decide +kernel
theorem dMd_repair_39 : decode cMd_repair 39 = .ok (.iload_n 1, 1) := by decide +kernel
theorem dMd_repair_40 : decode cMd_repair 40 = .ok (.iconst 1, 1) := by decide +kernel
theorem dMd_repair_41 : decode cMd_repair 41 = .ok (.iadd, 1) := by decide +kernel
theorem dMd_repair_42 : decode cMd_repair 42 = .ok (.putfield 187, 3) := by decide +kernel
theorem dMd_repair_45 : decode cMd_repair 45 = .ok (.aload_n 0, 1) := by decide +kernel
theorem dMd_repair_46 : decode cMd_repair 46 = .ok (.iconst 0, 1) := by decide +kernel
theorem dMd_repair_47 : decode cMd_repair 47 = .ok (.putfield 166, 3) := by decide +kernel
theorem dMd_repair_50 : decode cMd_repair 50 = .ok (.iload_n 2, 1) := by decide +kernel
theorem dMd_repair_51 : decode cMd_repair 51 = .ok (.ireturn, 1) := by decide +kernel
theorem dMd_row_0 : decode cMd_row 0 = .ok (.aload_n 0, 1) := by decide +kernel
theorem dMd_row_1 : decode cMd_row 1 = .ok (.iconst 0, 1) := by decide +kernel
theorem dMd_row_2 : decode cMd_row 2 = .ok (.putfield 82, 3) := by decide +kernel
theorem dMd_row_5 : decode cMd_row 5 = .ok (.aload_n 0, 1) := by decide +kernel
theorem dMd_row_6 : decode cMd_row 6 = .ok (.iload_n 1, 1) := by decide +kernel
theorem dMd_row_7 : decode cMd_row 7 = .ok (.invokevirtual 105, 3) := by decide +kernel
theorem dMd_row_10 : decode cMd_row 10 = .ok (.istore_n 2, 1) := by decide +kernel
theorem dMd_row_11 : decode cMd_row 11 = .ok (.aload_n 0, 1) := by decide +kernel
theorem dMd_row_12 : decode cMd_row 12 = .ok (.getfield 69, 3) := by decide +kernel
theorem dMd_row_15 : decode cMd_row 15 = .ok (.bipush 6, 2) := by decide +kernel
theorem dMd_row_17 : decode cMd_row 17 = .ok (.if_icmp .ne 16, 3) := by decide +kernel
theorem dMd_row_20 : decode cMd_row 20 = .ok (.aload_n 0, 1) := by decide +kernel
theorem dMd_row_21 : decode cMd_row 21 = .ok (.iconst 3, 1) := by decide +kernel
theorem dMd_row_22 : decode cMd_row 22 = .ok (.iload_n 1, 1) := by decide +kernel
theorem dMd_row_23 : decode cMd_row 23 = .ok (.aload_n 0, 1) := by decide +kernel
theorem dMd_row_24 : decode cMd_row 24 = .ok (.getfield 155, 3) := by decide +kernel
theorem dMd_row_27 : decode cMd_row 27 = .ok (.invokevirtual 116, 3) := by decide +kernel
theorem dMd_row_30 : decode cMd_row 30 = .ok (.goto 4, 3) := by decide +kernel
theorem dMd_row_33 : decode cMd_row 33 = .ok (.iconst (-1), 1) := by decide +kernel
theorem dMd_row_34 : decode cMd_row 34 = .ok (.istore_n 3, 1) := by decide +kernel
theorem dMd_row_35 : decode cMd_row 35 = .ok (.aload_n 0, 1) := by decide +kernel
theorem dMd_row_36 : decode cMd_row 36 = .ok (.getfield 69, 3) := by decide +kernel
theorem dMd_row_39 : decode cMd_row 39 = .ok (.tableswitch 135 0 9 #[123, 53, 135, 60, 75, 87, 135, 94, 104, 125], 53) := by decide +kernel
theorem dMd_row_92 : decode cMd_row 92 = .ok (.aload_n 0, 1) := by decide +kernel
theorem dMd_row_93 : decode cMd_row 93 = .ok (.getfield 7, 3) := by decide +kernel
theorem dMd_row_96 : decode cMd_row 96 = .ok (.iload_n 2, 1) := by decide +kernel
theorem dMd_row_97 : decode cMd_row 97 = .ok (.iaload, 1) := by decide +kernel
theorem dMd_row_98 : decode cMd_row 98 = .ok (.ireturn, 1) := by decide +kernel
theorem dMd_row_99 : decode cMd_row 99 = .ok (.aload_n 0, 1) := by decide +kernel
theorem dMd_row_100 : decode cMd_row 100 = .ok (.getfield 16, 3) := by decide +kernel
theorem dMd_row_103 : decode cMd_row 103 = .ok (.aload_n 0, 1) := by decide +kernel
theorem dMd_row_104 : decode cMd_row 104 = .ok (.iload_n 1, 1) := by decide +kernel
theorem dMd_row_105 : decode cMd_row 105 = .ok (.aload_n 0, 1) := by decide +kernel
theorem dMd_row_106 : decode cMd_row 106 = .ok (.getfield 155, 3) := by decide +kernel
theorem dMd_row_109 : decode cMd_row 109 = .ok (.invokevirtual 112, 3) := by decide +kernel
theorem dMd_row_112 : decode cMd_row 112 = .ok (.iaload, 1) := by decide +kernel
theorem dMd_row_113 : decode cMd_row 113 = .ok (.ireturn, 1) := by decide +kernel
theorem dMd_row_114 : decode cMd_row 114 = .ok (.aload_n 0, 1) := by decide +kernel
theorem dMd_row_115 : decode cMd_row 115 = .ok (.getfield 25, 3) := by decide +kernel
theorem dMd_row_118 : decode cMd_row 118 = .ok (.aload_n 0, 1) := by decide +kernel
theorem dMd_row_119 : decode cMd_row 119 = .ok (.getfield 22, 3) := by decide +kernel
theorem dMd_row_122 : decode cMd_row 122 = .ok (.iload_n 2, 1) := by decide +kernel
theorem dMd_row_123 : decode cMd_row 123 = .ok (.iaload, 1) := by decide +kernel
theorem dMd_row_124 : decode cMd_row 124 = .ok (.iaload, 1) := by decide +kernel
theorem dMd_row_125 : decode cMd_row 125 = .ok (.ireturn, 1) := by decide +kernel
theorem dMd_row_126 : decode cMd_row 126 = .ok (.aload_n 0, 1) := by decide +kernel
theorem dMd_row_127 : decode cMd_row 127 = .ok (.getfield 19, 3) := by decide +kernel
theorem dMd_row_130 : decode cMd_row 130 = .ok (.iload_n 2, 1) := by decide +kernel
theorem dMd_row_131 : decode cMd_row 131 = .ok (.iaload, 1) := by decide +kernel
theorem dMd_row_132 : decode cMd_row 132 = .ok (.ireturn, 1) := by decide +kernel
theorem dMd_row_133 : decode cMd_row 133 = .ok (.aload_n 0, 1) := by decide +kernel
theorem dMd_row_134 : decode cMd_row 134 = .ok (.iload_n 1, 1) := by decide +kernel
theorem dMd_row_135 : decode cMd_row 135 = .ok (.aload_n 0, 1) := by decide +kernel
theorem dMd_row_136 : decode cMd_row 136 = .ok (.getfield 155, 3) := by decide +kernel
theorem dMd_row_139 : decode cMd_row 139 = .ok (.invokevirtual 122, 3) := by decide +kernel
theorem dMd_row_142 : decode cMd_row 142 = .ok (.ireturn, 1) := by decide +kernel
theorem dMd_row_143 : decode cMd_row 143 = .ok (.aload_n 0, 1) := by decide +kernel
theorem dMd_row_144 : decode cMd_row 144 = .ok (.iload_n 1, 1) := by decide +kernel
theorem dMd_row_145 : decode cMd_row 145 = .ok (.invokevirtual 108, 3) := by decide +kernel
theorem dMd_row_148 : decode cMd_row 148 = .ok (.ifCond .eq 12, 3) := by decide +kernel
theorem dMd_row_151 : decode cMd_row 151 = .ok (.aload_n 0, 1) := by decide +kernel
theorem dMd_row_152 : decode cMd_row 152 = .ok (.getfield 49, 3) := by decide +kernel
theorem dMd_row_155 : decode cMd_row 155 = .ok (.iload_n 2, 1) := by decide +kernel
theorem dMd_row_156 : decode cMd_row 156 = .ok (.iaload, 1) := by decide +kernel
theorem dMd_row_157 : decode cMd_row 157 = .ok (.goto 4, 3) := by decide +kernel
theorem dMd_row_160 : decode cMd_row 160 = .ok (.iconst (-1), 1) := by decide +kernel
theorem dMd_row_161 : decode cMd_row 161 = .ok (.ireturn, 1) := by decide +kernel
theorem dMd_row_162 : decode cMd_row 162 = .ok (.iconst 1, 1) := by decide +kernel
theorem dMd_row_163 : decode cMd_row 163 = .ok (.ireturn, 1) := by decide +kernel
theorem dMd_row_164 : decode cMd_row 164 = .ok (.aload_n 0, 1) := by decide +kernel
theorem dMd_row_165 : decode cMd_row 165 = .ok (.getfield 79, 3) := by decide +kernel
theorem dMd_row_168 : decode cMd_row 168 = .ok (.bipush 16, 2) := by decide +kernel
theorem dMd_row_170 : decode cMd_row 170 = .ok (.iushr, 1) := by decide +kernel
theorem dMd_row_171 : decode cMd_row 171 = .ok (.iconst 1, 1) := by decide +kernel
theorem dMd_row_172 : decode cMd_row 172 = .ok (.iand, 1) := by decide +kernel
theorem dMd_row_173 : decode cMd_row 173 = .ok (.ireturn, 1) := by decide +kernel
theorem dMd_row_174 : decode cMd_row 174 = .ok (.iload_n 3, 1) := by decide +kernel
theorem dMd_row_175 : decode cMd_row 175 = .ok (.ifCond .ge 12, 3) := by decide +kernel
theorem dMd_row_178 : decode cMd_row 178 = .ok (.aload_n 0, 1) := by decide +kernel
theorem dMd_row_179 : decode cMd_row 179 = .ok (.getfield 13, 3) := by decide +kernel
theorem dMd_row_182 : decode cMd_row 182 = .ok (.iload_n 2, 1) := by decide +kernel
theorem dMd_row_183 : decode cMd_row 183 = .ok (.iaload, 1) := by decide +kernel
theorem dMd_row_184 : decode cMd_row 184 = .ok (.goto 18, 3) := by decide +kernel
theorem dMd_row_187 : decode cMd_row 187 = .ok (.aload_n 0, 1) := by decide +kernel
theorem dMd_row_188 : decode cMd_row 188 = .ok (.getfield 31, 3) := by decide +kernel
theorem dMd_row_191 : decode cMd_row 191 = .ok (.aload_n 0, 1) := by decide +kernel
theorem dMd_row_192 : decode cMd_row 192 = .ok (.iload_n 3, 1) := by decide +kernel
theorem dMd_row_193 : decode cMd_row 193 = .ok (.iload_n 1, 1) := by decide +kernel
theorem dMd_row_194 : decode cMd_row 194 = .ok (.aload_n 0, 1) := by decide +kernel
theorem dMd_row_195 : decode cMd_row 195 = .ok (.getfield 155, 3) := by decide +kernel
theorem dMd_row_198 : decode cMd_row 198 = .ok (.invokevirtual 95, 3) := by decide +kernel
theorem dMd_row_201 : decode cMd_row 201 = .ok (.iaload, 1) := by decide +kernel
theorem dMd_row_202 : decode cMd_row 202 = .ok (.ireturn, 1) := by decide +kernel
theorem dMd_part_0 : decode cMd_part 0 = .ok (.aload_n 0, 1) := by decide +kernel
theorem dMd_part_1 : decode cMd_part 1 = .ok (.iconst 0, 1) := by decide +kernel
theorem dMd_part_2 : decode cMd_part 2 = .ok (.putfield 82, 3) := by decide +kernel
theorem dMd_part_5 : decode cMd_part 5 = .ok (.aload_n 0, 1) := by decide +kernel
theorem dMd_part_6 : decode cMd_part 6 = .ok (.getfield 69, 3) := by decide +kernel
theorem dMd_part_9 : decode cMd_part 9 = .ok (.iconst 5, 1) := by decide +kernel
theorem dMd_part_10 : decode cMd_part 10 = .ok (.if_icmp .ne 23, 3) := by decide +kernel
theorem dMd_part_13 : decode cMd_part 13 = .ok (.aload_n 0, 1) := by decide +kernel
theorem dMd_part_14 : decode cMd_part 14 = .ok (.getfield 19, 3) := by decide +kernel
theorem dMd_part_17 : decode cMd_part 17 = .ok (.aload_n 0, 1) := by decide +kernel
theorem dMd_part_18 : decode cMd_part 18 = .ok (.iload_n 1, 1) := by decide +kernel
theorem dMd_part_19 : decode cMd_part 19 = .ok (.invokevirtual 105, 3) := by decide +kernel
theorem dMd_part_22 : decode cMd_part 22 = .ok (.iaload, 1) := by decide +kernel
theorem dMd_part_23 : decode cMd_part 23 = .ok (.iconst 1, 1) := by decide +kernel
theorem dMd_part_24 : decode cMd_part 24 = .ok (.if_icmp .le 7, 3) := by decide +kernel
theorem dMd_part_27 : decode cMd_part 27 = .ok (.iconst 3, 1) := by decide +kernel
theorem dMd_part_28 : decode cMd_part 28 = .ok (.goto 4, 3) := by decide +kernel
theorem dMd_part_31 : decode cMd_part 31 = .ok (.iconst 2, 1) := by decide +kernel
theorem dMd_part_32 : decode cMd_part 32 = .ok (.ireturn, 1) := by decide +kernel
theorem dMd_part_33 : decode cMd_part 33 = .ok (.aload_n 0, 1) := by decide +kernel
theorem dMd_part_34 : decode cMd_part 34 = .ok (.getfield 69, 3) := by decide +kernel
theorem dMd_part_37 : decode cMd_part 37 = .ok (.bipush 6, 2) := by decide +kernel
theorem dMd_part_39 : decode cMd_part 39 = .ok (.if_icmp .ne 14, 3) := by decide +kernel
theorem dMd_part_42 : decode cMd_part 42 = .ok (.aload_n 0, 1) := by decide +kernel
theorem dMd_part_43 : decode cMd_part 43 = .ok (.iconst 3, 1) := by decide +kernel
theorem dMd_part_44 : decode cMd_part 44 = .ok (.iload_n 1, 1) := by decide +kernel
theorem dMd_part_45 : decode cMd_part 45 = .ok (.aload_n 0, 1) := by decide +kernel
theorem dMd_part_46 : decode cMd_part 46 = .ok (.getfield 155, 3) := by decide +kernel
theorem dMd_part_49 : decode cMd_part 49 = .ok (.invokevirtual 116, 3) := by decide +kernel
theorem dMd_part_52 : decode cMd_part 52 = .ok (.ireturn, 1) := by decide +kernel
theorem dMd_part_53 : decode cMd_part 53 = .ok (.aload_n 0, 1) := by decide +kernel
theorem dMd_part_54 : decode cMd_part 54 = .ok (.getfield 69, 3) := by decide +kernel
theorem dMd_part_57 : decode cMd_part 57 = .ok (.bipush 8, 2) := by decide +kernel
theorem dMd_part_59 : decode cMd_part 59 = .ok (.if_icmp .ne 15, 3) := by decide +kernel
theorem dMd_part_62 : decode cMd_part 62 = .ok (.aload_n 0, 1) := by decide +kernel
theorem dMd_part_63 : decode cMd_part 63 = .ok (.iload_n 1, 1) := by decide +kernel
theorem dMd_part_64 : decode cMd_part 64 = .ok (.invokevirtual 125, 3) := by decide +kernel
theorem dMd_part_67 : decode cMd_part 67 = .ok (.ifCond .eq 7, 3) := by decide +kernel
theorem dMd_part_70 : decode cMd_part 70 = .ok (.iconst 1, 1) := by decide +kernel
theorem dMd_part_71 : decode cMd_part 71 = .ok (.goto 4, 3) := by decide +kernel
theorem dMd_part_74 : decode cMd_part 74 = .ok (.iconst 0, 1) := by decide +kernel
theorem dMd_part_75 : decode cMd_part 75 = .ok (.ireturn, 1) := by decide +kernel
theorem dMd_storage_0 : decode cMd_storage 0 = .ok (.aload_n 0, 1) := by decide +kernel
theorem dMd_storage_1 : decode cMd_storage 1 = .ok (.iconst 0, 1) := by decide +kernel
theorem dMd_storage_2 : decode cMd_storage 2 = .ok (.putfield 82, 3) := by decide +kernel
theorem dMd_storage_5 : decode cMd_storage 5 = .ok (.aload_n 0, 1) := by decide +kernel
theorem dMd_storage_6 : decode cMd_storage 6 = .ok (.getfield 69, 3) := by decide +kernel
theorem dMd_storage_9 : decode cMd_storage 9 = .ok (.tableswitch 128 0 8 #[51, 53, 58, 65, 75, 87, 98, 109, 120], 51) := by decide +kernel
theorem dMd_storage_60 : decode cMd_storage 60 = .ok (.iconst 0, 1) := by decide +kernel
theorem dMd_storage_61 : decode cMd_storage 61 = .ok (.ireturn, 1) := by decide +kernel
theorem dMd_storage_62 : decode cMd_storage 62 = .ok (.aload_n 0, 1) := by decide +kernel
theorem dMd_storage_63 : decode cMd_storage 63 = .ok (.getfield 76, 3) := by decide +kernel
theorem dMd_storage_66 : decode cMd_storage 66 = .ok (.ireturn, 1) := by decide +kernel
theorem dMd_storage_67 : decode cMd_storage 67 = .ok (.iconst 2, 1) := by decide +kernel
theorem dMd_storage_68 : decode cMd_storage 68 = .ok (.aload_n 0, 1) := by decide +kernel
theorem dMd_storage_69 : decode cMd_storage 69 = .ok (.getfield 76, 3) := by decide +kernel
theorem dMd_storage_72 : decode cMd_storage 72 = .ok (.imul, 1) := by decide +kernel
theorem dMd_storage_73 : decode cMd_storage 73 = .ok (.ireturn, 1) := by decide +kernel
theorem dMd_storage_74 : decode cMd_storage 74 = .ok (.iconst 2, 1) := by decide +kernel
theorem dMd_storage_75 : decode cMd_storage 75 = .ok (.aload_n 0, 1) := by decide +kernel
theorem dMd_storage_76 : decode cMd_storage 76 = .ok (.getfield 76, 3) := by decide +kernel
theorem dMd_storage_79 : decode cMd_storage 79 = .ok (.imul, 1) := by decide +kernel
theorem dMd_storage_80 : decode cMd_storage 80 = .ok (.bipush 32, 2) := by decide +kernel
theorem dMd_storage_82 : decode cMd_storage 82 = .ok (.iadd, 1) := by decide +kernel
theorem dMd_storage_83 : decode cMd_storage 83 = .ok (.ireturn, 1) := by decide +kernel
theorem dMd_storage_84 : decode cMd_storage 84 = .ok (.aload_n 0, 1) := by decide +kernel
theorem dMd_storage_85 : decode cMd_storage 85 = .ok (.getfield 73, 3) := by decide +kernel
theorem dMd_storage_88 : decode cMd_storage 88 = .ok (.iconst 2, 1) := by decide +kernel
theorem dMd_storage_89 : decode cMd_storage 89 = .ok (.iadd, 1) := by decide +kernel
theorem dMd_storage_90 : decode cMd_storage 90 = .ok (.aload_n 0, 1) := by decide +kernel
theorem dMd_storage_91 : decode cMd_storage 91 = .ok (.getfield 76, 3) := by decide +kernel
theorem dMd_storage_94 : decode cMd_storage 94 = .ok (.imul, 1) := by decide +kernel
theorem dMd_storage_95 : decode cMd_storage 95 = .ok (.ireturn, 1) := by decide +kernel
theorem dMd_storage_96 : decode cMd_storage 96 = .ok (.bipush 6, 2) := by decide +kernel
theorem dMd_storage_98 : decode cMd_storage 98 = .ok (.aload_n 0, 1) := by decide +kernel
theorem dMd_storage_99 : decode cMd_storage 99 = .ok (.getfield 76, 3) := by decide +kernel
theorem dMd_storage_102 : decode cMd_storage 102 = .ok (.imul, 1) := by decide +kernel
theorem dMd_storage_103 : decode cMd_storage 103 = .ok (.bipush 32, 2) := by decide +kernel
theorem dMd_storage_105 : decode cMd_storage 105 = .ok (.iadd, 1) := by decide +kernel
theorem dMd_storage_106 : decode cMd_storage 106 = .ok (.ireturn, 1) := by decide +kernel
theorem dMd_storage_107 : decode cMd_storage 107 = .ok (.bipush 41, 2) := by decide +kernel
theorem dMd_storage_109 : decode cMd_storage 109 = .ok (.aload_n 0, 1) := by decide +kernel
theorem dMd_storage_110 : decode cMd_storage 110 = .ok (.getfield 76, 3) := by decide +kernel
theorem dMd_storage_113 : decode cMd_storage 113 = .ok (.imul, 1) := by decide +kernel
theorem dMd_storage_114 : decode cMd_storage 114 = .ok (.bipush 32, 2) := by decide +kernel
theorem dMd_storage_116 : decode cMd_storage 116 = .ok (.iadd, 1) := by decide +kernel
theorem dMd_storage_117 : decode cMd_storage 117 = .ok (.ireturn, 1) := by decide +kernel
theorem dMd_storage_118 : decode cMd_storage 118 = .ok (.bipush 63, 2) := by decide +kernel
theorem dMd_storage_120 : decode cMd_storage 120 = .ok (.aload_n 0, 1) := by decide +kernel
theorem dMd_storage_121 : decode cMd_storage 121 = .ok (.getfield 76, 3) := by decide +kernel
theorem dMd_storage_124 : decode cMd_storage 124 = .ok (.imul, 1) := by decide +kernel
theorem dMd_storage_125 : decode cMd_storage 125 = .ok (.bipush 32, 2) := by decide +kernel
theorem dMd_storage_127 : decode cMd_storage 127 = .ok (.iadd, 1) := by decide +kernel
theorem dMd_storage_128 : decode cMd_storage 128 = .ok (.ireturn, 1) := by decide +kernel
theorem dMd_storage_129 : decode cMd_storage 129 = .ok (.bipush 32, 2) := by decide +kernel
theorem dMd_storage_131 : decode cMd_storage 131 = .ok (.aload_n 0, 1) := by decide +kernel
theorem dMd_storage_132 : decode cMd_storage 132 = .ok (.getfield 76, 3) := by decide +kernel
theorem dMd_storage_135 : decode cMd_storage 135 = .ok (.imul, 1) := by decide +kernel
theorem dMd_storage_136 : decode cMd_storage 136 = .ok (.ireturn, 1) := by decide +kernel
theorem dMd_storage_137 : decode cMd_storage 137 = .ok (.bipush 32, 2) := by decide +kernel
theorem dMd_storage_139 : decode cMd_storage 139 = .ok (.ireturn, 1) := by decide +kernel
theorem dMd_count_0 : decode cMd_count 0 = .ok (.aload_n 0, 1) := by decide +kernel
theorem dMd_count_1 : decode cMd_count 1 = .ok (.iconst 0, 1) := by decide +kernel
theorem dMd_count_2 : decode cMd_count 2 = .ok (.putfield 82, 3) := by decide +kernel
theorem dMd_count_5 : decode cMd_count 5 = .ok (.iload_n 1, 1) := by decide +kernel
theorem dMd_count_6 : decode cMd_count 6 = .ok (.tableswitch 86 0 7 #[46, 51, 56, 61, 66, 71, 76, 81], 46) := by decide +kernel
theorem dMd_count_52 : decode cMd_count 52 = .ok (.aload_n 0, 1) := by decide +kernel
theorem dMd_count_53 : decode cMd_count 53 = .ok (.getfield 175, 3) := by decide +kernel
theorem dMd_count_56 : decode cMd_count 56 = .ok (.ireturn, 1) := by decide +kernel
theorem dMd_count_57 : decode cMd_count 57 = .ok (.aload_n 0, 1) := by decide +kernel
theorem dMd_count_58 : decode cMd_count 58 = .ok (.getfield 178, 3) := by decide +kernel
theorem dMd_count_61 : decode cMd_count 61 = .ok (.ireturn, 1) := by decide +kernel
theorem dMd_count_62 : decode cMd_count 62 = .ok (.aload_n 0, 1) := by decide +kernel
theorem dMd_count_63 : decode cMd_count 63 = .ok (.getfield 181, 3) := by decide +kernel
theorem dMd_count_66 : decode cMd_count 66 = .ok (.ireturn, 1) := by decide +kernel
theorem dMd_count_67 : decode cMd_count 67 = .ok (.aload_n 0, 1) := by decide +kernel
theorem dMd_count_68 : decode cMd_count 68 = .ok (.getfield 166, 3) := by decide +kernel
theorem dMd_count_71 : decode cMd_count 71 = .ok (.ireturn, 1) := by decide +kernel
theorem dMd_count_72 : decode cMd_count 72 = .ok (.aload_n 0, 1) := by decide +kernel
theorem dMd_count_73 : decode cMd_count 73 = .ok (.getfield 187, 3) := by decide +kernel
theorem dMd_count_76 : decode cMd_count 76 = .ok (.ireturn, 1) := by decide +kernel
theorem dMd_count_77 : decode cMd_count 77 = .ok (.aload_n 0, 1) := by decide +kernel
theorem dMd_count_78 : decode cMd_count 78 = .ok (.getfield 184, 3) := by decide +kernel
theorem dMd_count_81 : decode cMd_count 81 = .ok (.ireturn, 1) := by decide +kernel
theorem dMd_count_82 : decode cMd_count 82 = .ok (.aload_n 0, 1) := by decide +kernel
theorem dMd_count_83 : decode cMd_count 83 = .ok (.getfield 69, 3) := by decide +kernel
theorem dMd_count_86 : decode cMd_count 86 = .ok (.ireturn, 1) := by decide +kernel
theorem dMd_count_87 : decode cMd_count 87 = .ok (.aload_n 0, 1) := by decide +kernel
theorem dMd_count_88 : decode cMd_count 88 = .ok (.getfield 73, 3) := by decide +kernel
theorem dMd_count_91 : decode cMd_count 91 = .ok (.ireturn, 1) := by decide +kernel
theorem dMd_count_92 : decode cMd_count 92 = .ok (.iconst (-1), 1) := by decide +kernel
theorem dMd_count_93 : decode cMd_count 93 = .ok (.ireturn, 1) := by decide +kernel
theorem dMd_several_0 : decode cMd_several 0 = .ok (.aload_n 0, 1) := by decide +kernel
theorem dMd_several_1 : decode cMd_several 1 = .ok (.iconst 0, 1) := by decide +kernel
theorem dMd_several_2 : decode cMd_several 2 = .ok (.putfield 82, 3) := by decide +kernel
theorem dMd_several_5 : decode cMd_several 5 = .ok (.iload_n 2, 1) := by decide +kernel
theorem dMd_several_6 : decode cMd_several 6 = .ok (.iconst 1, 1) := by decide +kernel
theorem dMd_several_7 : decode cMd_several 7 = .ok (.if_icmp .lt 9, 3) := by decide +kernel
theorem dMd_several_10 : decode cMd_several 10 = .ok (.iload_n 2, 1) := by decide +kernel
theorem dMd_several_11 : decode cMd_several 11 = .ok (.bipush 16, 2) := by decide +kernel
theorem dMd_several_13 : decode cMd_several 13 = .ok (.if_icmp .le 9, 3) := by decide +kernel
theorem dMd_several_16 : decode cMd_several 16 = .ok (.aload_n 0, 1) := by decide +kernel
theorem dMd_several_17 : decode cMd_several 17 = .ok (.iconst 1, 1) := by decide +kernel
theorem dMd_several_18 : decode cMd_several 18 = .ok (.invokevirtual 190, 3) := by decide +kernel
theorem dMd_several_21 : decode cMd_several 21 = .ok (.ireturn, 1) := by decide +kernel
theorem dMd_several_22 : decode cMd_several 22 = .ok (.iconst 0, 1) := by decide +kernel
theorem dMd_several_23 : decode cMd_several 23 = .ok (.istore_n 3, 1) := by decide +kernel
theorem dMd_several_24 : decode cMd_several 24 = .ok (.aload_n 0, 1) := by decide +kernel
theorem dMd_several_25 : decode cMd_several 25 = .ok (.getfield 155, 3) := by decide +kernel
theorem dMd_several_28 : decode cMd_several 28 = .ok (.istore 4, 2) := by decide +kernel
theorem dMd_several_30 : decode cMd_several 30 = .ok (.iconst 0, 1) := by decide +kernel
theorem dMd_several_31 : decode cMd_several 31 = .ok (.istore 5, 2) := by decide +kernel
theorem dMd_several_33 : decode cMd_several 33 = .ok (.iload 5, 2) := by decide +kernel
theorem dMd_several_35 : decode cMd_several 35 = .ok (.iload_n 2, 1) := by decide +kernel
theorem dMd_several_36 : decode cMd_several 36 = .ok (.if_icmp .ge 48, 3) := by decide +kernel
theorem dMd_several_39 : decode cMd_several 39 = .ok (.aload_n 0, 1) := by decide +kernel
theorem dMd_several_40 : decode cMd_several 40 = .ok (.iload_n 1, 1) := by decide +kernel
theorem dMd_several_41 : decode cMd_several 41 = .ok (.iconst 4, 1) := by decide +kernel
theorem dMd_several_42 : decode cMd_several 42 = .ok (.iload 5, 2) := by decide +kernel
theorem dMd_several_44 : decode cMd_several 44 = .ok (.imul, 1) := by decide +kernel
theorem dMd_several_45 : decode cMd_several 45 = .ok (.iadd, 1) := by decide +kernel
theorem dMd_several_46 : decode cMd_several 46 = .ok (.iload 4, 2) := by decide +kernel
theorem dMd_several_48 : decode cMd_several 48 = .ok (.invokevirtual 158, 3) := by decide +kernel
theorem dMd_several_51 : decode cMd_several 51 = .ok (.istore 6, 2) := by decide +kernel
theorem dMd_several_53 : decode cMd_several 53 = .ok (.iload 6, 2) := by decide +kernel
theorem dMd_several_55 : decode cMd_several 55 = .ok (.ifCond .eq 12, 3) := by decide +kernel
theorem dMd_several_58 : decode cMd_several 58 = .ok (.iload_n 3, 1) := by decide +kernel
theorem dMd_several_59 : decode cMd_several 59 = .ok (.iconst 1, 1) := by decide +kernel
theorem dMd_several_60 : decode cMd_several 60 = .ok (.iload 5, 2) := by decide +kernel
theorem dMd_several_62 : decode cMd_several 62 = .ok (.ishl, 1) := by decide +kernel
theorem dMd_several_63 : decode cMd_several 63 = .ok (.ior, 1) := by decide +kernel
theorem dMd_several_64 : decode cMd_several 64 = .ok (.goto 4, 3) := by decide +kernel
theorem dMd_several_67 : decode cMd_several 67 = .ok (.iload_n 3, 1) := by decide +kernel
theorem dMd_several_68 : decode cMd_several 68 = .ok (.istore_n 3, 1) := by decide +kernel
theorem dMd_several_69 : decode cMd_several 69 = .ok (.iload 4, 2) := by decide +kernel
theorem dMd_several_71 : decode cMd_several 71 = .ok (.iload 6, 2) := by decide +kernel
theorem dMd_several_73 : decode cMd_several 73 = .ok (.invokestatic 169, 3) := by decide +kernel
theorem dMd_several_76 : decode cMd_several 76 = .ok (.istore 4, 2) := by decide +kernel
theorem dMd_several_78 : decode cMd_several 78 = .ok (.iinc 5 1, 3) := by decide +kernel
theorem dMd_several_81 : decode cMd_several 81 = .ok (.goto (-48), 3) := by decide +kernel
theorem dMd_several_84 : decode cMd_several 84 = .ok (.iload_n 3, 1) := by decide +kernel
theorem dMd_several_85 : decode cMd_several 85 = .ok (.ireturn, 1) := by decide +kernel
