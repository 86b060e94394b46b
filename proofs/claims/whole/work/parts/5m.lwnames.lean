/-! THE LAW: names, words, decode rows -/
abbrev cLw_cell : ByteArray := method_2_code
def yLw_cell : MethodName := ⟨R_Lw, "cell", "([II)I"⟩
abbrev wLw_cell : List Cond := .code yLw_cell cLw_cell 2 (some .int) :: GW
theorem kLw_cell : Cond.code yLw_cell cLw_cell 2 (some .int) ∈ GW := gwm 661 (by decide +kernel) (by decide +kernel)
theorem pLw_cell : yLw_cell.cls ≠ "java/lang/invoke/MethodHandle" ∧ yLw_cell.cls ≠ "java/lang/invoke/VarHandle" ∧ (parseMethodDescriptor yLw_cell.desc).map (fun d => d.parameters.length) = some 2 := by decide +kernel
theorem qLw_cell : Cond.static yLw_cell ∈ GW := gwm 660 (by decide +kernel) (by decide +kernel)
theorem iLw_cell : Cond.initialized yLw_cell.cls ∈ GW := gwm 0 (by decide +kernel) (by decide +kernel)
theorem dLw_cell_0 : decode cLw_cell 0 = .ok (.iload_n 1, 1) := by decide +kernel
theorem dLw_cell_1 : decode cLw_cell 1 = .ok (.aload_n 0, 1) := by decide +kernel
theorem dLw_cell_2 : decode cLw_cell 2 = .ok (.arraylength, 1) := by decide +kernel
theorem dLw_cell_3 : decode cLw_cell 3 = .ok (.if_icmp .ge 9, 3) := by decide +kernel
theorem dLw_cell_6 : decode cLw_cell 6 = .ok (.aload_n 0, 1) := by decide +kernel
theorem dLw_cell_7 : decode cLw_cell 7 = .ok (.iload_n 1, 1) := by decide +kernel
theorem dLw_cell_8 : decode cLw_cell 8 = .ok (.iaload, 1) := by decide +kernel
theorem dLw_cell_9 : decode cLw_cell 9 = .ok (.goto 4, 3) := by decide +kernel
theorem dLw_cell_12 : decode cLw_cell 12 = .ok (.iconst 0, 1) := by decide +kernel
theorem dLw_cell_13 : decode cLw_cell 13 = .ok (.ireturn, 1) := by decide +kernel
abbrev cLw_mark : ByteArray := method_3_code
def yLw_mark : MethodName := ⟨R_Lw, "mark", "(LPredictorKinds;[J)I"⟩
abbrev wLw_mark : List Cond := .codeWith yLw_mark cLw_mark 3 (some .int) [(0, 8, 11, 13)] :: GW
theorem kLw_mark : Cond.codeWith yLw_mark cLw_mark 3 (some .int) [(0, 8, 11, 13)] ∈ GW := gwm 664 (by decide +kernel) (by decide +kernel)
theorem pLw_mark : yLw_mark.cls ≠ "java/lang/invoke/MethodHandle" ∧ yLw_mark.cls ≠ "java/lang/invoke/VarHandle" ∧ (parseMethodDescriptor yLw_mark.desc).map (fun d => d.parameters.length) = some 2 := by decide +kernel
theorem qLw_mark : Cond.static yLw_mark ∈ GW := gwm 663 (by decide +kernel) (by decide +kernel)
theorem iLw_mark : Cond.initialized yLw_mark.cls ∈ GW := gwm 0 (by decide +kernel) (by decide +kernel)
theorem dLw_mark_0 : decode cLw_mark 0 = .ok (.aload_n 1, 1) := by decide +kernel
theorem dLw_mark_1 : decode cLw_mark 1 = .ok (.iconst 0, 1) := by decide +kernel
theorem dLw_mark_2 : decode cLw_mark 2 = .ok (.aload_n 0, 1) := by decide +kernel
theorem dLw_mark_3 : decode cLw_mark 3 = .ok (.invokevirtual 7, 3) := by decide +kernel
theorem dLw_mark_6 : decode cLw_mark 6 = .ok (.i2l, 1) := by decide +kernel
theorem dLw_mark_7 : decode cLw_mark 7 = .ok (.lastore, 1) := by decide +kernel
theorem dLw_mark_8 : decode cLw_mark 8 = .ok (.goto 6, 3) := by decide +kernel
theorem dLw_mark_11 : decode cLw_mark 11 = .ok (.astore_n 2, 1) := by decide +kernel
theorem dLw_mark_12 : decode cLw_mark 12 = .ok (.iconst 1, 1) := by decide +kernel
theorem dLw_mark_13 : decode cLw_mark 13 = .ok (.ireturn, 1) := by decide +kernel
theorem dLw_mark_14 : decode cLw_mark 14 = .ok (.iconst 0, 1) := by decide +kernel
theorem dLw_mark_15 : decode cLw_mark 15 = .ok (.ireturn, 1) := by decide +kernel
abbrev cLw_repair : ByteArray := method_4_code
def yLw_repair : MethodName := ⟨R_Lw, "repair", "(LPredictorKinds;I[J)I"⟩
abbrev wLw_repair : List Cond := .codeWith yLw_repair cLw_repair 4 (some .int) [(0, 9, 12, 19)] :: GW
theorem kLw_repair : Cond.codeWith yLw_repair cLw_repair 4 (some .int) [(0, 9, 12, 19)] ∈ GW := gwm 740 (by decide +kernel) (by decide +kernel)
theorem pLw_repair : yLw_repair.cls ≠ "java/lang/invoke/MethodHandle" ∧ yLw_repair.cls ≠ "java/lang/invoke/VarHandle" ∧ (parseMethodDescriptor yLw_repair.desc).map (fun d => d.parameters.length) = some 3 := by decide +kernel
theorem qLw_repair : Cond.static yLw_repair ∈ GW := gwm 739 (by decide +kernel) (by decide +kernel)
theorem iLw_repair : Cond.initialized yLw_repair.cls ∈ GW := gwm 0 (by decide +kernel) (by decide +kernel)
theorem dLw_repair_0 : decode cLw_repair 0 = .ok (.aload_n 2, 1) := by decide +kernel
theorem dLw_repair_1 : decode cLw_repair 1 = .ok (.iconst 0, 1) := by decide +kernel
theorem dLw_repair_2 : decode cLw_repair 2 = .ok (.aload_n 0, 1) := by decide +kernel
theorem dLw_repair_3 : decode cLw_repair 3 = .ok (.iload_n 1, 1) := by decide +kernel
theorem dLw_repair_4 : decode cLw_repair 4 = .ok (.invokevirtual 15, 3) := by decide +kernel
theorem dLw_repair_7 : decode cLw_repair 7 = .ok (.i2l, 1) := by decide +kernel
theorem dLw_repair_8 : decode cLw_repair 8 = .ok (.lastore, 1) := by decide +kernel
theorem dLw_repair_9 : decode cLw_repair 9 = .ok (.goto 6, 3) := by decide +kernel
theorem dLw_repair_12 : decode cLw_repair 12 = .ok (.astore_n 3, 1) := by decide +kernel
theorem dLw_repair_13 : decode cLw_repair 13 = .ok (.iconst 1, 1) := by decide +kernel
theorem dLw_repair_14 : decode cLw_repair 14 = .ok (.ireturn, 1) := by decide +kernel
theorem dLw_repair_15 : decode cLw_repair 15 = .ok (.iconst 0, 1) := by decide +kernel
theorem dLw_repair_16 : decode cLw_repair 16 = .ok (.ireturn, 1) := by decide +kernel
abbrev cLw_several : ByteArray := method_5_code
def yLw_several : MethodName := ⟨R_Lw, "several", "(LPredictorKinds;II[J)I"⟩
abbrev wLw_several : List Cond := .codeWith yLw_several cLw_several 5 (some .int) [(0, 10, 13, 25)] :: GW
theorem kLw_several : Cond.codeWith yLw_several cLw_several 5 (some .int) [(0, 10, 13, 25)] ∈ GW := gwm 764 (by decide +kernel) (by decide +kernel)
theorem pLw_several : yLw_several.cls ≠ "java/lang/invoke/MethodHandle" ∧ yLw_several.cls ≠ "java/lang/invoke/VarHandle" ∧ (parseMethodDescriptor yLw_several.desc).map (fun d => d.parameters.length) = some 4 := by decide +kernel
theorem qLw_several : Cond.static yLw_several ∈ GW := gwm 763 (by decide +kernel) (by decide +kernel)
theorem iLw_several : Cond.initialized yLw_several.cls ∈ GW := gwm 0 (by decide +kernel) (by decide +kernel)
theorem dLw_several_0 : decode cLw_several 0 = .ok (.aload_n 3, 1) := by decide +kernel
theorem dLw_several_1 : decode cLw_several 1 = .ok (.iconst 0, 1) := by decide +kernel
theorem dLw_several_2 : decode cLw_several 2 = .ok (.aload_n 0, 1) := by decide +kernel
theorem dLw_several_3 : decode cLw_several 3 = .ok (.iload_n 1, 1) := by decide +kernel
theorem dLw_several_4 : decode cLw_several 4 = .ok (.iload_n 2, 1) := by decide +kernel
theorem dLw_several_5 : decode cLw_several 5 = .ok (.invokevirtual 21, 3) := by decide +kernel
theorem dLw_several_8 : decode cLw_several 8 = .ok (.i2l, 1) := by decide +kernel
theorem dLw_several_9 : decode cLw_several 9 = .ok (.lastore, 1) := by decide +kernel
theorem dLw_several_10 : decode cLw_several 10 = .ok (.goto 7, 3) := by decide +kernel
theorem dLw_several_13 : decode cLw_several 13 = .ok (.astore 4, 2) := by decide +kernel
theorem dLw_several_15 : decode cLw_several 15 = .ok (.iconst 1, 1) := by decide +kernel
theorem dLw_several_16 : decode cLw_several 16 = .ok (.ireturn, 1) := by decide +kernel
theorem dLw_several_17 : decode cLw_several 17 = .ok (.iconst 0, 1) := by decide +kernel
theorem dLw_several_18 : decode cLw_several 18 = .ok (.ireturn, 1) := by decide +kernel
abbrev cLw_law : ByteArray := code
theorem dLw_law_0 : decode cLw_law 0 = .ok (.new 8, 3) := by decide +kernel
theorem dLw_law_3 : decode cLw_law 3 = .ok (.dup, 1) := by decide +kernel
theorem dLw_law_4 : decode cLw_law 4 = .ok (.aload_n 0, 1) := by decide +kernel
theorem dLw_law_5 : decode cLw_law 5 = .ok (.iconst 0, 1) := by decide +kernel
theorem dLw_law_6 : decode cLw_law 6 = .ok (.invokestatic 27, 3) := by decide +kernel
theorem dLw_law_9 : decode cLw_law 9 = .ok (.aload_n 0, 1) := by decide +kernel
theorem dLw_law_10 : decode cLw_law 10 = .ok (.iconst 1, 1) := by decide +kernel
theorem dLw_law_11 : decode cLw_law 11 = .ok (.invokestatic 27, 3) := by decide +kernel
theorem dLw_law_14 : decode cLw_law 14 = .ok (.aload_n 0, 1) := by decide +kernel
theorem dLw_law_15 : decode cLw_law 15 = .ok (.iconst 2, 1) := by decide +kernel
theorem dLw_law_16 : decode cLw_law 16 = .ok (.invokestatic 27, 3) := by decide +kernel
theorem dLw_law_19 : decode cLw_law 19 = .ok (.invokespecial 33, 3) := by decide +kernel
theorem dLw_law_22 : decode cLw_law 22 = .ok (.astore_n 1, 1) := by decide +kernel
theorem dLw_law_23 : decode cLw_law 23 = .ok (.new 36, 3) := by decide +kernel
theorem dLw_law_26 : decode cLw_law 26 = .ok (.dup, 1) := by decide +kernel
theorem dLw_law_27 : decode cLw_law 27 = .ok (.aload_n 0, 1) := by decide +kernel
theorem dLw_law_28 : decode cLw_law 28 = .ok (.iconst 0, 1) := by decide +kernel
theorem dLw_law_29 : decode cLw_law 29 = .ok (.invokestatic 27, 3) := by decide +kernel
theorem dLw_law_32 : decode cLw_law 32 = .ok (.aload_n 0, 1) := by decide +kernel
theorem dLw_law_33 : decode cLw_law 33 = .ok (.iconst 1, 1) := by decide +kernel
theorem dLw_law_34 : decode cLw_law 34 = .ok (.invokestatic 27, 3) := by decide +kernel
theorem dLw_law_37 : decode cLw_law 37 = .ok (.aload_n 0, 1) := by decide +kernel
theorem dLw_law_38 : decode cLw_law 38 = .ok (.iconst 2, 1) := by decide +kernel
theorem dLw_law_39 : decode cLw_law 39 = .ok (.invokestatic 27, 3) := by decide +kernel
theorem dLw_law_42 : decode cLw_law 42 = .ok (.invokespecial 38, 3) := by decide +kernel
theorem dLw_law_45 : decode cLw_law 45 = .ok (.astore_n 2, 1) := by decide +kernel
theorem dLw_law_46 : decode cLw_law 46 = .ok (.iconst 1, 1) := by decide +kernel
theorem dLw_law_47 : decode cLw_law 47 = .ok (.newarray .long, 2) := by decide +kernel
theorem dLw_law_49 : decode cLw_law 49 = .ok (.astore_n 3, 1) := by decide +kernel
theorem dLw_law_50 : decode cLw_law 50 = .ok (.iconst 3, 1) := by decide +kernel
theorem dLw_law_51 : decode cLw_law 51 = .ok (.istore 4, 2) := by decide +kernel
theorem dLw_law_53 : decode cLw_law 53 = .ok (.iload 4, 2) := by decide +kernel
theorem dLw_law_55 : decode cLw_law 55 = .ok (.aload_n 0, 1) := by decide +kernel
theorem dLw_law_56 : decode cLw_law 56 = .ok (.arraylength, 1) := by decide +kernel
theorem dLw_law_57 : decode cLw_law 57 = .ok (.iconst 3, 1) := by decide +kernel
theorem dLw_law_58 : decode cLw_law 58 = .ok (.isub, 1) := by decide +kernel
theorem dLw_law_59 : decode cLw_law 59 = .ok (.if_icmp .gt 463, 3) := by decide +kernel
theorem dLw_law_62 : decode cLw_law 62 = .ok (.aload_n 0, 1) := by decide +kernel
theorem dLw_law_63 : decode cLw_law 63 = .ok (.iload 4, 2) := by decide +kernel
theorem dLw_law_65 : decode cLw_law 65 = .ok (.iaload, 1) := by decide +kernel
theorem dLw_law_66 : decode cLw_law 66 = .ok (.bipush 15, 2) := by decide +kernel
theorem dLw_law_68 : decode cLw_law 68 = .ok (.iand, 1) := by decide +kernel
theorem dLw_law_69 : decode cLw_law 69 = .ok (.tableswitch 447 0 10 #[59, 84, 137, 178, 191, 235, 291, 316, 341, 354, 379], 59) := by decide +kernel
theorem dLw_law_128 : decode cLw_law 128 = .ok (.aload_n 1, 1) := by decide +kernel
theorem dLw_law_129 : decode cLw_law 129 = .ok (.aload_n 0, 1) := by decide +kernel
theorem dLw_law_130 : decode cLw_law 130 = .ok (.iload 4, 2) := by decide +kernel
theorem dLw_law_132 : decode cLw_law 132 = .ok (.iconst 1, 1) := by decide +kernel
theorem dLw_law_133 : decode cLw_law 133 = .ok (.iadd, 1) := by decide +kernel
theorem dLw_law_134 : decode cLw_law 134 = .ok (.iaload, 1) := by decide +kernel
theorem dLw_law_135 : decode cLw_law 135 = .ok (.invokevirtual 39, 3) := by decide +kernel
theorem dLw_law_138 : decode cLw_law 138 = .ok (.aload_n 2, 1) := by decide +kernel
theorem dLw_law_139 : decode cLw_law 139 = .ok (.aload_n 0, 1) := by decide +kernel
theorem dLw_law_140 : decode cLw_law 140 = .ok (.iload 4, 2) := by decide +kernel
theorem dLw_law_142 : decode cLw_law 142 = .ok (.iconst 1, 1) := by decide +kernel
theorem dLw_law_143 : decode cLw_law 143 = .ok (.iadd, 1) := by decide +kernel
theorem dLw_law_144 : decode cLw_law 144 = .ok (.iaload, 1) := by decide +kernel
theorem dLw_law_145 : decode cLw_law 145 = .ok (.invokevirtual 43, 3) := by decide +kernel
theorem dLw_law_148 : decode cLw_law 148 = .ok (.if_icmp .eq 368, 3) := by decide +kernel
theorem dLw_law_151 : decode cLw_law 151 = .ok (.iconst 0, 1) := by decide +kernel
theorem dLw_law_152 : decode cLw_law 152 = .ok (.ireturn, 1) := by decide +kernel
theorem dLw_law_153 : decode cLw_law 153 = .ok (.aload_n 1, 1) := by decide +kernel
theorem dLw_law_154 : decode cLw_law 154 = .ok (.aload_n 0, 1) := by decide +kernel
theorem dLw_law_155 : decode cLw_law 155 = .ok (.iload 4, 2) := by decide +kernel
theorem dLw_law_157 : decode cLw_law 157 = .ok (.iconst 1, 1) := by decide +kernel
theorem dLw_law_158 : decode cLw_law 158 = .ok (.iadd, 1) := by decide +kernel
theorem dLw_law_159 : decode cLw_law 159 = .ok (.iaload, 1) := by decide +kernel
theorem dLw_law_160 : decode cLw_law 160 = .ok (.aload_n 0, 1) := by decide +kernel
theorem dLw_law_161 : decode cLw_law 161 = .ok (.iload 4, 2) := by decide +kernel
theorem dLw_law_163 : decode cLw_law 163 = .ok (.iconst 2, 1) := by decide +kernel
theorem dLw_law_164 : decode cLw_law 164 = .ok (.iadd, 1) := by decide +kernel
theorem dLw_law_165 : decode cLw_law 165 = .ok (.iaload, 1) := by decide +kernel
theorem dLw_law_166 : decode cLw_law 166 = .ok (.ifCond .eq 7, 3) := by decide +kernel
theorem dLw_law_169 : decode cLw_law 169 = .ok (.iconst 1, 1) := by decide +kernel
theorem dLw_law_170 : decode cLw_law 170 = .ok (.goto 4, 3) := by decide +kernel
theorem dLw_law_173 : decode cLw_law 173 = .ok (.iconst 0, 1) := by decide +kernel
theorem dLw_law_174 : decode cLw_law 174 = .ok (.invokevirtual 44, 3) := by decide +kernel
theorem dLw_law_177 : decode cLw_law 177 = .ok (.aload_n 2, 1) := by decide +kernel
theorem dLw_law_178 : decode cLw_law 178 = .ok (.aload_n 0, 1) := by decide +kernel
theorem dLw_law_179 : decode cLw_law 179 = .ok (.iload 4, 2) := by decide +kernel
theorem dLw_law_181 : decode cLw_law 181 = .ok (.iconst 1, 1) := by decide +kernel
theorem dLw_law_182 : decode cLw_law 182 = .ok (.iadd, 1) := by decide +kernel
theorem dLw_law_183 : decode cLw_law 183 = .ok (.iaload, 1) := by decide +kernel
theorem dLw_law_184 : decode cLw_law 184 = .ok (.aload_n 0, 1) := by decide +kernel
theorem dLw_law_185 : decode cLw_law 185 = .ok (.iload 4, 2) := by decide +kernel
theorem dLw_law_187 : decode cLw_law 187 = .ok (.iconst 2, 1) := by decide +kernel
theorem dLw_law_188 : decode cLw_law 188 = .ok (.iadd, 1) := by decide +kernel
theorem dLw_law_189 : decode cLw_law 189 = .ok (.iaload, 1) := by decide +kernel
theorem dLw_law_190 : decode cLw_law 190 = .ok (.ifCond .eq 7, 3) := by decide +kernel
theorem dLw_law_193 : decode cLw_law 193 = .ok (.iconst 1, 1) := by decide +kernel
theorem dLw_law_194 : decode cLw_law 194 = .ok (.goto 4, 3) := by decide +kernel
theorem dLw_law_197 : decode cLw_law 197 = .ok (.iconst 0, 1) := by decide +kernel
theorem dLw_law_198 : decode cLw_law 198 = .ok (.invokevirtual 48, 3) := by decide +kernel
theorem dLw_law_201 : decode cLw_law 201 = .ok (.if_icmp .eq 315, 3) := by decide +kernel
theorem dLw_law_204 : decode cLw_law 204 = .ok (.iconst 0, 1) := by decide +kernel
theorem dLw_law_205 : decode cLw_law 205 = .ok (.ireturn, 1) := by decide +kernel
theorem dLw_law_206 : decode cLw_law 206 = .ok (.aload_n 1, 1) := by decide +kernel
theorem dLw_law_207 : decode cLw_law 207 = .ok (.aload_n 0, 1) := by decide +kernel
theorem dLw_law_208 : decode cLw_law 208 = .ok (.iload 4, 2) := by decide +kernel
theorem dLw_law_210 : decode cLw_law 210 = .ok (.iconst 1, 1) := by decide +kernel
theorem dLw_law_211 : decode cLw_law 211 = .ok (.iadd, 1) := by decide +kernel
theorem dLw_law_212 : decode cLw_law 212 = .ok (.iaload, 1) := by decide +kernel
theorem dLw_law_213 : decode cLw_law 213 = .ok (.ifCond .eq 7, 3) := by decide +kernel
theorem dLw_law_216 : decode cLw_law 216 = .ok (.iconst 1, 1) := by decide +kernel
theorem dLw_law_217 : decode cLw_law 217 = .ok (.goto 4, 3) := by decide +kernel
theorem dLw_law_220 : decode cLw_law 220 = .ok (.iconst 0, 1) := by decide +kernel
theorem dLw_law_221 : decode cLw_law 221 = .ok (.invokevirtual 49, 3) := by decide +kernel
theorem dLw_law_224 : decode cLw_law 224 = .ok (.aload_n 2, 1) := by decide +kernel
theorem dLw_law_225 : decode cLw_law 225 = .ok (.aload_n 0, 1) := by decide +kernel
theorem dLw_law_226 : decode cLw_law 226 = .ok (.iload 4, 2) := by decide +kernel
theorem dLw_law_228 : decode cLw_law 228 = .ok (.iconst 1, 1) := by decide +kernel
theorem dLw_law_229 : decode cLw_law 229 = .ok (.iadd, 1) := by decide +kernel
theorem dLw_law_230 : decode cLw_law 230 = .ok (.iaload, 1) := by decide +kernel
theorem dLw_law_231 : decode cLw_law 231 = .ok (.ifCond .eq 7, 3) := by decide +kernel
theorem dLw_law_234 : decode cLw_law 234 = .ok (.iconst 1, 1) := by decide +kernel
theorem dLw_law_235 : decode cLw_law 235 = .ok (.goto 4, 3) := by decide +kernel
theorem dLw_law_238 : decode cLw_law 238 = .ok (.iconst 0, 1) := by decide +kernel
theorem dLw_law_239 : decode cLw_law 239 = .ok (.invokevirtual 53, 3) := by decide +kernel
theorem dLw_law_242 : decode cLw_law 242 = .ok (.if_icmp .eq 274, 3) := by decide +kernel
theorem dLw_law_245 : decode cLw_law 245 = .ok (.iconst 0, 1) := by decide +kernel
theorem dLw_law_246 : decode cLw_law 246 = .ok (.ireturn, 1) := by decide +kernel
theorem dLw_law_247 : decode cLw_law 247 = .ok (.aload_n 1, 1) := by decide +kernel
theorem dLw_law_248 : decode cLw_law 248 = .ok (.invokevirtual 54, 3) := by decide +kernel
theorem dLw_law_251 : decode cLw_law 251 = .ok (.aload_n 2, 1) := by decide +kernel
theorem dLw_law_252 : decode cLw_law 252 = .ok (.invokevirtual 57, 3) := by decide +kernel
theorem dLw_law_255 : decode cLw_law 255 = .ok (.if_icmp .eq 261, 3) := by decide +kernel
theorem dLw_law_258 : decode cLw_law 258 = .ok (.iconst 0, 1) := by decide +kernel
theorem dLw_law_259 : decode cLw_law 259 = .ok (.ireturn, 1) := by decide +kernel
theorem dLw_law_260 : decode cLw_law 260 = .ok (.aload_n 1, 1) := by decide +kernel
theorem dLw_law_261 : decode cLw_law 261 = .ok (.aload_n 3, 1) := by decide +kernel
theorem dLw_law_262 : decode cLw_law 262 = .ok (.invokestatic 58, 3) := by decide +kernel
theorem dLw_law_265 : decode cLw_law 265 = .ok (.istore 5, 2) := by decide +kernel
theorem dLw_law_267 : decode cLw_law 267 = .ok (.aload_n 2, 1) := by decide +kernel
theorem dLw_law_268 : decode cLw_law 268 = .ok (.invokevirtual 61, 3) := by decide +kernel
theorem dLw_law_271 : decode cLw_law 271 = .ok (.istore 6, 2) := by decide +kernel
theorem dLw_law_273 : decode cLw_law 273 = .ok (.aload_n 2, 1) := by decide +kernel
theorem dLw_law_274 : decode cLw_law 274 = .ok (.invokevirtual 62, 3) := by decide +kernel
theorem dLw_law_277 : decode cLw_law 277 = .ok (.iload 5, 2) := by decide +kernel
theorem dLw_law_279 : decode cLw_law 279 = .ok (.if_icmp .eq 5, 3) := by decide +kernel
theorem dLw_law_282 : decode cLw_law 282 = .ok (.iconst 0, 1) := by decide +kernel
theorem dLw_law_283 : decode cLw_law 283 = .ok (.ireturn, 1) := by decide +kernel
theorem dLw_law_284 : decode cLw_law 284 = .ok (.iload 5, 2) := by decide +kernel
theorem dLw_law_286 : decode cLw_law 286 = .ok (.ifCond .ne 15, 3) := by decide +kernel
theorem dLw_law_289 : decode cLw_law 289 = .ok (.aload_n 3, 1) := by decide +kernel
theorem dLw_law_290 : decode cLw_law 290 = .ok (.iconst 0, 1) := by decide +kernel
theorem dLw_law_291 : decode cLw_law 291 = .ok (.laload, 1) := by decide +kernel
theorem dLw_law_292 : decode cLw_law 292 = .ok (.iload 6, 2) := by decide +kernel
theorem dLw_law_294 : decode cLw_law 294 = .ok (.i2l, 1) := by decide +kernel
theorem dLw_law_295 : decode cLw_law 295 = .ok (.lcmp, 1) := by decide +kernel
theorem dLw_law_296 : decode cLw_law 296 = .ok (.ifCond .eq 5, 3) := by decide +kernel
theorem dLw_law_299 : decode cLw_law 299 = .ok (.iconst 0, 1) := by decide +kernel
theorem dLw_law_300 : decode cLw_law 300 = .ok (.ireturn, 1) := by decide +kernel
theorem dLw_law_301 : decode cLw_law 301 = .ok (.goto 215, 3) := by decide +kernel
theorem dLw_law_304 : decode cLw_law 304 = .ok (.aload_n 1, 1) := by decide +kernel
theorem dLw_law_305 : decode cLw_law 305 = .ok (.aload_n 0, 1) := by decide +kernel
theorem dLw_law_306 : decode cLw_law 306 = .ok (.iload 4, 2) := by decide +kernel
theorem dLw_law_308 : decode cLw_law 308 = .ok (.iconst 1, 1) := by decide +kernel
theorem dLw_law_309 : decode cLw_law 309 = .ok (.iadd, 1) := by decide +kernel
theorem dLw_law_310 : decode cLw_law 310 = .ok (.iaload, 1) := by decide +kernel
theorem dLw_law_311 : decode cLw_law 311 = .ok (.aload_n 3, 1) := by decide +kernel
theorem dLw_law_312 : decode cLw_law 312 = .ok (.invokestatic 65, 3) := by decide +kernel
theorem dLw_law_315 : decode cLw_law 315 = .ok (.istore 5, 2) := by decide +kernel
theorem dLw_law_317 : decode cLw_law 317 = .ok (.aload_n 2, 1) := by decide +kernel
theorem dLw_law_318 : decode cLw_law 318 = .ok (.aload_n 0, 1) := by decide +kernel
theorem dLw_law_319 : decode cLw_law 319 = .ok (.iload 4, 2) := by decide +kernel
theorem dLw_law_321 : decode cLw_law 321 = .ok (.iconst 1, 1) := by decide +kernel
theorem dLw_law_322 : decode cLw_law 322 = .ok (.iadd, 1) := by decide +kernel
theorem dLw_law_323 : decode cLw_law 323 = .ok (.iaload, 1) := by decide +kernel
theorem dLw_law_324 : decode cLw_law 324 = .ok (.invokevirtual 68, 3) := by decide +kernel
theorem dLw_law_327 : decode cLw_law 327 = .ok (.istore 6, 2) := by decide +kernel
theorem dLw_law_329 : decode cLw_law 329 = .ok (.aload_n 2, 1) := by decide +kernel
theorem dLw_law_330 : decode cLw_law 330 = .ok (.invokevirtual 62, 3) := by decide +kernel
theorem dLw_law_333 : decode cLw_law 333 = .ok (.iload 5, 2) := by decide +kernel
theorem dLw_law_335 : decode cLw_law 335 = .ok (.if_icmp .eq 5, 3) := by decide +kernel
theorem dLw_law_338 : decode cLw_law 338 = .ok (.iconst 0, 1) := by decide +kernel
theorem dLw_law_339 : decode cLw_law 339 = .ok (.ireturn, 1) := by decide +kernel
theorem dLw_law_340 : decode cLw_law 340 = .ok (.iload 5, 2) := by decide +kernel
theorem dLw_law_342 : decode cLw_law 342 = .ok (.ifCond .ne 15, 3) := by decide +kernel
theorem dLw_law_345 : decode cLw_law 345 = .ok (.aload_n 3, 1) := by decide +kernel
theorem dLw_law_346 : decode cLw_law 346 = .ok (.iconst 0, 1) := by decide +kernel
theorem dLw_law_347 : decode cLw_law 347 = .ok (.laload, 1) := by decide +kernel
theorem dLw_law_348 : decode cLw_law 348 = .ok (.iload 6, 2) := by decide +kernel
theorem dLw_law_350 : decode cLw_law 350 = .ok (.i2l, 1) := by decide +kernel
theorem dLw_law_351 : decode cLw_law 351 = .ok (.lcmp, 1) := by decide +kernel
theorem dLw_law_352 : decode cLw_law 352 = .ok (.ifCond .eq 5, 3) := by decide +kernel
theorem dLw_law_355 : decode cLw_law 355 = .ok (.iconst 0, 1) := by decide +kernel
theorem dLw_law_356 : decode cLw_law 356 = .ok (.ireturn, 1) := by decide +kernel
theorem dLw_law_357 : decode cLw_law 357 = .ok (.goto 159, 3) := by decide +kernel
theorem dLw_law_360 : decode cLw_law 360 = .ok (.aload_n 1, 1) := by decide +kernel
theorem dLw_law_361 : decode cLw_law 361 = .ok (.aload_n 0, 1) := by decide +kernel
theorem dLw_law_362 : decode cLw_law 362 = .ok (.iload 4, 2) := by decide +kernel
theorem dLw_law_364 : decode cLw_law 364 = .ok (.iconst 1, 1) := by decide +kernel
theorem dLw_law_365 : decode cLw_law 365 = .ok (.iadd, 1) := by decide +kernel
theorem dLw_law_366 : decode cLw_law 366 = .ok (.iaload, 1) := by decide +kernel
theorem dLw_law_367 : decode cLw_law 367 = .ok (.invokevirtual 69, 3) := by decide +kernel
theorem dLw_law_370 : decode cLw_law 370 = .ok (.aload_n 2, 1) := by decide +kernel
theorem dLw_law_371 : decode cLw_law 371 = .ok (.aload_n 0, 1) := by decide +kernel
theorem dLw_law_372 : decode cLw_law 372 = .ok (.iload 4, 2) := by decide +kernel
theorem dLw_law_374 : decode cLw_law 374 = .ok (.iconst 1, 1) := by decide +kernel
theorem dLw_law_375 : decode cLw_law 375 = .ok (.iadd, 1) := by decide +kernel
theorem dLw_law_376 : decode cLw_law 376 = .ok (.iaload, 1) := by decide +kernel
theorem dLw_law_377 : decode cLw_law 377 = .ok (.invokevirtual 72, 3) := by decide +kernel
theorem dLw_law_380 : decode cLw_law 380 = .ok (.if_icmp .eq 136, 3) := by decide +kernel
theorem dLw_law_383 : decode cLw_law 383 = .ok (.iconst 0, 1) := by decide +kernel
theorem dLw_law_384 : decode cLw_law 384 = .ok (.ireturn, 1) := by decide +kernel
theorem dLw_law_385 : decode cLw_law 385 = .ok (.aload_n 1, 1) := by decide +kernel
theorem dLw_law_386 : decode cLw_law 386 = .ok (.aload_n 0, 1) := by decide +kernel
theorem dLw_law_387 : decode cLw_law 387 = .ok (.iload 4, 2) := by decide +kernel
theorem dLw_law_389 : decode cLw_law 389 = .ok (.iconst 1, 1) := by decide +kernel
theorem dLw_law_390 : decode cLw_law 390 = .ok (.iadd, 1) := by decide +kernel
theorem dLw_law_391 : decode cLw_law 391 = .ok (.iaload, 1) := by decide +kernel
theorem dLw_law_392 : decode cLw_law 392 = .ok (.invokevirtual 73, 3) := by decide +kernel
theorem dLw_law_395 : decode cLw_law 395 = .ok (.aload_n 2, 1) := by decide +kernel
theorem dLw_law_396 : decode cLw_law 396 = .ok (.aload_n 0, 1) := by decide +kernel
theorem dLw_law_397 : decode cLw_law 397 = .ok (.iload 4, 2) := by decide +kernel
theorem dLw_law_399 : decode cLw_law 399 = .ok (.iconst 1, 1) := by decide +kernel
theorem dLw_law_400 : decode cLw_law 400 = .ok (.iadd, 1) := by decide +kernel
theorem dLw_law_401 : decode cLw_law 401 = .ok (.iaload, 1) := by decide +kernel
theorem dLw_law_402 : decode cLw_law 402 = .ok (.invokevirtual 76, 3) := by decide +kernel
theorem dLw_law_405 : decode cLw_law 405 = .ok (.if_icmp .eq 111, 3) := by decide +kernel
theorem dLw_law_408 : decode cLw_law 408 = .ok (.iconst 0, 1) := by decide +kernel
theorem dLw_law_409 : decode cLw_law 409 = .ok (.ireturn, 1) := by decide +kernel
theorem dLw_law_410 : decode cLw_law 410 = .ok (.aload_n 1, 1) := by decide +kernel
theorem dLw_law_411 : decode cLw_law 411 = .ok (.invokevirtual 77, 3) := by decide +kernel
theorem dLw_law_414 : decode cLw_law 414 = .ok (.aload_n 2, 1) := by decide +kernel
theorem dLw_law_415 : decode cLw_law 415 = .ok (.invokevirtual 80, 3) := by decide +kernel
theorem dLw_law_418 : decode cLw_law 418 = .ok (.if_icmp .eq 98, 3) := by decide +kernel
theorem dLw_law_421 : decode cLw_law 421 = .ok (.iconst 0, 1) := by decide +kernel
theorem dLw_law_422 : decode cLw_law 422 = .ok (.ireturn, 1) := by decide +kernel
theorem dLw_law_423 : decode cLw_law 423 = .ok (.aload_n 1, 1) := by decide +kernel
theorem dLw_law_424 : decode cLw_law 424 = .ok (.aload_n 0, 1) := by decide +kernel
theorem dLw_law_425 : decode cLw_law 425 = .ok (.iload 4, 2) := by decide +kernel
theorem dLw_law_427 : decode cLw_law 427 = .ok (.iconst 1, 1) := by decide +kernel
theorem dLw_law_428 : decode cLw_law 428 = .ok (.iadd, 1) := by decide +kernel
theorem dLw_law_429 : decode cLw_law 429 = .ok (.iaload, 1) := by decide +kernel
theorem dLw_law_430 : decode cLw_law 430 = .ok (.invokevirtual 81, 3) := by decide +kernel
theorem dLw_law_433 : decode cLw_law 433 = .ok (.aload_n 2, 1) := by decide +kernel
theorem dLw_law_434 : decode cLw_law 434 = .ok (.aload_n 0, 1) := by decide +kernel
theorem dLw_law_435 : decode cLw_law 435 = .ok (.iload 4, 2) := by decide +kernel
theorem dLw_law_437 : decode cLw_law 437 = .ok (.iconst 1, 1) := by decide +kernel
theorem dLw_law_438 : decode cLw_law 438 = .ok (.iadd, 1) := by decide +kernel
theorem dLw_law_439 : decode cLw_law 439 = .ok (.iaload, 1) := by decide +kernel
theorem dLw_law_440 : decode cLw_law 440 = .ok (.invokevirtual 84, 3) := by decide +kernel
theorem dLw_law_443 : decode cLw_law 443 = .ok (.if_icmp .eq 73, 3) := by decide +kernel
theorem dLw_law_446 : decode cLw_law 446 = .ok (.iconst 0, 1) := by decide +kernel
theorem dLw_law_447 : decode cLw_law 447 = .ok (.ireturn, 1) := by decide +kernel
theorem dLw_law_448 : decode cLw_law 448 = .ok (.aload_n 1, 1) := by decide +kernel
theorem dLw_law_449 : decode cLw_law 449 = .ok (.aload_n 0, 1) := by decide +kernel
theorem dLw_law_450 : decode cLw_law 450 = .ok (.iload 4, 2) := by decide +kernel
theorem dLw_law_452 : decode cLw_law 452 = .ok (.iconst 1, 1) := by decide +kernel
theorem dLw_law_453 : decode cLw_law 453 = .ok (.iadd, 1) := by decide +kernel
theorem dLw_law_454 : decode cLw_law 454 = .ok (.iaload, 1) := by decide +kernel
theorem dLw_law_455 : decode cLw_law 455 = .ok (.aload_n 0, 1) := by decide +kernel
theorem dLw_law_456 : decode cLw_law 456 = .ok (.iload 4, 2) := by decide +kernel
theorem dLw_law_458 : decode cLw_law 458 = .ok (.iconst 2, 1) := by decide +kernel
theorem dLw_law_459 : decode cLw_law 459 = .ok (.iadd, 1) := by decide +kernel
theorem dLw_law_460 : decode cLw_law 460 = .ok (.iaload, 1) := by decide +kernel
theorem dLw_law_461 : decode cLw_law 461 = .ok (.aload_n 3, 1) := by decide +kernel
theorem dLw_law_462 : decode cLw_law 462 = .ok (.invokestatic 85, 3) := by decide +kernel
theorem dLw_law_465 : decode cLw_law 465 = .ok (.istore 5, 2) := by decide +kernel
theorem dLw_law_467 : decode cLw_law 467 = .ok (.aload_n 2, 1) := by decide +kernel
theorem dLw_law_468 : decode cLw_law 468 = .ok (.aload_n 0, 1) := by decide +kernel
theorem dLw_law_469 : decode cLw_law 469 = .ok (.iload 4, 2) := by decide +kernel
theorem dLw_law_471 : decode cLw_law 471 = .ok (.iconst 1, 1) := by decide +kernel
theorem dLw_law_472 : decode cLw_law 472 = .ok (.iadd, 1) := by decide +kernel
theorem dLw_law_473 : decode cLw_law 473 = .ok (.iaload, 1) := by decide +kernel
theorem dLw_law_474 : decode cLw_law 474 = .ok (.aload_n 0, 1) := by decide +kernel
theorem dLw_law_475 : decode cLw_law 475 = .ok (.iload 4, 2) := by decide +kernel
theorem dLw_law_477 : decode cLw_law 477 = .ok (.iconst 2, 1) := by decide +kernel
theorem dLw_law_478 : decode cLw_law 478 = .ok (.iadd, 1) := by decide +kernel
theorem dLw_law_479 : decode cLw_law 479 = .ok (.iaload, 1) := by decide +kernel
theorem dLw_law_480 : decode cLw_law 480 = .ok (.invokevirtual 88, 3) := by decide +kernel
theorem dLw_law_483 : decode cLw_law 483 = .ok (.istore 6, 2) := by decide +kernel
theorem dLw_law_485 : decode cLw_law 485 = .ok (.aload_n 2, 1) := by decide +kernel
theorem dLw_law_486 : decode cLw_law 486 = .ok (.invokevirtual 62, 3) := by decide +kernel
theorem dLw_law_489 : decode cLw_law 489 = .ok (.iload 5, 2) := by decide +kernel
theorem dLw_law_491 : decode cLw_law 491 = .ok (.if_icmp .eq 5, 3) := by decide +kernel
theorem dLw_law_494 : decode cLw_law 494 = .ok (.iconst 0, 1) := by decide +kernel
theorem dLw_law_495 : decode cLw_law 495 = .ok (.ireturn, 1) := by decide +kernel
theorem dLw_law_496 : decode cLw_law 496 = .ok (.iload 5, 2) := by decide +kernel
theorem dLw_law_498 : decode cLw_law 498 = .ok (.ifCond .ne 15, 3) := by decide +kernel
theorem dLw_law_501 : decode cLw_law 501 = .ok (.aload_n 3, 1) := by decide +kernel
theorem dLw_law_502 : decode cLw_law 502 = .ok (.iconst 0, 1) := by decide +kernel
theorem dLw_law_503 : decode cLw_law 503 = .ok (.laload, 1) := by decide +kernel
theorem dLw_law_504 : decode cLw_law 504 = .ok (.iload 6, 2) := by decide +kernel
theorem dLw_law_506 : decode cLw_law 506 = .ok (.i2l, 1) := by decide +kernel
theorem dLw_law_507 : decode cLw_law 507 = .ok (.lcmp, 1) := by decide +kernel
theorem dLw_law_508 : decode cLw_law 508 = .ok (.ifCond .eq 5, 3) := by decide +kernel
theorem dLw_law_511 : decode cLw_law 511 = .ok (.iconst 0, 1) := by decide +kernel
theorem dLw_law_512 : decode cLw_law 512 = .ok (.ireturn, 1) := by decide +kernel
theorem dLw_law_513 : decode cLw_law 513 = .ok (.goto 3, 3) := by decide +kernel
theorem dLw_law_516 : decode cLw_law 516 = .ok (.iinc 4 3, 3) := by decide +kernel
theorem dLw_law_519 : decode cLw_law 519 = .ok (.goto (-466), 3) := by decide +kernel
theorem dLw_law_522 : decode cLw_law 522 = .ok (.iconst 1, 1) := by decide +kernel
theorem dLw_law_523 : decode cLw_law 523 = .ok (.ireturn, 1) := by decide +kernel
theorem wd_19 : (Jvm.Cond.initialized "java/lang/UnsupportedOperationException") ∈ GW := gwm 19 (by decide +kernel) (by decide +kernel)
theorem wd_20 : (Jvm.Cond.initialized "java/lang/IndexOutOfBoundsException") ∈ GW := gwm 20 (by decide +kernel) (by decide +kernel)
theorem wd_21 : (Jvm.Cond.initialized "java/lang/IllegalArgumentException") ∈ GW := gwm 21 (by decide +kernel) (by decide +kernel)
theorem wd_299 : (Jvm.Cond.methodLink "PredictorKindsLaw" (39 : Nat) ({ cls := "PredictorKinds", name := "told", desc := "(I)Z" } : Jvm.MethodName)) ∈ GW := gwm 299 (by decide +kernel) (by decide +kernel)
theorem wd_301 : (Jvm.Cond.selects "PredictorKinds" ({ cls := "PredictorKinds", name := "told", desc := "(I)Z" } : Jvm.MethodName) ({ cls := "PredictorKinds", name := "told", desc := "(I)Z" } : Jvm.MethodName)) ∈ GW := gwm 301 (by decide +kernel) (by decide +kernel)
theorem wd_448 : (Jvm.Cond.methodLink "PredictorKindsLaw" (44 : Nat) ({ cls := "PredictorKinds", name := "update", desc := "(IZ)Z" } : Jvm.MethodName)) ∈ GW := gwm 448 (by decide +kernel) (by decide +kernel)
theorem wd_450 : (Jvm.Cond.selects "PredictorKinds" ({ cls := "PredictorKinds", name := "update", desc := "(IZ)Z" } : Jvm.MethodName) ({ cls := "PredictorKinds", name := "update", desc := "(IZ)Z" } : Jvm.MethodName)) ∈ GW := gwm 450 (by decide +kernel) (by decide +kernel)
theorem wd_553 : (Jvm.Cond.methodLink "PredictorKindsLaw" (49 : Nat) ({ cls := "PredictorKinds", name := "early", desc := "(Z)Z" } : Jvm.MethodName)) ∈ GW := gwm 553 (by decide +kernel) (by decide +kernel)
theorem wd_555 : (Jvm.Cond.selects "PredictorKinds" ({ cls := "PredictorKinds", name := "early", desc := "(Z)Z" } : Jvm.MethodName) ({ cls := "PredictorKinds", name := "early", desc := "(Z)Z" } : Jvm.MethodName)) ∈ GW := gwm 555 (by decide +kernel) (by decide +kernel)
theorem wd_557 : (Jvm.Cond.methodLink "PredictorKindsLaw" (54 : Nat) ({ cls := "PredictorKinds", name := "history", desc := "()I" } : Jvm.MethodName)) ∈ GW := gwm 557 (by decide +kernel) (by decide +kernel)
theorem wd_559 : (Jvm.Cond.selects "PredictorKinds" ({ cls := "PredictorKinds", name := "history", desc := "()I" } : Jvm.MethodName) ({ cls := "PredictorKinds", name := "history", desc := "()I" } : Jvm.MethodName)) ∈ GW := gwm 559 (by decide +kernel) (by decide +kernel)
theorem wd_561 : (Jvm.Cond.methodLink "PredictorKindsLaw" (69 : Nat) ({ cls := "PredictorKinds", name := "row", desc := "(I)I" } : Jvm.MethodName)) ∈ GW := gwm 561 (by decide +kernel) (by decide +kernel)
theorem wd_563 : (Jvm.Cond.selects "PredictorKinds" ({ cls := "PredictorKinds", name := "row", desc := "(I)I" } : Jvm.MethodName) ({ cls := "PredictorKinds", name := "row", desc := "(I)I" } : Jvm.MethodName)) ∈ GW := gwm 563 (by decide +kernel) (by decide +kernel)
theorem wd_590 : (Jvm.Cond.methodLink "PredictorKindsLaw" (73 : Nat) ({ cls := "PredictorKinds", name := "part", desc := "(I)I" } : Jvm.MethodName)) ∈ GW := gwm 590 (by decide +kernel) (by decide +kernel)
theorem wd_592 : (Jvm.Cond.selects "PredictorKinds" ({ cls := "PredictorKinds", name := "part", desc := "(I)I" } : Jvm.MethodName) ({ cls := "PredictorKinds", name := "part", desc := "(I)I" } : Jvm.MethodName)) ∈ GW := gwm 592 (by decide +kernel) (by decide +kernel)
theorem wd_613 : (Jvm.Cond.methodLink "PredictorKindsLaw" (77 : Nat) ({ cls := "PredictorKinds", name := "storage", desc := "()I" } : Jvm.MethodName)) ∈ GW := gwm 613 (by decide +kernel) (by decide +kernel)
theorem wd_615 : (Jvm.Cond.selects "PredictorKinds" ({ cls := "PredictorKinds", name := "storage", desc := "()I" } : Jvm.MethodName) ({ cls := "PredictorKinds", name := "storage", desc := "()I" } : Jvm.MethodName)) ∈ GW := gwm 615 (by decide +kernel) (by decide +kernel)
theorem wd_651 : (Jvm.Cond.methodLink "PredictorKindsLaw" (81 : Nat) ({ cls := "PredictorKinds", name := "count", desc := "(I)I" } : Jvm.MethodName)) ∈ GW := gwm 651 (by decide +kernel) (by decide +kernel)
theorem wd_653 : (Jvm.Cond.selects "PredictorKinds" ({ cls := "PredictorKinds", name := "count", desc := "(I)I" } : Jvm.MethodName) ({ cls := "PredictorKinds", name := "count", desc := "(I)I" } : Jvm.MethodName)) ∈ GW := gwm 653 (by decide +kernel) (by decide +kernel)
theorem wd_662 : (Jvm.Cond.methodLink "PredictorKindsLaw" (58 : Nat) ({ cls := "PredictorKindsLaw", name := "mark", desc := "(LPredictorKinds;[J)I" } : Jvm.MethodName)) ∈ GW := gwm 662 (by decide +kernel) (by decide +kernel)
theorem wd_665 : (Jvm.Cond.classLink "PredictorKindsLaw" (13 : Nat) "java/lang/UnsupportedOperationException") ∈ GW := gwm 665 (by decide +kernel) (by decide +kernel)
theorem wd_666 : (Jvm.Cond.methodLink "PredictorKindsLaw" (7 : Nat) ({ cls := "PredictorKinds", name := "mark", desc := "()I" } : Jvm.MethodName)) ∈ GW := gwm 666 (by decide +kernel) (by decide +kernel)
theorem wd_668 : (Jvm.Cond.selects "PredictorKinds" ({ cls := "PredictorKinds", name := "mark", desc := "()I" } : Jvm.MethodName) ({ cls := "PredictorKinds", name := "mark", desc := "()I" } : Jvm.MethodName)) ∈ GW := gwm 668 (by decide +kernel) (by decide +kernel)
theorem wd_670 : (Jvm.Cond.classLink "PredictorKinds" (103 : Nat) "java/lang/UnsupportedOperationException") ∈ GW := gwm 670 (by decide +kernel) (by decide +kernel)
theorem wd_738 : (Jvm.Cond.methodLink "PredictorKindsLaw" (65 : Nat) ({ cls := "PredictorKindsLaw", name := "repair", desc := "(LPredictorKinds;I[J)I" } : Jvm.MethodName)) ∈ GW := gwm 738 (by decide +kernel) (by decide +kernel)
theorem wd_741 : (Jvm.Cond.classLink "PredictorKindsLaw" (19 : Nat) "java/lang/IndexOutOfBoundsException") ∈ GW := gwm 741 (by decide +kernel) (by decide +kernel)
theorem wd_742 : (Jvm.Cond.methodLink "PredictorKindsLaw" (15 : Nat) ({ cls := "PredictorKinds", name := "repair", desc := "(I)I" } : Jvm.MethodName)) ∈ GW := gwm 742 (by decide +kernel) (by decide +kernel)
theorem wd_744 : (Jvm.Cond.selects "PredictorKinds" ({ cls := "PredictorKinds", name := "repair", desc := "(I)I" } : Jvm.MethodName) ({ cls := "PredictorKinds", name := "repair", desc := "(I)I" } : Jvm.MethodName)) ∈ GW := gwm 744 (by decide +kernel) (by decide +kernel)
theorem wd_746 : (Jvm.Cond.classLink "PredictorKinds" (114 : Nat) "java/lang/IndexOutOfBoundsException") ∈ GW := gwm 746 (by decide +kernel) (by decide +kernel)
theorem wd_762 : (Jvm.Cond.methodLink "PredictorKindsLaw" (85 : Nat) ({ cls := "PredictorKindsLaw", name := "several", desc := "(LPredictorKinds;II[J)I" } : Jvm.MethodName)) ∈ GW := gwm 762 (by decide +kernel) (by decide +kernel)
theorem wd_765 : (Jvm.Cond.classLink "PredictorKindsLaw" (25 : Nat) "java/lang/IllegalArgumentException") ∈ GW := gwm 765 (by decide +kernel) (by decide +kernel)
theorem wd_766 : (Jvm.Cond.methodLink "PredictorKindsLaw" (21 : Nat) ({ cls := "PredictorKinds", name := "several", desc := "(II)I" } : Jvm.MethodName)) ∈ GW := gwm 766 (by decide +kernel) (by decide +kernel)
theorem wd_768 : (Jvm.Cond.selects "PredictorKinds" ({ cls := "PredictorKinds", name := "several", desc := "(II)I" } : Jvm.MethodName) ({ cls := "PredictorKinds", name := "several", desc := "(II)I" } : Jvm.MethodName)) ∈ GW := gwm 768 (by decide +kernel) (by decide +kernel)
theorem wd_770 : (Jvm.Cond.classLink "PredictorKinds" (139 : Nat) "java/lang/IllegalArgumentException") ∈ GW := gwm 770 (by decide +kernel) (by decide +kernel)
theorem wd_890 : (Jvm.Cond.methodLink "PredictorKindsLaw" (62 : Nat) ({ cls := "PredictorKindsModel", name := "thrown", desc := "()I" } : Jvm.MethodName)) ∈ GW := gwm 890 (by decide +kernel) (by decide +kernel)
theorem wd_892 : (Jvm.Cond.selects "PredictorKindsModel" ({ cls := "PredictorKindsModel", name := "thrown", desc := "()I" } : Jvm.MethodName) ({ cls := "PredictorKindsModel", name := "thrown", desc := "()I" } : Jvm.MethodName)) ∈ GW := gwm 892 (by decide +kernel) (by decide +kernel)
theorem wd_894 : (Jvm.Cond.methodLink "PredictorKindsLaw" (43 : Nat) ({ cls := "PredictorKindsModel", name := "told", desc := "(I)Z" } : Jvm.MethodName)) ∈ GW := gwm 894 (by decide +kernel) (by decide +kernel)
theorem wd_896 : (Jvm.Cond.selects "PredictorKindsModel" ({ cls := "PredictorKindsModel", name := "told", desc := "(I)Z" } : Jvm.MethodName) ({ cls := "PredictorKindsModel", name := "told", desc := "(I)Z" } : Jvm.MethodName)) ∈ GW := gwm 896 (by decide +kernel) (by decide +kernel)
theorem wd_954 : (Jvm.Cond.methodLink "PredictorKindsLaw" (48 : Nat) ({ cls := "PredictorKindsModel", name := "update", desc := "(IZ)Z" } : Jvm.MethodName)) ∈ GW := gwm 954 (by decide +kernel) (by decide +kernel)
theorem wd_956 : (Jvm.Cond.selects "PredictorKindsModel" ({ cls := "PredictorKindsModel", name := "update", desc := "(IZ)Z" } : Jvm.MethodName) ({ cls := "PredictorKindsModel", name := "update", desc := "(IZ)Z" } : Jvm.MethodName)) ∈ GW := gwm 956 (by decide +kernel) (by decide +kernel)
theorem wd_990 : (Jvm.Cond.methodLink "PredictorKindsLaw" (53 : Nat) ({ cls := "PredictorKindsModel", name := "early", desc := "(Z)Z" } : Jvm.MethodName)) ∈ GW := gwm 990 (by decide +kernel) (by decide +kernel)
theorem wd_992 : (Jvm.Cond.selects "PredictorKindsModel" ({ cls := "PredictorKindsModel", name := "early", desc := "(Z)Z" } : Jvm.MethodName) ({ cls := "PredictorKindsModel", name := "early", desc := "(Z)Z" } : Jvm.MethodName)) ∈ GW := gwm 992 (by decide +kernel) (by decide +kernel)
theorem wd_994 : (Jvm.Cond.methodLink "PredictorKindsLaw" (57 : Nat) ({ cls := "PredictorKindsModel", name := "history", desc := "()I" } : Jvm.MethodName)) ∈ GW := gwm 994 (by decide +kernel) (by decide +kernel)
theorem wd_996 : (Jvm.Cond.selects "PredictorKindsModel" ({ cls := "PredictorKindsModel", name := "history", desc := "()I" } : Jvm.MethodName) ({ cls := "PredictorKindsModel", name := "history", desc := "()I" } : Jvm.MethodName)) ∈ GW := gwm 996 (by decide +kernel) (by decide +kernel)
theorem wd_998 : (Jvm.Cond.methodLink "PredictorKindsLaw" (61 : Nat) ({ cls := "PredictorKindsModel", name := "mark", desc := "()I" } : Jvm.MethodName)) ∈ GW := gwm 998 (by decide +kernel) (by decide +kernel)
theorem wd_1000 : (Jvm.Cond.selects "PredictorKindsModel" ({ cls := "PredictorKindsModel", name := "mark", desc := "()I" } : Jvm.MethodName) ({ cls := "PredictorKindsModel", name := "mark", desc := "()I" } : Jvm.MethodName)) ∈ GW := gwm 1000 (by decide +kernel) (by decide +kernel)
theorem wd_1006 : (Jvm.Cond.methodLink "PredictorKindsLaw" (68 : Nat) ({ cls := "PredictorKindsModel", name := "repair", desc := "(I)I" } : Jvm.MethodName)) ∈ GW := gwm 1006 (by decide +kernel) (by decide +kernel)
theorem wd_1008 : (Jvm.Cond.selects "PredictorKindsModel" ({ cls := "PredictorKindsModel", name := "repair", desc := "(I)I" } : Jvm.MethodName) ({ cls := "PredictorKindsModel", name := "repair", desc := "(I)I" } : Jvm.MethodName)) ∈ GW := gwm 1008 (by decide +kernel) (by decide +kernel)
theorem wd_1010 : (Jvm.Cond.methodLink "PredictorKindsLaw" (72 : Nat) ({ cls := "PredictorKindsModel", name := "row", desc := "(I)I" } : Jvm.MethodName)) ∈ GW := gwm 1010 (by decide +kernel) (by decide +kernel)
theorem wd_1012 : (Jvm.Cond.selects "PredictorKindsModel" ({ cls := "PredictorKindsModel", name := "row", desc := "(I)I" } : Jvm.MethodName) ({ cls := "PredictorKindsModel", name := "row", desc := "(I)I" } : Jvm.MethodName)) ∈ GW := gwm 1012 (by decide +kernel) (by decide +kernel)
theorem wd_1014 : (Jvm.Cond.methodLink "PredictorKindsLaw" (76 : Nat) ({ cls := "PredictorKindsModel", name := "part", desc := "(I)I" } : Jvm.MethodName)) ∈ GW := gwm 1014 (by decide +kernel) (by decide +kernel)
theorem wd_1016 : (Jvm.Cond.selects "PredictorKindsModel" ({ cls := "PredictorKindsModel", name := "part", desc := "(I)I" } : Jvm.MethodName) ({ cls := "PredictorKindsModel", name := "part", desc := "(I)I" } : Jvm.MethodName)) ∈ GW := gwm 1016 (by decide +kernel) (by decide +kernel)
theorem wd_1018 : (Jvm.Cond.methodLink "PredictorKindsLaw" (80 : Nat) ({ cls := "PredictorKindsModel", name := "storage", desc := "()I" } : Jvm.MethodName)) ∈ GW := gwm 1018 (by decide +kernel) (by decide +kernel)
theorem wd_1020 : (Jvm.Cond.selects "PredictorKindsModel" ({ cls := "PredictorKindsModel", name := "storage", desc := "()I" } : Jvm.MethodName) ({ cls := "PredictorKindsModel", name := "storage", desc := "()I" } : Jvm.MethodName)) ∈ GW := gwm 1020 (by decide +kernel) (by decide +kernel)
theorem wd_1022 : (Jvm.Cond.methodLink "PredictorKindsLaw" (84 : Nat) ({ cls := "PredictorKindsModel", name := "count", desc := "(I)I" } : Jvm.MethodName)) ∈ GW := gwm 1022 (by decide +kernel) (by decide +kernel)
theorem wd_1024 : (Jvm.Cond.selects "PredictorKindsModel" ({ cls := "PredictorKindsModel", name := "count", desc := "(I)I" } : Jvm.MethodName) ({ cls := "PredictorKindsModel", name := "count", desc := "(I)I" } : Jvm.MethodName)) ∈ GW := gwm 1024 (by decide +kernel) (by decide +kernel)
theorem wd_1026 : (Jvm.Cond.methodLink "PredictorKindsLaw" (88 : Nat) ({ cls := "PredictorKindsModel", name := "several", desc := "(II)I" } : Jvm.MethodName)) ∈ GW := gwm 1026 (by decide +kernel) (by decide +kernel)
theorem wd_1028 : (Jvm.Cond.selects "PredictorKindsModel" ({ cls := "PredictorKindsModel", name := "several", desc := "(II)I" } : Jvm.MethodName) ({ cls := "PredictorKindsModel", name := "several", desc := "(II)I" } : Jvm.MethodName)) ∈ GW := gwm 1028 (by decide +kernel) (by decide +kernel)
