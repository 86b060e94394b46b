abbrev cPK_kindOf : ByteArray := prog_1_method_14_code
def yPK_kindOf : MethodName := ⟨R_PK, "kindOf", "(III)LPredictorKinds$Kind;"⟩
abbrev wPK_kindOf : List Cond := .code yPK_kindOf cPK_kindOf 3 (some (.object "PredictorKinds$Kind")) :: GW
theorem kPK_kindOf : Cond.code yPK_kindOf cPK_kindOf 3 (some (.object "PredictorKinds$Kind")) ∈ GW := gwm 39 (by decide +kernel) (by decide +kernel)
theorem pPK_kindOf : yPK_kindOf.cls ≠ "java/lang/invoke/MethodHandle" ∧ yPK_kindOf.cls ≠ "java/lang/invoke/VarHandle" ∧ (parseMethodDescriptor yPK_kindOf.desc).map (fun d => d.parameters.length) = some 3 := by decide +kernel
theorem qPK_kindOf : Cond.static yPK_kindOf ∈ GW := gwm 38 (by decide +kernel) (by decide +kernel)
theorem iPK_kindOf : Cond.initialized yPK_kindOf.cls ∈ GW := gwm 1 (by decide +kernel) (by decide +kernel)
abbrev cPK_init : ByteArray := prog_1_method_1_code
def yPK_init : MethodName := ⟨R_PK, "<init>", "(III)V"⟩
abbrev wPK_init : List Cond := .code yPK_init cPK_init 4 none :: GW
theorem kPK_init : Cond.code yPK_init cPK_init 4 none ∈ GW := gwm 26 (by decide +kernel) (by decide +kernel)
theorem pPK_init : yPK_init.cls ≠ "java/lang/invoke/MethodHandle" ∧ yPK_init.cls ≠ "java/lang/invoke/VarHandle" ∧ (parseMethodDescriptor yPK_init.desc).map (fun d => d.parameters.length) = some 3 := by decide +kernel
theorem qPK_init : Cond.instanceMethod yPK_init ∈ GW := gwm 25 (by decide +kernel) (by decide +kernel)
theorem iPK_init : Cond.initialized yPK_init.cls ∈ GW := gwm 1 (by decide +kernel) (by decide +kernel)
abbrev cMd_init : ByteArray := prog_14_method_1_code
def yMd_init : MethodName := ⟨R_Md, "<init>", "(III)V"⟩
abbrev wMd_init : List Cond := .code yMd_init cMd_init 5 none :: GW
theorem kMd_init : Cond.code yMd_init cMd_init 5 none ∈ GW := gwm 790 (by decide +kernel) (by decide +kernel)
theorem pMd_init : yMd_init.cls ≠ "java/lang/invoke/MethodHandle" ∧ yMd_init.cls ≠ "java/lang/invoke/VarHandle" ∧ (parseMethodDescriptor yMd_init.desc).map (fun d => d.parameters.length) = some 3 := by decide +kernel
theorem qMd_init : Cond.instanceMethod yMd_init ∈ GW := gwm 789 (by decide +kernel) (by decide +kernel)
theorem iMd_init : Cond.initialized yMd_init.cls ∈ GW := gwm 15 (by decide +kernel) (by decide +kernel)
theorem dPK_kindOf_0 : decode cPK_kindOf 0 = .ok (.iload_n 0, 1) := by decide +kernel
theorem dPK_kindOf_1 : decode cPK_kindOf 1 = .ok (.tableswitch 135 1 9 #[51, 60, 70, 80, 89, 98, 107, 116, 125], 51) := by decide +kernel
theorem dPK_kindOf_52 : decode cPK_kindOf 52 = .ok (.new 152, 3) := by decide +kernel
theorem dPK_kindOf_55 : decode cPK_kindOf 55 = .ok (.dup, 1) := by decide +kernel
theorem dPK_kindOf_56 : decode cPK_kindOf 56 = .ok (.iload_n 1, 1) := by decide +kernel
theorem dPK_kindOf_57 : decode cPK_kindOf 57 = .ok (.invokespecial 154, 3) := by decide +kernel
theorem dPK_kindOf_60 : decode cPK_kindOf 60 = .ok (.areturn, 1) := by decide +kernel
theorem dPK_kindOf_61 : decode cPK_kindOf 61 = .ok (.new 156, 3) := by decide +kernel
theorem dPK_kindOf_64 : decode cPK_kindOf 64 = .ok (.dup, 1) := by decide +kernel
theorem dPK_kindOf_65 : decode cPK_kindOf 65 = .ok (.iload_n 1, 1) := by decide +kernel
theorem dPK_kindOf_66 : decode cPK_kindOf 66 = .ok (.iconst 0, 1) := by decide +kernel
theorem dPK_kindOf_67 : decode cPK_kindOf 67 = .ok (.invokespecial 158, 3) := by decide +kernel
theorem dPK_kindOf_70 : decode cPK_kindOf 70 = .ok (.areturn, 1) := by decide +kernel
theorem dPK_kindOf_71 : decode cPK_kindOf 71 = .ok (.new 156, 3) := by decide +kernel
theorem dPK_kindOf_74 : decode cPK_kindOf 74 = .ok (.dup, 1) := by decide +kernel
theorem dPK_kindOf_75 : decode cPK_kindOf 75 = .ok (.iload_n 1, 1) := by decide +kernel
theorem dPK_kindOf_76 : decode cPK_kindOf 76 = .ok (.iconst 1, 1) := by decide +kernel
theorem dPK_kindOf_77 : decode cPK_kindOf 77 = .ok (.invokespecial 158, 3) := by decide +kernel
theorem dPK_kindOf_80 : decode cPK_kindOf 80 = .ok (.areturn, 1) := by decide +kernel
theorem dPK_kindOf_81 : decode cPK_kindOf 81 = .ok (.new 161, 3) := by decide +kernel
theorem dPK_kindOf_84 : decode cPK_kindOf 84 = .ok (.dup, 1) := by decide +kernel
theorem dPK_kindOf_85 : decode cPK_kindOf 85 = .ok (.iload_n 1, 1) := by decide +kernel
theorem dPK_kindOf_86 : decode cPK_kindOf 86 = .ok (.invokespecial 163, 3) := by decide +kernel
theorem dPK_kindOf_89 : decode cPK_kindOf 89 = .ok (.areturn, 1) := by decide +kernel
theorem dPK_kindOf_90 : decode cPK_kindOf 90 = .ok (.new 164, 3) := by decide +kernel
theorem dPK_kindOf_93 : decode cPK_kindOf 93 = .ok (.dup, 1) := by decide +kernel
theorem dPK_kindOf_94 : decode cPK_kindOf 94 = .ok (.iload_n 1, 1) := by decide +kernel
theorem dPK_kindOf_95 : decode cPK_kindOf 95 = .ok (.invokespecial 166, 3) := by decide +kernel
theorem dPK_kindOf_98 : decode cPK_kindOf 98 = .ok (.areturn, 1) := by decide +kernel
theorem dPK_kindOf_99 : decode cPK_kindOf 99 = .ok (.new 167, 3) := by decide +kernel
theorem dPK_kindOf_102 : decode cPK_kindOf 102 = .ok (.dup, 1) := by decide +kernel
theorem dPK_kindOf_103 : decode cPK_kindOf 103 = .ok (.iload_n 1, 1) := by decide +kernel
theorem dPK_kindOf_104 : decode cPK_kindOf 104 = .ok (.invokespecial 169, 3) := by decide +kernel
theorem dPK_kindOf_107 : decode cPK_kindOf 107 = .ok (.areturn, 1) := by decide +kernel
theorem dPK_kindOf_108 : decode cPK_kindOf 108 = .ok (.new 170, 3) := by decide +kernel
theorem dPK_kindOf_111 : decode cPK_kindOf 111 = .ok (.dup, 1) := by decide +kernel
theorem dPK_kindOf_112 : decode cPK_kindOf 112 = .ok (.iload_n 1, 1) := by decide +kernel
theorem dPK_kindOf_113 : decode cPK_kindOf 113 = .ok (.invokespecial 172, 3) := by decide +kernel
theorem dPK_kindOf_116 : decode cPK_kindOf 116 = .ok (.areturn, 1) := by decide +kernel
theorem dPK_kindOf_117 : decode cPK_kindOf 117 = .ok (.new 173, 3) := by decide +kernel
theorem dPK_kindOf_120 : decode cPK_kindOf 120 = .ok (.dup, 1) := by decide +kernel
theorem dPK_kindOf_121 : decode cPK_kindOf 121 = .ok (.iload_n 1, 1) := by decide +kernel
theorem dPK_kindOf_122 : decode cPK_kindOf 122 = .ok (.invokespecial 175, 3) := by decide +kernel
theorem dPK_kindOf_125 : decode cPK_kindOf 125 = .ok (.areturn, 1) := by decide +kernel
theorem dPK_kindOf_126 : decode cPK_kindOf 126 = .ok (.new 176, 3) := by decide +kernel
theorem dPK_kindOf_129 : decode cPK_kindOf 129 = .ok (.dup, 1) := by decide +kernel
theorem dPK_kindOf_130 : decode cPK_kindOf 130 = .ok (.iload_n 1, 1) := by decide +kernel
theorem dPK_kindOf_131 : decode cPK_kindOf 131 = .ok (.iload_n 2, 1) := by decide +kernel
theorem dPK_kindOf_132 : decode cPK_kindOf 132 = .ok (.invokespecial 178, 3) := by decide +kernel
theorem dPK_kindOf_135 : decode cPK_kindOf 135 = .ok (.areturn, 1) := by decide +kernel
theorem dPK_kindOf_136 : decode cPK_kindOf 136 = .ok (.new 181, 3) := by decide +kernel
theorem dPK_kindOf_139 : decode cPK_kindOf 139 = .ok (.dup, 1) := by decide +kernel
theorem dPK_kindOf_140 : decode cPK_kindOf 140 = .ok (.iload_n 1, 1) := by decide +kernel
theorem dPK_kindOf_141 : decode cPK_kindOf 141 = .ok (.invokespecial 183, 3) := by decide +kernel
theorem dPK_kindOf_144 : decode cPK_kindOf 144 = .ok (.areturn, 1) := by decide +kernel
theorem dPK_init_0 : decode cPK_init 0 = .ok (.aload_n 0, 1) := by decide +kernel
theorem dPK_init_1 : decode cPK_init 1 = .ok (.invokespecial 1, 3) := by decide +kernel
theorem dPK_init_4 : decode cPK_init 4 = .ok (.aload_n 0, 1) := by decide +kernel
theorem dPK_init_5 : decode cPK_init 5 = .ok (.iload_n 1, 1) := by decide +kernel
theorem dPK_init_6 : decode cPK_init 6 = .ok (.bipush 10, 2) := by decide +kernel
theorem dPK_init_8 : decode cPK_init 8 = .ok (.invokestatic 9, 3) := by decide +kernel
theorem dPK_init_11 : decode cPK_init 11 = .ok (.putfield 15, 3) := by decide +kernel
theorem dPK_init_14 : decode cPK_init 14 = .ok (.aload_n 0, 1) := by decide +kernel
theorem dPK_init_15 : decode cPK_init 15 = .ok (.iconst 1, 1) := by decide +kernel
theorem dPK_init_16 : decode cPK_init 16 = .ok (.iload_n 2, 1) := by decide +kernel
theorem dPK_init_17 : decode cPK_init 17 = .ok (.i2l, 1) := by decide +kernel
theorem dPK_init_18 : decode cPK_init 18 = .ok (.lconst 1, 1) := by decide +kernel
theorem dPK_init_19 : decode cPK_init 19 = .ok (.lsub, 1) := by decide +kernel
theorem dPK_init_20 : decode cPK_init 20 = .ok (.ldc2_w 19, 3) := by decide +kernel
theorem dPK_init_23 : decode cPK_init 23 = .ok (.invokestatic 21, 3) := by decide +kernel
theorem dPK_init_26 : decode cPK_init 26 = .ok (.l2i, 1) := by decide +kernel
theorem dPK_init_27 : decode cPK_init 27 = .ok (.iadd, 1) := by decide +kernel
theorem dPK_init_28 : decode cPK_init 28 = .ok (.putfield 24, 3) := by decide +kernel
theorem dPK_init_31 : decode cPK_init 31 = .ok (.aload_n 0, 1) := by decide +kernel
theorem dPK_init_32 : decode cPK_init 32 = .ok (.aload_n 0, 1) := by decide +kernel
theorem dPK_init_33 : decode cPK_init 33 = .ok (.getfield 15, 3) := by decide +kernel
theorem dPK_init_36 : decode cPK_init 36 = .ok (.aload_n 0, 1) := by decide +kernel
theorem dPK_init_37 : decode cPK_init 37 = .ok (.getfield 24, 3) := by decide +kernel
theorem dPK_init_40 : decode cPK_init 40 = .ok (.iload_n 3, 1) := by decide +kernel
theorem dPK_init_41 : decode cPK_init 41 = .ok (.invokestatic 27, 3) := by decide +kernel
theorem dPK_init_44 : decode cPK_init 44 = .ok (.putfield 31, 3) := by decide +kernel
theorem dPK_init_47 : decode cPK_init 47 = .ok (.aload_n 0, 1) := by decide +kernel
theorem dPK_init_48 : decode cPK_init 48 = .ok (.new 35, 3) := by decide +kernel
theorem dPK_init_51 : decode cPK_init 51 = .ok (.dup, 1) := by decide +kernel
theorem dPK_init_52 : decode cPK_init 52 = .ok (.invokespecial 37, 3) := by decide +kernel
theorem dPK_init_55 : decode cPK_init 55 = .ok (.putfield 38, 3) := by decide +kernel
theorem dPK_init_58 : decode cPK_init 58 = .ok (.aload_n 0, 1) := by decide +kernel
theorem dPK_init_59 : decode cPK_init 59 = .ok (.bipush 32, 2) := by decide +kernel
theorem dPK_init_61 : decode cPK_init 61 = .ok (.iconst 0, 1) := by decide +kernel
theorem dPK_init_62 : decode cPK_init 62 = .ok (.invokestatic 42, 3) := by decide +kernel
theorem dPK_init_65 : decode cPK_init 65 = .ok (.putfield 46, 3) := by decide +kernel
theorem dPK_init_68 : decode cPK_init 68 = .ok (.return_, 1) := by decide +kernel
theorem dMd_init_0 : decode cMd_init 0 = .ok (.aload_n 0, 1) := by decide +kernel
theorem dMd_init_1 : decode cMd_init 1 = .ok (.invokespecial 1, 3) := by decide +kernel
theorem dMd_init_4 : decode cMd_init 4 = .ok (.aload_n 0, 1) := by decide +kernel
theorem dMd_init_5 : decode cMd_init 5 = .ok (.sipush 1024, 3) := by decide +kernel
theorem dMd_init_8 : decode cMd_init 8 = .ok (.newarray .int, 2) := by decide +kernel
theorem dMd_init_10 : decode cMd_init 10 = .ok (.putfield 7, 3) := by decide +kernel
theorem dMd_init_13 : decode cMd_init 13 = .ok (.aload_n 0, 1) := by decide +kernel
theorem dMd_init_14 : decode cMd_init 14 = .ok (.sipush 1024, 3) := by decide +kernel
theorem dMd_init_17 : decode cMd_init 17 = .ok (.newarray .int, 2) := by decide +kernel
theorem dMd_init_19 : decode cMd_init 19 = .ok (.putfield 13, 3) := by decide +kernel
theorem dMd_init_22 : decode cMd_init 22 = .ok (.aload_n 0, 1) := by decide +kernel
theorem dMd_init_23 : decode cMd_init 23 = .ok (.sipush 1024, 3) := by decide +kernel
theorem dMd_init_26 : decode cMd_init 26 = .ok (.newarray .int, 2) := by decide +kernel
theorem dMd_init_28 : decode cMd_init 28 = .ok (.putfield 16, 3) := by decide +kernel
theorem dMd_init_31 : decode cMd_init 31 = .ok (.aload_n 0, 1) := by decide +kernel
theorem dMd_init_32 : decode cMd_init 32 = .ok (.sipush 1024, 3) := by decide +kernel
theorem dMd_init_35 : decode cMd_init 35 = .ok (.newarray .int, 2) := by decide +kernel
theorem dMd_init_37 : decode cMd_init 37 = .ok (.putfield 19, 3) := by decide +kernel
theorem dMd_init_40 : decode cMd_init 40 = .ok (.aload_n 0, 1) := by decide +kernel
theorem dMd_init_41 : decode cMd_init 41 = .ok (.sipush 1024, 3) := by decide +kernel
theorem dMd_init_44 : decode cMd_init 44 = .ok (.newarray .int, 2) := by decide +kernel
theorem dMd_init_46 : decode cMd_init 46 = .ok (.putfield 22, 3) := by decide +kernel
theorem dMd_init_49 : decode cMd_init 49 = .ok (.aload_n 0, 1) := by decide +kernel
theorem dMd_init_50 : decode cMd_init 50 = .ok (.sipush 1024, 3) := by decide +kernel
theorem dMd_init_53 : decode cMd_init 53 = .ok (.newarray .int, 2) := by decide +kernel
theorem dMd_init_55 : decode cMd_init 55 = .ok (.putfield 25, 3) := by decide +kernel
theorem dMd_init_58 : decode cMd_init 58 = .ok (.aload_n 0, 1) := by decide +kernel
theorem dMd_init_59 : decode cMd_init 59 = .ok (.sipush 3072, 3) := by decide +kernel
theorem dMd_init_62 : decode cMd_init 62 = .ok (.newarray .int, 2) := by decide +kernel
theorem dMd_init_64 : decode cMd_init 64 = .ok (.putfield 28, 3) := by decide +kernel
theorem dMd_init_67 : decode cMd_init 67 = .ok (.aload_n 0, 1) := by decide +kernel
theorem dMd_init_68 : decode cMd_init 68 = .ok (.sipush 3072, 3) := by decide +kernel
theorem dMd_init_71 : decode cMd_init 71 = .ok (.newarray .int, 2) := by decide +kernel
theorem dMd_init_73 : decode cMd_init 73 = .ok (.putfield 31, 3) := by decide +kernel
theorem dMd_init_76 : decode cMd_init 76 = .ok (.aload_n 0, 1) := by decide +kernel
theorem dMd_init_77 : decode cMd_init 77 = .ok (.sipush 3072, 3) := by decide +kernel
theorem dMd_init_80 : decode cMd_init 80 = .ok (.newarray .int, 2) := by decide +kernel
theorem dMd_init_82 : decode cMd_init 82 = .ok (.putfield 34, 3) := by decide +kernel
theorem dMd_init_85 : decode cMd_init 85 = .ok (.aload_n 0, 1) := by decide +kernel
theorem dMd_init_86 : decode cMd_init 86 = .ok (.sipush 9216, 3) := by decide +kernel
theorem dMd_init_89 : decode cMd_init 89 = .ok (.newarray .int, 2) := by decide +kernel
theorem dMd_init_91 : decode cMd_init 91 = .ok (.putfield 37, 3) := by decide +kernel
theorem dMd_init_94 : decode cMd_init 94 = .ok (.aload_n 0, 1) := by decide +kernel
theorem dMd_init_95 : decode cMd_init 95 = .ok (.sipush 1024, 3) := by decide +kernel
theorem dMd_init_98 : decode cMd_init 98 = .ok (.newarray .int, 2) := by decide +kernel
theorem dMd_init_100 : decode cMd_init 100 = .ok (.putfield 40, 3) := by decide +kernel
theorem dMd_init_103 : decode cMd_init 103 = .ok (.aload_n 0, 1) := by decide +kernel
theorem dMd_init_104 : decode cMd_init 104 = .ok (.sipush 1024, 3) := by decide +kernel
theorem dMd_init_107 : decode cMd_init 107 = .ok (.newarray .int, 2) := by decide +kernel
theorem dMd_init_109 : decode cMd_init 109 = .ok (.putfield 43, 3) := by decide +kernel
theorem dMd_init_112 : decode cMd_init 112 = .ok (.aload_n 0, 1) := by decide +kernel
theorem dMd_init_113 : decode cMd_init 113 = .ok (.sipush 1024, 3) := by decide +kernel
theorem dMd_init_116 : decode cMd_init 116 = .ok (.newarray .int, 2) := by decide +kernel
theorem dMd_init_118 : decode cMd_init 118 = .ok (.putfield 46, 3) := by decide +kernel
theorem dMd_init_121 : decode cMd_init 121 = .ok (.aload_n 0, 1) := by decide +kernel
theorem dMd_init_122 : decode cMd_init 122 = .ok (.sipush 1024, 3) := by decide +kernel
theorem dMd_init_125 : decode cMd_init 125 = .ok (.newarray .int, 2) := by decide +kernel
theorem dMd_init_127 : decode cMd_init 127 = .ok (.putfield 49, 3) := by decide +kernel
theorem dMd_init_130 : decode cMd_init 130 = .ok (.aload_n 0, 1) := by decide +kernel
theorem dMd_init_131 : decode cMd_init 131 = .ok (.bipush 64, 2) := by decide +kernel
theorem dMd_init_133 : decode cMd_init 133 = .ok (.newarray .int, 2) := by decide +kernel
theorem dMd_init_135 : decode cMd_init 135 = .ok (.putfield 52, 3) := by decide +kernel
theorem dMd_init_138 : decode cMd_init 138 = .ok (.aload_n 0, 1) := by decide +kernel
theorem dMd_init_139 : decode cMd_init 139 = .ok (.bipush 64, 2) := by decide +kernel
theorem dMd_init_141 : decode cMd_init 141 = .ok (.newarray .int, 2) := by decide +kernel
theorem dMd_init_143 : decode cMd_init 143 = .ok (.putfield 55, 3) := by decide +kernel
theorem dMd_init_146 : decode cMd_init 146 = .ok (.aload_n 0, 1) := by decide +kernel
theorem dMd_init_147 : decode cMd_init 147 = .ok (.bipush 64, 2) := by decide +kernel
theorem dMd_init_149 : decode cMd_init 149 = .ok (.newarray .boolean, 2) := by decide +kernel
theorem dMd_init_151 : decode cMd_init 151 = .ok (.putfield 58, 3) := by decide +kernel
theorem dMd_init_154 : decode cMd_init 154 = .ok (.aload_n 0, 1) := by decide +kernel
theorem dMd_init_155 : decode cMd_init 155 = .ok (.bipush 32, 2) := by decide +kernel
theorem dMd_init_157 : decode cMd_init 157 = .ok (.newarray .int, 2) := by decide +kernel
theorem dMd_init_159 : decode cMd_init 159 = .ok (.putfield 62, 3) := by decide +kernel
theorem dMd_init_162 : decode cMd_init 162 = .ok (.aload_n 0, 1) := by decide +kernel
theorem dMd_init_163 : decode cMd_init 163 = .ok (.iload_n 1, 1) := by decide +kernel
theorem dMd_init_164 : decode cMd_init 164 = .ok (.invokestatic 65, 3) := by decide +kernel
theorem dMd_init_167 : decode cMd_init 167 = .ok (.putfield 69, 3) := by decide +kernel
theorem dMd_init_170 : decode cMd_init 170 = .ok (.aload_n 0, 1) := by decide +kernel
theorem dMd_init_171 : decode cMd_init 171 = .ok (.iconst 1, 1) := by decide +kernel
theorem dMd_init_172 : decode cMd_init 172 = .ok (.iload_n 2, 1) := by decide +kernel
theorem dMd_init_173 : decode cMd_init 173 = .ok (.invokestatic 65, 3) := by decide +kernel
theorem dMd_init_176 : decode cMd_init 176 = .ok (.bipush 9, 2) := by decide +kernel
theorem dMd_init_178 : decode cMd_init 178 = .ok (.iadd, 1) := by decide +kernel
theorem dMd_init_179 : decode cMd_init 179 = .ok (.invokestatic 65, 3) := by decide +kernel
theorem dMd_init_182 : decode cMd_init 182 = .ok (.iadd, 1) := by decide +kernel
theorem dMd_init_183 : decode cMd_init 183 = .ok (.putfield 73, 3) := by decide +kernel
theorem dMd_init_186 : decode cMd_init 186 = .ok (.aload_n 0, 1) := by decide +kernel
theorem dMd_init_187 : decode cMd_init 187 = .ok (.iconst 1, 1) := by decide +kernel
theorem dMd_init_188 : decode cMd_init 188 = .ok (.aload_n 0, 1) := by decide +kernel
theorem dMd_init_189 : decode cMd_init 189 = .ok (.getfield 73, 3) := by decide +kernel
theorem dMd_init_192 : decode cMd_init 192 = .ok (.ishl, 1) := by decide +kernel
theorem dMd_init_193 : decode cMd_init 193 = .ok (.putfield 76, 3) := by decide +kernel
theorem dMd_init_196 : decode cMd_init 196 = .ok (.aload_n 0, 1) := by decide +kernel
theorem dMd_init_197 : decode cMd_init 197 = .ok (.iload_n 3, 1) := by decide +kernel
theorem dMd_init_198 : decode cMd_init 198 = .ok (.putfield 79, 3) := by decide +kernel
theorem dMd_init_201 : decode cMd_init 201 = .ok (.iconst 0, 1) := by decide +kernel
theorem dMd_init_202 : decode cMd_init 202 = .ok (.istore 4, 2) := by decide +kernel
theorem dMd_init_204 : decode cMd_init 204 = .ok (.iload 4, 2) := by decide +kernel
theorem dMd_init_206 : decode cMd_init 206 = .ok (.sipush 1024, 3) := by decide +kernel
theorem dMd_init_209 : decode cMd_init 209 = .ok (.if_icmp .ge 49, 3) := by decide +kernel
theorem dMd_init_212 : decode cMd_init 212 = .ok (.aload_n 0, 1) := by decide +kernel
theorem dMd_init_213 : decode cMd_init 213 = .ok (.getfield 13, 3) := by decide +kernel
theorem dMd_init_216 : decode cMd_init 216 = .ok (.iload 4, 2) := by decide +kernel
theorem dMd_init_218 : decode cMd_init 218 = .ok (.iconst 1, 1) := by decide +kernel
theorem dMd_init_219 : decode cMd_init 219 = .ok (.iastore, 1) := by decide +kernel
theorem dMd_init_220 : decode cMd_init 220 = .ok (.aload_n 0, 1) := by decide +kernel
theorem dMd_init_221 : decode cMd_init 221 = .ok (.getfield 16, 3) := by decide +kernel
theorem dMd_init_224 : decode cMd_init 224 = .ok (.iload 4, 2) := by decide +kernel
theorem dMd_init_226 : decode cMd_init 226 = .ok (.iconst 1, 1) := by decide +kernel
theorem dMd_init_227 : decode cMd_init 227 = .ok (.iastore, 1) := by decide +kernel
theorem dMd_init_228 : decode cMd_init 228 = .ok (.aload_n 0, 1) := by decide +kernel
theorem dMd_init_229 : decode cMd_init 229 = .ok (.getfield 19, 3) := by decide +kernel
theorem dMd_init_232 : decode cMd_init 232 = .ok (.iload 4, 2) := by decide +kernel
theorem dMd_init_234 : decode cMd_init 234 = .ok (.iconst 1, 1) := by decide +kernel
theorem dMd_init_235 : decode cMd_init 235 = .ok (.iastore, 1) := by decide +kernel
theorem dMd_init_236 : decode cMd_init 236 = .ok (.aload_n 0, 1) := by decide +kernel
theorem dMd_init_237 : decode cMd_init 237 = .ok (.getfield 25, 3) := by decide +kernel
theorem dMd_init_240 : decode cMd_init 240 = .ok (.iload 4, 2) := by decide +kernel
theorem dMd_init_242 : decode cMd_init 242 = .ok (.iconst 1, 1) := by decide +kernel
theorem dMd_init_243 : decode cMd_init 243 = .ok (.iastore, 1) := by decide +kernel
theorem dMd_init_244 : decode cMd_init 244 = .ok (.aload_n 0, 1) := by decide +kernel
theorem dMd_init_245 : decode cMd_init 245 = .ok (.getfield 40, 3) := by decide +kernel
theorem dMd_init_248 : decode cMd_init 248 = .ok (.iload 4, 2) := by decide +kernel
theorem dMd_init_250 : decode cMd_init 250 = .ok (.iconst (-1), 1) := by decide +kernel
theorem dMd_init_251 : decode cMd_init 251 = .ok (.iastore, 1) := by decide +kernel
theorem dMd_init_252 : decode cMd_init 252 = .ok (.iinc 4 1, 3) := by decide +kernel
theorem dMd_init_255 : decode cMd_init 255 = .ok (.goto (-51), 3) := by decide +kernel
theorem dMd_init_258 : decode cMd_init 258 = .ok (.iconst 0, 1) := by decide +kernel
theorem dMd_init_259 : decode cMd_init 259 = .ok (.istore 4, 2) := by decide +kernel
theorem dMd_init_261 : decode cMd_init 261 = .ok (.iload 4, 2) := by decide +kernel
theorem dMd_init_263 : decode cMd_init 263 = .ok (.sipush 3072, 3) := by decide +kernel
theorem dMd_init_266 : decode cMd_init 266 = .ok (.if_icmp .ge 17, 3) := by decide +kernel
theorem dMd_init_269 : decode cMd_init 269 = .ok (.aload_n 0, 1) := by decide +kernel
theorem dMd_init_270 : decode cMd_init 270 = .ok (.getfield 28, 3) := by decide +kernel
theorem dMd_init_273 : decode cMd_init 273 = .ok (.iload 4, 2) := by decide +kernel
theorem dMd_init_275 : decode cMd_init 275 = .ok (.iconst (-1), 1) := by decide +kernel
theorem dMd_init_276 : decode cMd_init 276 = .ok (.iastore, 1) := by decide +kernel
theorem dMd_init_277 : decode cMd_init 277 = .ok (.iinc 4 1, 3) := by decide +kernel
theorem dMd_init_280 : decode cMd_init 280 = .ok (.goto (-19), 3) := by decide +kernel
theorem dMd_init_283 : decode cMd_init 283 = .ok (.return_, 1) := by decide +kernel
theorem wd_4 : (Jvm.Cond.initialized "PredictorKinds$Last") ∈ GW := gwm 4 (by decide +kernel) (by decide +kernel)
theorem wd_7 : (Jvm.Cond.initialized "PredictorKinds$Own") ∈ GW := gwm 7 (by decide +kernel) (by decide +kernel)
theorem wd_8 : (Jvm.Cond.initialized "PredictorKinds$Chooser") ∈ GW := gwm 8 (by decide +kernel) (by decide +kernel)
theorem wd_9 : (Jvm.Cond.initialized "PredictorKinds$Tagged") ∈ GW := gwm 9 (by decide +kernel) (by decide +kernel)
theorem wd_10 : (Jvm.Cond.initialized "PredictorKinds$Sums") ∈ GW := gwm 10 (by decide +kernel) (by decide +kernel)
theorem wd_11 : (Jvm.Cond.initialized "PredictorKinds$Loops") ∈ GW := gwm 11 (by decide +kernel) (by decide +kernel)
theorem wd_12 : (Jvm.Cond.initialized "PredictorKinds$Coin") ∈ GW := gwm 12 (by decide +kernel) (by decide +kernel)
theorem wd_13 : (Jvm.Cond.initialized "PredictorKinds$Always") ∈ GW := gwm 13 (by decide +kernel) (by decide +kernel)
theorem wd_14 : (Jvm.Cond.initialized "PredictorKinds$Waiting") ∈ GW := gwm 14 (by decide +kernel) (by decide +kernel)
theorem wd_27 : (Jvm.Cond.methodLink "PredictorKinds" (1 : Nat) ({ cls := "java/lang/Object", name := "<init>", desc := "()V" } : Jvm.MethodName)) ∈ GW := gwm 27 (by decide +kernel) (by decide +kernel)
theorem wd_30 : (Jvm.Cond.methodLink "PredictorKinds" (9 : Nat) ({ cls := "java/lang/Math", name := "floorMod", desc := "(II)I" } : Jvm.MethodName)) ∈ GW := gwm 30 (by decide +kernel) (by decide +kernel)
theorem wd_33 : (Jvm.Cond.constantLong "PredictorKinds" (19 : Nat) (10 : Int64)) ∈ GW := gwm 33 (by decide +kernel) (by decide +kernel)
theorem wd_34 : (Jvm.Cond.methodLink "PredictorKinds" (21 : Nat) ({ cls := "java/lang/Math", name := "floorMod", desc := "(JJ)J" } : Jvm.MethodName)) ∈ GW := gwm 34 (by decide +kernel) (by decide +kernel)
theorem wd_37 : (Jvm.Cond.methodLink "PredictorKinds" (27 : Nat) ({ cls := "PredictorKinds", name := "kindOf", desc := "(III)LPredictorKinds$Kind;" } : Jvm.MethodName)) ∈ GW := gwm 37 (by decide +kernel) (by decide +kernel)
theorem wd_40 : (Jvm.Cond.classLink "PredictorKinds" (152 : Nat) "PredictorKinds$Last") ∈ GW := gwm 40 (by decide +kernel) (by decide +kernel)
theorem wd_41 : (Jvm.Cond.instantiable "PredictorKinds$Last" (4 : Nat)) ∈ GW := gwm 41 (by decide +kernel) (by decide +kernel)
theorem wd_42 : (Jvm.Cond.methodLink "PredictorKinds" (154 : Nat) ({ cls := "PredictorKinds$Last", name := "<init>", desc := "(I)V" } : Jvm.MethodName)) ∈ GW := gwm 42 (by decide +kernel) (by decide +kernel)
theorem wd_95 : (Jvm.Cond.classLink "PredictorKinds" (156 : Nat) "PredictorKinds$Counters") ∈ GW := gwm 95 (by decide +kernel) (by decide +kernel)
theorem wd_97 : (Jvm.Cond.methodLink "PredictorKinds" (158 : Nat) ({ cls := "PredictorKinds$Counters", name := "<init>", desc := "(IZ)V" } : Jvm.MethodName)) ∈ GW := gwm 97 (by decide +kernel) (by decide +kernel)
theorem wd_112 : (Jvm.Cond.classLink "PredictorKinds" (161 : Nat) "PredictorKinds$Own") ∈ GW := gwm 112 (by decide +kernel) (by decide +kernel)
theorem wd_113 : (Jvm.Cond.instantiable "PredictorKinds$Own" (5 : Nat)) ∈ GW := gwm 113 (by decide +kernel) (by decide +kernel)
theorem wd_114 : (Jvm.Cond.methodLink "PredictorKinds" (163 : Nat) ({ cls := "PredictorKinds$Own", name := "<init>", desc := "(I)V" } : Jvm.MethodName)) ∈ GW := gwm 114 (by decide +kernel) (by decide +kernel)
theorem wd_129 : (Jvm.Cond.classLink "PredictorKinds" (164 : Nat) "PredictorKinds$Chooser") ∈ GW := gwm 129 (by decide +kernel) (by decide +kernel)
theorem wd_130 : (Jvm.Cond.instantiable "PredictorKinds$Chooser" (6 : Nat)) ∈ GW := gwm 130 (by decide +kernel) (by decide +kernel)
theorem wd_131 : (Jvm.Cond.methodLink "PredictorKinds" (166 : Nat) ({ cls := "PredictorKinds$Chooser", name := "<init>", desc := "(I)V" } : Jvm.MethodName)) ∈ GW := gwm 131 (by decide +kernel) (by decide +kernel)
theorem wd_151 : (Jvm.Cond.classLink "PredictorKinds" (167 : Nat) "PredictorKinds$Tagged") ∈ GW := gwm 151 (by decide +kernel) (by decide +kernel)
theorem wd_152 : (Jvm.Cond.instantiable "PredictorKinds$Tagged" (7 : Nat)) ∈ GW := gwm 152 (by decide +kernel) (by decide +kernel)
theorem wd_153 : (Jvm.Cond.methodLink "PredictorKinds" (169 : Nat) ({ cls := "PredictorKinds$Tagged", name := "<init>", desc := "(I)V" } : Jvm.MethodName)) ∈ GW := gwm 153 (by decide +kernel) (by decide +kernel)
theorem wd_176 : (Jvm.Cond.classLink "PredictorKinds" (170 : Nat) "PredictorKinds$Sums") ∈ GW := gwm 176 (by decide +kernel) (by decide +kernel)
theorem wd_177 : (Jvm.Cond.instantiable "PredictorKinds$Sums" (4 : Nat)) ∈ GW := gwm 177 (by decide +kernel) (by decide +kernel)
theorem wd_178 : (Jvm.Cond.methodLink "PredictorKinds" (172 : Nat) ({ cls := "PredictorKinds$Sums", name := "<init>", desc := "(I)V" } : Jvm.MethodName)) ∈ GW := gwm 178 (by decide +kernel) (by decide +kernel)
theorem wd_190 : (Jvm.Cond.classLink "PredictorKinds" (173 : Nat) "PredictorKinds$Loops") ∈ GW := gwm 190 (by decide +kernel) (by decide +kernel)
theorem wd_191 : (Jvm.Cond.instantiable "PredictorKinds$Loops" (8 : Nat)) ∈ GW := gwm 191 (by decide +kernel) (by decide +kernel)
theorem wd_192 : (Jvm.Cond.methodLink "PredictorKinds" (175 : Nat) ({ cls := "PredictorKinds$Loops", name := "<init>", desc := "(I)V" } : Jvm.MethodName)) ∈ GW := gwm 192 (by decide +kernel) (by decide +kernel)
theorem wd_218 : (Jvm.Cond.classLink "PredictorKinds" (176 : Nat) "PredictorKinds$Coin") ∈ GW := gwm 218 (by decide +kernel) (by decide +kernel)
theorem wd_219 : (Jvm.Cond.instantiable "PredictorKinds$Coin" (4 : Nat)) ∈ GW := gwm 219 (by decide +kernel) (by decide +kernel)
theorem wd_220 : (Jvm.Cond.methodLink "PredictorKinds" (178 : Nat) ({ cls := "PredictorKinds$Coin", name := "<init>", desc := "(II)V" } : Jvm.MethodName)) ∈ GW := gwm 220 (by decide +kernel) (by decide +kernel)
theorem wd_231 : (Jvm.Cond.classLink "PredictorKinds" (181 : Nat) "PredictorKinds$Always") ∈ GW := gwm 231 (by decide +kernel) (by decide +kernel)
theorem wd_232 : (Jvm.Cond.instantiable "PredictorKinds$Always" (3 : Nat)) ∈ GW := gwm 232 (by decide +kernel) (by decide +kernel)
theorem wd_233 : (Jvm.Cond.methodLink "PredictorKinds" (183 : Nat) ({ cls := "PredictorKinds$Always", name := "<init>", desc := "(I)V" } : Jvm.MethodName)) ∈ GW := gwm 233 (by decide +kernel) (by decide +kernel)
theorem wd_241 : (Jvm.Cond.classLink "PredictorKinds" (35 : Nat) "PredictorKinds$Waiting") ∈ GW := gwm 241 (by decide +kernel) (by decide +kernel)
theorem wd_242 : (Jvm.Cond.instantiable "PredictorKinds$Waiting" (4 : Nat)) ∈ GW := gwm 242 (by decide +kernel) (by decide +kernel)
theorem wd_261 : (Jvm.Cond.methodLink "PredictorKinds" (42 : Nat) ({ cls := "PredictorKinds", name := "cells", desc := "(II)[I" } : Jvm.MethodName)) ∈ GW := gwm 261 (by decide +kernel) (by decide +kernel)
theorem wd_791 : (Jvm.Cond.methodLink "PredictorKindsModel" (1 : Nat) ({ cls := "java/lang/Object", name := "<init>", desc := "()V" } : Jvm.MethodName)) ∈ GW := gwm 791 (by decide +kernel) (by decide +kernel)
theorem wd_792 : (Jvm.Cond.methodLink "PredictorKindsModel" (65 : Nat) ({ cls := "PredictorKindsModel", name := "modulo", desc := "(I)I" } : Jvm.MethodName)) ∈ GW := gwm 792 (by decide +kernel) (by decide +kernel)
theorem wd_889 : (Jvm.Cond.arrayClass Jvm.ClassFile.FieldType.boolean) ∈ GW := gwm 889 (by decide +kernel) (by decide +kernel)
theorem wn_243 : (Jvm.Cond.methodLinkNest "PredictorKinds" (37 : Nat) ({ cls := "PredictorKinds$Waiting", name := "<init>", desc := "()V" } : Jvm.MethodName) "PredictorKinds") ∈ nws := nwm 243 (by decide) (by decide +kernel)
