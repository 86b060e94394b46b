theorem dMd_learnLoop_16 : decode cMd_learnLoop 16 = .ok (.iaload, 1) := by decide +kernel
theorem dMd_learnLoop_17 : decode cMd_learnLoop 17 = .ok (.iload_n 2, 1) := by decide +kernel
theorem dMd_learnLoop_18 : decode cMd_learnLoop 18 = .ok (.invokestatic 128, 3) := by decide +kernel
theorem dMd_learnLoop_21 : decode cMd_learnLoop 21 = .ok (.iastore, 1) := by decide +kernel
theorem dMd_learnLoop_22 : decode cMd_learnLoop 22 = .ok (.aload_n 0, 1) := by decide +kernel
theorem dMd_learnLoop_23 : decode cMd_learnLoop 23 = .ok (.iload_n 1, 1) := by decide +kernel
theorem dMd_learnLoop_24 : decode cMd_learnLoop 24 = .ok (.invokevirtual 108, 3) := by decide +kernel
theorem dMd_learnLoop_27 : decode cMd_learnLoop 27 = .ok (.istore 4, 2) := by decide +kernel
theorem dMd_learnLoop_29 : decode cMd_learnLoop 29 = .ok (.iload 4, 2) := by decide +kernel
theorem dMd_learnLoop_31 : decode cMd_learnLoop 31 = .ok (.ifCond .ne 8, 3) := by decide +kernel
theorem dMd_learnLoop_34 : decode cMd_learnLoop 34 = .ok (.iload_n 2, 1) := by decide +kernel
theorem dMd_learnLoop_35 : decode cMd_learnLoop 35 = .ok (.ifCond .eq 4, 3) := by decide +kernel
theorem dMd_learnLoop_38 : decode cMd_learnLoop 38 = .ok (.return_, 1) := by decide +kernel
theorem dMd_learnLoop_39 : decode cMd_learnLoop 39 = .ok (.iload 4, 2) := by decide +kernel
theorem dMd_learnLoop_41 : decode cMd_learnLoop 41 = .ok (.ifCond .ne 27, 3) := by decide +kernel
theorem dMd_learnLoop_44 : decode cMd_learnLoop 44 = .ok (.aload_n 0, 1) := by decide +kernel
theorem dMd_learnLoop_45 : decode cMd_learnLoop 45 = .ok (.getfield 40, 3) := by decide +kernel
theorem dMd_learnLoop_48 : decode cMd_learnLoop 48 = .ok (.iload_n 3, 1) := by decide +kernel
theorem dMd_learnLoop_49 : decode cMd_learnLoop 49 = .ok (.iload_n 1, 1) := by decide +kernel
theorem dMd_learnLoop_50 : decode cMd_learnLoop 50 = .ok (.aload_n 0, 1) := by decide +kernel
theorem dMd_learnLoop_51 : decode cMd_learnLoop 51 = .ok (.getfield 73, 3) := by decide +kernel
theorem dMd_learnLoop_54 : decode cMd_learnLoop 54 = .ok (.iushr, 1) := by decide +kernel
theorem dMd_learnLoop_55 : decode cMd_learnLoop 55 = .ok (.sipush 255, 3) := by decide +kernel
theorem dMd_learnLoop_58 : decode cMd_learnLoop 58 = .ok (.iand, 1) := by decide +kernel
theorem dMd_learnLoop_59 : decode cMd_learnLoop 59 = .ok (.iastore, 1) := by decide +kernel
theorem dMd_learnLoop_60 : decode cMd_learnLoop 60 = .ok (.aload_n 0, 1) := by decide +kernel
theorem dMd_learnLoop_61 : decode cMd_learnLoop 61 = .ok (.iload_n 3, 1) := by decide +kernel
theorem dMd_learnLoop_62 : decode cMd_learnLoop 62 = .ok (.invokevirtual 140, 3) := by decide +kernel
theorem dMd_learnLoop_65 : decode cMd_learnLoop 65 = .ok (.goto 127, 3) := by decide +kernel
theorem dMd_learnLoop_68 : decode cMd_learnLoop 68 = .ok (.iload_n 2, 1) := by decide +kernel
theorem dMd_learnLoop_69 : decode cMd_learnLoop 69 = .ok (.ifCond .eq 57, 3) := by decide +kernel
theorem dMd_learnLoop_72 : decode cMd_learnLoop 72 = .ok (.aload_n 0, 1) := by decide +kernel
theorem dMd_learnLoop_73 : decode cMd_learnLoop 73 = .ok (.getfield 46, 3) := by decide +kernel
theorem dMd_learnLoop_76 : decode cMd_learnLoop 76 = .ok (.iload_n 3, 1) := by decide +kernel
theorem dMd_learnLoop_77 : decode cMd_learnLoop 77 = .ok (.dup2, 1) := by decide +kernel
theorem dMd_learnLoop_78 : decode cMd_learnLoop 78 = .ok (.iaload, 1) := by decide +kernel
theorem dMd_learnLoop_79 : decode cMd_learnLoop 79 = .ok (.iconst 1, 1) := by decide +kernel
theorem dMd_learnLoop_80 : decode cMd_learnLoop 80 = .ok (.iadd, 1) := by decide +kernel
theorem dMd_learnLoop_81 : decode cMd_learnLoop 81 = .ok (.iastore, 1) := by decide +kernel
theorem dMd_learnLoop_82 : decode cMd_learnLoop 82 = .ok (.aload_n 0, 1) := by decide +kernel
theorem dMd_learnLoop_83 : decode cMd_learnLoop 83 = .ok (.getfield 46, 3) := by decide +kernel
theorem dMd_learnLoop_86 : decode cMd_learnLoop 86 = .ok (.iload_n 3, 1) := by decide +kernel
theorem dMd_learnLoop_87 : decode cMd_learnLoop 87 = .ok (.iaload, 1) := by decide +kernel
theorem dMd_learnLoop_88 : decode cMd_learnLoop 88 = .ok (.sipush 1000, 3) := by decide +kernel
theorem dMd_learnLoop_91 : decode cMd_learnLoop 91 = .ok (.if_icmp .gt 27, 3) := by decide +kernel
theorem dMd_learnLoop_94 : decode cMd_learnLoop 94 = .ok (.aload_n 0, 1) := by decide +kernel
theorem dMd_learnLoop_95 : decode cMd_learnLoop 95 = .ok (.getfield 49, 3) := by decide +kernel
theorem dMd_learnLoop_98 : decode cMd_learnLoop 98 = .ok (.iload_n 3, 1) := by decide +kernel
theorem dMd_learnLoop_99 : decode cMd_learnLoop 99 = .ok (.iaload, 1) := by decide +kernel
theorem dMd_learnLoop_100 : decode cMd_learnLoop 100 = .ok (.ifCond .le 92, 3) := by decide +kernel
theorem dMd_learnLoop_103 : decode cMd_learnLoop 103 = .ok (.aload_n 0, 1) := by decide +kernel
theorem dMd_learnLoop_104 : decode cMd_learnLoop 104 = .ok (.getfield 46, 3) := by decide +kernel
theorem dMd_learnLoop_107 : decode cMd_learnLoop 107 = .ok (.iload_n 3, 1) := by decide +kernel
theorem dMd_learnLoop_108 : decode cMd_learnLoop 108 = .ok (.iaload, 1) := by decide +kernel
theorem dMd_learnLoop_109 : decode cMd_learnLoop 109 = .ok (.aload_n 0, 1) := by decide +kernel
theorem dMd_learnLoop_110 : decode cMd_learnLoop 110 = .ok (.getfield 43, 3) := by decide +kernel
theorem dMd_learnLoop_113 : decode cMd_learnLoop 113 = .ok (.iload_n 3, 1) := by decide +kernel
theorem dMd_learnLoop_114 : decode cMd_learnLoop 114 = .ok (.iaload, 1) := by decide +kernel
theorem dMd_learnLoop_115 : decode cMd_learnLoop 115 = .ok (.if_icmp .le 77, 3) := by decide +kernel
theorem dMd_learnLoop_118 : decode cMd_learnLoop 118 = .ok (.aload_n 0, 1) := by decide +kernel
theorem dMd_learnLoop_119 : decode cMd_learnLoop 119 = .ok (.iload_n 3, 1) := by decide +kernel
theorem dMd_learnLoop_120 : decode cMd_learnLoop 120 = .ok (.invokevirtual 140, 3) := by decide +kernel
theorem dMd_learnLoop_123 : decode cMd_learnLoop 123 = .ok (.goto 69, 3) := by decide +kernel
theorem dMd_learnLoop_126 : decode cMd_learnLoop 126 = .ok (.aload_n 0, 1) := by decide +kernel
theorem dMd_learnLoop_127 : decode cMd_learnLoop 127 = .ok (.getfield 46, 3) := by decide +kernel
theorem dMd_learnLoop_130 : decode cMd_learnLoop 130 = .ok (.iload_n 3, 1) := by decide +kernel
theorem dMd_learnLoop_131 : decode cMd_learnLoop 131 = .ok (.iaload, 1) := by decide +kernel
theorem dMd_learnLoop_132 : decode cMd_learnLoop 132 = .ok (.aload_n 0, 1) := by decide +kernel
theorem dMd_learnLoop_133 : decode cMd_learnLoop 133 = .ok (.getfield 43, 3) := by decide +kernel
theorem dMd_learnLoop_136 : decode cMd_learnLoop 136 = .ok (.iload_n 3, 1) := by decide +kernel
theorem dMd_learnLoop_137 : decode cMd_learnLoop 137 = .ok (.iaload, 1) := by decide +kernel
theorem dMd_learnLoop_138 : decode cMd_learnLoop 138 = .ok (.if_icmp .ne 7, 3) := by decide +kernel
theorem dMd_learnLoop_141 : decode cMd_learnLoop 141 = .ok (.iconst 1, 1) := by decide +kernel
theorem dMd_learnLoop_142 : decode cMd_learnLoop 142 = .ok (.goto 4, 3) := by decide +kernel
theorem dMd_learnLoop_145 : decode cMd_learnLoop 145 = .ok (.iconst 0, 1) := by decide +kernel
theorem dMd_learnLoop_146 : decode cMd_learnLoop 146 = .ok (.istore 5, 2) := by decide +kernel
theorem dMd_learnLoop_148 : decode cMd_learnLoop 148 = .ok (.aload_n 0, 1) := by decide +kernel
theorem dMd_learnLoop_149 : decode cMd_learnLoop 149 = .ok (.getfield 49, 3) := by decide +kernel
theorem dMd_learnLoop_152 : decode cMd_learnLoop 152 = .ok (.iload_n 3, 1) := by decide +kernel
theorem dMd_learnLoop_153 : decode cMd_learnLoop 153 = .ok (.iload 5, 2) := by decide +kernel
theorem dMd_learnLoop_155 : decode cMd_learnLoop 155 = .ok (.ifCond .eq 16, 3) := by decide +kernel
theorem dMd_learnLoop_158 : decode cMd_learnLoop 158 = .ok (.aload_n 0, 1) := by decide +kernel
theorem dMd_learnLoop_159 : decode cMd_learnLoop 159 = .ok (.getfield 49, 3) := by decide +kernel
theorem dMd_learnLoop_162 : decode cMd_learnLoop 162 = .ok (.iload_n 3, 1) := by decide +kernel
theorem dMd_learnLoop_163 : decode cMd_learnLoop 163 = .ok (.iaload, 1) := by decide +kernel
theorem dMd_learnLoop_164 : decode cMd_learnLoop 164 = .ok (.iconst 1, 1) := by decide +kernel
theorem dMd_learnLoop_165 : decode cMd_learnLoop 165 = .ok (.invokestatic 128, 3) := by decide +kernel
theorem dMd_learnLoop_168 : decode cMd_learnLoop 168 = .ok (.goto 4, 3) := by decide +kernel
theorem dMd_learnLoop_171 : decode cMd_learnLoop 171 = .ok (.iconst 0, 1) := by decide +kernel
theorem dMd_learnLoop_172 : decode cMd_learnLoop 172 = .ok (.iastore, 1) := by decide +kernel
theorem dMd_learnLoop_173 : decode cMd_learnLoop 173 = .ok (.aload_n 0, 1) := by decide +kernel
theorem dMd_learnLoop_174 : decode cMd_learnLoop 174 = .ok (.getfield 43, 3) := by decide +kernel
theorem dMd_learnLoop_177 : decode cMd_learnLoop 177 = .ok (.iload_n 3, 1) := by decide +kernel
theorem dMd_learnLoop_178 : decode cMd_learnLoop 178 = .ok (.aload_n 0, 1) := by decide +kernel
theorem dMd_learnLoop_179 : decode cMd_learnLoop 179 = .ok (.getfield 46, 3) := by decide +kernel
theorem dMd_learnLoop_182 : decode cMd_learnLoop 182 = .ok (.iload_n 3, 1) := by decide +kernel
theorem dMd_learnLoop_183 : decode cMd_learnLoop 183 = .ok (.iaload, 1) := by decide +kernel
theorem dMd_learnLoop_184 : decode cMd_learnLoop 184 = .ok (.iastore, 1) := by decide +kernel
theorem dMd_learnLoop_185 : decode cMd_learnLoop 185 = .ok (.aload_n 0, 1) := by decide +kernel
theorem dMd_learnLoop_186 : decode cMd_learnLoop 186 = .ok (.getfield 46, 3) := by decide +kernel
theorem dMd_learnLoop_189 : decode cMd_learnLoop 189 = .ok (.iload_n 3, 1) := by decide +kernel
theorem dMd_learnLoop_190 : decode cMd_learnLoop 190 = .ok (.iconst 0, 1) := by decide +kernel
theorem dMd_learnLoop_191 : decode cMd_learnLoop 191 = .ok (.iastore, 1) := by decide +kernel
theorem dMd_learnLoop_192 : decode cMd_learnLoop 192 = .ok (.return_, 1) := by decide +kernel
theorem dMd_behind_0 : decode cMd_behind 0 = .ok (.iload_n 0, 1) := by decide +kernel
theorem dMd_behind_1 : decode cMd_behind 1 = .ok (.iconst 1, 1) := by decide +kernel
theorem dMd_behind_2 : decode cMd_behind 2 = .ok (.ishl, 1) := by decide +kernel
theorem dMd_behind_3 : decode cMd_behind 3 = .ok (.iload_n 1, 1) := by decide +kernel
theorem dMd_behind_4 : decode cMd_behind 4 = .ok (.ifCond .eq 7, 3) := by decide +kernel
theorem dMd_behind_7 : decode cMd_behind 7 = .ok (.iconst 1, 1) := by decide +kernel
theorem dMd_behind_8 : decode cMd_behind 8 = .ok (.goto 4, 3) := by decide +kernel
theorem dMd_behind_11 : decode cMd_behind 11 = .ok (.iconst 0, 1) := by decide +kernel
theorem dMd_behind_12 : decode cMd_behind 12 = .ok (.ior, 1) := by decide +kernel
theorem dMd_behind_13 : decode cMd_behind 13 = .ok (.ireturn, 1) := by decide +kernel
theorem dMd_early_0 : decode cMd_early 0 = .ok (.aload_n 0, 1) := by decide +kernel
theorem dMd_early_1 : decode cMd_early 1 = .ok (.iconst 0, 1) := by decide +kernel
theorem dMd_early_2 : decode cMd_early 2 = .ok (.putfield 82, 3) := by decide +kernel
theorem dMd_early_5 : decode cMd_early 5 = .ok (.aload_n 0, 1) := by decide +kernel
theorem dMd_early_6 : decode cMd_early 6 = .ok (.getfield 162, 3) := by decide +kernel
theorem dMd_early_9 : decode cMd_early 9 = .ok (.istore_n 2, 1) := by decide +kernel
theorem dMd_early_10 : decode cMd_early 10 = .ok (.aload_n 0, 1) := by decide +kernel
theorem dMd_early_11 : decode cMd_early 11 = .ok (.iload_n 1, 1) := by decide +kernel
theorem dMd_early_12 : decode cMd_early 12 = .ok (.putfield 162, 3) := by decide +kernel
theorem dMd_early_15 : decode cMd_early 15 = .ok (.aload_n 0, 1) := by decide +kernel
theorem dMd_early_16 : decode cMd_early 16 = .ok (.iconst 0, 1) := by decide +kernel
theorem dMd_early_17 : decode cMd_early 17 = .ok (.putfield 166, 3) := by decide +kernel
theorem dMd_early_20 : decode cMd_early 20 = .ok (.iload_n 2, 1) := by decide +kernel
theorem dMd_early_21 : decode cMd_early 21 = .ok (.ireturn, 1) := by decide +kernel
theorem dMd_history_0 : decode cMd_history 0 = .ok (.aload_n 0, 1) := by decide +kernel
theorem dMd_history_1 : decode cMd_history 1 = .ok (.iconst 0, 1) := by decide +kernel
theorem dMd_history_2 : decode cMd_history 2 = .ok (.putfield 82, 3) := by decide +kernel
theorem dMd_history_5 : decode cMd_history 5 = .ok (.aload_n 0, 1) := by decide +kernel
theorem dMd_history_6 : decode cMd_history 6 = .ok (.getfield 155, 3) := by decide +kernel
theorem dMd_history_9 : decode cMd_history 9 = .ok (.ireturn, 1) := by decide +kernel
theorem dMd_mark_0 : decode cMd_mark 0 = .ok (.aload_n 0, 1) := by decide +kernel
theorem dMd_mark_1 : decode cMd_mark 1 = .ok (.iconst 0, 1) := by decide +kernel
theorem dMd_mark_2 : decode cMd_mark 2 = .ok (.putfield 82, 3) := by decide +kernel
theorem dMd_mark_5 : decode cMd_mark 5 = .ok (.aload_n 0, 1) := by decide +kernel
theorem dMd_mark_6 : decode cMd_mark 6 = .ok (.getfield 187, 3) := by decide +kernel
theorem dMd_mark_9 : decode cMd_mark 9 = .ok (.bipush 32, 2) := by decide +kernel
theorem dMd_mark_11 : decode cMd_mark 11 = .ok (.if_icmp .ne 9, 3) := by decide +kernel
theorem dMd_mark_14 : decode cMd_mark 14 = .ok (.aload_n 0, 1) := by decide +kernel
theorem dMd_mark_15 : decode cMd_mark 15 = .ok (.iconst 1, 1) := by decide +kernel
theorem dMd_mark_16 : decode cMd_mark 16 = .ok (.invokevirtual 190, 3) := by decide +kernel
theorem dMd_mark_19 : decode cMd_mark 19 = .ok (.ireturn, 1) := by decide +kernel
theorem dMd_mark_20 : decode cMd_mark 20 = .ok (.aload_n 0, 1) := by decide +kernel
theorem dMd_mark_21 : decode cMd_mark 21 = .ok (.getfield 62, 3) := by decide +kernel
theorem dMd_mark_24 : decode cMd_mark 24 = .ok (.aload_n 0, 1) := by decide +kernel
theorem dMd_mark_25 : decode cMd_mark 25 = .ok (.getfield 187, 3) := by decide +kernel
theorem dMd_mark_28 : decode cMd_mark 28 = .ok (.aload_n 0, 1) := by decide +kernel
theorem dMd_mark_29 : decode cMd_mark 29 = .ok (.getfield 155, 3) := by decide +kernel
theorem dMd_mark_32 : decode cMd_mark 32 = .ok (.iastore, 1) := by decide +kernel
theorem dMd_mark_33 : decode cMd_mark 33 = .ok (.aload_n 0, 1) := by decide +kernel
theorem dMd_mark_34 : decode cMd_mark 34 = .ok (.dup, 1) := by decide +kernel
theorem dMd_mark_35 : decode cMd_mark 35 = .ok (.getfield 187, 3) := by decide +kernel
theorem dMd_mark_38 : decode cMd_mark 38 = .ok (.iconst 1, 1) := by decide +kernel
theorem dMd_mark_39 : decode cMd_mark 39 = .ok (.iadd, 1) := by decide +kernel
theorem dMd_mark_40 : decode cMd_mark 40 = .ok (.putfield 187, 3) := by decide +kernel
theorem dMd_mark_43 : decode cMd_mark 43 = .ok (.aload_n 0, 1) := by decide +kernel
theorem dMd_mark_44 : decode cMd_mark 44 = .ok (.getfield 187, 3) := by decide +kernel
theorem dMd_mark_47 : decode cMd_mark 47 = .ok (.iconst 1, 1) := by decide +kernel
theorem dMd_mark_48 : decode cMd_mark 48 = .ok (.isub, 1) := by decide +kernel
theorem dMd_mark_49 : decode cMd_mark 49 = .ok (.ireturn, 1) := by decide +kernel
theorem dMd_repair_0 : decode cMd_repair 0 = .ok (.aload_n 0, 1) := by decide +kernel
theorem dMd_repair_1 : decode cMd_repair 1 = .ok (.iconst 0, 1) := by decide +kernel
theorem dMd_repair_2 : decode cMd_repair 2 = .ok (.putfield 82, 3) := by decide +kernel
theorem dMd_repair_5 : decode cMd_repair 5 = .ok (.iload_n 1, 1) := by decide +kernel
theorem dMd_repair_6 : decode cMd_repair 6 = .ok (.ifCond .lt 11, 3) := by decide +kernel
theorem dMd_repair_9 : decode cMd_repair 9 = .ok (.iload_n 1, 1) := by decide +kernel
theorem dMd_repair_10 : decode cMd_repair 10 = .ok (.aload_n 0, 1) := by decide +kernel
theorem dMd_repair_11 : decode cMd_repair 11 = .ok (.getfield 187, 3) := by decide +kernel
theorem dMd_repair_14 : decode cMd_repair 14 = .ok (.if_icmp .lt 9, 3) := by decide +kernel
theorem dMd_repair_17 : decode cMd_repair 17 = .ok (.aload_n 0, 1) := by decide +kernel
theorem dMd_repair_18 : decode cMd_repair 18 = .ok (.iconst 1, 1) := by decide +kernel
theorem dMd_repair_19 : decode cMd_repair 19 = .ok (.invokevirtual 190, 3) := by decide +kernel
theorem dMd_repair_22 : decode cMd_repair 22 = .ok (.ireturn, 1) := by decide +kernel
theorem dMd_repair_23 : decode cMd_repair 23 = .ok (.aload_n 0, 1) := by decide +kernel
theorem dMd_repair_24 : decode cMd_repair 24 = .ok (.getfield 155, 3) := by decide +kernel
theorem dMd_repair_27 : decode cMd_repair 27 = .ok (.istore_n 2, 1) := by decide +kernel
theorem dMd_repair_28 : decode cMd_repair 28 = .ok (.aload_n 0, 1) := by decide +kernel
theorem dMd_repair_29 : decode cMd_repair 29 = .ok (.aload_n 0, 1) := by decide +kernel
theorem dMd_repair_30 : decode cMd_repair 30 = .ok (.getfield 62, 3) := by decide +kernel
theorem dMd_repair_33 : decode cMd_repair 33 = .ok (.iload_n 1, 1) := by decide +kernel
theorem dMd_repair_34 : decode cMd_repair 34 = .ok (.iaload, 1) := by decide +kernel
theorem dMd_repair_35 : decode cMd_repair 35 = .ok (.putfield 155, 3) := by decide +kernel
theorem dMd_repair_38 : decode cMd_repair 38 = .ok (.aload_n 0, 1) := by decide +kernel
theorem dMd_repair_39 : decode cMd_repair 39 = .ok (.iload_n 1, 1) := by decide +kernel
theorem dMd_repair_40 : decode cMd_repair 40 = .ok (.iconst 1, 1) := by decide +kernel
theorem dMd_repair_41 : decode cMd_repair 41 = .ok (.iadd, 1) := by decide +kernel
theorem dMd_repair_42 : decode cMd_repair 42 = .ok (.putfield 187, 3) := by decide +kernel
theorem dMd_repair_45 : decode cMd_repair 45 = .ok (.aload_n 0, 1) := by decide +kernel
theorem dMd_repair_46 : decode cMd_repair 46 = .ok (.iconst 0, 1) := by decide +kernel
theorem dMd_repair_47 : decode cMd_repair 47 = .ok (.putfield 166, 3) := by decide +kernel
theorem dMd_repair_50 : decode cMd_repair 50 = .ok (.iload_n 2, 1) := by decide +kernel
theorem dMd_repair_51 : decode cMd_repair 51 = .ok (.ireturn, 1) := by decide +kernel
theorem dMd_count_0 : decode cMd_count 0 = .ok (.aload_n 0, 1) := by decide +kernel
theorem dMd_count_1 : decode cMd_count 1 = .ok (.iconst 0, 1) := by decide +kernel
theorem dMd_count_2 : decode cMd_count 2 = .ok (.putfield 82, 3) := by decide +kernel
theorem dMd_count_5 : decode cMd_count 5 = .ok (.iload_n 1, 1) := by decide +kernel
theorem dMd_count_6 : decode cMd_count 6 = .ok (.tableswitch 86 0 7 #[46, 51, 56, 61, 66, 71, 76, 81], 46) := by decide +kernel
theorem dMd_count_52 : decode cMd_count 52 = .ok (.aload_n 0, 1) := by decide +kernel
theorem dMd_count_53 : decode cMd_count 53 = .ok (.getfield 175, 3) := by decide +kernel
theorem dMd_count_56 : decode cMd_count 56 = .ok (.ireturn, 1) := by decide +kernel
theorem dMd_count_57 : decode cMd_count 57 = .ok (.aload_n 0, 1) := by decide +kernel
theorem dMd_count_58 : decode cMd_count 58 = .ok (.getfield 178, 3) := by decide +kernel
theorem dMd_count_61 : decode cMd_count 61 = .ok (.ireturn, 1) := by decide +kernel
theorem dMd_count_62 : decode cMd_count 62 = .ok (.aload_n 0, 1) := by decide +kernel
theorem dMd_count_63 : decode cMd_count 63 = .ok (.getfield 181, 3) := by decide +kernel
theorem dMd_count_66 : decode cMd_count 66 = .ok (.ireturn, 1) := by decide +kernel
theorem dMd_count_67 : decode cMd_count 67 = .ok (.aload_n 0, 1) := by decide +kernel
theorem dMd_count_68 : decode cMd_count 68 = .ok (.getfield 166, 3) := by decide +kernel
theorem dMd_count_71 : decode cMd_count 71 = .ok (.ireturn, 1) := by decide +kernel
theorem dMd_count_72 : decode cMd_count 72 = .ok (.aload_n 0, 1) := by decide +kernel
theorem dMd_count_73 : decode cMd_count 73 = .ok (.getfield 187, 3) := by decide +kernel
theorem dMd_count_76 : decode cMd_count 76 = .ok (.ireturn, 1) := by decide +kernel
theorem dMd_count_77 : decode cMd_count 77 = .ok (.aload_n 0, 1) := by decide +kernel
theorem dMd_count_78 : decode cMd_count 78 = .ok (.getfield 184, 3) := by decide +kernel
theorem dMd_count_81 : decode cMd_count 81 = .ok (.ireturn, 1) := by decide +kernel
theorem dMd_count_82 : decode cMd_count 82 = .ok (.aload_n 0, 1) := by decide +kernel
theorem dMd_count_83 : decode cMd_count 83 = .ok (.getfield 69, 3) := by decide +kernel
theorem dMd_count_86 : decode cMd_count 86 = .ok (.ireturn, 1) := by decide +kernel
theorem dMd_count_87 : decode cMd_count 87 = .ok (.aload_n 0, 1) := by decide +kernel
theorem dMd_count_88 : decode cMd_count 88 = .ok (.getfield 73, 3) := by decide +kernel
theorem dMd_count_91 : decode cMd_count 91 = .ok (.ireturn, 1) := by decide +kernel
theorem dMd_count_92 : decode cMd_count 92 = .ok (.iconst (-1), 1) := by decide +kernel
theorem dMd_count_93 : decode cMd_count 93 = .ok (.ireturn, 1) := by decide +kernel
theorem dMd_says_0 : decode cMd_says 0 = .ok (.aload_n 0, 1) := by decide +kernel
theorem dMd_says_1 : decode cMd_says 1 = .ok (.iload_n 1, 1) := by decide +kernel
theorem dMd_says_2 : decode cMd_says 2 = .ok (.invokevirtual 105, 3) := by decide +kernel
theorem dMd_says_5 : decode cMd_says 5 = .ok (.istore_n 3, 1) := by decide +kernel
theorem dMd_says_6 : decode cMd_says 6 = .ok (.aload_n 0, 1) := by decide +kernel
theorem dMd_says_7 : decode cMd_says 7 = .ok (.getfield 69, 3) := by decide +kernel
theorem dMd_says_10 : decode cMd_says 10 = .ok (.tableswitch 251 0 8 #[50, 52, 68, 84, 105, 126, 175, 189, 204], 50) := by decide +kernel
theorem dMd_says_60 : decode cMd_says 60 = .ok (.iconst 1, 1) := by decide +kernel
theorem dMd_says_61 : decode cMd_says 61 = .ok (.ireturn, 1) := by decide +kernel
theorem dMd_says_62 : decode cMd_says 62 = .ok (.aload_n 0, 1) := by decide +kernel
theorem dMd_says_63 : decode cMd_says 63 = .ok (.getfield 7, 3) := by decide +kernel
theorem dMd_says_66 : decode cMd_says 66 = .ok (.iload_n 3, 1) := by decide +kernel
theorem dMd_says_67 : decode cMd_says 67 = .ok (.iaload, 1) := by decide +kernel
theorem dMd_says_68 : decode cMd_says 68 = .ok (.iconst 1, 1) := by decide +kernel
theorem dMd_says_69 : decode cMd_says 69 = .ok (.if_icmp .ne 7, 3) := by decide +kernel
theorem dMd_says_72 : decode cMd_says 72 = .ok (.iconst 1, 1) := by decide +kernel
theorem dMd_says_73 : decode cMd_says 73 = .ok (.goto 4, 3) := by decide +kernel
theorem dMd_says_76 : decode cMd_says 76 = .ok (.iconst 0, 1) := by decide +kernel
theorem dMd_says_77 : decode cMd_says 77 = .ok (.ireturn, 1) := by decide +kernel
theorem dMd_says_78 : decode cMd_says 78 = .ok (.aload_n 0, 1) := by decide +kernel
theorem dMd_says_79 : decode cMd_says 79 = .ok (.getfield 13, 3) := by decide +kernel
theorem dMd_says_82 : decode cMd_says 82 = .ok (.iload_n 3, 1) := by decide +kernel
theorem dMd_says_83 : decode cMd_says 83 = .ok (.iaload, 1) := by decide +kernel
theorem dMd_says_84 : decode cMd_says 84 = .ok (.iconst 1, 1) := by decide +kernel
theorem dMd_says_85 : decode cMd_says 85 = .ok (.if_icmp .le 7, 3) := by decide +kernel
theorem dMd_says_88 : decode cMd_says 88 = .ok (.iconst 1, 1) := by decide +kernel
theorem dMd_says_89 : decode cMd_says 89 = .ok (.goto 4, 3) := by decide +kernel
theorem dMd_says_92 : decode cMd_says 92 = .ok (.iconst 0, 1) := by decide +kernel
theorem dMd_says_93 : decode cMd_says 93 = .ok (.ireturn, 1) := by decide +kernel
theorem dMd_says_94 : decode cMd_says 94 = .ok (.aload_n 0, 1) := by decide +kernel
theorem dMd_says_95 : decode cMd_says 95 = .ok (.getfield 16, 3) := by decide +kernel
theorem dMd_says_98 : decode cMd_says 98 = .ok (.aload_n 0, 1) := by decide +kernel
theorem dMd_says_99 : decode cMd_says 99 = .ok (.iload_n 1, 1) := by decide +kernel
theorem dMd_says_100 : decode cMd_says 100 = .ok (.iload_n 2, 1) := by decide +kernel
theorem dMd_says_101 : decode cMd_says 101 = .ok (.invokevirtual 112, 3) := by decide +kernel
theorem dMd_says_104 : decode cMd_says 104 = .ok (.iaload, 1) := by decide +kernel
theorem dMd_says_105 : decode cMd_says 105 = .ok (.iconst 1, 1) := by decide +kernel
theorem dMd_says_106 : decode cMd_says 106 = .ok (.if_icmp .le 7, 3) := by decide +kernel
theorem dMd_says_109 : decode cMd_says 109 = .ok (.iconst 1, 1) := by decide +kernel
theorem dMd_says_110 : decode cMd_says 110 = .ok (.goto 4, 3) := by decide +kernel
theorem dMd_says_113 : decode cMd_says 113 = .ok (.iconst 0, 1) := by decide +kernel
theorem dMd_says_114 : decode cMd_says 114 = .ok (.ireturn, 1) := by decide +kernel
theorem dMd_says_115 : decode cMd_says 115 = .ok (.aload_n 0, 1) := by decide +kernel
theorem dMd_says_116 : decode cMd_says 116 = .ok (.getfield 25, 3) := by decide +kernel
theorem dMd_says_119 : decode cMd_says 119 = .ok (.aload_n 0, 1) := by decide +kernel
theorem dMd_says_120 : decode cMd_says 120 = .ok (.getfield 22, 3) := by decide +kernel
theorem dMd_says_123 : decode cMd_says 123 = .ok (.iload_n 3, 1) := by decide +kernel
theorem dMd_says_124 : decode cMd_says 124 = .ok (.iaload, 1) := by decide +kernel
theorem dMd_says_125 : decode cMd_says 125 = .ok (.iaload, 1) := by decide +kernel
theorem dMd_says_126 : decode cMd_says 126 = .ok (.iconst 1, 1) := by decide +kernel
theorem dMd_says_127 : decode cMd_says 127 = .ok (.if_icmp .le 7, 3) := by decide +kernel
theorem dMd_says_130 : decode cMd_says 130 = .ok (.iconst 1, 1) := by decide +kernel
theorem dMd_says_131 : decode cMd_says 131 = .ok (.goto 4, 3) := by decide +kernel
theorem dMd_says_134 : decode cMd_says 134 = .ok (.iconst 0, 1) := by decide +kernel
theorem dMd_says_135 : decode cMd_says 135 = .ok (.ireturn, 1) := by decide +kernel
theorem dMd_says_136 : decode cMd_says 136 = .ok (.aload_n 0, 1) := by decide +kernel
theorem dMd_says_137 : decode cMd_says 137 = .ok (.getfield 19, 3) := by decide +kernel
theorem dMd_says_140 : decode cMd_says 140 = .ok (.iload_n 3, 1) := by decide +kernel
theorem dMd_says_141 : decode cMd_says 141 = .ok (.iaload, 1) := by decide +kernel
theorem dMd_says_142 : decode cMd_says 142 = .ok (.iconst 1, 1) := by decide +kernel
theorem dMd_says_143 : decode cMd_says 143 = .ok (.if_icmp .le 26, 3) := by decide +kernel
theorem dMd_says_146 : decode cMd_says 146 = .ok (.aload_n 0, 1) := by decide +kernel
theorem dMd_says_147 : decode cMd_says 147 = .ok (.getfield 16, 3) := by decide +kernel
theorem dMd_says_150 : decode cMd_says 150 = .ok (.aload_n 0, 1) := by decide +kernel
theorem dMd_says_151 : decode cMd_says 151 = .ok (.iload_n 1, 1) := by decide +kernel
theorem dMd_says_152 : decode cMd_says 152 = .ok (.iload_n 2, 1) := by decide +kernel
theorem dMd_says_153 : decode cMd_says 153 = .ok (.invokevirtual 112, 3) := by decide +kernel
theorem dMd_says_156 : decode cMd_says 156 = .ok (.iaload, 1) := by decide +kernel
theorem dMd_says_157 : decode cMd_says 157 = .ok (.iconst 1, 1) := by decide +kernel
theorem dMd_says_158 : decode cMd_says 158 = .ok (.if_icmp .le 7, 3) := by decide +kernel
theorem dMd_says_161 : decode cMd_says 161 = .ok (.iconst 1, 1) := by decide +kernel
theorem dMd_says_162 : decode cMd_says 162 = .ok (.goto 22, 3) := by decide +kernel
theorem dMd_says_165 : decode cMd_says 165 = .ok (.iconst 0, 1) := by decide +kernel
theorem dMd_says_166 : decode cMd_says 166 = .ok (.goto 18, 3) := by decide +kernel
theorem dMd_says_169 : decode cMd_says 169 = .ok (.aload_n 0, 1) := by decide +kernel
theorem dMd_says_170 : decode cMd_says 170 = .ok (.getfield 13, 3) := by decide +kernel
theorem dMd_says_173 : decode cMd_says 173 = .ok (.iload_n 3, 1) := by decide +kernel
theorem dMd_says_174 : decode cMd_says 174 = .ok (.iaload, 1) := by decide +kernel
theorem dMd_says_175 : decode cMd_says 175 = .ok (.iconst 1, 1) := by decide +kernel
theorem dMd_says_176 : decode cMd_says 176 = .ok (.if_icmp .le 7, 3) := by decide +kernel
theorem dMd_says_179 : decode cMd_says 179 = .ok (.iconst 1, 1) := by decide +kernel
theorem dMd_says_180 : decode cMd_says 180 = .ok (.goto 4, 3) := by decide +kernel
theorem dMd_says_183 : decode cMd_says 183 = .ok (.iconst 0, 1) := by decide +kernel
theorem dMd_says_184 : decode cMd_says 184 = .ok (.ireturn, 1) := by decide +kernel
theorem dMd_says_185 : decode cMd_says 185 = .ok (.aload_n 0, 1) := by decide +kernel
theorem dMd_says_186 : decode cMd_says 186 = .ok (.aload_n 0, 1) := by decide +kernel
theorem dMd_says_187 : decode cMd_says 187 = .ok (.iconst 3, 1) := by decide +kernel
theorem dMd_says_188 : decode cMd_says 188 = .ok (.iload_n 1, 1) := by decide +kernel
theorem dMd_says_189 : decode cMd_says 189 = .ok (.iload_n 2, 1) := by decide +kernel
theorem dMd_says_190 : decode cMd_says 190 = .ok (.invokevirtual 116, 3) := by decide +kernel
theorem dMd_says_193 : decode cMd_says 193 = .ok (.iload_n 1, 1) := by decide +kernel
theorem dMd_says_194 : decode cMd_says 194 = .ok (.iload_n 2, 1) := by decide +kernel
theorem dMd_says_195 : decode cMd_says 195 = .ok (.invokevirtual 119, 3) := by decide +kernel
theorem dMd_says_198 : decode cMd_says 198 = .ok (.ireturn, 1) := by decide +kernel
theorem dMd_says_199 : decode cMd_says 199 = .ok (.aload_n 0, 1) := by decide +kernel
theorem dMd_says_200 : decode cMd_says 200 = .ok (.iload_n 1, 1) := by decide +kernel
theorem dMd_says_201 : decode cMd_says 201 = .ok (.iload_n 2, 1) := by decide +kernel
theorem dMd_says_202 : decode cMd_says 202 = .ok (.invokevirtual 122, 3) := by decide +kernel
theorem dMd_says_205 : decode cMd_says 205 = .ok (.ifCond .lt 7, 3) := by decide +kernel
theorem dMd_says_208 : decode cMd_says 208 = .ok (.iconst 1, 1) := by decide +kernel
theorem dMd_says_209 : decode cMd_says 209 = .ok (.goto 4, 3) := by decide +kernel
theorem dMd_says_212 : decode cMd_says 212 = .ok (.iconst 0, 1) := by decide +kernel
theorem dMd_says_213 : decode cMd_says 213 = .ok (.ireturn, 1) := by decide +kernel
theorem dMd_says_214 : decode cMd_says 214 = .ok (.aload_n 0, 1) := by decide +kernel
theorem dMd_says_215 : decode cMd_says 215 = .ok (.iload_n 1, 1) := by decide +kernel
theorem dMd_says_216 : decode cMd_says 216 = .ok (.invokevirtual 125, 3) := by decide +kernel
theorem dMd_says_219 : decode cMd_says 219 = .ok (.ifCond .eq 26, 3) := by decide +kernel
theorem dMd_says_222 : decode cMd_says 222 = .ok (.aload_n 0, 1) := by decide +kernel
theorem dMd_says_223 : decode cMd_says 223 = .ok (.getfield 46, 3) := by decide +kernel
theorem dMd_says_226 : decode cMd_says 226 = .ok (.iload_n 3, 1) := by decide +kernel
theorem dMd_says_227 : decode cMd_says 227 = .ok (.iaload, 1) := by decide +kernel
theorem dMd_says_228 : decode cMd_says 228 = .ok (.aload_n 0, 1) := by decide +kernel
theorem dMd_says_229 : decode cMd_says 229 = .ok (.getfield 43, 3) := by decide +kernel
theorem dMd_says_232 : decode cMd_says 232 = .ok (.iload_n 3, 1) := by decide +kernel
theorem dMd_says_233 : decode cMd_says 233 = .ok (.iaload, 1) := by decide +kernel
theorem dMd_says_234 : decode cMd_says 234 = .ok (.if_icmp .ge 7, 3) := by decide +kernel
theorem dMd_says_237 : decode cMd_says 237 = .ok (.iconst 1, 1) := by decide +kernel
theorem dMd_says_238 : decode cMd_says 238 = .ok (.goto 22, 3) := by decide +kernel
theorem dMd_says_241 : decode cMd_says 241 = .ok (.iconst 0, 1) := by decide +kernel
theorem dMd_says_242 : decode cMd_says 242 = .ok (.goto 18, 3) := by decide +kernel
theorem dMd_says_245 : decode cMd_says 245 = .ok (.aload_n 0, 1) := by decide +kernel
theorem dMd_says_246 : decode cMd_says 246 = .ok (.getfield 13, 3) := by decide +kernel
theorem dMd_says_249 : decode cMd_says 249 = .ok (.iload_n 3, 1) := by decide +kernel
theorem dMd_says_250 : decode cMd_says 250 = .ok (.iaload, 1) := by decide +kernel
theorem dMd_says_251 : decode cMd_says 251 = .ok (.iconst 1, 1) := by decide +kernel
theorem dMd_says_252 : decode cMd_says 252 = .ok (.if_icmp .le 7, 3) := by decide +kernel
theorem dMd_says_255 : decode cMd_says 255 = .ok (.iconst 1, 1) := by decide +kernel
theorem dMd_says_256 : decode cMd_says 256 = .ok (.goto 4, 3) := by decide +kernel
theorem dMd_says_259 : decode cMd_says 259 = .ok (.iconst 0, 1) := by decide +kernel
theorem dMd_says_260 : decode cMd_says 260 = .ok (.ireturn, 1) := by decide +kernel
theorem dMd_says_261 : decode cMd_says 261 = .ok (.aload_n 0, 1) := by decide +kernel
theorem dMd_says_262 : decode cMd_says 262 = .ok (.getfield 79, 3) := by decide +kernel
theorem dMd_says_265 : decode cMd_says 265 = .ok (.bipush 16, 2) := by decide +kernel
theorem dMd_says_267 : decode cMd_says 267 = .ok (.iushr, 1) := by decide +kernel
theorem dMd_says_268 : decode cMd_says 268 = .ok (.iconst 1, 1) := by decide +kernel
theorem dMd_says_269 : decode cMd_says 269 = .ok (.iand, 1) := by decide +kernel
theorem dMd_says_270 : decode cMd_says 270 = .ok (.iconst 1, 1) := by decide +kernel
theorem dMd_says_271 : decode cMd_says 271 = .ok (.if_icmp .ne 7, 3) := by decide +kernel
theorem dMd_says_274 : decode cMd_says 274 = .ok (.iconst 1, 1) := by decide +kernel
theorem dMd_says_275 : decode cMd_says 275 = .ok (.goto 4, 3) := by decide +kernel
theorem dMd_says_278 : decode cMd_says 278 = .ok (.iconst 0, 1) := by decide +kernel
theorem dMd_says_279 : decode cMd_says 279 = .ok (.ireturn, 1) := by decide +kernel
theorem dMd_learn_0 : decode cMd_learn 0 = .ok (.aload_n 0, 1) := by decide +kernel
theorem dMd_learn_1 : decode cMd_learn 1 = .ok (.iload_n 1, 1) := by decide +kernel
theorem dMd_learn_2 : decode cMd_learn 2 = .ok (.invokevirtual 105, 3) := by decide +kernel
theorem dMd_learn_5 : decode cMd_learn 5 = .ok (.istore 4, 2) := by decide +kernel
theorem dMd_learn_7 : decode cMd_learn 7 = .ok (.aload_n 0, 1) := by decide +kernel
theorem dMd_learn_8 : decode cMd_learn 8 = .ok (.iload_n 1, 1) := by decide +kernel
theorem dMd_learn_9 : decode cMd_learn 9 = .ok (.iload_n 2, 1) := by decide +kernel
theorem dMd_learn_10 : decode cMd_learn 10 = .ok (.invokevirtual 112, 3) := by decide +kernel
theorem dMd_learn_13 : decode cMd_learn 13 = .ok (.istore 5, 2) := by decide +kernel
theorem dMd_learn_15 : decode cMd_learn 15 = .ok (.aload_n 0, 1) := by decide +kernel
theorem dMd_learn_16 : decode cMd_learn 16 = .ok (.getfield 69, 3) := by decide +kernel
theorem dMd_learn_19 : decode cMd_learn 19 = .ok (.iconst 1, 1) := by decide +kernel
theorem dMd_learn_20 : decode cMd_learn 20 = .ok (.if_icmp .ne 22, 3) := by decide +kernel
theorem dMd_learn_23 : decode cMd_learn 23 = .ok (.aload_n 0, 1) := by decide +kernel
theorem dMd_learn_24 : decode cMd_learn 24 = .ok (.getfield 7, 3) := by decide +kernel
theorem dMd_learn_27 : decode cMd_learn 27 = .ok (.iload 4, 2) := by decide +kernel
theorem dMd_learn_29 : decode cMd_learn 29 = .ok (.iload_n 3, 1) := by decide +kernel
theorem dMd_learn_30 : decode cMd_learn 30 = .ok (.ifCond .eq 7, 3) := by decide +kernel
theorem dMd_learn_33 : decode cMd_learn 33 = .ok (.iconst 1, 1) := by decide +kernel
theorem dMd_learn_34 : decode cMd_learn 34 = .ok (.goto 4, 3) := by decide +kernel
theorem dMd_learn_37 : decode cMd_learn 37 = .ok (.iconst 0, 1) := by decide +kernel
theorem dMd_learn_38 : decode cMd_learn 38 = .ok (.iastore, 1) := by decide +kernel
theorem dMd_learn_39 : decode cMd_learn 39 = .ok (.goto 337, 3) := by decide +kernel
theorem dMd_learn_42 : decode cMd_learn 42 = .ok (.aload_n 0, 1) := by decide +kernel
theorem dMd_learn_43 : decode cMd_learn 43 = .ok (.getfield 69, 3) := by decide +kernel
theorem dMd_learn_46 : decode cMd_learn 46 = .ok (.iconst 2, 1) := by decide +kernel
theorem dMd_learn_47 : decode cMd_learn 47 = .ok (.if_icmp .ne 24, 3) := by decide +kernel
theorem dMd_learn_50 : decode cMd_learn 50 = .ok (.aload_n 0, 1) := by decide +kernel
theorem dMd_learn_51 : decode cMd_learn 51 = .ok (.getfield 13, 3) := by decide +kernel
theorem dMd_learn_54 : decode cMd_learn 54 = .ok (.iload 4, 2) := by decide +kernel
theorem dMd_learn_56 : decode cMd_learn 56 = .ok (.aload_n 0, 1) := by decide +kernel
theorem dMd_learn_57 : decode cMd_learn 57 = .ok (.getfield 13, 3) := by decide +kernel
