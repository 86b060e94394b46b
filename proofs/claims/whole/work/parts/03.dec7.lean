theorem dMd_row_106 : decode cMd_row 106 = .ok (.getfield 155, 3) := by decide +kernel
theorem dMd_row_109 : decode cMd_row 109 = .ok (.invokevirtual 112, 3) := by decide +kernel
theorem dMd_row_112 : decode cMd_row 112 = .ok (.iaload, 1) := by decide +kernel
theorem dMd_row_113 : decode cMd_row 113 = .ok (.ireturn, 1) := by decide +kernel
theorem dMd_row_114 : decode cMd_row 114 = .ok (.aload_n 0, 1) := by decide +kernel
theorem dMd_row_115 : decode cMd_row 115 = .ok (.getfield 25, 3) := by decide +kernel
theorem dMd_row_118 : decode cMd_row 118 = .ok (.aload_n 0, 1) := by decide +kernel
theorem dMd_row_119 : decode cMd_row 119 = .ok (.getfield 22, 3) := by decide +kernel
theorem dMd_row_122 : decode cMd_row 122 = .ok (.iload_n 2, 1) := by decide +kernel
theorem dMd_row_123 : decode cMd_row 123 = .ok (.iaload, 1) := by decide +kernel
theorem dMd_row_124 : decode cMd_row 124 = .ok (.iaload, 1) := by decide +kernel
theorem dMd_row_125 : decode cMd_row 125 = .ok (.ireturn, 1) := by decide +kernel
theorem dMd_row_126 : decode cMd_row 126 = .ok (.aload_n 0, 1) := by decide +kernel
theorem dMd_row_127 : decode cMd_row 127 = .ok (.getfield 19, 3) := by decide +kernel
theorem dMd_row_130 : decode cMd_row 130 = .ok (.iload_n 2, 1) := by decide +kernel
theorem dMd_row_131 : decode cMd_row 131 = .ok (.iaload, 1) := by decide +kernel
theorem dMd_row_132 : decode cMd_row 132 = .ok (.ireturn, 1) := by decide +kernel
theorem dMd_row_133 : decode cMd_row 133 = .ok (.aload_n 0, 1) := by decide +kernel
theorem dMd_row_134 : decode cMd_row 134 = .ok (.iload_n 1, 1) := by decide +kernel
theorem dMd_row_135 : decode cMd_row 135 = .ok (.aload_n 0, 1) := by decide +kernel
theorem dMd_row_136 : decode cMd_row 136 = .ok (.getfield 155, 3) := by decide +kernel
theorem dMd_row_139 : decode cMd_row 139 = .ok (.invokevirtual 122, 3) := by decide +kernel
theorem dMd_row_142 : decode cMd_row 142 = .ok (.ireturn, 1) := by decide +kernel
theorem dMd_row_143 : decode cMd_row 143 = .ok (.aload_n 0, 1) := by decide +kernel
theorem dMd_row_144 : decode cMd_row 144 = .ok (.iload_n 1, 1) := by decide +kernel
theorem dMd_row_145 : decode cMd_row 145 = .ok (.invokevirtual 108, 3) := by decide +kernel
theorem dMd_row_148 : decode cMd_row 148 = .ok (.ifCond .eq 12, 3) := by decide +kernel
theorem dMd_row_151 : decode cMd_row 151 = .ok (.aload_n 0, 1) := by decide +kernel
theorem dMd_row_152 : decode cMd_row 152 = .ok (.getfield 49, 3) := by decide +kernel
theorem dMd_row_155 : decode cMd_row 155 = .ok (.iload_n 2, 1) := by decide +kernel
theorem dMd_row_156 : decode cMd_row 156 = .ok (.iaload, 1) := by decide +kernel
theorem dMd_row_157 : decode cMd_row 157 = .ok (.goto 4, 3) := by decide +kernel
theorem dMd_row_160 : decode cMd_row 160 = .ok (.iconst (-1), 1) := by decide +kernel
theorem dMd_row_161 : decode cMd_row 161 = .ok (.ireturn, 1) := by decide +kernel
theorem dMd_row_162 : decode cMd_row 162 = .ok (.iconst 1, 1) := by decide +kernel
theorem dMd_row_163 : decode cMd_row 163 = .ok (.ireturn, 1) := by decide +kernel
theorem dMd_row_164 : decode cMd_row 164 = .ok (.aload_n 0, 1) := by decide +kernel
theorem dMd_row_165 : decode cMd_row 165 = .ok (.getfield 79, 3) := by decide +kernel
theorem dMd_row_168 : decode cMd_row 168 = .ok (.bipush 16, 2) := by decide +kernel
theorem dMd_row_170 : decode cMd_row 170 = .ok (.iushr, 1) := by decide +kernel
theorem dMd_row_171 : decode cMd_row 171 = .ok (.iconst 1, 1) := by decide +kernel
theorem dMd_row_172 : decode cMd_row 172 = .ok (.iand, 1) := by decide +kernel
theorem dMd_row_173 : decode cMd_row 173 = .ok (.ireturn, 1) := by decide +kernel
theorem dMd_row_174 : decode cMd_row 174 = .ok (.iload_n 3, 1) := by decide +kernel
theorem dMd_row_175 : decode cMd_row 175 = .ok (.ifCond .ge 12, 3) := by decide +kernel
theorem dMd_row_178 : decode cMd_row 178 = .ok (.aload_n 0, 1) := by decide +kernel
theorem dMd_row_179 : decode cMd_row 179 = .ok (.getfield 13, 3) := by decide +kernel
theorem dMd_row_182 : decode cMd_row 182 = .ok (.iload_n 2, 1) := by decide +kernel
theorem dMd_row_183 : decode cMd_row 183 = .ok (.iaload, 1) := by decide +kernel
theorem dMd_row_184 : decode cMd_row 184 = .ok (.goto 18, 3) := by decide +kernel
theorem dMd_row_187 : decode cMd_row 187 = .ok (.aload_n 0, 1) := by decide +kernel
theorem dMd_row_188 : decode cMd_row 188 = .ok (.getfield 31, 3) := by decide +kernel
theorem dMd_row_191 : decode cMd_row 191 = .ok (.aload_n 0, 1) := by decide +kernel
theorem dMd_row_192 : decode cMd_row 192 = .ok (.iload_n 3, 1) := by decide +kernel
theorem dMd_row_193 : decode cMd_row 193 = .ok (.iload_n 1, 1) := by decide +kernel
theorem dMd_row_194 : decode cMd_row 194 = .ok (.aload_n 0, 1) := by decide +kernel
theorem dMd_row_195 : decode cMd_row 195 = .ok (.getfield 155, 3) := by decide +kernel
theorem dMd_row_198 : decode cMd_row 198 = .ok (.invokevirtual 95, 3) := by decide +kernel
theorem dMd_row_201 : decode cMd_row 201 = .ok (.iaload, 1) := by decide +kernel
theorem dMd_row_202 : decode cMd_row 202 = .ok (.ireturn, 1) := by decide +kernel
theorem dMd_part_0 : decode cMd_part 0 = .ok (.aload_n 0, 1) := by decide +kernel
theorem dMd_part_1 : decode cMd_part 1 = .ok (.iconst 0, 1) := by decide +kernel
theorem dMd_part_2 : decode cMd_part 2 = .ok (.putfield 82, 3) := by decide +kernel
theorem dMd_part_5 : decode cMd_part 5 = .ok (.aload_n 0, 1) := by decide +kernel
theorem dMd_part_6 : decode cMd_part 6 = .ok (.getfield 69, 3) := by decide +kernel
theorem dMd_part_9 : decode cMd_part 9 = .ok (.iconst 5, 1) := by decide +kernel
theorem dMd_part_10 : decode cMd_part 10 = .ok (.if_icmp .ne 23, 3) := by decide +kernel
theorem dMd_part_13 : decode cMd_part 13 = .ok (.aload_n 0, 1) := by decide +kernel
theorem dMd_part_14 : decode cMd_part 14 = .ok (.getfield 19, 3) := by decide +kernel
theorem dMd_part_17 : decode cMd_part 17 = .ok (.aload_n 0, 1) := by decide +kernel
theorem dMd_part_18 : decode cMd_part 18 = .ok (.iload_n 1, 1) := by decide +kernel
theorem dMd_part_19 : decode cMd_part 19 = .ok (.invokevirtual 105, 3) := by decide +kernel
theorem dMd_part_22 : decode cMd_part 22 = .ok (.iaload, 1) := by decide +kernel
theorem dMd_part_23 : decode cMd_part 23 = .ok (.iconst 1, 1) := by decide +kernel
theorem dMd_part_24 : decode cMd_part 24 = .ok (.if_icmp .le 7, 3) := by decide +kernel
theorem dMd_part_27 : decode cMd_part 27 = .ok (.iconst 3, 1) := by decide +kernel
theorem dMd_part_28 : decode cMd_part 28 = .ok (.goto 4, 3) := by decide +kernel
theorem dMd_part_31 : decode cMd_part 31 = .ok (.iconst 2, 1) := by decide +kernel
theorem dMd_part_32 : decode cMd_part 32 = .ok (.ireturn, 1) := by decide +kernel
theorem dMd_part_33 : decode cMd_part 33 = .ok (.aload_n 0, 1) := by decide +kernel
theorem dMd_part_34 : decode cMd_part 34 = .ok (.getfield 69, 3) := by decide +kernel
theorem dMd_part_37 : decode cMd_part 37 = .ok (.bipush 6, 2) := by decide +kernel
theorem dMd_part_39 : decode cMd_part 39 = .ok (.if_icmp .ne 14, 3) := by decide +kernel
theorem dMd_part_42 : decode cMd_part 42 = .ok (.aload_n 0, 1) := by decide +kernel
theorem dMd_part_43 : decode cMd_part 43 = .ok (.iconst 3, 1) := by decide +kernel
theorem dMd_part_44 : decode cMd_part 44 = .ok (.iload_n 1, 1) := by decide +kernel
theorem dMd_part_45 : decode cMd_part 45 = .ok (.aload_n 0, 1) := by decide +kernel
theorem dMd_part_46 : decode cMd_part 46 = .ok (.getfield 155, 3) := by decide +kernel
theorem dMd_part_49 : decode cMd_part 49 = .ok (.invokevirtual 116, 3) := by decide +kernel
theorem dMd_part_52 : decode cMd_part 52 = .ok (.ireturn, 1) := by decide +kernel
theorem dMd_part_53 : decode cMd_part 53 = .ok (.aload_n 0, 1) := by decide +kernel
theorem dMd_part_54 : decode cMd_part 54 = .ok (.getfield 69, 3) := by decide +kernel
theorem dMd_part_57 : decode cMd_part 57 = .ok (.bipush 8, 2) := by decide +kernel
theorem dMd_part_59 : decode cMd_part 59 = .ok (.if_icmp .ne 15, 3) := by decide +kernel
theorem dMd_part_62 : decode cMd_part 62 = .ok (.aload_n 0, 1) := by decide +kernel
theorem dMd_part_63 : decode cMd_part 63 = .ok (.iload_n 1, 1) := by decide +kernel
theorem dMd_part_64 : decode cMd_part 64 = .ok (.invokevirtual 125, 3) := by decide +kernel
theorem dMd_part_67 : decode cMd_part 67 = .ok (.ifCond .eq 7, 3) := by decide +kernel
theorem dMd_part_70 : decode cMd_part 70 = .ok (.iconst 1, 1) := by decide +kernel
theorem dMd_part_71 : decode cMd_part 71 = .ok (.goto 4, 3) := by decide +kernel
theorem dMd_part_74 : decode cMd_part 74 = .ok (.iconst 0, 1) := by decide +kernel
theorem dMd_part_75 : decode cMd_part 75 = .ok (.ireturn, 1) := by decide +kernel
theorem dMd_storage_0 : decode cMd_storage 0 = .ok (.aload_n 0, 1) := by decide +kernel
theorem dMd_storage_1 : decode cMd_storage 1 = .ok (.iconst 0, 1) := by decide +kernel
theorem dMd_storage_2 : decode cMd_storage 2 = .ok (.putfield 82, 3) := by decide +kernel
theorem dMd_storage_5 : decode cMd_storage 5 = .ok (.aload_n 0, 1) := by decide +kernel
theorem dMd_storage_6 : decode cMd_storage 6 = .ok (.getfield 69, 3) := by decide +kernel
theorem dMd_storage_9 : decode cMd_storage 9 = .ok (.tableswitch 128 0 8 #[51, 53, 58, 65, 75, 87, 98, 109, 120], 51) := by decide +kernel
theorem dMd_storage_60 : decode cMd_storage 60 = .ok (.iconst 0, 1) := by decide +kernel
theorem dMd_storage_61 : decode cMd_storage 61 = .ok (.ireturn, 1) := by decide +kernel
theorem dMd_storage_62 : decode cMd_storage 62 = .ok (.aload_n 0, 1) := by decide +kernel
theorem dMd_storage_63 : decode cMd_storage 63 = .ok (.getfield 76, 3) := by decide +kernel
theorem dMd_storage_66 : decode cMd_storage 66 = .ok (.ireturn, 1) := by decide +kernel
theorem dMd_storage_67 : decode cMd_storage 67 = .ok (.iconst 2, 1) := by decide +kernel
theorem dMd_storage_68 : decode cMd_storage 68 = .ok (.aload_n 0, 1) := by decide +kernel
theorem dMd_storage_69 : decode cMd_storage 69 = .ok (.getfield 76, 3) := by decide +kernel
theorem dMd_storage_72 : decode cMd_storage 72 = .ok (.imul, 1) := by decide +kernel
theorem dMd_storage_73 : decode cMd_storage 73 = .ok (.ireturn, 1) := by decide +kernel
theorem dMd_storage_74 : decode cMd_storage 74 = .ok (.iconst 2, 1) := by decide +kernel
theorem dMd_storage_75 : decode cMd_storage 75 = .ok (.aload_n 0, 1) := by decide +kernel
theorem dMd_storage_76 : decode cMd_storage 76 = .ok (.getfield 76, 3) := by decide +kernel
theorem dMd_storage_79 : decode cMd_storage 79 = .ok (.imul, 1) := by decide +kernel
theorem dMd_storage_80 : decode cMd_storage 80 = .ok (.bipush 32, 2) := by decide +kernel
theorem dMd_storage_82 : decode cMd_storage 82 = .ok (.iadd, 1) := by decide +kernel
theorem dMd_storage_83 : decode cMd_storage 83 = .ok (.ireturn, 1) := by decide +kernel
theorem dMd_storage_84 : decode cMd_storage 84 = .ok (.aload_n 0, 1) := by decide +kernel
theorem dMd_storage_85 : decode cMd_storage 85 = .ok (.getfield 73, 3) := by decide +kernel
theorem dMd_storage_88 : decode cMd_storage 88 = .ok (.iconst 2, 1) := by decide +kernel
theorem dMd_storage_89 : decode cMd_storage 89 = .ok (.iadd, 1) := by decide +kernel
theorem dMd_storage_90 : decode cMd_storage 90 = .ok (.aload_n 0, 1) := by decide +kernel
theorem dMd_storage_91 : decode cMd_storage 91 = .ok (.getfield 76, 3) := by decide +kernel
theorem dMd_storage_94 : decode cMd_storage 94 = .ok (.imul, 1) := by decide +kernel
theorem dMd_storage_95 : decode cMd_storage 95 = .ok (.ireturn, 1) := by decide +kernel
theorem dMd_storage_96 : decode cMd_storage 96 = .ok (.bipush 6, 2) := by decide +kernel
theorem dMd_storage_98 : decode cMd_storage 98 = .ok (.aload_n 0, 1) := by decide +kernel
theorem dMd_storage_99 : decode cMd_storage 99 = .ok (.getfield 76, 3) := by decide +kernel
theorem dMd_storage_102 : decode cMd_storage 102 = .ok (.imul, 1) := by decide +kernel
theorem dMd_storage_103 : decode cMd_storage 103 = .ok (.bipush 32, 2) := by decide +kernel
theorem dMd_storage_105 : decode cMd_storage 105 = .ok (.iadd, 1) := by decide +kernel
theorem dMd_storage_106 : decode cMd_storage 106 = .ok (.ireturn, 1) := by decide +kernel
theorem dMd_storage_107 : decode cMd_storage 107 = .ok (.bipush 41, 2) := by decide +kernel
theorem dMd_storage_109 : decode cMd_storage 109 = .ok (.aload_n 0, 1) := by decide +kernel
theorem dMd_storage_110 : decode cMd_storage 110 = .ok (.getfield 76, 3) := by decide +kernel
theorem dMd_storage_113 : decode cMd_storage 113 = .ok (.imul, 1) := by decide +kernel
theorem dMd_storage_114 : decode cMd_storage 114 = .ok (.bipush 32, 2) := by decide +kernel
theorem dMd_storage_116 : decode cMd_storage 116 = .ok (.iadd, 1) := by decide +kernel
theorem dMd_storage_117 : decode cMd_storage 117 = .ok (.ireturn, 1) := by decide +kernel
theorem dMd_storage_118 : decode cMd_storage 118 = .ok (.bipush 63, 2) := by decide +kernel
theorem dMd_storage_120 : decode cMd_storage 120 = .ok (.aload_n 0, 1) := by decide +kernel
theorem dMd_storage_121 : decode cMd_storage 121 = .ok (.getfield 76, 3) := by decide +kernel
theorem dMd_storage_124 : decode cMd_storage 124 = .ok (.imul, 1) := by decide +kernel
theorem dMd_storage_125 : decode cMd_storage 125 = .ok (.bipush 32, 2) := by decide +kernel
theorem dMd_storage_127 : decode cMd_storage 127 = .ok (.iadd, 1) := by decide +kernel
theorem dMd_storage_128 : decode cMd_storage 128 = .ok (.ireturn, 1) := by decide +kernel
theorem dMd_storage_129 : decode cMd_storage 129 = .ok (.bipush 32, 2) := by decide +kernel
theorem dMd_storage_131 : decode cMd_storage 131 = .ok (.aload_n 0, 1) := by decide +kernel
theorem dMd_storage_132 : decode cMd_storage 132 = .ok (.getfield 76, 3) := by decide +kernel
theorem dMd_storage_135 : decode cMd_storage 135 = .ok (.imul, 1) := by decide +kernel
theorem dMd_storage_136 : decode cMd_storage 136 = .ok (.ireturn, 1) := by decide +kernel
theorem dMd_storage_137 : decode cMd_storage 137 = .ok (.bipush 32, 2) := by decide +kernel
theorem dMd_storage_139 : decode cMd_storage 139 = .ok (.ireturn, 1) := by decide +kernel
theorem dMd_several_0 : decode cMd_several 0 = .ok (.aload_n 0, 1) := by decide +kernel
theorem dMd_several_1 : decode cMd_several 1 = .ok (.iconst 0, 1) := by decide +kernel
theorem dMd_several_2 : decode cMd_several 2 = .ok (.putfield 82, 3) := by decide +kernel
theorem dMd_several_5 : decode cMd_several 5 = .ok (.iload_n 2, 1) := by decide +kernel
theorem dMd_several_6 : decode cMd_several 6 = .ok (.iconst 1, 1) := by decide +kernel
theorem dMd_several_7 : decode cMd_several 7 = .ok (.if_icmp .lt 9, 3) := by decide +kernel
theorem dMd_several_10 : decode cMd_several 10 = .ok (.iload_n 2, 1) := by decide +kernel
theorem dMd_several_11 : decode cMd_several 11 = .ok (.bipush 16, 2) := by decide +kernel
theorem dMd_several_13 : decode cMd_several 13 = .ok (.if_icmp .le 9, 3) := by decide +kernel
theorem dMd_several_16 : decode cMd_several 16 = .ok (.aload_n 0, 1) := by decide +kernel
theorem dMd_several_17 : decode cMd_several 17 = .ok (.iconst 1, 1) := by decide +kernel
theorem dMd_several_18 : decode cMd_several 18 = .ok (.invokevirtual 190, 3) := by decide +kernel
theorem dMd_several_21 : decode cMd_several 21 = .ok (.ireturn, 1) := by decide +kernel
theorem dMd_several_22 : decode cMd_several 22 = .ok (.iconst 0, 1) := by decide +kernel
theorem dMd_several_23 : decode cMd_several 23 = .ok (.istore_n 3, 1) := by decide +kernel
theorem dMd_several_24 : decode cMd_several 24 = .ok (.aload_n 0, 1) := by decide +kernel
theorem dMd_several_25 : decode cMd_several 25 = .ok (.getfield 155, 3) := by decide +kernel
theorem dMd_several_28 : decode cMd_several 28 = .ok (.istore 4, 2) := by decide +kernel
theorem dMd_several_30 : decode cMd_several 30 = .ok (.iconst 0, 1) := by decide +kernel
theorem dMd_several_31 : decode cMd_several 31 = .ok (.istore 5, 2) := by decide +kernel
theorem dMd_several_33 : decode cMd_several 33 = .ok (.iload 5, 2) := by decide +kernel
theorem dMd_several_35 : decode cMd_several 35 = .ok (.iload_n 2, 1) := by decide +kernel
theorem dMd_several_36 : decode cMd_several 36 = .ok (.if_icmp .ge 48, 3) := by decide +kernel
theorem dMd_several_39 : decode cMd_several 39 = .ok (.aload_n 0, 1) := by decide +kernel
theorem dMd_several_40 : decode cMd_several 40 = .ok (.iload_n 1, 1) := by decide +kernel
theorem dMd_several_41 : decode cMd_several 41 = .ok (.iconst 4, 1) := by decide +kernel
theorem dMd_several_42 : decode cMd_several 42 = .ok (.iload 5, 2) := by decide +kernel
theorem dMd_several_44 : decode cMd_several 44 = .ok (.imul, 1) := by decide +kernel
theorem dMd_several_45 : decode cMd_several 45 = .ok (.iadd, 1) := by decide +kernel
theorem dMd_several_46 : decode cMd_several 46 = .ok (.iload 4, 2) := by decide +kernel
theorem dMd_several_48 : decode cMd_several 48 = .ok (.invokevirtual 158, 3) := by decide +kernel
theorem dMd_several_51 : decode cMd_several 51 = .ok (.istore 6, 2) := by decide +kernel
theorem dMd_several_53 : decode cMd_several 53 = .ok (.iload 6, 2) := by decide +kernel
theorem dMd_several_55 : decode cMd_several 55 = .ok (.ifCond .eq 12, 3) := by decide +kernel
theorem dMd_several_58 : decode cMd_several 58 = .ok (.iload_n 3, 1) := by decide +kernel
theorem dMd_several_59 : decode cMd_several 59 = .ok (.iconst 1, 1) := by decide +kernel
theorem dMd_several_60 : decode cMd_several 60 = .ok (.iload 5, 2) := by decide +kernel
theorem dMd_several_62 : decode cMd_several 62 = .ok (.ishl, 1) := by decide +kernel
theorem dMd_several_63 : decode cMd_several 63 = .ok (.ior, 1) := by decide +kernel
theorem dMd_several_64 : decode cMd_several 64 = .ok (.goto 4, 3) := by decide +kernel
theorem dMd_several_67 : decode cMd_several 67 = .ok (.iload_n 3, 1) := by decide +kernel
theorem dMd_several_68 : decode cMd_several 68 = .ok (.istore_n 3, 1) := by decide +kernel
theorem dMd_several_69 : decode cMd_several 69 = .ok (.iload 4, 2) := by decide +kernel
theorem dMd_several_71 : decode cMd_several 71 = .ok (.iload 6, 2) := by decide +kernel
theorem dMd_several_73 : decode cMd_several 73 = .ok (.invokestatic 169, 3) := by decide +kernel
theorem dMd_several_76 : decode cMd_several 76 = .ok (.istore 4, 2) := by decide +kernel
theorem dMd_several_78 : decode cMd_several 78 = .ok (.iinc 5 1, 3) := by decide +kernel
theorem dMd_several_81 : decode cMd_several 81 = .ok (.goto (-48), 3) := by decide +kernel
theorem dMd_several_84 : decode cMd_several 84 = .ok (.iload_n 3, 1) := by decide +kernel
theorem dMd_several_85 : decode cMd_several 85 = .ok (.ireturn, 1) := by decide +kernel
