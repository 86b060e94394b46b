theorem dMd_hitBefore_38 : decode cMd_hitBefore 38 = .ok (.iload 4, 2) := by decide +kernel
theorem dMd_hitBefore_40 : decode cMd_hitBefore 40 = .ok (.ireturn, 1) := by decide +kernel
theorem dMd_saidBy_0 : decode cMd_saidBy 0 = .ok (.iload_n 1, 1) := by decide +kernel
theorem dMd_saidBy_1 : decode cMd_saidBy 1 = .ok (.ifCond .ge 25, 3) := by decide +kernel
theorem dMd_saidBy_4 : decode cMd_saidBy 4 = .ok (.aload_n 0, 1) := by decide +kernel
theorem dMd_saidBy_5 : decode cMd_saidBy 5 = .ok (.getfield 13, 3) := by decide +kernel
theorem dMd_saidBy_8 : decode cMd_saidBy 8 = .ok (.aload_n 0, 1) := by decide +kernel
theorem dMd_saidBy_9 : decode cMd_saidBy 9 = .ok (.iload_n 2, 1) := by decide +kernel
theorem dMd_saidBy_10 : decode cMd_saidBy 10 = .ok (.invokevirtual 105, 3) := by decide +kernel
theorem dMd_saidBy_13 : decode cMd_saidBy 13 = .ok (.iaload, 1) := by decide +kernel
theorem dMd_saidBy_14 : decode cMd_saidBy 14 = .ok (.iconst 1, 1) := by decide +kernel
theorem dMd_saidBy_15 : decode cMd_saidBy 15 = .ok (.if_icmp .le 7, 3) := by decide +kernel
theorem dMd_saidBy_18 : decode cMd_saidBy 18 = .ok (.iconst 1, 1) := by decide +kernel
theorem dMd_saidBy_19 : decode cMd_saidBy 19 = .ok (.goto 27, 3) := by decide +kernel
theorem dMd_saidBy_22 : decode cMd_saidBy 22 = .ok (.iconst 0, 1) := by decide +kernel
theorem dMd_saidBy_23 : decode cMd_saidBy 23 = .ok (.goto 23, 3) := by decide +kernel
theorem dMd_saidBy_26 : decode cMd_saidBy 26 = .ok (.aload_n 0, 1) := by decide +kernel
theorem dMd_saidBy_27 : decode cMd_saidBy 27 = .ok (.getfield 31, 3) := by decide +kernel
theorem dMd_saidBy_30 : decode cMd_saidBy 30 = .ok (.aload_n 0, 1) := by decide +kernel
theorem dMd_saidBy_31 : decode cMd_saidBy 31 = .ok (.iload_n 1, 1) := by decide +kernel
theorem dMd_saidBy_32 : decode cMd_saidBy 32 = .ok (.iload_n 2, 1) := by decide +kernel
theorem dMd_saidBy_33 : decode cMd_saidBy 33 = .ok (.iload_n 3, 1) := by decide +kernel
theorem dMd_saidBy_34 : decode cMd_saidBy 34 = .ok (.invokevirtual 95, 3) := by decide +kernel
theorem dMd_saidBy_37 : decode cMd_saidBy 37 = .ok (.iaload, 1) := by decide +kernel
theorem dMd_saidBy_38 : decode cMd_saidBy 38 = .ok (.ifCond .lt 7, 3) := by decide +kernel
theorem dMd_saidBy_41 : decode cMd_saidBy 41 = .ok (.iconst 1, 1) := by decide +kernel
theorem dMd_saidBy_42 : decode cMd_saidBy 42 = .ok (.goto 4, 3) := by decide +kernel
theorem dMd_saidBy_45 : decode cMd_saidBy 45 = .ok (.iconst 0, 1) := by decide +kernel
theorem dMd_saidBy_46 : decode cMd_saidBy 46 = .ok (.ireturn, 1) := by decide +kernel
theorem dMd_total_0 : decode cMd_total 0 = .ok (.bipush 9, 2) := by decide +kernel
theorem dMd_total_2 : decode cMd_total 2 = .ok (.aload_n 0, 1) := by decide +kernel
theorem dMd_total_3 : decode cMd_total 3 = .ok (.iload_n 1, 1) := by decide +kernel
theorem dMd_total_4 : decode cMd_total 4 = .ok (.invokevirtual 105, 3) := by decide +kernel
theorem dMd_total_7 : decode cMd_total 7 = .ok (.imul, 1) := by decide +kernel
theorem dMd_total_8 : decode cMd_total 8 = .ok (.istore_n 3, 1) := by decide +kernel
theorem dMd_total_9 : decode cMd_total 9 = .ok (.aload_n 0, 1) := by decide +kernel
theorem dMd_total_10 : decode cMd_total 10 = .ok (.getfield 37, 3) := by decide +kernel
theorem dMd_total_13 : decode cMd_total 13 = .ok (.iload_n 3, 1) := by decide +kernel
theorem dMd_total_14 : decode cMd_total 14 = .ok (.iaload, 1) := by decide +kernel
theorem dMd_total_15 : decode cMd_total 15 = .ok (.istore 4, 2) := by decide +kernel
theorem dMd_total_17 : decode cMd_total 17 = .ok (.iconst 0, 1) := by decide +kernel
theorem dMd_total_18 : decode cMd_total 18 = .ok (.istore 5, 2) := by decide +kernel
theorem dMd_total_20 : decode cMd_total 20 = .ok (.iload 5, 2) := by decide +kernel
theorem dMd_total_22 : decode cMd_total 22 = .ok (.bipush 8, 2) := by decide +kernel
theorem dMd_total_24 : decode cMd_total 24 = .ok (.if_icmp .ge 50, 3) := by decide +kernel
theorem dMd_total_27 : decode cMd_total 27 = .ok (.iload 4, 2) := by decide +kernel
theorem dMd_total_29 : decode cMd_total 29 = .ok (.iload_n 2, 1) := by decide +kernel
theorem dMd_total_30 : decode cMd_total 30 = .ok (.iload 5, 2) := by decide +kernel
theorem dMd_total_32 : decode cMd_total 32 = .ok (.iushr, 1) := by decide +kernel
theorem dMd_total_33 : decode cMd_total 33 = .ok (.iconst 1, 1) := by decide +kernel
theorem dMd_total_34 : decode cMd_total 34 = .ok (.iand, 1) := by decide +kernel
theorem dMd_total_35 : decode cMd_total 35 = .ok (.iconst 1, 1) := by decide +kernel
theorem dMd_total_36 : decode cMd_total 36 = .ok (.if_icmp .ne 17, 3) := by decide +kernel
theorem dMd_total_39 : decode cMd_total 39 = .ok (.aload_n 0, 1) := by decide +kernel
theorem dMd_total_40 : decode cMd_total 40 = .ok (.getfield 37, 3) := by decide +kernel
theorem dMd_total_43 : decode cMd_total 43 = .ok (.iload_n 3, 1) := by decide +kernel
theorem dMd_total_44 : decode cMd_total 44 = .ok (.iload 5, 2) := by decide +kernel
theorem dMd_total_46 : decode cMd_total 46 = .ok (.iadd, 1) := by decide +kernel
theorem dMd_total_47 : decode cMd_total 47 = .ok (.iconst 1, 1) := by decide +kernel
theorem dMd_total_48 : decode cMd_total 48 = .ok (.iadd, 1) := by decide +kernel
theorem dMd_total_49 : decode cMd_total 49 = .ok (.iaload, 1) := by decide +kernel
theorem dMd_total_50 : decode cMd_total 50 = .ok (.goto 15, 3) := by decide +kernel
theorem dMd_total_53 : decode cMd_total 53 = .ok (.aload_n 0, 1) := by decide +kernel
theorem dMd_total_54 : decode cMd_total 54 = .ok (.getfield 37, 3) := by decide +kernel
theorem dMd_total_57 : decode cMd_total 57 = .ok (.iload_n 3, 1) := by decide +kernel
theorem dMd_total_58 : decode cMd_total 58 = .ok (.iload 5, 2) := by decide +kernel
theorem dMd_total_60 : decode cMd_total 60 = .ok (.iadd, 1) := by decide +kernel
theorem dMd_total_61 : decode cMd_total 61 = .ok (.iconst 1, 1) := by decide +kernel
theorem dMd_total_62 : decode cMd_total 62 = .ok (.iadd, 1) := by decide +kernel
theorem dMd_total_63 : decode cMd_total 63 = .ok (.iaload, 1) := by decide +kernel
theorem dMd_total_64 : decode cMd_total 64 = .ok (.ineg, 1) := by decide +kernel
theorem dMd_total_65 : decode cMd_total 65 = .ok (.iadd, 1) := by decide +kernel
theorem dMd_total_66 : decode cMd_total 66 = .ok (.istore 4, 2) := by decide +kernel
theorem dMd_total_68 : decode cMd_total 68 = .ok (.iinc 5 1, 3) := by decide +kernel
theorem dMd_total_71 : decode cMd_total 71 = .ok (.goto (-51), 3) := by decide +kernel
theorem dMd_total_74 : decode cMd_total 74 = .ok (.iload 4, 2) := by decide +kernel
theorem dMd_total_76 : decode cMd_total 76 = .ok (.ireturn, 1) := by decide +kernel
theorem dMd_turn_0 : decode cMd_turn 0 = .ok (.iload_n 2, 1) := by decide +kernel
theorem dMd_turn_1 : decode cMd_turn 1 = .ok (.ifCond .eq 24, 3) := by decide +kernel
theorem dMd_turn_4 : decode cMd_turn 4 = .ok (.aload_n 0, 1) := by decide +kernel
theorem dMd_turn_5 : decode cMd_turn 5 = .ok (.getfield 37, 3) := by decide +kernel
theorem dMd_turn_8 : decode cMd_turn 8 = .ok (.iload_n 1, 1) := by decide +kernel
theorem dMd_turn_9 : decode cMd_turn 9 = .ok (.iaload, 1) := by decide +kernel
theorem dMd_turn_10 : decode cMd_turn 10 = .ok (.bipush 63, 2) := by decide +kernel
theorem dMd_turn_12 : decode cMd_turn 12 = .ok (.if_icmp .ge 13, 3) := by decide +kernel
theorem dMd_turn_15 : decode cMd_turn 15 = .ok (.aload_n 0, 1) := by decide +kernel
theorem dMd_turn_16 : decode cMd_turn 16 = .ok (.getfield 37, 3) := by decide +kernel
theorem dMd_turn_19 : decode cMd_turn 19 = .ok (.iload_n 1, 1) := by decide +kernel
theorem dMd_turn_20 : decode cMd_turn 20 = .ok (.dup2, 1) := by decide +kernel
theorem dMd_turn_21 : decode cMd_turn 21 = .ok (.iaload, 1) := by decide +kernel
theorem dMd_turn_22 : decode cMd_turn 22 = .ok (.iconst 1, 1) := by decide +kernel
theorem dMd_turn_23 : decode cMd_turn 23 = .ok (.iadd, 1) := by decide +kernel
theorem dMd_turn_24 : decode cMd_turn 24 = .ok (.iastore, 1) := by decide +kernel
theorem dMd_turn_25 : decode cMd_turn 25 = .ok (.iload_n 2, 1) := by decide +kernel
theorem dMd_turn_26 : decode cMd_turn 26 = .ok (.ifCond .ne 24, 3) := by decide +kernel
theorem dMd_turn_29 : decode cMd_turn 29 = .ok (.aload_n 0, 1) := by decide +kernel
theorem dMd_turn_30 : decode cMd_turn 30 = .ok (.getfield 37, 3) := by decide +kernel
theorem dMd_turn_33 : decode cMd_turn 33 = .ok (.iload_n 1, 1) := by decide +kernel
theorem dMd_turn_34 : decode cMd_turn 34 = .ok (.iaload, 1) := by decide +kernel
theorem dMd_turn_35 : decode cMd_turn 35 = .ok (.bipush (-64), 2) := by decide +kernel
theorem dMd_turn_37 : decode cMd_turn 37 = .ok (.if_icmp .le 13, 3) := by decide +kernel
theorem dMd_turn_40 : decode cMd_turn 40 = .ok (.aload_n 0, 1) := by decide +kernel
theorem dMd_turn_41 : decode cMd_turn 41 = .ok (.getfield 37, 3) := by decide +kernel
theorem dMd_turn_44 : decode cMd_turn 44 = .ok (.iload_n 1, 1) := by decide +kernel
theorem dMd_turn_45 : decode cMd_turn 45 = .ok (.dup2, 1) := by decide +kernel
theorem dMd_turn_46 : decode cMd_turn 46 = .ok (.iaload, 1) := by decide +kernel
theorem dMd_turn_47 : decode cMd_turn 47 = .ok (.iconst 1, 1) := by decide +kernel
theorem dMd_turn_48 : decode cMd_turn 48 = .ok (.isub, 1) := by decide +kernel
theorem dMd_turn_49 : decode cMd_turn 49 = .ok (.iastore, 1) := by decide +kernel
theorem dMd_turn_50 : decode cMd_turn 50 = .ok (.return_, 1) := by decide +kernel
theorem dMd_hasLoop_0 : decode cMd_hasLoop 0 = .ok (.aload_n 0, 1) := by decide +kernel
theorem dMd_hasLoop_1 : decode cMd_hasLoop 1 = .ok (.getfield 40, 3) := by decide +kernel
theorem dMd_hasLoop_4 : decode cMd_hasLoop 4 = .ok (.aload_n 0, 1) := by decide +kernel
theorem dMd_hasLoop_5 : decode cMd_hasLoop 5 = .ok (.iload_n 1, 1) := by decide +kernel
theorem dMd_hasLoop_6 : decode cMd_hasLoop 6 = .ok (.invokevirtual 105, 3) := by decide +kernel
theorem dMd_hasLoop_9 : decode cMd_hasLoop 9 = .ok (.iaload, 1) := by decide +kernel
theorem dMd_hasLoop_10 : decode cMd_hasLoop 10 = .ok (.iload_n 1, 1) := by decide +kernel
theorem dMd_hasLoop_11 : decode cMd_hasLoop 11 = .ok (.aload_n 0, 1) := by decide +kernel
theorem dMd_hasLoop_12 : decode cMd_hasLoop 12 = .ok (.getfield 73, 3) := by decide +kernel
theorem dMd_hasLoop_15 : decode cMd_hasLoop 15 = .ok (.iushr, 1) := by decide +kernel
theorem dMd_hasLoop_16 : decode cMd_hasLoop 16 = .ok (.sipush 255, 3) := by decide +kernel
theorem dMd_hasLoop_19 : decode cMd_hasLoop 19 = .ok (.iand, 1) := by decide +kernel
theorem dMd_hasLoop_20 : decode cMd_hasLoop 20 = .ok (.if_icmp .ne 7, 3) := by decide +kernel
theorem dMd_hasLoop_23 : decode cMd_hasLoop 23 = .ok (.iconst 1, 1) := by decide +kernel
theorem dMd_hasLoop_24 : decode cMd_hasLoop 24 = .ok (.goto 4, 3) := by decide +kernel
theorem dMd_hasLoop_27 : decode cMd_hasLoop 27 = .ok (.iconst 0, 1) := by decide +kernel
theorem dMd_hasLoop_28 : decode cMd_hasLoop 28 = .ok (.ireturn, 1) := by decide +kernel
theorem dMd_isLoop_0 : decode cMd_isLoop 0 = .ok (.aload_n 0, 1) := by decide +kernel
theorem dMd_isLoop_1 : decode cMd_isLoop 1 = .ok (.iload_n 1, 1) := by decide +kernel
theorem dMd_isLoop_2 : decode cMd_isLoop 2 = .ok (.invokevirtual 108, 3) := by decide +kernel
theorem dMd_isLoop_5 : decode cMd_isLoop 5 = .ok (.ifCond .eq 21, 3) := by decide +kernel
theorem dMd_isLoop_8 : decode cMd_isLoop 8 = .ok (.aload_n 0, 1) := by decide +kernel
theorem dMd_isLoop_9 : decode cMd_isLoop 9 = .ok (.getfield 49, 3) := by decide +kernel
theorem dMd_isLoop_12 : decode cMd_isLoop 12 = .ok (.aload_n 0, 1) := by decide +kernel
theorem dMd_isLoop_13 : decode cMd_isLoop 13 = .ok (.iload_n 1, 1) := by decide +kernel
theorem dMd_isLoop_14 : decode cMd_isLoop 14 = .ok (.invokevirtual 105, 3) := by decide +kernel
theorem dMd_isLoop_17 : decode cMd_isLoop 17 = .ok (.iaload, 1) := by decide +kernel
theorem dMd_isLoop_18 : decode cMd_isLoop 18 = .ok (.iconst 3, 1) := by decide +kernel
theorem dMd_isLoop_19 : decode cMd_isLoop 19 = .ok (.if_icmp .ne 7, 3) := by decide +kernel
theorem dMd_isLoop_22 : decode cMd_isLoop 22 = .ok (.iconst 1, 1) := by decide +kernel
theorem dMd_isLoop_23 : decode cMd_isLoop 23 = .ok (.goto 4, 3) := by decide +kernel
theorem dMd_isLoop_26 : decode cMd_isLoop 26 = .ok (.iconst 0, 1) := by decide +kernel
theorem dMd_isLoop_27 : decode cMd_isLoop 27 = .ok (.ireturn, 1) := by decide +kernel
theorem dMd_mixedRow_0 : decode cMd_mixedRow 0 = .ok (.aload_n 0, 1) := by decide +kernel
theorem dMd_mixedRow_1 : decode cMd_mixedRow 1 = .ok (.iload_n 1, 1) := by decide +kernel
theorem dMd_mixedRow_2 : decode cMd_mixedRow 2 = .ok (.iload_n 2, 1) := by decide +kernel
theorem dMd_mixedRow_3 : decode cMd_mixedRow 3 = .ok (.ixor, 1) := by decide +kernel
theorem dMd_mixedRow_4 : decode cMd_mixedRow 4 = .ok (.invokevirtual 85, 3) := by decide +kernel
theorem dMd_mixedRow_7 : decode cMd_mixedRow 7 = .ok (.ireturn, 1) := by decide +kernel
theorem dMd_allot_0 : decode cMd_allot 0 = .ok (.iload_n 1, 1) := by decide +kernel
theorem dMd_allot_1 : decode cMd_allot 1 = .ok (.istore 5, 2) := by decide +kernel
theorem dMd_allot_3 : decode cMd_allot 3 = .ok (.iload 5, 2) := by decide +kernel
theorem dMd_allot_5 : decode cMd_allot 5 = .ok (.iconst 3, 1) := by decide +kernel
theorem dMd_allot_6 : decode cMd_allot 6 = .ok (.if_icmp .ge 25, 3) := by decide +kernel
theorem dMd_allot_9 : decode cMd_allot 9 = .ok (.aload_n 0, 1) := by decide +kernel
theorem dMd_allot_10 : decode cMd_allot 10 = .ok (.getfield 34, 3) := by decide +kernel
theorem dMd_allot_13 : decode cMd_allot 13 = .ok (.aload_n 0, 1) := by decide +kernel
theorem dMd_allot_14 : decode cMd_allot 14 = .ok (.iload 5, 2) := by decide +kernel
theorem dMd_allot_16 : decode cMd_allot 16 = .ok (.iload_n 2, 1) := by decide +kernel
theorem dMd_allot_17 : decode cMd_allot 17 = .ok (.iload_n 3, 1) := by decide +kernel
theorem dMd_allot_18 : decode cMd_allot 18 = .ok (.invokevirtual 95, 3) := by decide +kernel
theorem dMd_allot_21 : decode cMd_allot 21 = .ok (.iaload, 1) := by decide +kernel
theorem dMd_allot_22 : decode cMd_allot 22 = .ok (.ifCond .le 9, 3) := by decide +kernel
theorem dMd_allot_25 : decode cMd_allot 25 = .ok (.iinc 5 1, 3) := by decide +kernel
theorem dMd_allot_28 : decode cMd_allot 28 = .ok (.goto (-25), 3) := by decide +kernel
theorem dMd_allot_31 : decode cMd_allot 31 = .ok (.iload 5, 2) := by decide +kernel
theorem dMd_allot_33 : decode cMd_allot 33 = .ok (.iconst 3, 1) := by decide +kernel
theorem dMd_allot_34 : decode cMd_allot 34 = .ok (.if_icmp .ge 49, 3) := by decide +kernel
theorem dMd_allot_37 : decode cMd_allot 37 = .ok (.aload_n 0, 1) := by decide +kernel
theorem dMd_allot_38 : decode cMd_allot 38 = .ok (.getfield 28, 3) := by decide +kernel
theorem dMd_allot_41 : decode cMd_allot 41 = .ok (.aload_n 0, 1) := by decide +kernel
theorem dMd_allot_42 : decode cMd_allot 42 = .ok (.iload 5, 2) := by decide +kernel
theorem dMd_allot_44 : decode cMd_allot 44 = .ok (.iload_n 2, 1) := by decide +kernel
theorem dMd_allot_45 : decode cMd_allot 45 = .ok (.iload_n 3, 1) := by decide +kernel
theorem dMd_allot_46 : decode cMd_allot 46 = .ok (.invokevirtual 95, 3) := by decide +kernel
theorem dMd_allot_49 : decode cMd_allot 49 = .ok (.iload 5, 2) := by decide +kernel
theorem dMd_allot_51 : decode cMd_allot 51 = .ok (.iload_n 2, 1) := by decide +kernel
theorem dMd_allot_52 : decode cMd_allot 52 = .ok (.iload_n 3, 1) := by decide +kernel
theorem dMd_allot_53 : decode cMd_allot 53 = .ok (.invokestatic 98, 3) := by decide +kernel
theorem dMd_allot_56 : decode cMd_allot 56 = .ok (.iastore, 1) := by decide +kernel
theorem dMd_allot_57 : decode cMd_allot 57 = .ok (.aload_n 0, 1) := by decide +kernel
theorem dMd_allot_58 : decode cMd_allot 58 = .ok (.getfield 31, 3) := by decide +kernel
theorem dMd_allot_61 : decode cMd_allot 61 = .ok (.aload_n 0, 1) := by decide +kernel
theorem dMd_allot_62 : decode cMd_allot 62 = .ok (.iload 5, 2) := by decide +kernel
theorem dMd_allot_64 : decode cMd_allot 64 = .ok (.iload_n 2, 1) := by decide +kernel
theorem dMd_allot_65 : decode cMd_allot 65 = .ok (.iload_n 3, 1) := by decide +kernel
theorem dMd_allot_66 : decode cMd_allot 66 = .ok (.invokevirtual 95, 3) := by decide +kernel
theorem dMd_allot_69 : decode cMd_allot 69 = .ok (.iload 4, 2) := by decide +kernel
theorem dMd_allot_71 : decode cMd_allot 71 = .ok (.ifCond .eq 7, 3) := by decide +kernel
theorem dMd_allot_74 : decode cMd_allot 74 = .ok (.iconst 0, 1) := by decide +kernel
theorem dMd_allot_75 : decode cMd_allot 75 = .ok (.goto 4, 3) := by decide +kernel
theorem dMd_allot_78 : decode cMd_allot 78 = .ok (.iconst (-1), 1) := by decide +kernel
theorem dMd_allot_79 : decode cMd_allot 79 = .ok (.iastore, 1) := by decide +kernel
theorem dMd_allot_80 : decode cMd_allot 80 = .ok (.goto 35, 3) := by decide +kernel
theorem dMd_allot_83 : decode cMd_allot 83 = .ok (.iload_n 1, 1) := by decide +kernel
theorem dMd_allot_84 : decode cMd_allot 84 = .ok (.istore 6, 2) := by decide +kernel
theorem dMd_allot_86 : decode cMd_allot 86 = .ok (.iload 6, 2) := by decide +kernel
theorem dMd_allot_88 : decode cMd_allot 88 = .ok (.iconst 3, 1) := by decide +kernel
theorem dMd_allot_89 : decode cMd_allot 89 = .ok (.if_icmp .ge 26, 3) := by decide +kernel
theorem dMd_allot_92 : decode cMd_allot 92 = .ok (.aload_n 0, 1) := by decide +kernel
theorem dMd_allot_93 : decode cMd_allot 93 = .ok (.getfield 34, 3) := by decide +kernel
theorem dMd_allot_96 : decode cMd_allot 96 = .ok (.aload_n 0, 1) := by decide +kernel
theorem dMd_allot_97 : decode cMd_allot 97 = .ok (.iload 6, 2) := by decide +kernel
theorem dMd_allot_99 : decode cMd_allot 99 = .ok (.iload_n 2, 1) := by decide +kernel
theorem dMd_allot_100 : decode cMd_allot 100 = .ok (.iload_n 3, 1) := by decide +kernel
theorem dMd_allot_101 : decode cMd_allot 101 = .ok (.invokevirtual 95, 3) := by decide +kernel
theorem dMd_allot_104 : decode cMd_allot 104 = .ok (.dup2, 1) := by decide +kernel
theorem dMd_allot_105 : decode cMd_allot 105 = .ok (.iaload, 1) := by decide +kernel
theorem dMd_allot_106 : decode cMd_allot 106 = .ok (.iconst 1, 1) := by decide +kernel
theorem dMd_allot_107 : decode cMd_allot 107 = .ok (.isub, 1) := by decide +kernel
theorem dMd_allot_108 : decode cMd_allot 108 = .ok (.iastore, 1) := by decide +kernel
theorem dMd_allot_109 : decode cMd_allot 109 = .ok (.iinc 6 1, 3) := by decide +kernel
theorem dMd_allot_112 : decode cMd_allot 112 = .ok (.goto (-26), 3) := by decide +kernel
theorem dMd_allot_115 : decode cMd_allot 115 = .ok (.return_, 1) := by decide +kernel
theorem dMd_learnTagged_0 : decode cMd_learnTagged 0 = .ok (.aload_n 0, 1) := by decide +kernel
theorem dMd_learnTagged_1 : decode cMd_learnTagged 1 = .ok (.iconst 3, 1) := by decide +kernel
theorem dMd_learnTagged_2 : decode cMd_learnTagged 2 = .ok (.iload_n 1, 1) := by decide +kernel
theorem dMd_learnTagged_3 : decode cMd_learnTagged 3 = .ok (.iload_n 2, 1) := by decide +kernel
theorem dMd_learnTagged_4 : decode cMd_learnTagged 4 = .ok (.invokevirtual 116, 3) := by decide +kernel
theorem dMd_learnTagged_7 : decode cMd_learnTagged 7 = .ok (.istore 4, 2) := by decide +kernel
theorem dMd_learnTagged_9 : decode cMd_learnTagged 9 = .ok (.aload_n 0, 1) := by decide +kernel
theorem dMd_learnTagged_10 : decode cMd_learnTagged 10 = .ok (.iload 4, 2) := by decide +kernel
theorem dMd_learnTagged_12 : decode cMd_learnTagged 12 = .ok (.iload_n 1, 1) := by decide +kernel
theorem dMd_learnTagged_13 : decode cMd_learnTagged 13 = .ok (.iload_n 2, 1) := by decide +kernel
theorem dMd_learnTagged_14 : decode cMd_learnTagged 14 = .ok (.invokevirtual 119, 3) := by decide +kernel
theorem dMd_learnTagged_17 : decode cMd_learnTagged 17 = .ok (.istore 5, 2) := by decide +kernel
theorem dMd_learnTagged_19 : decode cMd_learnTagged 19 = .ok (.iload 4, 2) := by decide +kernel
theorem dMd_learnTagged_21 : decode cMd_learnTagged 21 = .ok (.ifCond .ge 30, 3) := by decide +kernel
theorem dMd_learnTagged_24 : decode cMd_learnTagged 24 = .ok (.aload_n 0, 1) := by decide +kernel
theorem dMd_learnTagged_25 : decode cMd_learnTagged 25 = .ok (.getfield 13, 3) := by decide +kernel
theorem dMd_learnTagged_28 : decode cMd_learnTagged 28 = .ok (.aload_n 0, 1) := by decide +kernel
theorem dMd_learnTagged_29 : decode cMd_learnTagged 29 = .ok (.iload_n 1, 1) := by decide +kernel
theorem dMd_learnTagged_30 : decode cMd_learnTagged 30 = .ok (.invokevirtual 105, 3) := by decide +kernel
theorem dMd_learnTagged_33 : decode cMd_learnTagged 33 = .ok (.aload_n 0, 1) := by decide +kernel
theorem dMd_learnTagged_34 : decode cMd_learnTagged 34 = .ok (.getfield 13, 3) := by decide +kernel
theorem dMd_learnTagged_37 : decode cMd_learnTagged 37 = .ok (.aload_n 0, 1) := by decide +kernel
theorem dMd_learnTagged_38 : decode cMd_learnTagged 38 = .ok (.iload_n 1, 1) := by decide +kernel
theorem dMd_learnTagged_39 : decode cMd_learnTagged 39 = .ok (.invokevirtual 105, 3) := by decide +kernel
theorem dMd_learnTagged_42 : decode cMd_learnTagged 42 = .ok (.iaload, 1) := by decide +kernel
theorem dMd_learnTagged_43 : decode cMd_learnTagged 43 = .ok (.iload_n 3, 1) := by decide +kernel
theorem dMd_learnTagged_44 : decode cMd_learnTagged 44 = .ok (.invokestatic 128, 3) := by decide +kernel
theorem dMd_learnTagged_47 : decode cMd_learnTagged 47 = .ok (.iastore, 1) := by decide +kernel
theorem dMd_learnTagged_48 : decode cMd_learnTagged 48 = .ok (.goto 114, 3) := by decide +kernel
theorem dMd_learnTagged_51 : decode cMd_learnTagged 51 = .ok (.aload_n 0, 1) := by decide +kernel
theorem dMd_learnTagged_52 : decode cMd_learnTagged 52 = .ok (.aload_n 0, 1) := by decide +kernel
theorem dMd_learnTagged_53 : decode cMd_learnTagged 53 = .ok (.iload 4, 2) := by decide +kernel
theorem dMd_learnTagged_55 : decode cMd_learnTagged 55 = .ok (.iload_n 1, 1) := by decide +kernel
theorem dMd_learnTagged_56 : decode cMd_learnTagged 56 = .ok (.iload_n 2, 1) := by decide +kernel
theorem dMd_learnTagged_57 : decode cMd_learnTagged 57 = .ok (.invokevirtual 116, 3) := by decide +kernel
theorem dMd_learnTagged_60 : decode cMd_learnTagged 60 = .ok (.iload_n 1, 1) := by decide +kernel
theorem dMd_learnTagged_61 : decode cMd_learnTagged 61 = .ok (.iload_n 2, 1) := by decide +kernel
theorem dMd_learnTagged_62 : decode cMd_learnTagged 62 = .ok (.invokevirtual 119, 3) := by decide +kernel
theorem dMd_learnTagged_65 : decode cMd_learnTagged 65 = .ok (.istore 6, 2) := by decide +kernel
theorem dMd_learnTagged_67 : decode cMd_learnTagged 67 = .ok (.aload_n 0, 1) := by decide +kernel
theorem dMd_learnTagged_68 : decode cMd_learnTagged 68 = .ok (.iload 4, 2) := by decide +kernel
theorem dMd_learnTagged_70 : decode cMd_learnTagged 70 = .ok (.iload_n 1, 1) := by decide +kernel
theorem dMd_learnTagged_71 : decode cMd_learnTagged 71 = .ok (.iload_n 2, 1) := by decide +kernel
theorem dMd_learnTagged_72 : decode cMd_learnTagged 72 = .ok (.invokevirtual 95, 3) := by decide +kernel
theorem dMd_learnTagged_75 : decode cMd_learnTagged 75 = .ok (.istore 7, 2) := by decide +kernel
theorem dMd_learnTagged_77 : decode cMd_learnTagged 77 = .ok (.aload_n 0, 1) := by decide +kernel
theorem dMd_learnTagged_78 : decode cMd_learnTagged 78 = .ok (.getfield 31, 3) := by decide +kernel
theorem dMd_learnTagged_81 : decode cMd_learnTagged 81 = .ok (.iload 7, 2) := by decide +kernel
theorem dMd_learnTagged_83 : decode cMd_learnTagged 83 = .ok (.iaload, 1) := by decide +kernel
theorem dMd_learnTagged_84 : decode cMd_learnTagged 84 = .ok (.iload_n 3, 1) := by decide +kernel
theorem dMd_learnTagged_85 : decode cMd_learnTagged 85 = .ok (.ifCond .eq 7, 3) := by decide +kernel
theorem dMd_learnTagged_88 : decode cMd_learnTagged 88 = .ok (.iconst 1, 1) := by decide +kernel
theorem dMd_learnTagged_89 : decode cMd_learnTagged 89 = .ok (.goto 4, 3) := by decide +kernel
theorem dMd_learnTagged_92 : decode cMd_learnTagged 92 = .ok (.iconst (-1), 1) := by decide +kernel
theorem dMd_learnTagged_93 : decode cMd_learnTagged 93 = .ok (.iadd, 1) := by decide +kernel
theorem dMd_learnTagged_94 : decode cMd_learnTagged 94 = .ok (.istore 8, 2) := by decide +kernel
theorem dMd_learnTagged_96 : decode cMd_learnTagged 96 = .ok (.aload_n 0, 1) := by decide +kernel
theorem dMd_learnTagged_97 : decode cMd_learnTagged 97 = .ok (.getfield 31, 3) := by decide +kernel
theorem dMd_learnTagged_100 : decode cMd_learnTagged 100 = .ok (.iload 7, 2) := by decide +kernel
theorem dMd_learnTagged_102 : decode cMd_learnTagged 102 = .ok (.iload 8, 2) := by decide +kernel
theorem dMd_learnTagged_104 : decode cMd_learnTagged 104 = .ok (.iconst 3, 1) := by decide +kernel
theorem dMd_learnTagged_105 : decode cMd_learnTagged 105 = .ok (.if_icmp .le 7, 3) := by decide +kernel
theorem dMd_learnTagged_108 : decode cMd_learnTagged 108 = .ok (.iconst 3, 1) := by decide +kernel
theorem dMd_learnTagged_109 : decode cMd_learnTagged 109 = .ok (.goto 17, 3) := by decide +kernel
theorem dMd_learnTagged_112 : decode cMd_learnTagged 112 = .ok (.iload 8, 2) := by decide +kernel
theorem dMd_learnTagged_114 : decode cMd_learnTagged 114 = .ok (.bipush (-4), 2) := by decide +kernel
theorem dMd_learnTagged_116 : decode cMd_learnTagged 116 = .ok (.if_icmp .ge 8, 3) := by decide +kernel
theorem dMd_learnTagged_119 : decode cMd_learnTagged 119 = .ok (.bipush (-4), 2) := by decide +kernel
theorem dMd_learnTagged_121 : decode cMd_learnTagged 121 = .ok (.goto 5, 3) := by decide +kernel
theorem dMd_learnTagged_124 : decode cMd_learnTagged 124 = .ok (.iload 8, 2) := by decide +kernel
theorem dMd_learnTagged_126 : decode cMd_learnTagged 126 = .ok (.iastore, 1) := by decide +kernel
theorem dMd_learnTagged_127 : decode cMd_learnTagged 127 = .ok (.iload 5, 2) := by decide +kernel
theorem dMd_learnTagged_129 : decode cMd_learnTagged 129 = .ok (.iload 6, 2) := by decide +kernel
theorem dMd_learnTagged_131 : decode cMd_learnTagged 131 = .ok (.if_icmp .eq 31, 3) := by decide +kernel
theorem dMd_learnTagged_134 : decode cMd_learnTagged 134 = .ok (.aload_n 0, 1) := by decide +kernel
theorem dMd_learnTagged_135 : decode cMd_learnTagged 135 = .ok (.getfield 34, 3) := by decide +kernel
theorem dMd_learnTagged_138 : decode cMd_learnTagged 138 = .ok (.iload 7, 2) := by decide +kernel
theorem dMd_learnTagged_140 : decode cMd_learnTagged 140 = .ok (.aload_n 0, 1) := by decide +kernel
theorem dMd_learnTagged_141 : decode cMd_learnTagged 141 = .ok (.getfield 34, 3) := by decide +kernel
theorem dMd_learnTagged_144 : decode cMd_learnTagged 144 = .ok (.iload 7, 2) := by decide +kernel
theorem dMd_learnTagged_146 : decode cMd_learnTagged 146 = .ok (.iaload, 1) := by decide +kernel
theorem dMd_learnTagged_147 : decode cMd_learnTagged 147 = .ok (.iload 5, 2) := by decide +kernel
theorem dMd_learnTagged_149 : decode cMd_learnTagged 149 = .ok (.iload_n 3, 1) := by decide +kernel
theorem dMd_learnTagged_150 : decode cMd_learnTagged 150 = .ok (.if_icmp .ne 7, 3) := by decide +kernel
theorem dMd_learnTagged_153 : decode cMd_learnTagged 153 = .ok (.iconst 1, 1) := by decide +kernel
theorem dMd_learnTagged_154 : decode cMd_learnTagged 154 = .ok (.goto 4, 3) := by decide +kernel
theorem dMd_learnTagged_157 : decode cMd_learnTagged 157 = .ok (.iconst 0, 1) := by decide +kernel
theorem dMd_learnTagged_158 : decode cMd_learnTagged 158 = .ok (.invokestatic 128, 3) := by decide +kernel
theorem dMd_learnTagged_161 : decode cMd_learnTagged 161 = .ok (.iastore, 1) := by decide +kernel
theorem dMd_learnTagged_162 : decode cMd_learnTagged 162 = .ok (.iload 5, 2) := by decide +kernel
theorem dMd_learnTagged_164 : decode cMd_learnTagged 164 = .ok (.iload_n 3, 1) := by decide +kernel
theorem dMd_learnTagged_165 : decode cMd_learnTagged 165 = .ok (.if_icmp .eq 14, 3) := by decide +kernel
theorem dMd_learnTagged_168 : decode cMd_learnTagged 168 = .ok (.aload_n 0, 1) := by decide +kernel
theorem dMd_learnTagged_169 : decode cMd_learnTagged 169 = .ok (.iload 4, 2) := by decide +kernel
theorem dMd_learnTagged_171 : decode cMd_learnTagged 171 = .ok (.iconst 1, 1) := by decide +kernel
theorem dMd_learnTagged_172 : decode cMd_learnTagged 172 = .ok (.iadd, 1) := by decide +kernel
theorem dMd_learnTagged_173 : decode cMd_learnTagged 173 = .ok (.iload_n 1, 1) := by decide +kernel
theorem dMd_learnTagged_174 : decode cMd_learnTagged 174 = .ok (.iload_n 2, 1) := by decide +kernel
theorem dMd_learnTagged_175 : decode cMd_learnTagged 175 = .ok (.iload_n 3, 1) := by decide +kernel
theorem dMd_learnTagged_176 : decode cMd_learnTagged 176 = .ok (.invokevirtual 132, 3) := by decide +kernel
theorem dMd_learnTagged_179 : decode cMd_learnTagged 179 = .ok (.return_, 1) := by decide +kernel
theorem dMd_learnSums_0 : decode cMd_learnSums 0 = .ok (.aload_n 0, 1) := by decide +kernel
theorem dMd_learnSums_1 : decode cMd_learnSums 1 = .ok (.iload_n 1, 1) := by decide +kernel
theorem dMd_learnSums_2 : decode cMd_learnSums 2 = .ok (.iload_n 2, 1) := by decide +kernel
theorem dMd_learnSums_3 : decode cMd_learnSums 3 = .ok (.invokevirtual 122, 3) := by decide +kernel
theorem dMd_learnSums_6 : decode cMd_learnSums 6 = .ok (.istore 4, 2) := by decide +kernel
theorem dMd_learnSums_8 : decode cMd_learnSums 8 = .ok (.iload 4, 2) := by decide +kernel
theorem dMd_learnSums_10 : decode cMd_learnSums 10 = .ok (.ifCond .lt 7, 3) := by decide +kernel
theorem dMd_learnSums_13 : decode cMd_learnSums 13 = .ok (.iconst 1, 1) := by decide +kernel
theorem dMd_learnSums_14 : decode cMd_learnSums 14 = .ok (.goto 4, 3) := by decide +kernel
theorem dMd_learnSums_17 : decode cMd_learnSums 17 = .ok (.iconst 0, 1) := by decide +kernel
theorem dMd_learnSums_18 : decode cMd_learnSums 18 = .ok (.iload_n 3, 1) := by decide +kernel
theorem dMd_learnSums_19 : decode cMd_learnSums 19 = .ok (.if_icmp .ne 18, 3) := by decide +kernel
theorem dMd_learnSums_22 : decode cMd_learnSums 22 = .ok (.iload 4, 2) := by decide +kernel
theorem dMd_learnSums_24 : decode cMd_learnSums 24 = .ok (.bipush 29, 2) := by decide +kernel
theorem dMd_learnSums_26 : decode cMd_learnSums 26 = .ok (.if_icmp .gt 10, 3) := by decide +kernel
theorem dMd_learnSums_29 : decode cMd_learnSums 29 = .ok (.iload 4, 2) := by decide +kernel
theorem dMd_learnSums_31 : decode cMd_learnSums 31 = .ok (.bipush (-29), 2) := by decide +kernel
theorem dMd_learnSums_33 : decode cMd_learnSums 33 = .ok (.if_icmp .ge 4, 3) := by decide +kernel
theorem dMd_learnSums_36 : decode cMd_learnSums 36 = .ok (.return_, 1) := by decide +kernel
theorem dMd_learnSums_37 : decode cMd_learnSums 37 = .ok (.bipush 9, 2) := by decide +kernel
theorem dMd_learnSums_39 : decode cMd_learnSums 39 = .ok (.aload_n 0, 1) := by decide +kernel
theorem dMd_learnSums_40 : decode cMd_learnSums 40 = .ok (.iload_n 1, 1) := by decide +kernel
theorem dMd_learnSums_41 : decode cMd_learnSums 41 = .ok (.invokevirtual 105, 3) := by decide +kernel
theorem dMd_learnSums_44 : decode cMd_learnSums 44 = .ok (.imul, 1) := by decide +kernel
theorem dMd_learnSums_45 : decode cMd_learnSums 45 = .ok (.istore 5, 2) := by decide +kernel
theorem dMd_learnSums_47 : decode cMd_learnSums 47 = .ok (.aload_n 0, 1) := by decide +kernel
theorem dMd_learnSums_48 : decode cMd_learnSums 48 = .ok (.iload 5, 2) := by decide +kernel
theorem dMd_learnSums_50 : decode cMd_learnSums 50 = .ok (.iload_n 3, 1) := by decide +kernel
theorem dMd_learnSums_51 : decode cMd_learnSums 51 = .ok (.invokevirtual 136, 3) := by decide +kernel
theorem dMd_learnSums_54 : decode cMd_learnSums 54 = .ok (.iconst 0, 1) := by decide +kernel
theorem dMd_learnSums_55 : decode cMd_learnSums 55 = .ok (.istore 6, 2) := by decide +kernel
theorem dMd_learnSums_57 : decode cMd_learnSums 57 = .ok (.iload 6, 2) := by decide +kernel
theorem dMd_learnSums_59 : decode cMd_learnSums 59 = .ok (.bipush 8, 2) := by decide +kernel
theorem dMd_learnSums_61 : decode cMd_learnSums 61 = .ok (.if_icmp .ge 44, 3) := by decide +kernel
theorem dMd_learnSums_64 : decode cMd_learnSums 64 = .ok (.aload_n 0, 1) := by decide +kernel
theorem dMd_learnSums_65 : decode cMd_learnSums 65 = .ok (.iload 5, 2) := by decide +kernel
theorem dMd_learnSums_67 : decode cMd_learnSums 67 = .ok (.iload 6, 2) := by decide +kernel
theorem dMd_learnSums_69 : decode cMd_learnSums 69 = .ok (.iadd, 1) := by decide +kernel
theorem dMd_learnSums_70 : decode cMd_learnSums 70 = .ok (.iconst 1, 1) := by decide +kernel
theorem dMd_learnSums_71 : decode cMd_learnSums 71 = .ok (.iadd, 1) := by decide +kernel
theorem dMd_learnSums_72 : decode cMd_learnSums 72 = .ok (.iload_n 2, 1) := by decide +kernel
theorem dMd_learnSums_73 : decode cMd_learnSums 73 = .ok (.iload 6, 2) := by decide +kernel
theorem dMd_learnSums_75 : decode cMd_learnSums 75 = .ok (.iushr, 1) := by decide +kernel
theorem dMd_learnSums_76 : decode cMd_learnSums 76 = .ok (.iconst 1, 1) := by decide +kernel
theorem dMd_learnSums_77 : decode cMd_learnSums 77 = .ok (.iand, 1) := by decide +kernel
theorem dMd_learnSums_78 : decode cMd_learnSums 78 = .ok (.iconst 1, 1) := by decide +kernel
theorem dMd_learnSums_79 : decode cMd_learnSums 79 = .ok (.if_icmp .ne 7, 3) := by decide +kernel
theorem dMd_learnSums_82 : decode cMd_learnSums 82 = .ok (.iconst 1, 1) := by decide +kernel
theorem dMd_learnSums_83 : decode cMd_learnSums 83 = .ok (.goto 4, 3) := by decide +kernel
theorem dMd_learnSums_86 : decode cMd_learnSums 86 = .ok (.iconst 0, 1) := by decide +kernel
theorem dMd_learnSums_87 : decode cMd_learnSums 87 = .ok (.iload_n 3, 1) := by decide +kernel
theorem dMd_learnSums_88 : decode cMd_learnSums 88 = .ok (.if_icmp .ne 7, 3) := by decide +kernel
theorem dMd_learnSums_91 : decode cMd_learnSums 91 = .ok (.iconst 1, 1) := by decide +kernel
theorem dMd_learnSums_92 : decode cMd_learnSums 92 = .ok (.goto 4, 3) := by decide +kernel
theorem dMd_learnSums_95 : decode cMd_learnSums 95 = .ok (.iconst 0, 1) := by decide +kernel
theorem dMd_learnSums_96 : decode cMd_learnSums 96 = .ok (.invokevirtual 136, 3) := by decide +kernel
theorem dMd_learnSums_99 : decode cMd_learnSums 99 = .ok (.iinc 6 1, 3) := by decide +kernel
theorem dMd_learnSums_102 : decode cMd_learnSums 102 = .ok (.goto (-45), 3) := by decide +kernel
theorem dMd_learnSums_105 : decode cMd_learnSums 105 = .ok (.return_, 1) := by decide +kernel
theorem dMd_clearLoop_0 : decode cMd_clearLoop 0 = .ok (.aload_n 0, 1) := by decide +kernel
theorem dMd_clearLoop_1 : decode cMd_clearLoop 1 = .ok (.getfield 49, 3) := by decide +kernel
theorem dMd_clearLoop_4 : decode cMd_clearLoop 4 = .ok (.iload_n 1, 1) := by decide +kernel
theorem dMd_clearLoop_5 : decode cMd_clearLoop 5 = .ok (.iconst 0, 1) := by decide +kernel
theorem dMd_clearLoop_6 : decode cMd_clearLoop 6 = .ok (.iastore, 1) := by decide +kernel
theorem dMd_clearLoop_7 : decode cMd_clearLoop 7 = .ok (.aload_n 0, 1) := by decide +kernel
theorem dMd_clearLoop_8 : decode cMd_clearLoop 8 = .ok (.getfield 43, 3) := by decide +kernel
theorem dMd_clearLoop_11 : decode cMd_clearLoop 11 = .ok (.iload_n 1, 1) := by decide +kernel
theorem dMd_clearLoop_12 : decode cMd_clearLoop 12 = .ok (.iconst 0, 1) := by decide +kernel
theorem dMd_clearLoop_13 : decode cMd_clearLoop 13 = .ok (.iastore, 1) := by decide +kernel
theorem dMd_clearLoop_14 : decode cMd_clearLoop 14 = .ok (.aload_n 0, 1) := by decide +kernel
theorem dMd_clearLoop_15 : decode cMd_clearLoop 15 = .ok (.getfield 46, 3) := by decide +kernel
theorem dMd_clearLoop_18 : decode cMd_clearLoop 18 = .ok (.iload_n 1, 1) := by decide +kernel
theorem dMd_clearLoop_19 : decode cMd_clearLoop 19 = .ok (.iconst 0, 1) := by decide +kernel
theorem dMd_clearLoop_20 : decode cMd_clearLoop 20 = .ok (.iastore, 1) := by decide +kernel
theorem dMd_clearLoop_21 : decode cMd_clearLoop 21 = .ok (.return_, 1) := by decide +kernel
theorem dMd_learnLoop_0 : decode cMd_learnLoop 0 = .ok (.aload_n 0, 1) := by decide +kernel
theorem dMd_learnLoop_1 : decode cMd_learnLoop 1 = .ok (.iload_n 1, 1) := by decide +kernel
theorem dMd_learnLoop_2 : decode cMd_learnLoop 2 = .ok (.invokevirtual 105, 3) := by decide +kernel
theorem dMd_learnLoop_5 : decode cMd_learnLoop 5 = .ok (.istore_n 3, 1) := by decide +kernel
theorem dMd_learnLoop_6 : decode cMd_learnLoop 6 = .ok (.aload_n 0, 1) := by decide +kernel
theorem dMd_learnLoop_7 : decode cMd_learnLoop 7 = .ok (.getfield 13, 3) := by decide +kernel
theorem dMd_learnLoop_10 : decode cMd_learnLoop 10 = .ok (.iload_n 3, 1) := by decide +kernel
theorem dMd_learnLoop_11 : decode cMd_learnLoop 11 = .ok (.aload_n 0, 1) := by decide +kernel
theorem dMd_learnLoop_12 : decode cMd_learnLoop 12 = .ok (.getfield 13, 3) := by decide +kernel
theorem dMd_learnLoop_15 : decode cMd_learnLoop 15 = .ok (.iload_n 3, 1) := by decide +kernel
