theorem dPK_count_49 : decode cPK_count 49 = .ok (.getfield 88, 3) := by decide +kernel
theorem dPK_count_52 : decode cPK_count 52 = .ok (.ireturn, 1) := by decide +kernel
theorem dPK_count_53 : decode cPK_count 53 = .ok (.aload_n 0, 1) := by decide +kernel
theorem dPK_count_54 : decode cPK_count 54 = .ok (.getfield 91, 3) := by decide +kernel
theorem dPK_count_57 : decode cPK_count 57 = .ok (.ireturn, 1) := by decide +kernel
theorem dPK_count_58 : decode cPK_count 58 = .ok (.aload_n 0, 1) := by decide +kernel
theorem dPK_count_59 : decode cPK_count 59 = .ok (.getfield 94, 3) := by decide +kernel
theorem dPK_count_62 : decode cPK_count 62 = .ok (.ireturn, 1) := by decide +kernel
theorem dPK_count_63 : decode cPK_count 63 = .ok (.aload_n 0, 1) := by decide +kernel
theorem dPK_count_64 : decode cPK_count 64 = .ok (.getfield 38, 3) := by decide +kernel
theorem dPK_count_67 : decode cPK_count 67 = .ok (.invokevirtual 133, 3) := by decide +kernel
theorem dPK_count_70 : decode cPK_count 70 = .ok (.ireturn, 1) := by decide +kernel
theorem dPK_count_71 : decode cPK_count 71 = .ok (.aload_n 0, 1) := by decide +kernel
theorem dPK_count_72 : decode cPK_count 72 = .ok (.getfield 100, 3) := by decide +kernel
theorem dPK_count_75 : decode cPK_count 75 = .ok (.ireturn, 1) := by decide +kernel
theorem dPK_count_76 : decode cPK_count 76 = .ok (.aload_n 0, 1) := by decide +kernel
theorem dPK_count_77 : decode cPK_count 77 = .ok (.getfield 136, 3) := by decide +kernel
theorem dPK_count_80 : decode cPK_count 80 = .ok (.ireturn, 1) := by decide +kernel
theorem dPK_count_81 : decode cPK_count 81 = .ok (.aload_n 0, 1) := by decide +kernel
theorem dPK_count_82 : decode cPK_count 82 = .ok (.getfield 15, 3) := by decide +kernel
theorem dPK_count_85 : decode cPK_count 85 = .ok (.ireturn, 1) := by decide +kernel
theorem dPK_count_86 : decode cPK_count 86 = .ok (.aload_n 0, 1) := by decide +kernel
theorem dPK_count_87 : decode cPK_count 87 = .ok (.getfield 24, 3) := by decide +kernel
theorem dPK_count_90 : decode cPK_count 90 = .ok (.ireturn, 1) := by decide +kernel
theorem dPK_count_91 : decode cPK_count 91 = .ok (.iconst (-1), 1) := by decide +kernel
theorem dPK_count_92 : decode cPK_count 92 = .ok (.ireturn, 1) := by decide +kernel
theorem dMd_modulo_0 : decode cMd_modulo 0 = .ok (.iload_n 0, 1) := by decide +kernel
theorem dMd_modulo_1 : decode cMd_modulo 1 = .ok (.bipush 10, 2) := by decide +kernel
theorem dMd_modulo_3 : decode cMd_modulo 3 = .ok (.irem, 1) := by decide +kernel
theorem dMd_modulo_4 : decode cMd_modulo 4 = .ok (.bipush 10, 2) := by decide +kernel
theorem dMd_modulo_6 : decode cMd_modulo 6 = .ok (.iadd, 1) := by decide +kernel
theorem dMd_modulo_7 : decode cMd_modulo 7 = .ok (.bipush 10, 2) := by decide +kernel
theorem dMd_modulo_9 : decode cMd_modulo 9 = .ok (.irem, 1) := by decide +kernel
theorem dMd_modulo_10 : decode cMd_modulo 10 = .ok (.ireturn, 1) := by decide +kernel
theorem dMd_thrown_0 : decode cMd_thrown 0 = .ok (.aload_n 0, 1) := by decide +kernel
theorem dMd_thrown_1 : decode cMd_thrown 1 = .ok (.getfield 82, 3) := by decide +kernel
theorem dMd_thrown_4 : decode cMd_thrown 4 = .ok (.ireturn, 1) := by decide +kernel
theorem dMd_fail_0 : decode cMd_fail 0 = .ok (.aload_n 0, 1) := by decide +kernel
theorem dMd_fail_1 : decode cMd_fail 1 = .ok (.iload_n 1, 1) := by decide +kernel
theorem dMd_fail_2 : decode cMd_fail 2 = .ok (.putfield 82, 3) := by decide +kernel
theorem dMd_fail_5 : decode cMd_fail 5 = .ok (.iconst 0, 1) := by decide +kernel
theorem dMd_fail_6 : decode cMd_fail 6 = .ok (.ireturn, 1) := by decide +kernel
theorem dMd_low_0 : decode cMd_low 0 = .ok (.iload_n 1, 1) := by decide +kernel
theorem dMd_low_1 : decode cMd_low 1 = .ok (.aload_n 0, 1) := by decide +kernel
theorem dMd_low_2 : decode cMd_low 2 = .ok (.getfield 76, 3) := by decide +kernel
theorem dMd_low_5 : decode cMd_low 5 = .ok (.iconst 1, 1) := by decide +kernel
theorem dMd_low_6 : decode cMd_low 6 = .ok (.isub, 1) := by decide +kernel
theorem dMd_low_7 : decode cMd_low 7 = .ok (.iand, 1) := by decide +kernel
theorem dMd_low_8 : decode cMd_low 8 = .ok (.ireturn, 1) := by decide +kernel
theorem dMd_plainRow_0 : decode cMd_plainRow 0 = .ok (.aload_n 0, 1) := by decide +kernel
theorem dMd_plainRow_1 : decode cMd_plainRow 1 = .ok (.iload_n 1, 1) := by decide +kernel
theorem dMd_plainRow_2 : decode cMd_plainRow 2 = .ok (.iload_n 1, 1) := by decide +kernel
theorem dMd_plainRow_3 : decode cMd_plainRow 3 = .ok (.aload_n 0, 1) := by decide +kernel
theorem dMd_plainRow_4 : decode cMd_plainRow 4 = .ok (.getfield 73, 3) := by decide +kernel
theorem dMd_plainRow_7 : decode cMd_plainRow 7 = .ok (.iushr, 1) := by decide +kernel
theorem dMd_plainRow_8 : decode cMd_plainRow 8 = .ok (.ixor, 1) := by decide +kernel
theorem dMd_plainRow_9 : decode cMd_plainRow 9 = .ok (.invokevirtual 85, 3) := by decide +kernel
theorem dMd_plainRow_12 : decode cMd_plainRow 12 = .ok (.ireturn, 1) := by decide +kernel
theorem dMd_folded_0 : decode cMd_folded 0 = .ok (.iconst 0, 1) := by decide +kernel
theorem dMd_folded_1 : decode cMd_folded 1 = .ok (.istore_n 3, 1) := by decide +kernel
theorem dMd_folded_2 : decode cMd_folded 2 = .ok (.iconst 0, 1) := by decide +kernel
theorem dMd_folded_3 : decode cMd_folded 3 = .ok (.istore 4, 2) := by decide +kernel
theorem dMd_folded_5 : decode cMd_folded 5 = .ok (.iload 4, 2) := by decide +kernel
theorem dMd_folded_7 : decode cMd_folded 7 = .ok (.iload_n 1, 1) := by decide +kernel
theorem dMd_folded_8 : decode cMd_folded 8 = .ok (.if_icmp .ge 23, 3) := by decide +kernel
theorem dMd_folded_11 : decode cMd_folded 11 = .ok (.iload_n 3, 1) := by decide +kernel
theorem dMd_folded_12 : decode cMd_folded 12 = .ok (.iload_n 0, 1) := by decide +kernel
theorem dMd_folded_13 : decode cMd_folded 13 = .ok (.iload 4, 2) := by decide +kernel
theorem dMd_folded_15 : decode cMd_folded 15 = .ok (.iushr, 1) := by decide +kernel
theorem dMd_folded_16 : decode cMd_folded 16 = .ok (.iconst 1, 1) := by decide +kernel
theorem dMd_folded_17 : decode cMd_folded 17 = .ok (.iand, 1) := by decide +kernel
theorem dMd_folded_18 : decode cMd_folded 18 = .ok (.iload 4, 2) := by decide +kernel
theorem dMd_folded_20 : decode cMd_folded 20 = .ok (.iload_n 2, 1) := by decide +kernel
theorem dMd_folded_21 : decode cMd_folded 21 = .ok (.irem, 1) := by decide +kernel
theorem dMd_folded_22 : decode cMd_folded 22 = .ok (.ishl, 1) := by decide +kernel
theorem dMd_folded_23 : decode cMd_folded 23 = .ok (.ixor, 1) := by decide +kernel
theorem dMd_folded_24 : decode cMd_folded 24 = .ok (.istore_n 3, 1) := by decide +kernel
theorem dMd_folded_25 : decode cMd_folded 25 = .ok (.iinc 4 1, 3) := by decide +kernel
theorem dMd_folded_28 : decode cMd_folded 28 = .ok (.goto (-23), 3) := by decide +kernel
theorem dMd_folded_31 : decode cMd_folded 31 = .ok (.iload_n 3, 1) := by decide +kernel
theorem dMd_folded_32 : decode cMd_folded 32 = .ok (.ireturn, 1) := by decide +kernel
theorem dMd_step_0 : decode cMd_step 0 = .ok (.iload_n 1, 1) := by decide +kernel
theorem dMd_step_1 : decode cMd_step 1 = .ok (.ifCond .eq 18, 3) := by decide +kernel
theorem dMd_step_4 : decode cMd_step 4 = .ok (.iload_n 0, 1) := by decide +kernel
theorem dMd_step_5 : decode cMd_step 5 = .ok (.iconst 3, 1) := by decide +kernel
theorem dMd_step_6 : decode cMd_step 6 = .ok (.if_icmp .ge 9, 3) := by decide +kernel
theorem dMd_step_9 : decode cMd_step 9 = .ok (.iload_n 0, 1) := by decide +kernel
theorem dMd_step_10 : decode cMd_step 10 = .ok (.iconst 1, 1) := by decide +kernel
theorem dMd_step_11 : decode cMd_step 11 = .ok (.iadd, 1) := by decide +kernel
theorem dMd_step_12 : decode cMd_step 12 = .ok (.goto 18, 3) := by decide +kernel
theorem dMd_step_15 : decode cMd_step 15 = .ok (.iconst 3, 1) := by decide +kernel
theorem dMd_step_16 : decode cMd_step 16 = .ok (.goto 14, 3) := by decide +kernel
theorem dMd_step_19 : decode cMd_step 19 = .ok (.iload_n 0, 1) := by decide +kernel
theorem dMd_step_20 : decode cMd_step 20 = .ok (.ifCond .le 9, 3) := by decide +kernel
theorem dMd_step_23 : decode cMd_step 23 = .ok (.iload_n 0, 1) := by decide +kernel
theorem dMd_step_24 : decode cMd_step 24 = .ok (.iconst 1, 1) := by decide +kernel
theorem dMd_step_25 : decode cMd_step 25 = .ok (.isub, 1) := by decide +kernel
theorem dMd_step_26 : decode cMd_step 26 = .ok (.goto 4, 3) := by decide +kernel
theorem dMd_step_29 : decode cMd_step 29 = .ok (.iconst 0, 1) := by decide +kernel
theorem dMd_step_30 : decode cMd_step 30 = .ok (.ireturn, 1) := by decide +kernel
theorem dMd_span_0 : decode cMd_span 0 = .ok (.iload_n 0, 1) := by decide +kernel
theorem dMd_span_1 : decode cMd_span 1 = .ok (.ifCond .ne 7, 3) := by decide +kernel
theorem dMd_span_4 : decode cMd_span 4 = .ok (.iconst 4, 1) := by decide +kernel
theorem dMd_span_5 : decode cMd_span 5 = .ok (.goto 15, 3) := by decide +kernel
theorem dMd_span_8 : decode cMd_span 8 = .ok (.iload_n 0, 1) := by decide +kernel
theorem dMd_span_9 : decode cMd_span 9 = .ok (.iconst 1, 1) := by decide +kernel
theorem dMd_span_10 : decode cMd_span 10 = .ok (.if_icmp .ne 8, 3) := by decide +kernel
theorem dMd_span_13 : decode cMd_span 13 = .ok (.bipush 8, 2) := by decide +kernel
theorem dMd_span_15 : decode cMd_span 15 = .ok (.goto 5, 3) := by decide +kernel
theorem dMd_span_18 : decode cMd_span 18 = .ok (.bipush 16, 2) := by decide +kernel
theorem dMd_span_20 : decode cMd_span 20 = .ok (.ireturn, 1) := by decide +kernel
theorem dMd_taggedRow_0 : decode cMd_taggedRow 0 = .ok (.sipush 1024, 3) := by decide +kernel
theorem dMd_taggedRow_3 : decode cMd_taggedRow 3 = .ok (.iload_n 1, 1) := by decide +kernel
theorem dMd_taggedRow_4 : decode cMd_taggedRow 4 = .ok (.imul, 1) := by decide +kernel
theorem dMd_taggedRow_5 : decode cMd_taggedRow 5 = .ok (.aload_n 0, 1) := by decide +kernel
theorem dMd_taggedRow_6 : decode cMd_taggedRow 6 = .ok (.iload_n 2, 1) := by decide +kernel
theorem dMd_taggedRow_7 : decode cMd_taggedRow 7 = .ok (.iload_n 3, 1) := by decide +kernel
theorem dMd_taggedRow_8 : decode cMd_taggedRow 8 = .ok (.iload_n 1, 1) := by decide +kernel
theorem dMd_taggedRow_9 : decode cMd_taggedRow 9 = .ok (.invokestatic 88, 3) := by decide +kernel
theorem dMd_taggedRow_12 : decode cMd_taggedRow 12 = .ok (.aload_n 0, 1) := by decide +kernel
theorem dMd_taggedRow_13 : decode cMd_taggedRow 13 = .ok (.getfield 73, 3) := by decide +kernel
theorem dMd_taggedRow_16 : decode cMd_taggedRow 16 = .ok (.invokestatic 91, 3) := by decide +kernel
theorem dMd_taggedRow_19 : decode cMd_taggedRow 19 = .ok (.ixor, 1) := by decide +kernel
theorem dMd_taggedRow_20 : decode cMd_taggedRow 20 = .ok (.iload_n 1, 1) := by decide +kernel
theorem dMd_taggedRow_21 : decode cMd_taggedRow 21 = .ok (.iconst 1, 1) := by decide +kernel
theorem dMd_taggedRow_22 : decode cMd_taggedRow 22 = .ok (.iadd, 1) := by decide +kernel
theorem dMd_taggedRow_23 : decode cMd_taggedRow 23 = .ok (.ixor, 1) := by decide +kernel
theorem dMd_taggedRow_24 : decode cMd_taggedRow 24 = .ok (.invokevirtual 85, 3) := by decide +kernel
theorem dMd_taggedRow_27 : decode cMd_taggedRow 27 = .ok (.iadd, 1) := by decide +kernel
theorem dMd_taggedRow_28 : decode cMd_taggedRow 28 = .ok (.ireturn, 1) := by decide +kernel
theorem dMd_tagOf_0 : decode cMd_tagOf 0 = .ok (.iload_n 1, 1) := by decide +kernel
theorem dMd_tagOf_1 : decode cMd_tagOf 1 = .ok (.iconst 2, 1) := by decide +kernel
theorem dMd_tagOf_2 : decode cMd_tagOf 2 = .ok (.iushr, 1) := by decide +kernel
theorem dMd_tagOf_3 : decode cMd_tagOf 3 = .ok (.iload_n 2, 1) := by decide +kernel
theorem dMd_tagOf_4 : decode cMd_tagOf 4 = .ok (.iload_n 0, 1) := by decide +kernel
theorem dMd_tagOf_5 : decode cMd_tagOf 5 = .ok (.invokestatic 88, 3) := by decide +kernel
theorem dMd_tagOf_8 : decode cMd_tagOf 8 = .ok (.bipush 8, 2) := by decide +kernel
theorem dMd_tagOf_10 : decode cMd_tagOf 10 = .ok (.invokestatic 91, 3) := by decide +kernel
theorem dMd_tagOf_13 : decode cMd_tagOf 13 = .ok (.ixor, 1) := by decide +kernel
theorem dMd_tagOf_14 : decode cMd_tagOf 14 = .ok (.bipush 7, 2) := by decide +kernel
theorem dMd_tagOf_16 : decode cMd_tagOf 16 = .ok (.iload_n 0, 1) := by decide +kernel
theorem dMd_tagOf_17 : decode cMd_tagOf 17 = .ok (.imul, 1) := by decide +kernel
theorem dMd_tagOf_18 : decode cMd_tagOf 18 = .ok (.ixor, 1) := by decide +kernel
theorem dMd_tagOf_19 : decode cMd_tagOf 19 = .ok (.sipush 255, 3) := by decide +kernel
theorem dMd_tagOf_22 : decode cMd_tagOf 22 = .ok (.iand, 1) := by decide +kernel
theorem dMd_tagOf_23 : decode cMd_tagOf 23 = .ok (.ireturn, 1) := by decide +kernel
theorem dMd_hits_0 : decode cMd_hits 0 = .ok (.aload_n 0, 1) := by decide +kernel
theorem dMd_hits_1 : decode cMd_hits 1 = .ok (.getfield 28, 3) := by decide +kernel
theorem dMd_hits_4 : decode cMd_hits 4 = .ok (.aload_n 0, 1) := by decide +kernel
theorem dMd_hits_5 : decode cMd_hits 5 = .ok (.iload_n 1, 1) := by decide +kernel
theorem dMd_hits_6 : decode cMd_hits 6 = .ok (.iload_n 2, 1) := by decide +kernel
theorem dMd_hits_7 : decode cMd_hits 7 = .ok (.iload_n 3, 1) := by decide +kernel
theorem dMd_hits_8 : decode cMd_hits 8 = .ok (.invokevirtual 95, 3) := by decide +kernel
theorem dMd_hits_11 : decode cMd_hits 11 = .ok (.iaload, 1) := by decide +kernel
theorem dMd_hits_12 : decode cMd_hits 12 = .ok (.iload_n 1, 1) := by decide +kernel
theorem dMd_hits_13 : decode cMd_hits 13 = .ok (.iload_n 2, 1) := by decide +kernel
theorem dMd_hits_14 : decode cMd_hits 14 = .ok (.iload_n 3, 1) := by decide +kernel
theorem dMd_hits_15 : decode cMd_hits 15 = .ok (.invokestatic 98, 3) := by decide +kernel
theorem dMd_hits_18 : decode cMd_hits 18 = .ok (.if_icmp .ne 7, 3) := by decide +kernel
theorem dMd_hits_21 : decode cMd_hits 21 = .ok (.iconst 1, 1) := by decide +kernel
theorem dMd_hits_22 : decode cMd_hits 22 = .ok (.goto 4, 3) := by decide +kernel
theorem dMd_hits_25 : decode cMd_hits 25 = .ok (.iconst 0, 1) := by decide +kernel
theorem dMd_hits_26 : decode cMd_hits 26 = .ok (.ireturn, 1) := by decide +kernel
theorem dMd_hitBefore_0 : decode cMd_hitBefore 0 = .ok (.iconst (-1), 1) := by decide +kernel
theorem dMd_hitBefore_1 : decode cMd_hitBefore 1 = .ok (.istore 4, 2) := by decide +kernel
theorem dMd_hitBefore_3 : decode cMd_hitBefore 3 = .ok (.iconst 0, 1) := by decide +kernel
theorem dMd_hitBefore_4 : decode cMd_hitBefore 4 = .ok (.istore 5, 2) := by decide +kernel
theorem dMd_hitBefore_6 : decode cMd_hitBefore 6 = .ok (.iload 5, 2) := by decide +kernel
theorem dMd_hitBefore_8 : decode cMd_hitBefore 8 = .ok (.iload_n 1, 1) := by decide +kernel
theorem dMd_hitBefore_9 : decode cMd_hitBefore 9 = .ok (.if_icmp .ge 29, 3) := by decide +kernel
theorem dMd_hitBefore_12 : decode cMd_hitBefore 12 = .ok (.aload_n 0, 1) := by decide +kernel
theorem dMd_hitBefore_13 : decode cMd_hitBefore 13 = .ok (.iload 5, 2) := by decide +kernel
theorem dMd_hitBefore_15 : decode cMd_hitBefore 15 = .ok (.iload_n 2, 1) := by decide +kernel
theorem dMd_hitBefore_16 : decode cMd_hitBefore 16 = .ok (.iload_n 3, 1) := by decide +kernel
theorem dMd_hitBefore_17 : decode cMd_hitBefore 17 = .ok (.invokevirtual 101, 3) := by decide +kernel
theorem dMd_hitBefore_20 : decode cMd_hitBefore 20 = .ok (.ifCond .eq 8, 3) := by decide +kernel
theorem dMd_hitBefore_23 : decode cMd_hitBefore 23 = .ok (.iload 5, 2) := by decide +kernel
theorem dMd_hitBefore_25 : decode cMd_hitBefore 25 = .ok (.goto 5, 3) := by decide +kernel
theorem dMd_hitBefore_28 : decode cMd_hitBefore 28 = .ok (.iload 4, 2) := by decide +kernel
theorem dMd_hitBefore_30 : decode cMd_hitBefore 30 = .ok (.istore 4, 2) := by decide +kernel
theorem dMd_hitBefore_32 : decode cMd_hitBefore 32 = .ok (.iinc 5 1, 3) := by decide +kernel
theorem dMd_hitBefore_35 : decode cMd_hitBefore 35 = .ok (.goto (-29), 3) := by decide +kernel
theorem dMd_hitBefore_38 : decode cMd_hitBefore 38 = .ok (.iload 4, 2) := by decide +kernel
theorem dMd_hitBefore_40 : decode cMd_hitBefore 40 = .ok (.ireturn, 1) := by decide +kernel
theorem dMd_saidBy_0 : decode cMd_saidBy 0 = .ok (.iload_n 1, 1) := by decide +kernel
theorem dMd_saidBy_1 : decode cMd_saidBy 1 = .ok (.ifCond .ge 25, 3) := by decide +kernel
theorem dMd_saidBy_4 : decode cMd_saidBy 4 = .ok (.aload_n 0, 1) := by decide +kernel
theorem dMd_saidBy_5 : decode cMd_saidBy 5 = .ok (.getfield 13, 3) := by decide +kernel
theorem dMd_saidBy_8 : decode cMd_saidBy 8 = .ok (.aload_n 0, 1) := by decide +kernel
theorem dMd_saidBy_9 : decode cMd_saidBy 9 = .ok (.iload_n 2, 1) := by decide +kernel
theorem dMd_saidBy_10 : decode cMd_saidBy 10 = .ok (.invokevirtual 105, 3) := by decide +kernel
theorem dMd_saidBy_13 : decode cMd_saidBy 13 = .ok (.iaload, 1) := by decide +kernel
theorem dMd_saidBy_14 : decode cMd_saidBy 14 = .ok (.iconst 1, 1) := by decide +kernel
theorem dMd_saidBy_15 : decode cMd_saidBy 15 = .ok (.if_icmp .le 7, 3) := by decide +kernel
theorem dMd_saidBy_18 : decode cMd_saidBy 18 = .ok (.iconst 1, 1) := by decide +kernel
theorem dMd_saidBy_19 : decode cMd_saidBy 19 = .ok (.goto 27, 3) := by decide +kernel
theorem dMd_saidBy_22 : decode cMd_saidBy 22 = .ok (.iconst 0, 1) := by decide +kernel
theorem dMd_saidBy_23 : decode cMd_saidBy 23 = .ok (.goto 23, 3) := by decide +kernel
theorem dMd_saidBy_26 : decode cMd_saidBy 26 = .ok (.aload_n 0, 1) := by decide +kernel
theorem dMd_saidBy_27 : decode cMd_saidBy 27 = .ok (.getfield 31, 3) := by decide +kernel
theorem dMd_saidBy_30 : decode cMd_saidBy 30 = .ok (.aload_n 0, 1) := by decide +kernel
theorem dMd_saidBy_31 : decode cMd_saidBy 31 = .ok (.iload_n 1, 1) := by decide +kernel
theorem dMd_saidBy_32 : decode cMd_saidBy 32 = .ok (.iload_n 2, 1) := by decide +kernel
theorem dMd_saidBy_33 : decode cMd_saidBy 33 = .ok (.iload_n 3, 1) := by decide +kernel
theorem dMd_saidBy_34 : decode cMd_saidBy 34 = .ok (.invokevirtual 95, 3) := by decide +kernel
theorem dMd_saidBy_37 : decode cMd_saidBy 37 = .ok (.iaload, 1) := by decide +kernel
theorem dMd_saidBy_38 : decode cMd_saidBy 38 = .ok (.ifCond .lt 7, 3) := by decide +kernel
theorem dMd_saidBy_41 : decode cMd_saidBy 41 = .ok (.iconst 1, 1) := by decide +kernel
theorem dMd_saidBy_42 : decode cMd_saidBy 42 = .ok (.goto 4, 3) := by decide +kernel
theorem dMd_saidBy_45 : decode cMd_saidBy 45 = .ok (.iconst 0, 1) := by decide +kernel
theorem dMd_saidBy_46 : decode cMd_saidBy 46 = .ok (.ireturn, 1) := by decide +kernel
theorem dMd_total_0 : decode cMd_total 0 = .ok (.bipush 9, 2) := by decide +kernel
theorem dMd_total_2 : decode cMd_total 2 = .ok (.aload_n 0, 1) := by decide +kernel
theorem dMd_total_3 : decode cMd_total 3 = .ok (.iload_n 1, 1) := by decide +kernel
theorem dMd_total_4 : decode cMd_total 4 = .ok (.invokevirtual 105, 3) := by decide +kernel
theorem dMd_total_7 : decode cMd_total 7 = .ok (.imul, 1) := by decide +kernel
theorem dMd_total_8 : decode cMd_total 8 = .ok (.istore_n 3, 1) := by decide +kernel
theorem dMd_total_9 : decode cMd_total 9 = .ok (.aload_n 0, 1) := by decide +kernel
theorem dMd_total_10 : decode cMd_total 10 = .ok (.getfield 37, 3) := by decide +kernel
theorem dMd_total_13 : decode cMd_total 13 = .ok (.iload_n 3, 1) := by decide +kernel
theorem dMd_total_14 : decode cMd_total 14 = .ok (.iaload, 1) := by decide +kernel
theorem dMd_total_15 : decode cMd_total 15 = .ok (.istore 4, 2) := by decide +kernel
theorem dMd_total_17 : decode cMd_total 17 = .ok (.iconst 0, 1) := by decide +kernel
theorem dMd_total_18 : decode cMd_total 18 = .ok (.istore 5, 2) := by decide +kernel
theorem dMd_total_20 : decode cMd_total 20 = .ok (.iload 5, 2) := by decide +kernel
theorem dMd_total_22 : decode cMd_total 22 = .ok (.bipush 8, 2) := by decide +kernel
theorem dMd_total_24 : decode cMd_total 24 = .ok (.if_icmp .ge 50, 3) := by decide +kernel
theorem dMd_total_27 : decode cMd_total 27 = .ok (.iload 4, 2) := by decide +kernel
theorem dMd_total_29 : decode cMd_total 29 = .ok (.iload_n 2, 1) := by decide +kernel
theorem dMd_total_30 : decode cMd_total 30 = .ok (.iload 5, 2) := by decide +kernel
theorem dMd_total_32 : decode cMd_total 32 = .ok (.iushr, 1) := by decide +kernel
theorem dMd_total_33 : decode cMd_total 33 = .ok (.iconst 1, 1) := by decide +kernel
theorem dMd_total_34 : decode cMd_total 34 = .ok (.iand, 1) := by decide +kernel
theorem dMd_total_35 : decode cMd_total 35 = .ok (.iconst 1, 1) := by decide +kernel
theorem dMd_total_36 : decode cMd_total 36 = .ok (.if_icmp .ne 17, 3) := by decide +kernel
theorem dMd_total_39 : decode cMd_total 39 = .ok (.aload_n 0, 1) := by decide +kernel
theorem dMd_total_40 : decode cMd_total 40 = .ok (.getfield 37, 3) := by decide +kernel
theorem dMd_total_43 : decode cMd_total 43 = .ok (.iload_n 3, 1) := by decide +kernel
theorem dMd_total_44 : decode cMd_total 44 = .ok (.iload 5, 2) := by decide +kernel
theorem dMd_total_46 : decode cMd_total 46 = .ok (.iadd, 1) := by decide +kernel
theorem dMd_total_47 : decode cMd_total 47 = .ok (.iconst 1, 1) := by decide +kernel
theorem dMd_total_48 : decode cMd_total 48 = .ok (.iadd, 1) := by decide +kernel
theorem dMd_total_49 : decode cMd_total 49 = .ok (.iaload, 1) := by decide +kernel
theorem dMd_total_50 : decode cMd_total 50 = .ok (.goto 15, 3) := by decide +kernel
theorem dMd_total_53 : decode cMd_total 53 = .ok (.aload_n 0, 1) := by decide +kernel
theorem dMd_total_54 : decode cMd_total 54 = .ok (.getfield 37, 3) := by decide +kernel
theorem dMd_total_57 : decode cMd_total 57 = .ok (.iload_n 3, 1) := by decide +kernel
theorem dMd_total_58 : decode cMd_total 58 = .ok (.iload 5, 2) := by decide +kernel
theorem dMd_total_60 : decode cMd_total 60 = .ok (.iadd, 1) := by decide +kernel
theorem dMd_total_61 : decode cMd_total 61 = .ok (.iconst 1, 1) := by decide +kernel
theorem dMd_total_62 : decode cMd_total 62 = .ok (.iadd, 1) := by decide +kernel
theorem dMd_total_63 : decode cMd_total 63 = .ok (.iaload, 1) := by decide +kernel
theorem dMd_total_64 : decode cMd_total 64 = .ok (.ineg, 1) := by decide +kernel
theorem dMd_total_65 : decode cMd_total 65 = .ok (.iadd, 1) := by decide +kernel
theorem dMd_total_66 : decode cMd_total 66 = .ok (.istore 4, 2) := by decide +kernel
theorem dMd_total_68 : decode cMd_total 68 = .ok (.iinc 5 1, 3) := by decide +kernel
theorem dMd_total_71 : decode cMd_total 71 = .ok (.goto (-51), 3) := by decide +kernel
theorem dMd_total_74 : decode cMd_total 74 = .ok (.iload 4, 2) := by decide +kernel
theorem dMd_total_76 : decode cMd_total 76 = .ok (.ireturn, 1) := by decide +kernel
theorem dMd_turn_0 : decode cMd_turn 0 = .ok (.iload_n 2, 1) := by decide +kernel
theorem dMd_turn_1 : decode cMd_turn 1 = .ok (.ifCond .eq 24, 3) := by decide +kernel
theorem dMd_turn_4 : decode cMd_turn 4 = .ok (.aload_n 0, 1) := by decide +kernel
theorem dMd_turn_5 : decode cMd_turn 5 = .ok (.getfield 37, 3) := by decide +kernel
theorem dMd_turn_8 : decode cMd_turn 8 = .ok (.iload_n 1, 1) := by decide +kernel
theorem dMd_turn_9 : decode cMd_turn 9 = .ok (.iaload, 1) := by decide +kernel
theorem dMd_turn_10 : decode cMd_turn 10 = .ok (.bipush 63, 2) := by decide +kernel
theorem dMd_turn_12 : decode cMd_turn 12 = .ok (.if_icmp .ge 13, 3) := by decide +kernel
theorem dMd_turn_15 : decode cMd_turn 15 = .ok (.aload_n 0, 1) := by decide +kernel
theorem dMd_turn_16 : decode cMd_turn 16 = .ok (.getfield 37, 3) := by decide +kernel
theorem dMd_turn_19 : decode cMd_turn 19 = .ok (.iload_n 1, 1) := by decide +kernel
theorem dMd_turn_20 : decode cMd_turn 20 = .ok (.dup2, 1) := by decide +kernel
theorem dMd_turn_21 : decode cMd_turn 21 = .ok (.iaload, 1) := by decide +kernel
theorem dMd_turn_22 : decode cMd_turn 22 = .ok (.iconst 1, 1) := by decide +kernel
theorem dMd_turn_23 : decode cMd_turn 23 = .ok (.iadd, 1) := by decide +kernel
theorem dMd_turn_24 : decode cMd_turn 24 = .ok (.iastore, 1) := by decide +kernel
theorem dMd_turn_25 : decode cMd_turn 25 = .ok (.iload_n 2, 1) := by decide +kernel
theorem dMd_turn_26 : decode cMd_turn 26 = .ok (.ifCond .ne 24, 3) := by decide +kernel
theorem dMd_turn_29 : decode cMd_turn 29 = .ok (.aload_n 0, 1) := by decide +kernel
theorem dMd_turn_30 : decode cMd_turn 30 = .ok (.getfield 37, 3) := by decide +kernel
theorem dMd_turn_33 : decode cMd_turn 33 = .ok (.iload_n 1, 1) := by decide +kernel
theorem dMd_turn_34 : decode cMd_turn 34 = .ok (.iaload, 1) := by decide +kernel
theorem dMd_turn_35 : decode cMd_turn 35 = .ok (.bipush (-64), 2) := by decide +kernel
theorem dMd_turn_37 : decode cMd_turn 37 = .ok (.if_icmp .le 13, 3) := by decide +kernel
theorem dMd_turn_40 : decode cMd_turn 40 = .ok (.aload_n 0, 1) := by decide +kernel
theorem dMd_turn_41 : decode cMd_turn 41 = .ok (.getfield 37, 3) := by decide +kernel
theorem dMd_turn_44 : decode cMd_turn 44 = .ok (.iload_n 1, 1) := by decide +kernel
theorem dMd_turn_45 : decode cMd_turn 45 = .ok (.dup2, 1) := by decide +kernel
theorem dMd_turn_46 : decode cMd_turn 46 = .ok (.iaload, 1) := by decide +kernel
theorem dMd_turn_47 : decode cMd_turn 47 = .ok (.iconst 1, 1) := by decide +kernel
theorem dMd_turn_48 : decode cMd_turn 48 = .ok (.isub, 1) := by decide +kernel
theorem dMd_turn_49 : decode cMd_turn 49 = .ok (.iastore, 1) := by decide +kernel
theorem dMd_turn_50 : decode cMd_turn 50 = .ok (.return_, 1) := by decide +kernel
theorem dMd_hasLoop_0 : decode cMd_hasLoop 0 = .ok (.aload_n 0, 1) := by decide +kernel
theorem dMd_hasLoop_1 : decode cMd_hasLoop 1 = .ok (.getfield 40, 3) := by decide +kernel
theorem dMd_hasLoop_4 : decode cMd_hasLoop 4 = .ok (.aload_n 0, 1) := by decide +kernel
theorem dMd_hasLoop_5 : decode cMd_hasLoop 5 = .ok (.iload_n 1, 1) := by decide +kernel
theorem dMd_hasLoop_6 : decode cMd_hasLoop 6 = .ok (.invokevirtual 105, 3) := by decide +kernel
theorem dMd_hasLoop_9 : decode cMd_hasLoop 9 = .ok (.iaload, 1) := by decide +kernel
theorem dMd_hasLoop_10 : decode cMd_hasLoop 10 = .ok (.iload_n 1, 1) := by decide +kernel
theorem dMd_hasLoop_11 : decode cMd_hasLoop 11 = .ok (.aload_n 0, 1) := by decide +kernel
theorem dMd_hasLoop_12 : decode cMd_hasLoop 12 = .ok (.getfield 73, 3) := by decide +kernel
theorem dMd_hasLoop_15 : decode cMd_hasLoop 15 = .ok (.iushr, 1) := by decide +kernel
theorem dMd_hasLoop_16 : decode cMd_hasLoop 16 = .ok (.sipush 255, 3) := by decide +kernel
theorem dMd_hasLoop_19 : decode cMd_hasLoop 19 = .ok (.iand, 1) := by decide +kernel
theorem dMd_hasLoop_20 : decode cMd_hasLoop 20 = .ok (.if_icmp .ne 7, 3) := by decide +kernel
theorem dMd_hasLoop_23 : decode cMd_hasLoop 23 = .ok (.iconst 1, 1) := by decide +kernel
theorem dMd_hasLoop_24 : decode cMd_hasLoop 24 = .ok (.goto 4, 3) := by decide +kernel
theorem dMd_hasLoop_27 : decode cMd_hasLoop 27 = .ok (.iconst 0, 1) := by decide +kernel
theorem dMd_hasLoop_28 : decode cMd_hasLoop 28 = .ok (.ireturn, 1) := by decide +kernel
theorem dMd_isLoop_0 : decode cMd_isLoop 0 = .ok (.aload_n 0, 1) := by decide +kernel
theorem dMd_isLoop_1 : decode cMd_isLoop 1 = .ok (.iload_n 1, 1) := by decide +kernel
theorem dMd_isLoop_2 : decode cMd_isLoop 2 = .ok (.invokevirtual 108, 3) := by decide +kernel
theorem dMd_isLoop_5 : decode cMd_isLoop 5 = .ok (.ifCond .eq 21, 3) := by decide +kernel
theorem dMd_isLoop_8 : decode cMd_isLoop 8 = .ok (.aload_n 0, 1) := by decide +kernel
theorem dMd_isLoop_9 : decode cMd_isLoop 9 = .ok (.getfield 49, 3) := by decide +kernel
theorem dMd_isLoop_12 : decode cMd_isLoop 12 = .ok (.aload_n 0, 1) := by decide +kernel
theorem dMd_isLoop_13 : decode cMd_isLoop 13 = .ok (.iload_n 1, 1) := by decide +kernel
theorem dMd_isLoop_14 : decode cMd_isLoop 14 = .ok (.invokevirtual 105, 3) := by decide +kernel
theorem dMd_isLoop_17 : decode cMd_isLoop 17 = .ok (.iaload, 1) := by decide +kernel
theorem dMd_isLoop_18 : decode cMd_isLoop 18 = .ok (.iconst 3, 1) := by decide +kernel
theorem dMd_isLoop_19 : decode cMd_isLoop 19 = .ok (.if_icmp .ne 7, 3) := by decide +kernel
theorem dMd_isLoop_22 : decode cMd_isLoop 22 = .ok (.iconst 1, 1) := by decide +kernel
theorem dMd_isLoop_23 : decode cMd_isLoop 23 = .ok (.goto 4, 3) := by decide +kernel
theorem dMd_isLoop_26 : decode cMd_isLoop 26 = .ok (.iconst 0, 1) := by decide +kernel
theorem dMd_isLoop_27 : decode cMd_isLoop 27 = .ok (.ireturn, 1) := by decide +kernel
theorem dMd_mixedRow_0 : decode cMd_mixedRow 0 = .ok (.aload_n 0, 1) := by decide +kernel
theorem dMd_mixedRow_1 : decode cMd_mixedRow 1 = .ok (.iload_n 1, 1) := by decide +kernel
theorem dMd_mixedRow_2 : decode cMd_mixedRow 2 = .ok (.iload_n 2, 1) := by decide +kernel
theorem dMd_mixedRow_3 : decode cMd_mixedRow 3 = .ok (.ixor, 1) := by decide +kernel
theorem dMd_mixedRow_4 : decode cMd_mixedRow 4 = .ok (.invokevirtual 85, 3) := by decide +kernel
theorem dMd_mixedRow_7 : decode cMd_mixedRow 7 = .ok (.ireturn, 1) := by decide +kernel
theorem dMd_says_0 : decode cMd_says 0 = .ok (.aload_n 0, 1) := by decide +kernel
theorem dMd_says_1 : decode cMd_says 1 = .ok (.iload_n 1, 1) := by decide +kernel
theorem dMd_says_2 : decode cMd_says 2 = .ok (.invokevirtual 105, 3) := by decide +kernel
theorem dMd_says_5 : decode cMd_says 5 = .ok (.istore_n 3, 1) := by decide +kernel
theorem dMd_says_6 : decode cMd_says 6 = .ok (.aload_n 0, 1) := by decide +kernel
theorem dMd_says_7 : decode cMd_says 7 = .ok (.getfield 69, 3) := by decide +kernel
theorem dMd_says_10 : decode cMd_says 10 = .ok (.tableswitch 251 0 8 #[50, 52, 68, 84, 105, 126, 175, 189, 204], 50) := by decide +kernel
theorem dMd_says_60 : decode cMd_says 60 = .ok (.iconst 1, 1) := by decide +kernel
theorem dMd_says_61 : decode cMd_says 61 = .ok (.ireturn, 1) := by decide +kernel
theorem dMd_says_62 : decode cMd_says 62 = .ok (.aload_n 0, 1) := by decide +kernel
theorem dMd_says_63 : decode cMd_says 63 = .ok (.getfield 7, 3) := by decide +kernel
theorem dMd_says_66 : decode cMd_says 66 = .ok (.iload_n 3, 1) := by decide +kernel
theorem dMd_says_67 : decode cMd_says 67 = .ok (.iaload, 1) := by decide +kernel
theorem dMd_says_68 : decode cMd_says 68 = .ok (.iconst 1, 1) := by decide +kernel
theorem dMd_says_69 : decode cMd_says 69 = .ok (.if_icmp .ne 7, 3) := by decide +kernel
theorem dMd_says_72 : decode cMd_says 72 = .ok (.iconst 1, 1) := by decide +kernel
theorem dMd_says_73 : decode cMd_says 73 = .ok (.goto 4, 3) := by decide +kernel
theorem dMd_says_76 : decode cMd_says 76 = .ok (.iconst 0, 1) := by decide +kernel
theorem dMd_says_77 : decode cMd_says 77 = .ok (.ireturn, 1) := by decide +kernel
theorem dMd_says_78 : decode cMd_says 78 = .ok (.aload_n 0, 1) := by decide +kernel
theorem dMd_says_79 : decode cMd_says 79 = .ok (.getfield 13, 3) := by decide +kernel
theorem dMd_says_82 : decode cMd_says 82 = .ok (.iload_n 3, 1) := by decide +kernel
theorem dMd_says_83 : decode cMd_says 83 = .ok (.iaload, 1) := by decide +kernel
theorem dMd_says_84 : decode cMd_says 84 = .ok (.iconst 1, 1) := by decide +kernel
theorem dMd_says_85 : decode cMd_says 85 = .ok (.if_icmp .le 7, 3) := by decide +kernel
theorem dMd_says_88 : decode cMd_says 88 = .ok (.iconst 1, 1) := by decide +kernel
theorem dMd_says_89 : decode cMd_says 89 = .ok (.goto 4, 3) := by decide +kernel
theorem dMd_says_92 : decode cMd_says 92 = .ok (.iconst 0, 1) := by decide +kernel
theorem dMd_says_93 : decode cMd_says 93 = .ok (.ireturn, 1) := by decide +kernel
theorem dMd_says_94 : decode cMd_says 94 = .ok (.aload_n 0, 1) := by decide +kernel
theorem dMd_says_95 : decode cMd_says 95 = .ok (.getfield 16, 3) := by decide +kernel
theorem dMd_says_98 : decode cMd_says 98 = .ok (.aload_n 0, 1) := by decide +kernel
theorem dMd_says_99 : decode cMd_says 99 = .ok (.iload_n 1, 1) := by decide +kernel
theorem dMd_says_100 : decode cMd_says 100 = .ok (.iload_n 2, 1) := by decide +kernel
theorem dMd_says_101 : decode cMd_says 101 = .ok (.invokevirtual 112, 3) := by decide +kernel
theorem dMd_says_104 : decode cMd_says 104 = .ok (.iaload, 1) := by decide +kernel
theorem dMd_says_105 : decode cMd_says 105 = .ok (.iconst 1, 1) := by decide +kernel
theorem dMd_says_106 : decode cMd_says 106 = .ok (.if_icmp .le 7, 3) := by decide +kernel
theorem dMd_says_109 : decode cMd_says 109 = .ok (.iconst 1, 1) := by decide +kernel
theorem dMd_says_110 : decode cMd_says 110 = .ok (.goto 4, 3) := by decide +kernel
theorem dMd_says_113 : decode cMd_says 113 = .ok (.iconst 0, 1) := by decide +kernel
theorem dMd_says_114 : decode cMd_says 114 = .ok (.ireturn, 1) := by decide +kernel
theorem dMd_says_115 : decode cMd_says 115 = .ok (.aload_n 0, 1) := by decide +kernel
theorem dMd_says_116 : decode cMd_says 116 = .ok (.getfield 25, 3) := by decide +kernel
theorem dMd_says_119 : decode cMd_says 119 = .ok (.aload_n 0, 1) := by decide +kernel
theorem dMd_says_120 : decode cMd_says 120 = .ok (.getfield 22, 3) := by decide +kernel
theorem dMd_says_123 : decode cMd_says 123 = .ok (.iload_n 3, 1) := by decide +kernel
theorem dMd_says_124 : decode cMd_says 124 = .ok (.iaload, 1) := by decide +kernel
theorem dMd_says_125 : decode cMd_says 125 = .ok (.iaload, 1) := by decide +kernel
theorem dMd_says_126 : decode cMd_says 126 = .ok (.iconst 1, 1) := by decide +kernel
theorem dMd_says_127 : decode cMd_says 127 = .ok (.if_icmp .le 7, 3) := by decide +kernel
theorem dMd_says_130 : decode cMd_says 130 = .ok (.iconst 1, 1) := by decide +kernel
theorem dMd_says_131 : decode cMd_says 131 = .ok (.goto 4, 3) := by decide +kernel
theorem dMd_says_134 : decode cMd_says 134 = .ok (.iconst 0, 1) := by decide +kernel
theorem dMd_says_135 : decode cMd_says 135 = .ok (.ireturn, 1) := by decide +kernel
theorem dMd_says_136 : decode cMd_says 136 = .ok (.aload_n 0, 1) := by decide +kernel
theorem dMd_says_137 : decode cMd_says 137 = .ok (.getfield 19, 3) := by decide +kernel
theorem dMd_says_140 : decode cMd_says 140 = .ok (.iload_n 3, 1) := by decide +kernel
theorem dMd_says_141 : decode cMd_says 141 = .ok (.iaload, 1) := by decide +kernel
theorem dMd_says_142 : decode cMd_says 142 = .ok (.iconst 1, 1) := by decide +kernel
theorem dMd_says_143 : decode cMd_says 143 = .ok (.if_icmp .le 26, 3) := by decide +kernel
theorem dMd_says_146 : decode cMd_says 146 = .ok (.aload_n 0, 1) := by decide +kernel
theorem dMd_says_147 : decode cMd_says 147 = .ok (.getfield 16, 3) := by decide +kernel
theorem dMd_says_150 : decode cMd_says 150 = .ok (.aload_n 0, 1) := by decide +kernel
theorem dMd_says_151 : decode cMd_says 151 = .ok (.iload_n 1, 1) := by decide +kernel
theorem dMd_says_152 : decode cMd_says 152 = .ok (.iload_n 2, 1) := by decide +kernel
theorem dMd_says_153 : decode cMd_says 153 = .ok (.invokevirtual 112, 3) := by decide +kernel
theorem dMd_says_156 : decode cMd_says 156 = .ok (.iaload, 1) := by decide +kernel
theorem dMd_says_157 : decode cMd_says 157 = .ok (.iconst 1, 1) := by decide +kernel
