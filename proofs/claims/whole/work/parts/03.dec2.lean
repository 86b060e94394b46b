theorem dSums_learn_2 : decode cSums_learn 2 = .ok (.iload_n 2, 1) := by decide +kernel
theorem dSums_learn_3 : decode cSums_learn 3 = .ok (.invokevirtual 23, 3) := by decide +kernel
theorem dSums_learn_6 : decode cSums_learn 6 = .ok (.istore 4, 2) := by decide +kernel
theorem dSums_learn_8 : decode cSums_learn 8 = .ok (.iload 4, 2) := by decide +kernel
theorem dSums_learn_10 : decode cSums_learn 10 = .ok (.ifCond .lt 7, 3) := by decide +kernel
theorem dSums_learn_13 : decode cSums_learn 13 = .ok (.iconst 1, 1) := by decide +kernel
theorem dSums_learn_14 : decode cSums_learn 14 = .ok (.goto 4, 3) := by decide +kernel
theorem dSums_learn_17 : decode cSums_learn 17 = .ok (.iconst 0, 1) := by decide +kernel
theorem dSums_learn_18 : decode cSums_learn 18 = .ok (.iload_n 3, 1) := by decide +kernel
theorem dSums_learn_19 : decode cSums_learn 19 = .ok (.if_icmp .eq 7, 3) := by decide +kernel
theorem dSums_learn_22 : decode cSums_learn 22 = .ok (.iconst 1, 1) := by decide +kernel
theorem dSums_learn_23 : decode cSums_learn 23 = .ok (.goto 4, 3) := by decide +kernel
theorem dSums_learn_26 : decode cSums_learn 26 = .ok (.iconst 0, 1) := by decide +kernel
theorem dSums_learn_27 : decode cSums_learn 27 = .ok (.istore 5, 2) := by decide +kernel
theorem dSums_learn_29 : decode cSums_learn 29 = .ok (.iload 5, 2) := by decide +kernel
theorem dSums_learn_31 : decode cSums_learn 31 = .ok (.ifCond .ne 13, 3) := by decide +kernel
theorem dSums_learn_34 : decode cSums_learn 34 = .ok (.iload 4, 2) := by decide +kernel
theorem dSums_learn_36 : decode cSums_learn 36 = .ok (.invokestatic 27, 3) := by decide +kernel
theorem dSums_learn_39 : decode cSums_learn 39 = .ok (.bipush 29, 2) := by decide +kernel
theorem dSums_learn_41 : decode cSums_learn 41 = .ok (.if_icmp .gt 73, 3) := by decide +kernel
theorem dSums_learn_44 : decode cSums_learn 44 = .ok (.aload_n 0, 1) := by decide +kernel
theorem dSums_learn_45 : decode cSums_learn 45 = .ok (.iload_n 1, 1) := by decide +kernel
theorem dSums_learn_46 : decode cSums_learn 46 = .ok (.invokevirtual 33, 3) := by decide +kernel
theorem dSums_learn_49 : decode cSums_learn 49 = .ok (.istore 6, 2) := by decide +kernel
theorem dSums_learn_51 : decode cSums_learn 51 = .ok (.aload_n 0, 1) := by decide +kernel
theorem dSums_learn_52 : decode cSums_learn 52 = .ok (.getfield 19, 3) := by decide +kernel
theorem dSums_learn_55 : decode cSums_learn 55 = .ok (.iload 6, 2) := by decide +kernel
theorem dSums_learn_57 : decode cSums_learn 57 = .ok (.iload_n 3, 1) := by decide +kernel
theorem dSums_learn_58 : decode cSums_learn 58 = .ok (.bipush (-64), 2) := by decide +kernel
theorem dSums_learn_60 : decode cSums_learn 60 = .ok (.bipush 63, 2) := by decide +kernel
theorem dSums_learn_62 : decode cSums_learn 62 = .ok (.invokestatic 36, 3) := by decide +kernel
theorem dSums_learn_65 : decode cSums_learn 65 = .ok (.iconst 0, 1) := by decide +kernel
theorem dSums_learn_66 : decode cSums_learn 66 = .ok (.istore 7, 2) := by decide +kernel
theorem dSums_learn_68 : decode cSums_learn 68 = .ok (.iload 7, 2) := by decide +kernel
theorem dSums_learn_70 : decode cSums_learn 70 = .ok (.bipush 8, 2) := by decide +kernel
theorem dSums_learn_72 : decode cSums_learn 72 = .ok (.if_icmp .ge 42, 3) := by decide +kernel
theorem dSums_learn_75 : decode cSums_learn 75 = .ok (.aload_n 0, 1) := by decide +kernel
theorem dSums_learn_76 : decode cSums_learn 76 = .ok (.getfield 19, 3) := by decide +kernel
theorem dSums_learn_79 : decode cSums_learn 79 = .ok (.iload 6, 2) := by decide +kernel
theorem dSums_learn_81 : decode cSums_learn 81 = .ok (.iload 7, 2) := by decide +kernel
theorem dSums_learn_83 : decode cSums_learn 83 = .ok (.iadd, 1) := by decide +kernel
theorem dSums_learn_84 : decode cSums_learn 84 = .ok (.iconst 1, 1) := by decide +kernel
theorem dSums_learn_85 : decode cSums_learn 85 = .ok (.iadd, 1) := by decide +kernel
theorem dSums_learn_86 : decode cSums_learn 86 = .ok (.iload_n 2, 1) := by decide +kernel
theorem dSums_learn_87 : decode cSums_learn 87 = .ok (.iload 7, 2) := by decide +kernel
theorem dSums_learn_89 : decode cSums_learn 89 = .ok (.invokestatic 40, 3) := by decide +kernel
theorem dSums_learn_92 : decode cSums_learn 92 = .ok (.iload_n 3, 1) := by decide +kernel
theorem dSums_learn_93 : decode cSums_learn 93 = .ok (.if_icmp .ne 7, 3) := by decide +kernel
theorem dSums_learn_96 : decode cSums_learn 96 = .ok (.iconst 1, 1) := by decide +kernel
theorem dSums_learn_97 : decode cSums_learn 97 = .ok (.goto 4, 3) := by decide +kernel
theorem dSums_learn_100 : decode cSums_learn 100 = .ok (.iconst 0, 1) := by decide +kernel
theorem dSums_learn_101 : decode cSums_learn 101 = .ok (.bipush (-64), 2) := by decide +kernel
theorem dSums_learn_103 : decode cSums_learn 103 = .ok (.bipush 63, 2) := by decide +kernel
theorem dSums_learn_105 : decode cSums_learn 105 = .ok (.invokestatic 36, 3) := by decide +kernel
theorem dSums_learn_108 : decode cSums_learn 108 = .ok (.iinc 7 1, 3) := by decide +kernel
theorem dSums_learn_111 : decode cSums_learn 111 = .ok (.goto (-43), 3) := by decide +kernel
theorem dSums_learn_114 : decode cSums_learn 114 = .ok (.return_, 1) := by decide +kernel
theorem dSums_bits_0 : decode cSums_bits 0 = .ok (.bipush 63, 2) := by decide +kernel
theorem dSums_bits_2 : decode cSums_bits 2 = .ok (.aload_n 0, 1) := by decide +kernel
theorem dSums_bits_3 : decode cSums_bits 3 = .ok (.getfield 11, 3) := by decide +kernel
theorem dSums_bits_6 : decode cSums_bits 6 = .ok (.imul, 1) := by decide +kernel
theorem dSums_bits_7 : decode cSums_bits 7 = .ok (.bipush 32, 2) := by decide +kernel
theorem dSums_bits_9 : decode cSums_bits 9 = .ok (.iadd, 1) := by decide +kernel
theorem dSums_bits_10 : decode cSums_bits 10 = .ok (.ireturn, 1) := by decide +kernel
theorem dTagged_cellOf_0 : decode cTagged_cellOf 0 = .ok (.iload_n 3, 1) := by decide +kernel
theorem dTagged_cellOf_1 : decode cTagged_cellOf 1 = .ok (.iconst 4, 1) := by decide +kernel
theorem dTagged_cellOf_2 : decode cTagged_cellOf 2 = .ok (.iload_n 1, 1) := by decide +kernel
theorem dTagged_cellOf_3 : decode cTagged_cellOf 3 = .ok (.ishl, 1) := by decide +kernel
theorem dTagged_cellOf_4 : decode cTagged_cellOf 4 = .ok (.aload_n 0, 1) := by decide +kernel
theorem dTagged_cellOf_5 : decode cTagged_cellOf 5 = .ok (.getfield 87, 3) := by decide +kernel
theorem dTagged_cellOf_8 : decode cTagged_cellOf 8 = .ok (.invokestatic 90, 3) := by decide +kernel
theorem dTagged_cellOf_11 : decode cTagged_cellOf 11 = .ok (.istore 4, 2) := by decide +kernel
theorem dTagged_cellOf_13 : decode cTagged_cellOf 13 = .ok (.iload_n 1, 1) := by decide +kernel
theorem dTagged_cellOf_14 : decode cTagged_cellOf 14 = .ok (.aload_n 0, 1) := by decide +kernel
theorem dTagged_cellOf_15 : decode cTagged_cellOf 15 = .ok (.getfield 20, 3) := by decide +kernel
theorem dTagged_cellOf_18 : decode cTagged_cellOf 18 = .ok (.imul, 1) := by decide +kernel
theorem dTagged_cellOf_19 : decode cTagged_cellOf 19 = .ok (.iload_n 2, 1) := by decide +kernel
theorem dTagged_cellOf_20 : decode cTagged_cellOf 20 = .ok (.iload 4, 2) := by decide +kernel
theorem dTagged_cellOf_22 : decode cTagged_cellOf 22 = .ok (.ixor, 1) := by decide +kernel
theorem dTagged_cellOf_23 : decode cTagged_cellOf 23 = .ok (.iload_n 1, 1) := by decide +kernel
theorem dTagged_cellOf_24 : decode cTagged_cellOf 24 = .ok (.iconst 1, 1) := by decide +kernel
theorem dTagged_cellOf_25 : decode cTagged_cellOf 25 = .ok (.iadd, 1) := by decide +kernel
theorem dTagged_cellOf_26 : decode cTagged_cellOf 26 = .ok (.ixor, 1) := by decide +kernel
theorem dTagged_cellOf_27 : decode cTagged_cellOf 27 = .ok (.aload_n 0, 1) := by decide +kernel
theorem dTagged_cellOf_28 : decode cTagged_cellOf 28 = .ok (.getfield 93, 3) := by decide +kernel
theorem dTagged_cellOf_31 : decode cTagged_cellOf 31 = .ok (.iand, 1) := by decide +kernel
theorem dTagged_cellOf_32 : decode cTagged_cellOf 32 = .ok (.iadd, 1) := by decide +kernel
theorem dTagged_cellOf_33 : decode cTagged_cellOf 33 = .ok (.ireturn, 1) := by decide +kernel
theorem dTagged_tagOf_0 : decode cTagged_tagOf 0 = .ok (.iload_n 3, 1) := by decide +kernel
theorem dTagged_tagOf_1 : decode cTagged_tagOf 1 = .ok (.iconst 4, 1) := by decide +kernel
theorem dTagged_tagOf_2 : decode cTagged_tagOf 2 = .ok (.iload_n 1, 1) := by decide +kernel
theorem dTagged_tagOf_3 : decode cTagged_tagOf 3 = .ok (.ishl, 1) := by decide +kernel
theorem dTagged_tagOf_4 : decode cTagged_tagOf 4 = .ok (.bipush 8, 2) := by decide +kernel
theorem dTagged_tagOf_6 : decode cTagged_tagOf 6 = .ok (.invokestatic 90, 3) := by decide +kernel
theorem dTagged_tagOf_9 : decode cTagged_tagOf 9 = .ok (.istore 4, 2) := by decide +kernel
theorem dTagged_tagOf_11 : decode cTagged_tagOf 11 = .ok (.iload_n 2, 1) := by decide +kernel
theorem dTagged_tagOf_12 : decode cTagged_tagOf 12 = .ok (.iconst 2, 1) := by decide +kernel
theorem dTagged_tagOf_13 : decode cTagged_tagOf 13 = .ok (.iushr, 1) := by decide +kernel
theorem dTagged_tagOf_14 : decode cTagged_tagOf 14 = .ok (.iload 4, 2) := by decide +kernel
theorem dTagged_tagOf_16 : decode cTagged_tagOf 16 = .ok (.ixor, 1) := by decide +kernel
theorem dTagged_tagOf_17 : decode cTagged_tagOf 17 = .ok (.bipush 7, 2) := by decide +kernel
theorem dTagged_tagOf_19 : decode cTagged_tagOf 19 = .ok (.iload_n 1, 1) := by decide +kernel
theorem dTagged_tagOf_20 : decode cTagged_tagOf 20 = .ok (.imul, 1) := by decide +kernel
theorem dTagged_tagOf_21 : decode cTagged_tagOf 21 = .ok (.ixor, 1) := by decide +kernel
theorem dTagged_tagOf_22 : decode cTagged_tagOf 22 = .ok (.sipush 255, 3) := by decide +kernel
theorem dTagged_tagOf_25 : decode cTagged_tagOf 25 = .ok (.iand, 1) := by decide +kernel
theorem dTagged_tagOf_26 : decode cTagged_tagOf 26 = .ok (.ireturn, 1) := by decide +kernel
theorem dTagged_lastHit_0 : decode cTagged_lastHit 0 = .ok (.iload_n 3, 1) := by decide +kernel
theorem dTagged_lastHit_1 : decode cTagged_lastHit 1 = .ok (.iconst 1, 1) := by decide +kernel
theorem dTagged_lastHit_2 : decode cTagged_lastHit 2 = .ok (.isub, 1) := by decide +kernel
theorem dTagged_lastHit_3 : decode cTagged_lastHit 3 = .ok (.istore 4, 2) := by decide +kernel
theorem dTagged_lastHit_5 : decode cTagged_lastHit 5 = .ok (.iload 4, 2) := by decide +kernel
theorem dTagged_lastHit_7 : decode cTagged_lastHit 7 = .ok (.ifCond .lt 38, 3) := by decide +kernel
theorem dTagged_lastHit_10 : decode cTagged_lastHit 10 = .ok (.aload_n 0, 1) := by decide +kernel
theorem dTagged_lastHit_11 : decode cTagged_lastHit 11 = .ok (.getfield 28, 3) := by decide +kernel
theorem dTagged_lastHit_14 : decode cTagged_lastHit 14 = .ok (.aload_n 0, 1) := by decide +kernel
theorem dTagged_lastHit_15 : decode cTagged_lastHit 15 = .ok (.iload 4, 2) := by decide +kernel
theorem dTagged_lastHit_17 : decode cTagged_lastHit 17 = .ok (.iload_n 1, 1) := by decide +kernel
theorem dTagged_lastHit_18 : decode cTagged_lastHit 18 = .ok (.iload_n 2, 1) := by decide +kernel
theorem dTagged_lastHit_19 : decode cTagged_lastHit 19 = .ok (.invokevirtual 61, 3) := by decide +kernel
theorem dTagged_lastHit_22 : decode cTagged_lastHit 22 = .ok (.invokestatic 64, 3) := by decide +kernel
theorem dTagged_lastHit_25 : decode cTagged_lastHit 25 = .ok (.aload_n 0, 1) := by decide +kernel
theorem dTagged_lastHit_26 : decode cTagged_lastHit 26 = .ok (.iload 4, 2) := by decide +kernel
theorem dTagged_lastHit_28 : decode cTagged_lastHit 28 = .ok (.iload_n 1, 1) := by decide +kernel
theorem dTagged_lastHit_29 : decode cTagged_lastHit 29 = .ok (.iload_n 2, 1) := by decide +kernel
theorem dTagged_lastHit_30 : decode cTagged_lastHit 30 = .ok (.invokevirtual 72, 3) := by decide +kernel
theorem dTagged_lastHit_33 : decode cTagged_lastHit 33 = .ok (.if_icmp .ne 6, 3) := by decide +kernel
theorem dTagged_lastHit_36 : decode cTagged_lastHit 36 = .ok (.iload 4, 2) := by decide +kernel
theorem dTagged_lastHit_38 : decode cTagged_lastHit 38 = .ok (.ireturn, 1) := by decide +kernel
theorem dTagged_lastHit_39 : decode cTagged_lastHit 39 = .ok (.iinc 4 (-1), 3) := by decide +kernel
theorem dTagged_lastHit_42 : decode cTagged_lastHit 42 = .ok (.goto (-37), 3) := by decide +kernel
theorem dTagged_lastHit_45 : decode cTagged_lastHit 45 = .ok (.iconst (-1), 1) := by decide +kernel
theorem dTagged_lastHit_46 : decode cTagged_lastHit 46 = .ok (.ireturn, 1) := by decide +kernel
theorem dTagged_saidBy_0 : decode cTagged_saidBy 0 = .ok (.iload_n 1, 1) := by decide +kernel
theorem dTagged_saidBy_1 : decode cTagged_saidBy 1 = .ok (.ifCond .ge 15, 3) := by decide +kernel
theorem dTagged_saidBy_4 : decode cTagged_saidBy 4 = .ok (.aload_n 0, 1) := by decide +kernel
theorem dTagged_saidBy_5 : decode cTagged_saidBy 5 = .ok (.getfield 14, 3) := by decide +kernel
theorem dTagged_saidBy_8 : decode cTagged_saidBy 8 = .ok (.iload_n 2, 1) := by decide +kernel
theorem dTagged_saidBy_9 : decode cTagged_saidBy 9 = .ok (.iload_n 3, 1) := by decide +kernel
theorem dTagged_saidBy_10 : decode cTagged_saidBy 10 = .ok (.invokevirtual 75, 3) := by decide +kernel
theorem dTagged_saidBy_13 : decode cTagged_saidBy 13 = .ok (.goto 25, 3) := by decide +kernel
theorem dTagged_saidBy_16 : decode cTagged_saidBy 16 = .ok (.aload_n 0, 1) := by decide +kernel
theorem dTagged_saidBy_17 : decode cTagged_saidBy 17 = .ok (.getfield 32, 3) := by decide +kernel
theorem dTagged_saidBy_20 : decode cTagged_saidBy 20 = .ok (.aload_n 0, 1) := by decide +kernel
theorem dTagged_saidBy_21 : decode cTagged_saidBy 21 = .ok (.iload_n 1, 1) := by decide +kernel
theorem dTagged_saidBy_22 : decode cTagged_saidBy 22 = .ok (.iload_n 2, 1) := by decide +kernel
theorem dTagged_saidBy_23 : decode cTagged_saidBy 23 = .ok (.iload_n 3, 1) := by decide +kernel
theorem dTagged_saidBy_24 : decode cTagged_saidBy 24 = .ok (.invokevirtual 61, 3) := by decide +kernel
theorem dTagged_saidBy_27 : decode cTagged_saidBy 27 = .ok (.invokestatic 64, 3) := by decide +kernel
theorem dTagged_saidBy_30 : decode cTagged_saidBy 30 = .ok (.ifCond .lt 7, 3) := by decide +kernel
theorem dTagged_saidBy_33 : decode cTagged_saidBy 33 = .ok (.iconst 1, 1) := by decide +kernel
theorem dTagged_saidBy_34 : decode cTagged_saidBy 34 = .ok (.goto 4, 3) := by decide +kernel
theorem dTagged_saidBy_37 : decode cTagged_saidBy 37 = .ok (.iconst 0, 1) := by decide +kernel
theorem dTagged_saidBy_38 : decode cTagged_saidBy 38 = .ok (.ireturn, 1) := by decide +kernel
theorem dTagged_learnHit_0 : decode cTagged_learnHit 0 = .ok (.aload_n 0, 1) := by decide +kernel
theorem dTagged_learnHit_1 : decode cTagged_learnHit 1 = .ok (.iload_n 1, 1) := by decide +kernel
theorem dTagged_learnHit_2 : decode cTagged_learnHit 2 = .ok (.iload_n 2, 1) := by decide +kernel
theorem dTagged_learnHit_3 : decode cTagged_learnHit 3 = .ok (.iload_n 3, 1) := by decide +kernel
theorem dTagged_learnHit_4 : decode cTagged_learnHit 4 = .ok (.invokevirtual 61, 3) := by decide +kernel
theorem dTagged_learnHit_7 : decode cTagged_learnHit 7 = .ok (.istore 5, 2) := by decide +kernel
theorem dTagged_learnHit_9 : decode cTagged_learnHit 9 = .ok (.aload_n 0, 1) := by decide +kernel
theorem dTagged_learnHit_10 : decode cTagged_learnHit 10 = .ok (.iload_n 1, 1) := by decide +kernel
theorem dTagged_learnHit_11 : decode cTagged_learnHit 11 = .ok (.iload_n 2, 1) := by decide +kernel
theorem dTagged_learnHit_12 : decode cTagged_learnHit 12 = .ok (.iload_n 3, 1) := by decide +kernel
theorem dTagged_learnHit_13 : decode cTagged_learnHit 13 = .ok (.invokevirtual 42, 3) := by decide +kernel
theorem dTagged_learnHit_16 : decode cTagged_learnHit 16 = .ok (.istore 6, 2) := by decide +kernel
theorem dTagged_learnHit_18 : decode cTagged_learnHit 18 = .ok (.aload_n 0, 1) := by decide +kernel
theorem dTagged_learnHit_19 : decode cTagged_learnHit 19 = .ok (.aload_n 0, 1) := by decide +kernel
theorem dTagged_learnHit_20 : decode cTagged_learnHit 20 = .ok (.iload_n 2, 1) := by decide +kernel
theorem dTagged_learnHit_21 : decode cTagged_learnHit 21 = .ok (.iload_n 3, 1) := by decide +kernel
theorem dTagged_learnHit_22 : decode cTagged_learnHit 22 = .ok (.iload_n 1, 1) := by decide +kernel
theorem dTagged_learnHit_23 : decode cTagged_learnHit 23 = .ok (.invokevirtual 38, 3) := by decide +kernel
theorem dTagged_learnHit_26 : decode cTagged_learnHit 26 = .ok (.iload_n 2, 1) := by decide +kernel
theorem dTagged_learnHit_27 : decode cTagged_learnHit 27 = .ok (.iload_n 3, 1) := by decide +kernel
theorem dTagged_learnHit_28 : decode cTagged_learnHit 28 = .ok (.invokevirtual 42, 3) := by decide +kernel
theorem dTagged_learnHit_31 : decode cTagged_learnHit 31 = .ok (.istore 7, 2) := by decide +kernel
theorem dTagged_learnHit_33 : decode cTagged_learnHit 33 = .ok (.aload_n 0, 1) := by decide +kernel
theorem dTagged_learnHit_34 : decode cTagged_learnHit 34 = .ok (.getfield 32, 3) := by decide +kernel
theorem dTagged_learnHit_37 : decode cTagged_learnHit 37 = .ok (.iload 5, 2) := by decide +kernel
theorem dTagged_learnHit_39 : decode cTagged_learnHit 39 = .ok (.iload 4, 2) := by decide +kernel
theorem dTagged_learnHit_41 : decode cTagged_learnHit 41 = .ok (.bipush (-4), 2) := by decide +kernel
theorem dTagged_learnHit_43 : decode cTagged_learnHit 43 = .ok (.iconst 3, 1) := by decide +kernel
theorem dTagged_learnHit_44 : decode cTagged_learnHit 44 = .ok (.invokestatic 79, 3) := by decide +kernel
theorem dTagged_learnHit_47 : decode cTagged_learnHit 47 = .ok (.iload 6, 2) := by decide +kernel
theorem dTagged_learnHit_49 : decode cTagged_learnHit 49 = .ok (.iload 7, 2) := by decide +kernel
theorem dTagged_learnHit_51 : decode cTagged_learnHit 51 = .ok (.if_icmp .eq 26, 3) := by decide +kernel
theorem dTagged_learnHit_54 : decode cTagged_learnHit 54 = .ok (.aload_n 0, 1) := by decide +kernel
theorem dTagged_learnHit_55 : decode cTagged_learnHit 55 = .ok (.getfield 35, 3) := by decide +kernel
theorem dTagged_learnHit_58 : decode cTagged_learnHit 58 = .ok (.iload 5, 2) := by decide +kernel
theorem dTagged_learnHit_60 : decode cTagged_learnHit 60 = .ok (.iload 6, 2) := by decide +kernel
theorem dTagged_learnHit_62 : decode cTagged_learnHit 62 = .ok (.iload 4, 2) := by decide +kernel
theorem dTagged_learnHit_64 : decode cTagged_learnHit 64 = .ok (.if_icmp .ne 7, 3) := by decide +kernel
theorem dTagged_learnHit_67 : decode cTagged_learnHit 67 = .ok (.iconst 1, 1) := by decide +kernel
theorem dTagged_learnHit_68 : decode cTagged_learnHit 68 = .ok (.goto 4, 3) := by decide +kernel
theorem dTagged_learnHit_71 : decode cTagged_learnHit 71 = .ok (.iconst 0, 1) := by decide +kernel
theorem dTagged_learnHit_72 : decode cTagged_learnHit 72 = .ok (.iconst 0, 1) := by decide +kernel
theorem dTagged_learnHit_73 : decode cTagged_learnHit 73 = .ok (.iconst 3, 1) := by decide +kernel
theorem dTagged_learnHit_74 : decode cTagged_learnHit 74 = .ok (.invokestatic 79, 3) := by decide +kernel
theorem dTagged_learnHit_77 : decode cTagged_learnHit 77 = .ok (.return_, 1) := by decide +kernel
theorem dTagged_claim_0 : decode cTagged_claim 0 = .ok (.iload_n 1, 1) := by decide +kernel
theorem dTagged_claim_1 : decode cTagged_claim 1 = .ok (.istore 5, 2) := by decide +kernel
theorem dTagged_claim_3 : decode cTagged_claim 3 = .ok (.iload 5, 2) := by decide +kernel
theorem dTagged_claim_5 : decode cTagged_claim 5 = .ok (.iconst 3, 1) := by decide +kernel
theorem dTagged_claim_6 : decode cTagged_claim 6 = .ok (.if_icmp .ge 68, 3) := by decide +kernel
theorem dTagged_claim_9 : decode cTagged_claim 9 = .ok (.aload_n 0, 1) := by decide +kernel
theorem dTagged_claim_10 : decode cTagged_claim 10 = .ok (.iload 5, 2) := by decide +kernel
theorem dTagged_claim_12 : decode cTagged_claim 12 = .ok (.iload_n 2, 1) := by decide +kernel
theorem dTagged_claim_13 : decode cTagged_claim 13 = .ok (.iload_n 3, 1) := by decide +kernel
theorem dTagged_claim_14 : decode cTagged_claim 14 = .ok (.invokevirtual 61, 3) := by decide +kernel
theorem dTagged_claim_17 : decode cTagged_claim 17 = .ok (.istore 6, 2) := by decide +kernel
theorem dTagged_claim_19 : decode cTagged_claim 19 = .ok (.aload_n 0, 1) := by decide +kernel
theorem dTagged_claim_20 : decode cTagged_claim 20 = .ok (.getfield 35, 3) := by decide +kernel
theorem dTagged_claim_23 : decode cTagged_claim 23 = .ok (.iload 6, 2) := by decide +kernel
theorem dTagged_claim_25 : decode cTagged_claim 25 = .ok (.invokestatic 64, 3) := by decide +kernel
theorem dTagged_claim_28 : decode cTagged_claim 28 = .ok (.ifCond .ne 40, 3) := by decide +kernel
theorem dTagged_claim_31 : decode cTagged_claim 31 = .ok (.aload_n 0, 1) := by decide +kernel
theorem dTagged_claim_32 : decode cTagged_claim 32 = .ok (.getfield 28, 3) := by decide +kernel
theorem dTagged_claim_35 : decode cTagged_claim 35 = .ok (.iload 6, 2) := by decide +kernel
theorem dTagged_claim_37 : decode cTagged_claim 37 = .ok (.aload_n 0, 1) := by decide +kernel
theorem dTagged_claim_38 : decode cTagged_claim 38 = .ok (.iload 5, 2) := by decide +kernel
theorem dTagged_claim_40 : decode cTagged_claim 40 = .ok (.iload_n 2, 1) := by decide +kernel
theorem dTagged_claim_41 : decode cTagged_claim 41 = .ok (.iload_n 3, 1) := by decide +kernel
theorem dTagged_claim_42 : decode cTagged_claim 42 = .ok (.invokevirtual 72, 3) := by decide +kernel
theorem dTagged_claim_45 : decode cTagged_claim 45 = .ok (.invokestatic 83, 3) := by decide +kernel
theorem dTagged_claim_48 : decode cTagged_claim 48 = .ok (.aload_n 0, 1) := by decide +kernel
theorem dTagged_claim_49 : decode cTagged_claim 49 = .ok (.getfield 32, 3) := by decide +kernel
theorem dTagged_claim_52 : decode cTagged_claim 52 = .ok (.iload 6, 2) := by decide +kernel
theorem dTagged_claim_54 : decode cTagged_claim 54 = .ok (.iload 4, 2) := by decide +kernel
theorem dTagged_claim_56 : decode cTagged_claim 56 = .ok (.ifCond .eq 7, 3) := by decide +kernel
theorem dTagged_claim_59 : decode cTagged_claim 59 = .ok (.iconst 0, 1) := by decide +kernel
theorem dTagged_claim_60 : decode cTagged_claim 60 = .ok (.goto 4, 3) := by decide +kernel
theorem dTagged_claim_63 : decode cTagged_claim 63 = .ok (.iconst (-1), 1) := by decide +kernel
theorem dTagged_claim_64 : decode cTagged_claim 64 = .ok (.invokestatic 83, 3) := by decide +kernel
theorem dTagged_claim_67 : decode cTagged_claim 67 = .ok (.return_, 1) := by decide +kernel
theorem dTagged_claim_68 : decode cTagged_claim 68 = .ok (.iinc 5 1, 3) := by decide +kernel
theorem dTagged_claim_71 : decode cTagged_claim 71 = .ok (.goto (-68), 3) := by decide +kernel
theorem dTagged_claim_74 : decode cTagged_claim 74 = .ok (.iload_n 1, 1) := by decide +kernel
theorem dTagged_claim_75 : decode cTagged_claim 75 = .ok (.istore 5, 2) := by decide +kernel
theorem dTagged_claim_77 : decode cTagged_claim 77 = .ok (.iload 5, 2) := by decide +kernel
theorem dTagged_claim_79 : decode cTagged_claim 79 = .ok (.iconst 3, 1) := by decide +kernel
theorem dTagged_claim_80 : decode cTagged_claim 80 = .ok (.if_icmp .ge 27, 3) := by decide +kernel
theorem dTagged_claim_83 : decode cTagged_claim 83 = .ok (.aload_n 0, 1) := by decide +kernel
theorem dTagged_claim_84 : decode cTagged_claim 84 = .ok (.getfield 35, 3) := by decide +kernel
theorem dTagged_claim_87 : decode cTagged_claim 87 = .ok (.aload_n 0, 1) := by decide +kernel
theorem dTagged_claim_88 : decode cTagged_claim 88 = .ok (.iload 5, 2) := by decide +kernel
theorem dTagged_claim_90 : decode cTagged_claim 90 = .ok (.iload_n 2, 1) := by decide +kernel
theorem dTagged_claim_91 : decode cTagged_claim 91 = .ok (.iload_n 3, 1) := by decide +kernel
theorem dTagged_claim_92 : decode cTagged_claim 92 = .ok (.invokevirtual 61, 3) := by decide +kernel
theorem dTagged_claim_95 : decode cTagged_claim 95 = .ok (.iconst 0, 1) := by decide +kernel
theorem dTagged_claim_96 : decode cTagged_claim 96 = .ok (.iconst 0, 1) := by decide +kernel
theorem dTagged_claim_97 : decode cTagged_claim 97 = .ok (.iconst 3, 1) := by decide +kernel
theorem dTagged_claim_98 : decode cTagged_claim 98 = .ok (.invokestatic 79, 3) := by decide +kernel
theorem dTagged_claim_101 : decode cTagged_claim 101 = .ok (.iinc 5 1, 3) := by decide +kernel
theorem dTagged_claim_104 : decode cTagged_claim 104 = .ok (.goto (-27), 3) := by decide +kernel
theorem dTagged_claim_107 : decode cTagged_claim 107 = .ok (.return_, 1) := by decide +kernel
theorem dTagged_says_0 : decode cTagged_says 0 = .ok (.aload_n 0, 1) := by decide +kernel
theorem dTagged_says_1 : decode cTagged_says 1 = .ok (.aload_n 0, 1) := by decide +kernel
theorem dTagged_says_2 : decode cTagged_says 2 = .ok (.iload_n 1, 1) := by decide +kernel
theorem dTagged_says_3 : decode cTagged_says 3 = .ok (.iload_n 2, 1) := by decide +kernel
theorem dTagged_says_4 : decode cTagged_says 4 = .ok (.iconst 3, 1) := by decide +kernel
theorem dTagged_says_5 : decode cTagged_says 5 = .ok (.invokevirtual 38, 3) := by decide +kernel
theorem dTagged_says_8 : decode cTagged_says 8 = .ok (.iload_n 1, 1) := by decide +kernel
theorem dTagged_says_9 : decode cTagged_says 9 = .ok (.iload_n 2, 1) := by decide +kernel
theorem dTagged_says_10 : decode cTagged_says 10 = .ok (.invokevirtual 42, 3) := by decide +kernel
theorem dTagged_says_13 : decode cTagged_says 13 = .ok (.ireturn, 1) := by decide +kernel
theorem dTagged_learn_0 : decode cTagged_learn 0 = .ok (.aload_n 0, 1) := by decide +kernel
theorem dTagged_learn_1 : decode cTagged_learn 1 = .ok (.iload_n 1, 1) := by decide +kernel
theorem dTagged_learn_2 : decode cTagged_learn 2 = .ok (.iload_n 2, 1) := by decide +kernel
theorem dTagged_learn_3 : decode cTagged_learn 3 = .ok (.iconst 3, 1) := by decide +kernel
theorem dTagged_learn_4 : decode cTagged_learn 4 = .ok (.invokevirtual 38, 3) := by decide +kernel
theorem dTagged_learn_7 : decode cTagged_learn 7 = .ok (.istore 4, 2) := by decide +kernel
theorem dTagged_learn_9 : decode cTagged_learn 9 = .ok (.aload_n 0, 1) := by decide +kernel
theorem dTagged_learn_10 : decode cTagged_learn 10 = .ok (.iload 4, 2) := by decide +kernel
theorem dTagged_learn_12 : decode cTagged_learn 12 = .ok (.iload_n 1, 1) := by decide +kernel
theorem dTagged_learn_13 : decode cTagged_learn 13 = .ok (.iload_n 2, 1) := by decide +kernel
theorem dTagged_learn_14 : decode cTagged_learn 14 = .ok (.invokevirtual 42, 3) := by decide +kernel
theorem dTagged_learn_17 : decode cTagged_learn 17 = .ok (.iload_n 3, 1) := by decide +kernel
theorem dTagged_learn_18 : decode cTagged_learn 18 = .ok (.if_icmp .ne 7, 3) := by decide +kernel
theorem dTagged_learn_21 : decode cTagged_learn 21 = .ok (.iconst 1, 1) := by decide +kernel
theorem dTagged_learn_22 : decode cTagged_learn 22 = .ok (.goto 4, 3) := by decide +kernel
theorem dTagged_learn_25 : decode cTagged_learn 25 = .ok (.iconst 0, 1) := by decide +kernel
theorem dTagged_learn_26 : decode cTagged_learn 26 = .ok (.istore 5, 2) := by decide +kernel
theorem dTagged_learn_28 : decode cTagged_learn 28 = .ok (.iload 4, 2) := by decide +kernel
theorem dTagged_learn_30 : decode cTagged_learn 30 = .ok (.ifCond .ge 16, 3) := by decide +kernel
theorem dTagged_learn_33 : decode cTagged_learn 33 = .ok (.aload_n 0, 1) := by decide +kernel
theorem dTagged_learn_34 : decode cTagged_learn 34 = .ok (.getfield 14, 3) := by decide +kernel
theorem dTagged_learn_37 : decode cTagged_learn 37 = .ok (.iload_n 1, 1) := by decide +kernel
theorem dTagged_learn_38 : decode cTagged_learn 38 = .ok (.iload_n 2, 1) := by decide +kernel
theorem dTagged_learn_39 : decode cTagged_learn 39 = .ok (.iload_n 3, 1) := by decide +kernel
theorem dTagged_learn_40 : decode cTagged_learn 40 = .ok (.invokevirtual 46, 3) := by decide +kernel
theorem dTagged_learn_43 : decode cTagged_learn 43 = .ok (.goto 12, 3) := by decide +kernel
theorem dTagged_learn_46 : decode cTagged_learn 46 = .ok (.aload_n 0, 1) := by decide +kernel
theorem dTagged_learn_47 : decode cTagged_learn 47 = .ok (.iload 4, 2) := by decide +kernel
theorem dTagged_learn_49 : decode cTagged_learn 49 = .ok (.iload_n 1, 1) := by decide +kernel
theorem dTagged_learn_50 : decode cTagged_learn 50 = .ok (.iload_n 2, 1) := by decide +kernel
theorem dTagged_learn_51 : decode cTagged_learn 51 = .ok (.iload_n 3, 1) := by decide +kernel
theorem dTagged_learn_52 : decode cTagged_learn 52 = .ok (.invokevirtual 50, 3) := by decide +kernel
theorem dTagged_learn_55 : decode cTagged_learn 55 = .ok (.iload 5, 2) := by decide +kernel
theorem dTagged_learn_57 : decode cTagged_learn 57 = .ok (.ifCond .ne 14, 3) := by decide +kernel
theorem dTagged_learn_60 : decode cTagged_learn 60 = .ok (.aload_n 0, 1) := by decide +kernel
theorem dTagged_learn_61 : decode cTagged_learn 61 = .ok (.iload 4, 2) := by decide +kernel
theorem dTagged_learn_63 : decode cTagged_learn 63 = .ok (.iconst 1, 1) := by decide +kernel
theorem dTagged_learn_64 : decode cTagged_learn 64 = .ok (.iadd, 1) := by decide +kernel
theorem dTagged_learn_65 : decode cTagged_learn 65 = .ok (.iload_n 1, 1) := by decide +kernel
theorem dTagged_learn_66 : decode cTagged_learn 66 = .ok (.iload_n 2, 1) := by decide +kernel
theorem dTagged_learn_67 : decode cTagged_learn 67 = .ok (.iload_n 3, 1) := by decide +kernel
theorem dTagged_learn_68 : decode cTagged_learn 68 = .ok (.invokevirtual 54, 3) := by decide +kernel
theorem dTagged_learn_71 : decode cTagged_learn 71 = .ok (.return_, 1) := by decide +kernel
theorem dTagged_number_0 : decode cTagged_number 0 = .ok (.aload_n 0, 1) := by decide +kernel
theorem dTagged_number_1 : decode cTagged_number 1 = .ok (.iload_n 1, 1) := by decide +kernel
theorem dTagged_number_2 : decode cTagged_number 2 = .ok (.iload_n 2, 1) := by decide +kernel
theorem dTagged_number_3 : decode cTagged_number 3 = .ok (.iconst 3, 1) := by decide +kernel
theorem dTagged_number_4 : decode cTagged_number 4 = .ok (.invokevirtual 38, 3) := by decide +kernel
theorem dTagged_number_7 : decode cTagged_number 7 = .ok (.istore_n 3, 1) := by decide +kernel
theorem dTagged_number_8 : decode cTagged_number 8 = .ok (.iload_n 3, 1) := by decide +kernel
theorem dTagged_number_9 : decode cTagged_number 9 = .ok (.ifCond .ge 15, 3) := by decide +kernel
theorem dTagged_number_12 : decode cTagged_number 12 = .ok (.aload_n 0, 1) := by decide +kernel
theorem dTagged_number_13 : decode cTagged_number 13 = .ok (.getfield 14, 3) := by decide +kernel
theorem dTagged_number_16 : decode cTagged_number 16 = .ok (.iload_n 1, 1) := by decide +kernel
theorem dTagged_number_17 : decode cTagged_number 17 = .ok (.iload_n 2, 1) := by decide +kernel
theorem dTagged_number_18 : decode cTagged_number 18 = .ok (.invokevirtual 57, 3) := by decide +kernel
theorem dTagged_number_21 : decode cTagged_number 21 = .ok (.goto 17, 3) := by decide +kernel
theorem dTagged_number_24 : decode cTagged_number 24 = .ok (.aload_n 0, 1) := by decide +kernel
theorem dTagged_number_25 : decode cTagged_number 25 = .ok (.getfield 32, 3) := by decide +kernel
theorem dTagged_number_28 : decode cTagged_number 28 = .ok (.aload_n 0, 1) := by decide +kernel
theorem dTagged_number_29 : decode cTagged_number 29 = .ok (.iload_n 3, 1) := by decide +kernel
theorem dTagged_number_30 : decode cTagged_number 30 = .ok (.iload_n 1, 1) := by decide +kernel
theorem dTagged_number_31 : decode cTagged_number 31 = .ok (.iload_n 2, 1) := by decide +kernel
theorem dTagged_number_32 : decode cTagged_number 32 = .ok (.invokevirtual 61, 3) := by decide +kernel
theorem dTagged_number_35 : decode cTagged_number 35 = .ok (.invokestatic 64, 3) := by decide +kernel
theorem dTagged_number_38 : decode cTagged_number 38 = .ok (.ireturn, 1) := by decide +kernel
theorem dTagged_answering_0 : decode cTagged_answering 0 = .ok (.aload_n 0, 1) := by decide +kernel
theorem dTagged_answering_1 : decode cTagged_answering 1 = .ok (.iload_n 1, 1) := by decide +kernel
theorem dTagged_answering_2 : decode cTagged_answering 2 = .ok (.iload_n 2, 1) := by decide +kernel
theorem dTagged_answering_3 : decode cTagged_answering 3 = .ok (.iconst 3, 1) := by decide +kernel
theorem dTagged_answering_4 : decode cTagged_answering 4 = .ok (.invokevirtual 38, 3) := by decide +kernel
theorem dTagged_answering_7 : decode cTagged_answering 7 = .ok (.ireturn, 1) := by decide +kernel
theorem dTagged_bits_0 : decode cTagged_bits 0 = .ok (.aload_n 0, 1) := by decide +kernel
theorem dTagged_bits_1 : decode cTagged_bits 1 = .ok (.getfield 14, 3) := by decide +kernel
theorem dTagged_bits_4 : decode cTagged_bits 4 = .ok (.invokevirtual 68, 3) := by decide +kernel
theorem dTagged_bits_7 : decode cTagged_bits 7 = .ok (.bipush 39, 2) := by decide +kernel
theorem dTagged_bits_9 : decode cTagged_bits 9 = .ok (.aload_n 0, 1) := by decide +kernel
theorem dTagged_bits_10 : decode cTagged_bits 10 = .ok (.getfield 20, 3) := by decide +kernel
theorem dTagged_bits_13 : decode cTagged_bits 13 = .ok (.imul, 1) := by decide +kernel
theorem dTagged_bits_14 : decode cTagged_bits 14 = .ok (.iadd, 1) := by decide +kernel
theorem dTagged_bits_15 : decode cTagged_bits 15 = .ok (.bipush 32, 2) := by decide +kernel
theorem dTagged_bits_17 : decode cTagged_bits 17 = .ok (.iadd, 1) := by decide +kernel
theorem dTagged_bits_18 : decode cTagged_bits 18 = .ok (.ireturn, 1) := by decide +kernel
theorem dPK_settle_0 : decode cPK_settle 0 = .ok (.iload_n 1, 1) := by decide +kernel
theorem dPK_settle_1 : decode cPK_settle 1 = .ok (.ifCond .ge 18, 3) := by decide +kernel
theorem dPK_settle_4 : decode cPK_settle 4 = .ok (.aload_n 0, 1) := by decide +kernel
theorem dPK_settle_5 : decode cPK_settle 5 = .ok (.aload_n 0, 1) := by decide +kernel
theorem dPK_settle_6 : decode cPK_settle 6 = .ok (.getfield 50, 3) := by decide +kernel
theorem dPK_settle_9 : decode cPK_settle 9 = .ok (.iload_n 3, 1) := by decide +kernel
theorem dPK_settle_10 : decode cPK_settle 10 = .ok (.invokestatic 71, 3) := by decide +kernel
theorem dPK_settle_13 : decode cPK_settle 13 = .ok (.putfield 50, 3) := by decide +kernel
theorem dPK_settle_16 : decode cPK_settle 16 = .ok (.goto 52, 3) := by decide +kernel
theorem dPK_settle_19 : decode cPK_settle 19 = .ok (.aload_n 0, 1) := by decide +kernel
theorem dPK_settle_20 : decode cPK_settle 20 = .ok (.getfield 38, 3) := by decide +kernel
theorem dPK_settle_23 : decode cPK_settle 23 = .ok (.iload_n 1, 1) := by decide +kernel
theorem dPK_settle_24 : decode cPK_settle 24 = .ok (.invokevirtual 144, 3) := by decide +kernel
theorem dPK_settle_27 : decode cPK_settle 27 = .ok (.iload_n 3, 1) := by decide +kernel
theorem dPK_settle_28 : decode cPK_settle 28 = .ok (.if_icmp .ne 14, 3) := by decide +kernel
theorem dPK_settle_31 : decode cPK_settle 31 = .ok (.aload_n 0, 1) := by decide +kernel
theorem dPK_settle_32 : decode cPK_settle 32 = .ok (.getfield 38, 3) := by decide +kernel
theorem dPK_settle_35 : decode cPK_settle 35 = .ok (.iload_n 1, 1) := by decide +kernel
theorem dPK_settle_36 : decode cPK_settle 36 = .ok (.invokevirtual 148, 3) := by decide +kernel
theorem dPK_settle_39 : decode cPK_settle 39 = .ok (.goto 29, 3) := by decide +kernel
theorem dPK_settle_42 : decode cPK_settle 42 = .ok (.aload_n 0, 1) := by decide +kernel
theorem dPK_settle_43 : decode cPK_settle 43 = .ok (.iload_n 2, 1) := by decide +kernel
theorem dPK_settle_44 : decode cPK_settle 44 = .ok (.iload_n 3, 1) := by decide +kernel
theorem dPK_settle_45 : decode cPK_settle 45 = .ok (.invokestatic 71, 3) := by decide +kernel
theorem dPK_settle_48 : decode cPK_settle 48 = .ok (.putfield 50, 3) := by decide +kernel
theorem dPK_settle_51 : decode cPK_settle 51 = .ok (.aload_n 0, 1) := by decide +kernel
theorem dPK_settle_52 : decode cPK_settle 52 = .ok (.getfield 38, 3) := by decide +kernel
theorem dPK_settle_55 : decode cPK_settle 55 = .ok (.invokevirtual 97, 3) := by decide +kernel
theorem dPK_settle_58 : decode cPK_settle 58 = .ok (.aload_n 0, 1) := by decide +kernel
theorem dPK_settle_59 : decode cPK_settle 59 = .ok (.dup, 1) := by decide +kernel
theorem dPK_settle_60 : decode cPK_settle 60 = .ok (.getfield 136, 3) := by decide +kernel
theorem dPK_settle_63 : decode cPK_settle 63 = .ok (.iconst 1, 1) := by decide +kernel
theorem dPK_settle_64 : decode cPK_settle 64 = .ok (.iadd, 1) := by decide +kernel
theorem dPK_settle_65 : decode cPK_settle 65 = .ok (.putfield 136, 3) := by decide +kernel
theorem dPK_settle_68 : decode cPK_settle 68 = .ok (.return_, 1) := by decide +kernel
theorem dPK_early_0 : decode cPK_early 0 = .ok (.aload_n 0, 1) := by decide +kernel
theorem dPK_early_1 : decode cPK_early 1 = .ok (.getfield 59, 3) := by decide +kernel
theorem dPK_early_4 : decode cPK_early 4 = .ok (.istore_n 2, 1) := by decide +kernel
theorem dPK_early_5 : decode cPK_early 5 = .ok (.aload_n 0, 1) := by decide +kernel
theorem dPK_early_6 : decode cPK_early 6 = .ok (.iload_n 1, 1) := by decide +kernel
theorem dPK_early_7 : decode cPK_early 7 = .ok (.putfield 59, 3) := by decide +kernel
theorem dPK_early_10 : decode cPK_early 10 = .ok (.aload_n 0, 1) := by decide +kernel
theorem dPK_early_11 : decode cPK_early 11 = .ok (.getfield 38, 3) := by decide +kernel
theorem dPK_early_14 : decode cPK_early 14 = .ok (.invokevirtual 97, 3) := by decide +kernel
theorem dPK_early_17 : decode cPK_early 17 = .ok (.iload_n 2, 1) := by decide +kernel
theorem dPK_early_18 : decode cPK_early 18 = .ok (.ireturn, 1) := by decide +kernel
theorem dPK_history_0 : decode cPK_history 0 = .ok (.aload_n 0, 1) := by decide +kernel
theorem dPK_history_1 : decode cPK_history 1 = .ok (.getfield 50, 3) := by decide +kernel
theorem dPK_history_4 : decode cPK_history 4 = .ok (.ireturn, 1) := by decide +kernel
theorem dPK_count_0 : decode cPK_count 0 = .ok (.iload_n 1, 1) := by decide +kernel
theorem dPK_count_1 : decode cPK_count 1 = .ok (.tableswitch 90 0 7 #[47, 52, 57, 62, 70, 75, 80, 85], 47) := by decide +kernel
theorem dPK_count_48 : decode cPK_count 48 = .ok (.aload_n 0, 1) := by decide +kernel
