theorem dOwn_bits_8 : decode cOwn_bits 8 = .ok (.imul, 1) := by decide +kernel
theorem dOwn_bits_9 : decode cOwn_bits 9 = .ok (.iconst 2, 1) := by decide +kernel
theorem dOwn_bits_10 : decode cOwn_bits 10 = .ok (.aload_n 0, 1) := by decide +kernel
theorem dOwn_bits_11 : decode cOwn_bits 11 = .ok (.getfield 9, 3) := by decide +kernel
theorem dOwn_bits_14 : decode cOwn_bits 14 = .ok (.imul, 1) := by decide +kernel
theorem dOwn_bits_15 : decode cOwn_bits 15 = .ok (.iadd, 1) := by decide +kernel
theorem dOwn_bits_16 : decode cOwn_bits 16 = .ok (.ireturn, 1) := by decide +kernel
theorem dChooser_takesMixed_0 : decode cChooser_takesMixed 0 = .ok (.aload_n 0, 1) := by decide +kernel
theorem dChooser_takesMixed_1 : decode cChooser_takesMixed 1 = .ok (.getfield 31, 3) := by decide +kernel
theorem dChooser_takesMixed_4 : decode cChooser_takesMixed 4 = .ok (.aload_n 0, 1) := by decide +kernel
theorem dChooser_takesMixed_5 : decode cChooser_takesMixed 5 = .ok (.iload_n 1, 1) := by decide +kernel
theorem dChooser_takesMixed_6 : decode cChooser_takesMixed 6 = .ok (.invokevirtual 43, 3) := by decide +kernel
theorem dChooser_takesMixed_9 : decode cChooser_takesMixed 9 = .ok (.invokestatic 55, 3) := by decide +kernel
theorem dChooser_takesMixed_12 : decode cChooser_takesMixed 12 = .ok (.iconst 2, 1) := by decide +kernel
theorem dChooser_takesMixed_13 : decode cChooser_takesMixed 13 = .ok (.if_icmp .lt 7, 3) := by decide +kernel
theorem dChooser_takesMixed_16 : decode cChooser_takesMixed 16 = .ok (.iconst 1, 1) := by decide +kernel
theorem dChooser_takesMixed_17 : decode cChooser_takesMixed 17 = .ok (.goto 4, 3) := by decide +kernel
theorem dChooser_takesMixed_20 : decode cChooser_takesMixed 20 = .ok (.iconst 0, 1) := by decide +kernel
theorem dChooser_takesMixed_21 : decode cChooser_takesMixed 21 = .ok (.ireturn, 1) := by decide +kernel
theorem dChooser_number_0 : decode cChooser_number 0 = .ok (.aload_n 0, 1) := by decide +kernel
theorem dChooser_number_1 : decode cChooser_number 1 = .ok (.getfield 31, 3) := by decide +kernel
theorem dChooser_number_4 : decode cChooser_number 4 = .ok (.aload_n 0, 1) := by decide +kernel
theorem dChooser_number_5 : decode cChooser_number 5 = .ok (.iload_n 1, 1) := by decide +kernel
theorem dChooser_number_6 : decode cChooser_number 6 = .ok (.invokevirtual 43, 3) := by decide +kernel
theorem dChooser_number_9 : decode cChooser_number 9 = .ok (.invokestatic 55, 3) := by decide +kernel
theorem dChooser_number_12 : decode cChooser_number 12 = .ok (.ireturn, 1) := by decide +kernel
theorem dChooser_says_0 : decode cChooser_says 0 = .ok (.aload_n 0, 1) := by decide +kernel
theorem dChooser_says_1 : decode cChooser_says 1 = .ok (.iload_n 1, 1) := by decide +kernel
theorem dChooser_says_2 : decode cChooser_says 2 = .ok (.invokevirtual 35, 3) := by decide +kernel
theorem dChooser_says_5 : decode cChooser_says 5 = .ok (.ifCond .eq 15, 3) := by decide +kernel
theorem dChooser_says_8 : decode cChooser_says 8 = .ok (.aload_n 0, 1) := by decide +kernel
theorem dChooser_says_9 : decode cChooser_says 9 = .ok (.getfield 20, 3) := by decide +kernel
theorem dChooser_says_12 : decode cChooser_says 12 = .ok (.iload_n 1, 1) := by decide +kernel
theorem dChooser_says_13 : decode cChooser_says 13 = .ok (.iload_n 2, 1) := by decide +kernel
theorem dChooser_says_14 : decode cChooser_says 14 = .ok (.invokevirtual 39, 3) := by decide +kernel
theorem dChooser_says_17 : decode cChooser_says 17 = .ok (.goto 12, 3) := by decide +kernel
theorem dChooser_says_20 : decode cChooser_says 20 = .ok (.aload_n 0, 1) := by decide +kernel
theorem dChooser_says_21 : decode cChooser_says 21 = .ok (.getfield 14, 3) := by decide +kernel
theorem dChooser_says_24 : decode cChooser_says 24 = .ok (.iload_n 1, 1) := by decide +kernel
theorem dChooser_says_25 : decode cChooser_says 25 = .ok (.iload_n 2, 1) := by decide +kernel
theorem dChooser_says_26 : decode cChooser_says 26 = .ok (.invokevirtual 39, 3) := by decide +kernel
theorem dChooser_says_29 : decode cChooser_says 29 = .ok (.ireturn, 1) := by decide +kernel
theorem dChooser_learn_0 : decode cChooser_learn 0 = .ok (.aload_n 0, 1) := by decide +kernel
theorem dChooser_learn_1 : decode cChooser_learn 1 = .ok (.getfield 14, 3) := by decide +kernel
theorem dChooser_learn_4 : decode cChooser_learn 4 = .ok (.iload_n 1, 1) := by decide +kernel
theorem dChooser_learn_5 : decode cChooser_learn 5 = .ok (.iload_n 2, 1) := by decide +kernel
theorem dChooser_learn_6 : decode cChooser_learn 6 = .ok (.invokevirtual 39, 3) := by decide +kernel
theorem dChooser_learn_9 : decode cChooser_learn 9 = .ok (.iload_n 3, 1) := by decide +kernel
theorem dChooser_learn_10 : decode cChooser_learn 10 = .ok (.if_icmp .ne 7, 3) := by decide +kernel
theorem dChooser_learn_13 : decode cChooser_learn 13 = .ok (.iconst 1, 1) := by decide +kernel
theorem dChooser_learn_14 : decode cChooser_learn 14 = .ok (.goto 4, 3) := by decide +kernel
theorem dChooser_learn_17 : decode cChooser_learn 17 = .ok (.iconst 0, 1) := by decide +kernel
theorem dChooser_learn_18 : decode cChooser_learn 18 = .ok (.istore 4, 2) := by decide +kernel
theorem dChooser_learn_20 : decode cChooser_learn 20 = .ok (.aload_n 0, 1) := by decide +kernel
theorem dChooser_learn_21 : decode cChooser_learn 21 = .ok (.getfield 20, 3) := by decide +kernel
theorem dChooser_learn_24 : decode cChooser_learn 24 = .ok (.iload_n 1, 1) := by decide +kernel
theorem dChooser_learn_25 : decode cChooser_learn 25 = .ok (.iload_n 2, 1) := by decide +kernel
theorem dChooser_learn_26 : decode cChooser_learn 26 = .ok (.invokevirtual 39, 3) := by decide +kernel
theorem dChooser_learn_29 : decode cChooser_learn 29 = .ok (.iload_n 3, 1) := by decide +kernel
theorem dChooser_learn_30 : decode cChooser_learn 30 = .ok (.if_icmp .ne 7, 3) := by decide +kernel
theorem dChooser_learn_33 : decode cChooser_learn 33 = .ok (.iconst 1, 1) := by decide +kernel
theorem dChooser_learn_34 : decode cChooser_learn 34 = .ok (.goto 4, 3) := by decide +kernel
theorem dChooser_learn_37 : decode cChooser_learn 37 = .ok (.iconst 0, 1) := by decide +kernel
theorem dChooser_learn_38 : decode cChooser_learn 38 = .ok (.istore 5, 2) := by decide +kernel
theorem dChooser_learn_40 : decode cChooser_learn 40 = .ok (.iload 4, 2) := by decide +kernel
theorem dChooser_learn_42 : decode cChooser_learn 42 = .ok (.iload 5, 2) := by decide +kernel
theorem dChooser_learn_44 : decode cChooser_learn 44 = .ok (.if_icmp .eq 17, 3) := by decide +kernel
theorem dChooser_learn_47 : decode cChooser_learn 47 = .ok (.aload_n 0, 1) := by decide +kernel
theorem dChooser_learn_48 : decode cChooser_learn 48 = .ok (.getfield 31, 3) := by decide +kernel
theorem dChooser_learn_51 : decode cChooser_learn 51 = .ok (.aload_n 0, 1) := by decide +kernel
theorem dChooser_learn_52 : decode cChooser_learn 52 = .ok (.iload_n 1, 1) := by decide +kernel
theorem dChooser_learn_53 : decode cChooser_learn 53 = .ok (.invokevirtual 43, 3) := by decide +kernel
theorem dChooser_learn_56 : decode cChooser_learn 56 = .ok (.iload 5, 2) := by decide +kernel
theorem dChooser_learn_58 : decode cChooser_learn 58 = .ok (.invokestatic 47, 3) := by decide +kernel
theorem dChooser_learn_61 : decode cChooser_learn 61 = .ok (.aload_n 0, 1) := by decide +kernel
theorem dChooser_learn_62 : decode cChooser_learn 62 = .ok (.getfield 14, 3) := by decide +kernel
theorem dChooser_learn_65 : decode cChooser_learn 65 = .ok (.iload_n 1, 1) := by decide +kernel
theorem dChooser_learn_66 : decode cChooser_learn 66 = .ok (.iload_n 2, 1) := by decide +kernel
theorem dChooser_learn_67 : decode cChooser_learn 67 = .ok (.iload_n 3, 1) := by decide +kernel
theorem dChooser_learn_68 : decode cChooser_learn 68 = .ok (.invokevirtual 51, 3) := by decide +kernel
theorem dChooser_learn_71 : decode cChooser_learn 71 = .ok (.aload_n 0, 1) := by decide +kernel
theorem dChooser_learn_72 : decode cChooser_learn 72 = .ok (.getfield 20, 3) := by decide +kernel
theorem dChooser_learn_75 : decode cChooser_learn 75 = .ok (.iload_n 1, 1) := by decide +kernel
theorem dChooser_learn_76 : decode cChooser_learn 76 = .ok (.iload_n 2, 1) := by decide +kernel
theorem dChooser_learn_77 : decode cChooser_learn 77 = .ok (.iload_n 3, 1) := by decide +kernel
theorem dChooser_learn_78 : decode cChooser_learn 78 = .ok (.invokevirtual 51, 3) := by decide +kernel
theorem dChooser_learn_81 : decode cChooser_learn 81 = .ok (.return_, 1) := by decide +kernel
theorem dChooser_bits_0 : decode cChooser_bits 0 = .ok (.aload_n 0, 1) := by decide +kernel
theorem dChooser_bits_1 : decode cChooser_bits 1 = .ok (.getfield 14, 3) := by decide +kernel
theorem dChooser_bits_4 : decode cChooser_bits 4 = .ok (.invokevirtual 59, 3) := by decide +kernel
theorem dChooser_bits_7 : decode cChooser_bits 7 = .ok (.aload_n 0, 1) := by decide +kernel
theorem dChooser_bits_8 : decode cChooser_bits 8 = .ok (.getfield 20, 3) := by decide +kernel
theorem dChooser_bits_11 : decode cChooser_bits 11 = .ok (.invokevirtual 59, 3) := by decide +kernel
theorem dChooser_bits_14 : decode cChooser_bits 14 = .ok (.iadd, 1) := by decide +kernel
theorem dChooser_bits_15 : decode cChooser_bits 15 = .ok (.iconst 2, 1) := by decide +kernel
theorem dChooser_bits_16 : decode cChooser_bits 16 = .ok (.aload_n 0, 1) := by decide +kernel
theorem dChooser_bits_17 : decode cChooser_bits 17 = .ok (.getfield 23, 3) := by decide +kernel
theorem dChooser_bits_20 : decode cChooser_bits 20 = .ok (.imul, 1) := by decide +kernel
theorem dChooser_bits_21 : decode cChooser_bits 21 = .ok (.iadd, 1) := by decide +kernel
theorem dChooser_bits_22 : decode cChooser_bits 22 = .ok (.ireturn, 1) := by decide +kernel
theorem dChooser_answering_0 : decode cChooser_answering 0 = .ok (.aload_n 0, 1) := by decide +kernel
theorem dChooser_answering_1 : decode cChooser_answering 1 = .ok (.iload_n 1, 1) := by decide +kernel
theorem dChooser_answering_2 : decode cChooser_answering 2 = .ok (.invokevirtual 35, 3) := by decide +kernel
theorem dChooser_answering_5 : decode cChooser_answering 5 = .ok (.ifCond .eq 7, 3) := by decide +kernel
theorem dChooser_answering_8 : decode cChooser_answering 8 = .ok (.iconst 3, 1) := by decide +kernel
theorem dChooser_answering_9 : decode cChooser_answering 9 = .ok (.goto 4, 3) := by decide +kernel
theorem dChooser_answering_12 : decode cChooser_answering 12 = .ok (.iconst 2, 1) := by decide +kernel
theorem dChooser_answering_13 : decode cChooser_answering 13 = .ok (.ireturn, 1) := by decide +kernel
theorem dLoops_tagOf_0 : decode cLoops_tagOf 0 = .ok (.iload_n 1, 1) := by decide +kernel
theorem dLoops_tagOf_1 : decode cLoops_tagOf 1 = .ok (.aload_n 0, 1) := by decide +kernel
theorem dLoops_tagOf_2 : decode cLoops_tagOf 2 = .ok (.getfield 84, 3) := by decide +kernel
theorem dLoops_tagOf_5 : decode cLoops_tagOf 5 = .ok (.iushr, 1) := by decide +kernel
theorem dLoops_tagOf_6 : decode cLoops_tagOf 6 = .ok (.sipush 255, 3) := by decide +kernel
theorem dLoops_tagOf_9 : decode cLoops_tagOf 9 = .ok (.iand, 1) := by decide +kernel
theorem dLoops_tagOf_10 : decode cLoops_tagOf 10 = .ok (.ireturn, 1) := by decide +kernel
theorem dLoops_hasTag_0 : decode cLoops_hasTag 0 = .ok (.aload_n 0, 1) := by decide +kernel
theorem dLoops_hasTag_1 : decode cLoops_hasTag 1 = .ok (.getfield 28, 3) := by decide +kernel
theorem dLoops_hasTag_4 : decode cLoops_hasTag 4 = .ok (.aload_n 0, 1) := by decide +kernel
theorem dLoops_hasTag_5 : decode cLoops_hasTag 5 = .ok (.iload_n 1, 1) := by decide +kernel
theorem dLoops_hasTag_6 : decode cLoops_hasTag 6 = .ok (.invokevirtual 49, 3) := by decide +kernel
theorem dLoops_hasTag_9 : decode cLoops_hasTag 9 = .ok (.invokestatic 53, 3) := by decide +kernel
theorem dLoops_hasTag_12 : decode cLoops_hasTag 12 = .ok (.aload_n 0, 1) := by decide +kernel
theorem dLoops_hasTag_13 : decode cLoops_hasTag 13 = .ok (.iload_n 1, 1) := by decide +kernel
theorem dLoops_hasTag_14 : decode cLoops_hasTag 14 = .ok (.invokevirtual 70, 3) := by decide +kernel
theorem dLoops_hasTag_17 : decode cLoops_hasTag 17 = .ok (.if_icmp .ne 7, 3) := by decide +kernel
theorem dLoops_hasTag_20 : decode cLoops_hasTag 20 = .ok (.iconst 1, 1) := by decide +kernel
theorem dLoops_hasTag_21 : decode cLoops_hasTag 21 = .ok (.goto 4, 3) := by decide +kernel
theorem dLoops_hasTag_24 : decode cLoops_hasTag 24 = .ok (.iconst 0, 1) := by decide +kernel
theorem dLoops_hasTag_25 : decode cLoops_hasTag 25 = .ok (.ireturn, 1) := by decide +kernel
theorem dLoops_isTrusted_0 : decode cLoops_isTrusted 0 = .ok (.aload_n 0, 1) := by decide +kernel
theorem dLoops_isTrusted_1 : decode cLoops_isTrusted 1 = .ok (.iload_n 1, 1) := by decide +kernel
theorem dLoops_isTrusted_2 : decode cLoops_isTrusted 2 = .ok (.invokevirtual 61, 3) := by decide +kernel
theorem dLoops_isTrusted_5 : decode cLoops_isTrusted 5 = .ok (.ifCond .eq 23, 3) := by decide +kernel
theorem dLoops_isTrusted_8 : decode cLoops_isTrusted 8 = .ok (.aload_n 0, 1) := by decide +kernel
theorem dLoops_isTrusted_9 : decode cLoops_isTrusted 9 = .ok (.getfield 38, 3) := by decide +kernel
theorem dLoops_isTrusted_12 : decode cLoops_isTrusted 12 = .ok (.aload_n 0, 1) := by decide +kernel
theorem dLoops_isTrusted_13 : decode cLoops_isTrusted 13 = .ok (.iload_n 1, 1) := by decide +kernel
theorem dLoops_isTrusted_14 : decode cLoops_isTrusted 14 = .ok (.invokevirtual 49, 3) := by decide +kernel
theorem dLoops_isTrusted_17 : decode cLoops_isTrusted 17 = .ok (.invokestatic 53, 3) := by decide +kernel
theorem dLoops_isTrusted_20 : decode cLoops_isTrusted 20 = .ok (.iconst 3, 1) := by decide +kernel
theorem dLoops_isTrusted_21 : decode cLoops_isTrusted 21 = .ok (.if_icmp .ne 7, 3) := by decide +kernel
theorem dLoops_isTrusted_24 : decode cLoops_isTrusted 24 = .ok (.iconst 1, 1) := by decide +kernel
theorem dLoops_isTrusted_25 : decode cLoops_isTrusted 25 = .ok (.goto 4, 3) := by decide +kernel
theorem dLoops_isTrusted_28 : decode cLoops_isTrusted 28 = .ok (.iconst 0, 1) := by decide +kernel
theorem dLoops_isTrusted_29 : decode cLoops_isTrusted 29 = .ok (.ireturn, 1) := by decide +kernel
theorem dLoops_forget_0 : decode cLoops_forget 0 = .ok (.aload_n 0, 1) := by decide +kernel
theorem dLoops_forget_1 : decode cLoops_forget 1 = .ok (.getfield 32, 3) := by decide +kernel
theorem dLoops_forget_4 : decode cLoops_forget 4 = .ok (.iload_n 1, 1) := by decide +kernel
theorem dLoops_forget_5 : decode cLoops_forget 5 = .ok (.iconst 0, 1) := by decide +kernel
theorem dLoops_forget_6 : decode cLoops_forget 6 = .ok (.invokestatic 73, 3) := by decide +kernel
theorem dLoops_forget_9 : decode cLoops_forget 9 = .ok (.aload_n 0, 1) := by decide +kernel
theorem dLoops_forget_10 : decode cLoops_forget 10 = .ok (.getfield 35, 3) := by decide +kernel
theorem dLoops_forget_13 : decode cLoops_forget 13 = .ok (.iload_n 1, 1) := by decide +kernel
theorem dLoops_forget_14 : decode cLoops_forget 14 = .ok (.iconst 0, 1) := by decide +kernel
theorem dLoops_forget_15 : decode cLoops_forget 15 = .ok (.invokestatic 73, 3) := by decide +kernel
theorem dLoops_forget_18 : decode cLoops_forget 18 = .ok (.aload_n 0, 1) := by decide +kernel
theorem dLoops_forget_19 : decode cLoops_forget 19 = .ok (.getfield 38, 3) := by decide +kernel
theorem dLoops_forget_22 : decode cLoops_forget 22 = .ok (.iload_n 1, 1) := by decide +kernel
theorem dLoops_forget_23 : decode cLoops_forget 23 = .ok (.iconst 0, 1) := by decide +kernel
theorem dLoops_forget_24 : decode cLoops_forget 24 = .ok (.invokestatic 73, 3) := by decide +kernel
theorem dLoops_forget_27 : decode cLoops_forget 27 = .ok (.return_, 1) := by decide +kernel
theorem dLoops_goRound_0 : decode cLoops_goRound 0 = .ok (.aload_n 0, 1) := by decide +kernel
theorem dLoops_goRound_1 : decode cLoops_goRound 1 = .ok (.getfield 35, 3) := by decide +kernel
theorem dLoops_goRound_4 : decode cLoops_goRound 4 = .ok (.iload_n 1, 1) := by decide +kernel
theorem dLoops_goRound_5 : decode cLoops_goRound 5 = .ok (.invokestatic 53, 3) := by decide +kernel
theorem dLoops_goRound_8 : decode cLoops_goRound 8 = .ok (.iconst 1, 1) := by decide +kernel
theorem dLoops_goRound_9 : decode cLoops_goRound 9 = .ok (.iadd, 1) := by decide +kernel
theorem dLoops_goRound_10 : decode cLoops_goRound 10 = .ok (.istore_n 2, 1) := by decide +kernel
theorem dLoops_goRound_11 : decode cLoops_goRound 11 = .ok (.aload_n 0, 1) := by decide +kernel
theorem dLoops_goRound_12 : decode cLoops_goRound 12 = .ok (.getfield 35, 3) := by decide +kernel
theorem dLoops_goRound_15 : decode cLoops_goRound 15 = .ok (.iload_n 1, 1) := by decide +kernel
theorem dLoops_goRound_16 : decode cLoops_goRound 16 = .ok (.iload_n 2, 1) := by decide +kernel
theorem dLoops_goRound_17 : decode cLoops_goRound 17 = .ok (.invokestatic 73, 3) := by decide +kernel
theorem dLoops_goRound_20 : decode cLoops_goRound 20 = .ok (.iload_n 2, 1) := by decide +kernel
theorem dLoops_goRound_21 : decode cLoops_goRound 21 = .ok (.sipush 1000, 3) := by decide +kernel
theorem dLoops_goRound_24 : decode cLoops_goRound 24 = .ok (.if_icmp .gt 26, 3) := by decide +kernel
theorem dLoops_goRound_27 : decode cLoops_goRound 27 = .ok (.aload_n 0, 1) := by decide +kernel
theorem dLoops_goRound_28 : decode cLoops_goRound 28 = .ok (.getfield 38, 3) := by decide +kernel
theorem dLoops_goRound_31 : decode cLoops_goRound 31 = .ok (.iload_n 1, 1) := by decide +kernel
theorem dLoops_goRound_32 : decode cLoops_goRound 32 = .ok (.invokestatic 53, 3) := by decide +kernel
theorem dLoops_goRound_35 : decode cLoops_goRound 35 = .ok (.ifCond .le 20, 3) := by decide +kernel
theorem dLoops_goRound_38 : decode cLoops_goRound 38 = .ok (.iload_n 2, 1) := by decide +kernel
theorem dLoops_goRound_39 : decode cLoops_goRound 39 = .ok (.aload_n 0, 1) := by decide +kernel
theorem dLoops_goRound_40 : decode cLoops_goRound 40 = .ok (.getfield 32, 3) := by decide +kernel
theorem dLoops_goRound_43 : decode cLoops_goRound 43 = .ok (.iload_n 1, 1) := by decide +kernel
theorem dLoops_goRound_44 : decode cLoops_goRound 44 = .ok (.invokestatic 53, 3) := by decide +kernel
theorem dLoops_goRound_47 : decode cLoops_goRound 47 = .ok (.if_icmp .le 8, 3) := by decide +kernel
theorem dLoops_goRound_50 : decode cLoops_goRound 50 = .ok (.aload_n 0, 1) := by decide +kernel
theorem dLoops_goRound_51 : decode cLoops_goRound 51 = .ok (.iload_n 1, 1) := by decide +kernel
theorem dLoops_goRound_52 : decode cLoops_goRound 52 = .ok (.invokevirtual 77, 3) := by decide +kernel
theorem dLoops_goRound_55 : decode cLoops_goRound 55 = .ok (.return_, 1) := by decide +kernel
theorem dLoops_leave_0 : decode cLoops_leave 0 = .ok (.aload_n 0, 1) := by decide +kernel
theorem dLoops_leave_1 : decode cLoops_leave 1 = .ok (.getfield 35, 3) := by decide +kernel
theorem dLoops_leave_4 : decode cLoops_leave 4 = .ok (.iload_n 1, 1) := by decide +kernel
theorem dLoops_leave_5 : decode cLoops_leave 5 = .ok (.invokestatic 53, 3) := by decide +kernel
theorem dLoops_leave_8 : decode cLoops_leave 8 = .ok (.istore_n 2, 1) := by decide +kernel
theorem dLoops_leave_9 : decode cLoops_leave 9 = .ok (.iload_n 2, 1) := by decide +kernel
theorem dLoops_leave_10 : decode cLoops_leave 10 = .ok (.aload_n 0, 1) := by decide +kernel
theorem dLoops_leave_11 : decode cLoops_leave 11 = .ok (.getfield 32, 3) := by decide +kernel
theorem dLoops_leave_14 : decode cLoops_leave 14 = .ok (.iload_n 1, 1) := by decide +kernel
theorem dLoops_leave_15 : decode cLoops_leave 15 = .ok (.invokestatic 53, 3) := by decide +kernel
theorem dLoops_leave_18 : decode cLoops_leave 18 = .ok (.if_icmp .ne 17, 3) := by decide +kernel
theorem dLoops_leave_21 : decode cLoops_leave 21 = .ok (.aload_n 0, 1) := by decide +kernel
theorem dLoops_leave_22 : decode cLoops_leave 22 = .ok (.getfield 38, 3) := by decide +kernel
theorem dLoops_leave_25 : decode cLoops_leave 25 = .ok (.iload_n 1, 1) := by decide +kernel
theorem dLoops_leave_26 : decode cLoops_leave 26 = .ok (.iconst 1, 1) := by decide +kernel
theorem dLoops_leave_27 : decode cLoops_leave 27 = .ok (.iconst 0, 1) := by decide +kernel
theorem dLoops_leave_28 : decode cLoops_leave 28 = .ok (.iconst 3, 1) := by decide +kernel
theorem dLoops_leave_29 : decode cLoops_leave 29 = .ok (.invokestatic 87, 3) := by decide +kernel
theorem dLoops_leave_32 : decode cLoops_leave 32 = .ok (.goto 21, 3) := by decide +kernel
theorem dLoops_leave_35 : decode cLoops_leave 35 = .ok (.aload_n 0, 1) := by decide +kernel
theorem dLoops_leave_36 : decode cLoops_leave 36 = .ok (.getfield 38, 3) := by decide +kernel
theorem dLoops_leave_39 : decode cLoops_leave 39 = .ok (.iload_n 1, 1) := by decide +kernel
theorem dLoops_leave_40 : decode cLoops_leave 40 = .ok (.iconst 0, 1) := by decide +kernel
theorem dLoops_leave_41 : decode cLoops_leave 41 = .ok (.invokestatic 73, 3) := by decide +kernel
theorem dLoops_leave_44 : decode cLoops_leave 44 = .ok (.aload_n 0, 1) := by decide +kernel
theorem dLoops_leave_45 : decode cLoops_leave 45 = .ok (.getfield 32, 3) := by decide +kernel
theorem dLoops_leave_48 : decode cLoops_leave 48 = .ok (.iload_n 1, 1) := by decide +kernel
theorem dLoops_leave_49 : decode cLoops_leave 49 = .ok (.iload_n 2, 1) := by decide +kernel
theorem dLoops_leave_50 : decode cLoops_leave 50 = .ok (.invokestatic 73, 3) := by decide +kernel
theorem dLoops_leave_53 : decode cLoops_leave 53 = .ok (.aload_n 0, 1) := by decide +kernel
theorem dLoops_leave_54 : decode cLoops_leave 54 = .ok (.getfield 35, 3) := by decide +kernel
theorem dLoops_leave_57 : decode cLoops_leave 57 = .ok (.iload_n 1, 1) := by decide +kernel
theorem dLoops_leave_58 : decode cLoops_leave 58 = .ok (.iconst 0, 1) := by decide +kernel
theorem dLoops_leave_59 : decode cLoops_leave 59 = .ok (.invokestatic 73, 3) := by decide +kernel
theorem dLoops_leave_62 : decode cLoops_leave 62 = .ok (.return_, 1) := by decide +kernel
theorem dLoops_number_0 : decode cLoops_number 0 = .ok (.aload_n 0, 1) := by decide +kernel
theorem dLoops_number_1 : decode cLoops_number 1 = .ok (.iload_n 1, 1) := by decide +kernel
theorem dLoops_number_2 : decode cLoops_number 2 = .ok (.invokevirtual 61, 3) := by decide +kernel
theorem dLoops_number_5 : decode cLoops_number 5 = .ok (.ifCond .eq 18, 3) := by decide +kernel
theorem dLoops_number_8 : decode cLoops_number 8 = .ok (.aload_n 0, 1) := by decide +kernel
theorem dLoops_number_9 : decode cLoops_number 9 = .ok (.getfield 38, 3) := by decide +kernel
theorem dLoops_number_12 : decode cLoops_number 12 = .ok (.aload_n 0, 1) := by decide +kernel
theorem dLoops_number_13 : decode cLoops_number 13 = .ok (.iload_n 1, 1) := by decide +kernel
theorem dLoops_number_14 : decode cLoops_number 14 = .ok (.invokevirtual 49, 3) := by decide +kernel
theorem dLoops_number_17 : decode cLoops_number 17 = .ok (.invokestatic 53, 3) := by decide +kernel
theorem dLoops_number_20 : decode cLoops_number 20 = .ok (.goto 4, 3) := by decide +kernel
theorem dLoops_number_23 : decode cLoops_number 23 = .ok (.iconst (-1), 1) := by decide +kernel
theorem dLoops_number_24 : decode cLoops_number 24 = .ok (.ireturn, 1) := by decide +kernel
theorem dLoops_says_0 : decode cLoops_says 0 = .ok (.aload_n 0, 1) := by decide +kernel
theorem dLoops_says_1 : decode cLoops_says 1 = .ok (.iload_n 1, 1) := by decide +kernel
theorem dLoops_says_2 : decode cLoops_says 2 = .ok (.invokevirtual 41, 3) := by decide +kernel
theorem dLoops_says_5 : decode cLoops_says 5 = .ok (.ifCond .ne 13, 3) := by decide +kernel
theorem dLoops_says_8 : decode cLoops_says 8 = .ok (.aload_n 0, 1) := by decide +kernel
theorem dLoops_says_9 : decode cLoops_says 9 = .ok (.getfield 12, 3) := by decide +kernel
theorem dLoops_says_12 : decode cLoops_says 12 = .ok (.iload_n 1, 1) := by decide +kernel
theorem dLoops_says_13 : decode cLoops_says 13 = .ok (.iload_n 2, 1) := by decide +kernel
theorem dLoops_says_14 : decode cLoops_says 14 = .ok (.invokevirtual 45, 3) := by decide +kernel
theorem dLoops_says_17 : decode cLoops_says 17 = .ok (.ireturn, 1) := by decide +kernel
theorem dLoops_says_18 : decode cLoops_says 18 = .ok (.aload_n 0, 1) := by decide +kernel
theorem dLoops_says_19 : decode cLoops_says 19 = .ok (.iload_n 1, 1) := by decide +kernel
theorem dLoops_says_20 : decode cLoops_says 20 = .ok (.invokevirtual 49, 3) := by decide +kernel
theorem dLoops_says_23 : decode cLoops_says 23 = .ok (.istore_n 3, 1) := by decide +kernel
theorem dLoops_says_24 : decode cLoops_says 24 = .ok (.aload_n 0, 1) := by decide +kernel
theorem dLoops_says_25 : decode cLoops_says 25 = .ok (.getfield 35, 3) := by decide +kernel
theorem dLoops_says_28 : decode cLoops_says 28 = .ok (.iload_n 3, 1) := by decide +kernel
theorem dLoops_says_29 : decode cLoops_says 29 = .ok (.invokestatic 53, 3) := by decide +kernel
theorem dLoops_says_32 : decode cLoops_says 32 = .ok (.aload_n 0, 1) := by decide +kernel
theorem dLoops_says_33 : decode cLoops_says 33 = .ok (.getfield 32, 3) := by decide +kernel
theorem dLoops_says_36 : decode cLoops_says 36 = .ok (.iload_n 3, 1) := by decide +kernel
theorem dLoops_says_37 : decode cLoops_says 37 = .ok (.invokestatic 53, 3) := by decide +kernel
theorem dLoops_says_40 : decode cLoops_says 40 = .ok (.if_icmp .ge 7, 3) := by decide +kernel
theorem dLoops_says_43 : decode cLoops_says 43 = .ok (.iconst 1, 1) := by decide +kernel
theorem dLoops_says_44 : decode cLoops_says 44 = .ok (.goto 4, 3) := by decide +kernel
theorem dLoops_says_47 : decode cLoops_says 47 = .ok (.iconst 0, 1) := by decide +kernel
theorem dLoops_says_48 : decode cLoops_says 48 = .ok (.ireturn, 1) := by decide +kernel
theorem dLoops_learn_0 : decode cLoops_learn 0 = .ok (.aload_n 0, 1) := by decide +kernel
theorem dLoops_learn_1 : decode cLoops_learn 1 = .ok (.getfield 12, 3) := by decide +kernel
theorem dLoops_learn_4 : decode cLoops_learn 4 = .ok (.iload_n 1, 1) := by decide +kernel
theorem dLoops_learn_5 : decode cLoops_learn 5 = .ok (.iload_n 2, 1) := by decide +kernel
theorem dLoops_learn_6 : decode cLoops_learn 6 = .ok (.iload_n 3, 1) := by decide +kernel
theorem dLoops_learn_7 : decode cLoops_learn 7 = .ok (.invokevirtual 57, 3) := by decide +kernel
theorem dLoops_learn_10 : decode cLoops_learn 10 = .ok (.aload_n 0, 1) := by decide +kernel
theorem dLoops_learn_11 : decode cLoops_learn 11 = .ok (.iload_n 1, 1) := by decide +kernel
theorem dLoops_learn_12 : decode cLoops_learn 12 = .ok (.invokevirtual 49, 3) := by decide +kernel
theorem dLoops_learn_15 : decode cLoops_learn 15 = .ok (.istore 4, 2) := by decide +kernel
theorem dLoops_learn_17 : decode cLoops_learn 17 = .ok (.aload_n 0, 1) := by decide +kernel
theorem dLoops_learn_18 : decode cLoops_learn 18 = .ok (.iload_n 1, 1) := by decide +kernel
theorem dLoops_learn_19 : decode cLoops_learn 19 = .ok (.invokevirtual 61, 3) := by decide +kernel
theorem dLoops_learn_22 : decode cLoops_learn 22 = .ok (.ifCond .eq 25, 3) := by decide +kernel
theorem dLoops_learn_25 : decode cLoops_learn 25 = .ok (.iload_n 3, 1) := by decide +kernel
theorem dLoops_learn_26 : decode cLoops_learn 26 = .ok (.ifCond .eq 12, 3) := by decide +kernel
theorem dLoops_learn_29 : decode cLoops_learn 29 = .ok (.aload_n 0, 1) := by decide +kernel
theorem dLoops_learn_30 : decode cLoops_learn 30 = .ok (.iload 4, 2) := by decide +kernel
theorem dLoops_learn_32 : decode cLoops_learn 32 = .ok (.invokevirtual 64, 3) := by decide +kernel
theorem dLoops_learn_35 : decode cLoops_learn 35 = .ok (.goto 36, 3) := by decide +kernel
theorem dLoops_learn_38 : decode cLoops_learn 38 = .ok (.aload_n 0, 1) := by decide +kernel
theorem dLoops_learn_39 : decode cLoops_learn 39 = .ok (.iload 4, 2) := by decide +kernel
theorem dLoops_learn_41 : decode cLoops_learn 41 = .ok (.invokevirtual 67, 3) := by decide +kernel
theorem dLoops_learn_44 : decode cLoops_learn 44 = .ok (.goto 27, 3) := by decide +kernel
theorem dLoops_learn_47 : decode cLoops_learn 47 = .ok (.iload_n 3, 1) := by decide +kernel
theorem dLoops_learn_48 : decode cLoops_learn 48 = .ok (.ifCond .ne 23, 3) := by decide +kernel
theorem dLoops_learn_51 : decode cLoops_learn 51 = .ok (.aload_n 0, 1) := by decide +kernel
theorem dLoops_learn_52 : decode cLoops_learn 52 = .ok (.getfield 28, 3) := by decide +kernel
theorem dLoops_learn_55 : decode cLoops_learn 55 = .ok (.iload 4, 2) := by decide +kernel
theorem dLoops_learn_57 : decode cLoops_learn 57 = .ok (.aload_n 0, 1) := by decide +kernel
theorem dLoops_learn_58 : decode cLoops_learn 58 = .ok (.iload_n 1, 1) := by decide +kernel
theorem dLoops_learn_59 : decode cLoops_learn 59 = .ok (.invokevirtual 70, 3) := by decide +kernel
theorem dLoops_learn_62 : decode cLoops_learn 62 = .ok (.invokestatic 73, 3) := by decide +kernel
theorem dLoops_learn_65 : decode cLoops_learn 65 = .ok (.aload_n 0, 1) := by decide +kernel
theorem dLoops_learn_66 : decode cLoops_learn 66 = .ok (.iload 4, 2) := by decide +kernel
theorem dLoops_learn_68 : decode cLoops_learn 68 = .ok (.invokevirtual 77, 3) := by decide +kernel
theorem dLoops_learn_71 : decode cLoops_learn 71 = .ok (.return_, 1) := by decide +kernel
theorem dLoops_bits_0 : decode cLoops_bits 0 = .ok (.aload_n 0, 1) := by decide +kernel
theorem dLoops_bits_1 : decode cLoops_bits 1 = .ok (.getfield 12, 3) := by decide +kernel
theorem dLoops_bits_4 : decode cLoops_bits 4 = .ok (.invokevirtual 80, 3) := by decide +kernel
theorem dLoops_bits_7 : decode cLoops_bits 7 = .ok (.bipush 30, 2) := by decide +kernel
theorem dLoops_bits_9 : decode cLoops_bits 9 = .ok (.aload_n 0, 1) := by decide +kernel
theorem dLoops_bits_10 : decode cLoops_bits 10 = .ok (.getfield 18, 3) := by decide +kernel
theorem dLoops_bits_13 : decode cLoops_bits 13 = .ok (.imul, 1) := by decide +kernel
theorem dLoops_bits_14 : decode cLoops_bits 14 = .ok (.iadd, 1) := by decide +kernel
theorem dLoops_bits_15 : decode cLoops_bits 15 = .ok (.ireturn, 1) := by decide +kernel
theorem dLoops_answering_0 : decode cLoops_answering 0 = .ok (.aload_n 0, 1) := by decide +kernel
theorem dLoops_answering_1 : decode cLoops_answering 1 = .ok (.iload_n 1, 1) := by decide +kernel
theorem dLoops_answering_2 : decode cLoops_answering 2 = .ok (.invokevirtual 41, 3) := by decide +kernel
theorem dLoops_answering_5 : decode cLoops_answering 5 = .ok (.ifCond .eq 7, 3) := by decide +kernel
theorem dLoops_answering_8 : decode cLoops_answering 8 = .ok (.iconst 1, 1) := by decide +kernel
theorem dLoops_answering_9 : decode cLoops_answering 9 = .ok (.goto 4, 3) := by decide +kernel
theorem dLoops_answering_12 : decode cLoops_answering 12 = .ok (.iconst 0, 1) := by decide +kernel
theorem dLoops_answering_13 : decode cLoops_answering 13 = .ok (.ireturn, 1) := by decide +kernel
theorem dCoin_number_0 : decode cCoin_number 0 = .ok (.aload_n 0, 1) := by decide +kernel
theorem dCoin_number_1 : decode cCoin_number 1 = .ok (.getfield 7, 3) := by decide +kernel
theorem dCoin_number_4 : decode cCoin_number 4 = .ok (.bipush 16, 2) := by decide +kernel
theorem dCoin_number_6 : decode cCoin_number 6 = .ok (.invokestatic 13, 3) := by decide +kernel
theorem dCoin_number_9 : decode cCoin_number 9 = .ok (.ifCond .eq 7, 3) := by decide +kernel
theorem dCoin_number_12 : decode cCoin_number 12 = .ok (.iconst 1, 1) := by decide +kernel
theorem dCoin_number_13 : decode cCoin_number 13 = .ok (.goto 4, 3) := by decide +kernel
theorem dCoin_number_16 : decode cCoin_number 16 = .ok (.iconst 0, 1) := by decide +kernel
theorem dCoin_number_17 : decode cCoin_number 17 = .ok (.ireturn, 1) := by decide +kernel
theorem dCoin_says_0 : decode cCoin_says 0 = .ok (.aload_n 0, 1) := by decide +kernel
theorem dCoin_says_1 : decode cCoin_says 1 = .ok (.getfield 7, 3) := by decide +kernel
theorem dCoin_says_4 : decode cCoin_says 4 = .ok (.bipush 16, 2) := by decide +kernel
theorem dCoin_says_6 : decode cCoin_says 6 = .ok (.invokestatic 13, 3) := by decide +kernel
theorem dCoin_says_9 : decode cCoin_says 9 = .ok (.ireturn, 1) := by decide +kernel
theorem dCoin_learn_0 : decode cCoin_learn 0 = .ok (.aload_n 0, 1) := by decide +kernel
theorem dCoin_learn_1 : decode cCoin_learn 1 = .ok (.ldc 19, 2) := by decide +kernel
theorem dCoin_learn_3 : decode cCoin_learn 3 = .ok (.aload_n 0, 1) := by decide +kernel
theorem dCoin_learn_4 : decode cCoin_learn 4 = .ok (.getfield 7, 3) := by decide +kernel
theorem dCoin_learn_7 : decode cCoin_learn 7 = .ok (.imul, 1) := by decide +kernel
theorem dCoin_learn_8 : decode cCoin_learn 8 = .ok (.sipush 12345, 3) := by decide +kernel
theorem dCoin_learn_11 : decode cCoin_learn 11 = .ok (.iadd, 1) := by decide +kernel
theorem dCoin_learn_12 : decode cCoin_learn 12 = .ok (.putfield 7, 3) := by decide +kernel
theorem dCoin_learn_15 : decode cCoin_learn 15 = .ok (.return_, 1) := by decide +kernel
theorem dCoin_bits_0 : decode cCoin_bits 0 = .ok (.bipush 32, 2) := by decide +kernel
theorem dCoin_bits_2 : decode cCoin_bits 2 = .ok (.ireturn, 1) := by decide +kernel
theorem dSums_firstWeight_0 : decode cSums_firstWeight 0 = .ok (.bipush 9, 2) := by decide +kernel
theorem dSums_firstWeight_2 : decode cSums_firstWeight 2 = .ok (.aload_n 0, 1) := by decide +kernel
theorem dSums_firstWeight_3 : decode cSums_firstWeight 3 = .ok (.iload_n 1, 1) := by decide +kernel
theorem dSums_firstWeight_4 : decode cSums_firstWeight 4 = .ok (.invokevirtual 48, 3) := by decide +kernel
theorem dSums_firstWeight_7 : decode cSums_firstWeight 7 = .ok (.imul, 1) := by decide +kernel
theorem dSums_firstWeight_8 : decode cSums_firstWeight 8 = .ok (.ireturn, 1) := by decide +kernel
theorem dSums_number_0 : decode cSums_number 0 = .ok (.aload_n 0, 1) := by decide +kernel
theorem dSums_number_1 : decode cSums_number 1 = .ok (.iload_n 1, 1) := by decide +kernel
theorem dSums_number_2 : decode cSums_number 2 = .ok (.invokevirtual 33, 3) := by decide +kernel
theorem dSums_number_5 : decode cSums_number 5 = .ok (.istore_n 3, 1) := by decide +kernel
theorem dSums_number_6 : decode cSums_number 6 = .ok (.aload_n 0, 1) := by decide +kernel
theorem dSums_number_7 : decode cSums_number 7 = .ok (.getfield 19, 3) := by decide +kernel
theorem dSums_number_10 : decode cSums_number 10 = .ok (.iload_n 3, 1) := by decide +kernel
theorem dSums_number_11 : decode cSums_number 11 = .ok (.invokestatic 44, 3) := by decide +kernel
theorem dSums_number_14 : decode cSums_number 14 = .ok (.istore 4, 2) := by decide +kernel
theorem dSums_number_16 : decode cSums_number 16 = .ok (.iconst 0, 1) := by decide +kernel
theorem dSums_number_17 : decode cSums_number 17 = .ok (.istore 5, 2) := by decide +kernel
theorem dSums_number_19 : decode cSums_number 19 = .ok (.iload 5, 2) := by decide +kernel
theorem dSums_number_21 : decode cSums_number 21 = .ok (.bipush 8, 2) := by decide +kernel
theorem dSums_number_23 : decode cSums_number 23 = .ok (.if_icmp .ge 46, 3) := by decide +kernel
theorem dSums_number_26 : decode cSums_number 26 = .ok (.aload_n 0, 1) := by decide +kernel
theorem dSums_number_27 : decode cSums_number 27 = .ok (.getfield 19, 3) := by decide +kernel
theorem dSums_number_30 : decode cSums_number 30 = .ok (.iload_n 3, 1) := by decide +kernel
theorem dSums_number_31 : decode cSums_number 31 = .ok (.iload 5, 2) := by decide +kernel
theorem dSums_number_33 : decode cSums_number 33 = .ok (.iadd, 1) := by decide +kernel
theorem dSums_number_34 : decode cSums_number 34 = .ok (.iconst 1, 1) := by decide +kernel
theorem dSums_number_35 : decode cSums_number 35 = .ok (.iadd, 1) := by decide +kernel
theorem dSums_number_36 : decode cSums_number 36 = .ok (.invokestatic 44, 3) := by decide +kernel
theorem dSums_number_39 : decode cSums_number 39 = .ok (.istore 6, 2) := by decide +kernel
theorem dSums_number_41 : decode cSums_number 41 = .ok (.iload 4, 2) := by decide +kernel
theorem dSums_number_43 : decode cSums_number 43 = .ok (.iload_n 2, 1) := by decide +kernel
theorem dSums_number_44 : decode cSums_number 44 = .ok (.iload 5, 2) := by decide +kernel
theorem dSums_number_46 : decode cSums_number 46 = .ok (.invokestatic 40, 3) := by decide +kernel
theorem dSums_number_49 : decode cSums_number 49 = .ok (.ifCond .eq 8, 3) := by decide +kernel
theorem dSums_number_52 : decode cSums_number 52 = .ok (.iload 6, 2) := by decide +kernel
theorem dSums_number_54 : decode cSums_number 54 = .ok (.goto 6, 3) := by decide +kernel
theorem dSums_number_57 : decode cSums_number 57 = .ok (.iload 6, 2) := by decide +kernel
theorem dSums_number_59 : decode cSums_number 59 = .ok (.ineg, 1) := by decide +kernel
theorem dSums_number_60 : decode cSums_number 60 = .ok (.iadd, 1) := by decide +kernel
theorem dSums_number_61 : decode cSums_number 61 = .ok (.istore 4, 2) := by decide +kernel
theorem dSums_number_63 : decode cSums_number 63 = .ok (.iinc 5 1, 3) := by decide +kernel
theorem dSums_number_66 : decode cSums_number 66 = .ok (.goto (-47), 3) := by decide +kernel
theorem dSums_number_69 : decode cSums_number 69 = .ok (.iload 4, 2) := by decide +kernel
theorem dSums_number_71 : decode cSums_number 71 = .ok (.ireturn, 1) := by decide +kernel
theorem dSums_says_0 : decode cSums_says 0 = .ok (.aload_n 0, 1) := by decide +kernel
theorem dSums_says_1 : decode cSums_says 1 = .ok (.iload_n 1, 1) := by decide +kernel
theorem dSums_says_2 : decode cSums_says 2 = .ok (.iload_n 2, 1) := by decide +kernel
theorem dSums_says_3 : decode cSums_says 3 = .ok (.invokevirtual 23, 3) := by decide +kernel
theorem dSums_says_6 : decode cSums_says 6 = .ok (.ifCond .lt 7, 3) := by decide +kernel
theorem dSums_says_9 : decode cSums_says 9 = .ok (.iconst 1, 1) := by decide +kernel
theorem dSums_says_10 : decode cSums_says 10 = .ok (.goto 4, 3) := by decide +kernel
theorem dSums_says_13 : decode cSums_says 13 = .ok (.iconst 0, 1) := by decide +kernel
theorem dSums_says_14 : decode cSums_says 14 = .ok (.ireturn, 1) := by decide +kernel
theorem dSums_learn_0 : decode cSums_learn 0 = .ok (.aload_n 0, 1) := by decide +kernel
theorem dSums_learn_1 : decode cSums_learn 1 = .ok (.iload_n 1, 1) := by decide +kernel
