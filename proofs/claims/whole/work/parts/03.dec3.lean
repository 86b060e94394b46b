theorem dPK_count_49 : decode cPK_count 49 = .ok (.getfield 88, 3) := by decide +kernel
theorem dPK_count_52 : decode cPK_count 52 = .ok (.ireturn, 1) := by decide +kernel
theorem dPK_count_53 : decode cPK_count 53 = .ok (.aload_n 0, 1) := by decide +kernel
theorem dPK_count_54 : decode cPK_count 54 = .ok (.getfield 91, 3) := by decide +kernel
theorem dPK_count_57 : decode cPK_count 57 = .ok (.ireturn, 1) := by decide +kernel
theorem dPK_count_58 : decode cPK_count 58 = .ok (.aload_n 0, 1) := by decide +kernel
theorem dPK_count_59 : decode cPK_count 59 = .ok (.getfield 94, 3) := by decide +kernel
theorem dPK_count_62 : decode cPK_count 62 = .ok (.ireturn, 1) := by decide +kernel
theorem dPK_count_63 : decode cPK_count 63 = .ok (.aload_n 0, 1) := by decide +kernel
theorem dPK_count_64 : decode cPK_count 64 = .ok (.getfield 38, 3) := by decide +kernel
theorem dPK_count_67 : decode cPK_count 67 = .ok (.invokevirtual 133, 3) := by decide +kernel
theorem dPK_count_70 : decode cPK_count 70 = .ok (.ireturn, 1) := by decide +kernel
theorem dPK_count_71 : decode cPK_count 71 = .ok (.aload_n 0, 1) := by decide +kernel
theorem dPK_count_72 : decode cPK_count 72 = .ok (.getfield 100, 3) := by decide +kernel
theorem dPK_count_75 : decode cPK_count 75 = .ok (.ireturn, 1) := by decide +kernel
theorem dPK_count_76 : decode cPK_count 76 = .ok (.aload_n 0, 1) := by decide +kernel
theorem dPK_count_77 : decode cPK_count 77 = .ok (.getfield 136, 3) := by decide +kernel
theorem dPK_count_80 : decode cPK_count 80 = .ok (.ireturn, 1) := by decide +kernel
theorem dPK_count_81 : decode cPK_count 81 = .ok (.aload_n 0, 1) := by decide +kernel
theorem dPK_count_82 : decode cPK_count 82 = .ok (.getfield 15, 3) := by decide +kernel
theorem dPK_count_85 : decode cPK_count 85 = .ok (.ireturn, 1) := by decide +kernel
theorem dPK_count_86 : decode cPK_count 86 = .ok (.aload_n 0, 1) := by decide +kernel
theorem dPK_count_87 : decode cPK_count 87 = .ok (.getfield 24, 3) := by decide +kernel
theorem dPK_count_90 : decode cPK_count 90 = .ok (.ireturn, 1) := by decide +kernel
theorem dPK_count_91 : decode cPK_count 91 = .ok (.iconst (-1), 1) := by decide +kernel
theorem dPK_count_92 : decode cPK_count 92 = .ok (.ireturn, 1) := by decide +kernel
theorem dPK_mark_0 : decode cPK_mark 0 = .ok (.aload_n 0, 1) := by decide +kernel
theorem dPK_mark_1 : decode cPK_mark 1 = .ok (.getfield 100, 3) := by decide +kernel
theorem dPK_mark_4 : decode cPK_mark 4 = .ok (.bipush 32, 2) := by decide +kernel
theorem dPK_mark_6 : decode cPK_mark 6 = .ok (.if_icmp .lt 13, 3) := by decide +kernel
theorem dPK_mark_9 : decode cPK_mark 9 = .ok (.new 103, 3) := by decide +kernel
theorem dPK_mark_12 : decode cPK_mark 12 = .ok (.dup, 1) := by decide +kernel
theorem dPK_mark_13 : decode cPK_mark 13 = .ok (.ldc 105, 2) := by decide +kernel
theorem dPK_mark_15 : decode cPK_mark 15 = .ok (.invokespecial 107, 3) := by decide +kernel
theorem dPK_mark_18 : decode cPK_mark 18 = .ok (.athrow, 1) := by decide +kernel
theorem dPK_mark_19 : decode cPK_mark 19 = .ok (.aload_n 0, 1) := by decide +kernel
theorem dPK_mark_20 : decode cPK_mark 20 = .ok (.getfield 46, 3) := by decide +kernel
theorem dPK_mark_23 : decode cPK_mark 23 = .ok (.aload_n 0, 1) := by decide +kernel
theorem dPK_mark_24 : decode cPK_mark 24 = .ok (.getfield 100, 3) := by decide +kernel
theorem dPK_mark_27 : decode cPK_mark 27 = .ok (.aload_n 0, 1) := by decide +kernel
theorem dPK_mark_28 : decode cPK_mark 28 = .ok (.getfield 50, 3) := by decide +kernel
theorem dPK_mark_31 : decode cPK_mark 31 = .ok (.invokestatic 110, 3) := by decide +kernel
theorem dPK_mark_34 : decode cPK_mark 34 = .ok (.aload_n 0, 1) := by decide +kernel
theorem dPK_mark_35 : decode cPK_mark 35 = .ok (.dup, 1) := by decide +kernel
theorem dPK_mark_36 : decode cPK_mark 36 = .ok (.getfield 100, 3) := by decide +kernel
theorem dPK_mark_39 : decode cPK_mark 39 = .ok (.iconst 1, 1) := by decide +kernel
theorem dPK_mark_40 : decode cPK_mark 40 = .ok (.iadd, 1) := by decide +kernel
theorem dPK_mark_41 : decode cPK_mark 41 = .ok (.putfield 100, 3) := by decide +kernel
theorem dPK_mark_44 : decode cPK_mark 44 = .ok (.aload_n 0, 1) := by decide +kernel
theorem dPK_mark_45 : decode cPK_mark 45 = .ok (.getfield 100, 3) := by decide +kernel
theorem dPK_mark_48 : decode cPK_mark 48 = .ok (.iconst 1, 1) := by decide +kernel
theorem dPK_mark_49 : decode cPK_mark 49 = .ok (.isub, 1) := by decide +kernel
theorem dPK_mark_50 : decode cPK_mark 50 = .ok (.ireturn, 1) := by decide +kernel
theorem dPK_repair_0 : decode cPK_repair 0 = .ok (.iload_n 1, 1) := by decide +kernel
theorem dPK_repair_1 : decode cPK_repair 1 = .ok (.ifCond .lt 11, 3) := by decide +kernel
theorem dPK_repair_4 : decode cPK_repair 4 = .ok (.iload_n 1, 1) := by decide +kernel
theorem dPK_repair_5 : decode cPK_repair 5 = .ok (.aload_n 0, 1) := by decide +kernel
theorem dPK_repair_6 : decode cPK_repair 6 = .ok (.getfield 100, 3) := by decide +kernel
theorem dPK_repair_9 : decode cPK_repair 9 = .ok (.if_icmp .lt 13, 3) := by decide +kernel
theorem dPK_repair_12 : decode cPK_repair 12 = .ok (.new 114, 3) := by decide +kernel
theorem dPK_repair_15 : decode cPK_repair 15 = .ok (.dup, 1) := by decide +kernel
theorem dPK_repair_16 : decode cPK_repair 16 = .ok (.ldc 116, 2) := by decide +kernel
theorem dPK_repair_18 : decode cPK_repair 18 = .ok (.invokespecial 118, 3) := by decide +kernel
theorem dPK_repair_21 : decode cPK_repair 21 = .ok (.athrow, 1) := by decide +kernel
theorem dPK_repair_22 : decode cPK_repair 22 = .ok (.aload_n 0, 1) := by decide +kernel
theorem dPK_repair_23 : decode cPK_repair 23 = .ok (.getfield 50, 3) := by decide +kernel
theorem dPK_repair_26 : decode cPK_repair 26 = .ok (.istore_n 2, 1) := by decide +kernel
theorem dPK_repair_27 : decode cPK_repair 27 = .ok (.aload_n 0, 1) := by decide +kernel
theorem dPK_repair_28 : decode cPK_repair 28 = .ok (.aload_n 0, 1) := by decide +kernel
theorem dPK_repair_29 : decode cPK_repair 29 = .ok (.getfield 46, 3) := by decide +kernel
theorem dPK_repair_32 : decode cPK_repair 32 = .ok (.iload_n 1, 1) := by decide +kernel
theorem dPK_repair_33 : decode cPK_repair 33 = .ok (.invokestatic 119, 3) := by decide +kernel
theorem dPK_repair_36 : decode cPK_repair 36 = .ok (.putfield 50, 3) := by decide +kernel
theorem dPK_repair_39 : decode cPK_repair 39 = .ok (.aload_n 0, 1) := by decide +kernel
theorem dPK_repair_40 : decode cPK_repair 40 = .ok (.iload_n 1, 1) := by decide +kernel
theorem dPK_repair_41 : decode cPK_repair 41 = .ok (.iconst 1, 1) := by decide +kernel
theorem dPK_repair_42 : decode cPK_repair 42 = .ok (.iadd, 1) := by decide +kernel
theorem dPK_repair_43 : decode cPK_repair 43 = .ok (.putfield 100, 3) := by decide +kernel
theorem dPK_repair_46 : decode cPK_repair 46 = .ok (.aload_n 0, 1) := by decide +kernel
theorem dPK_repair_47 : decode cPK_repair 47 = .ok (.getfield 38, 3) := by decide +kernel
theorem dPK_repair_50 : decode cPK_repair 50 = .ok (.invokevirtual 97, 3) := by decide +kernel
theorem dPK_repair_53 : decode cPK_repair 53 = .ok (.iload_n 2, 1) := by decide +kernel
theorem dPK_repair_54 : decode cPK_repair 54 = .ok (.ireturn, 1) := by decide +kernel
theorem dPK_told_0 : decode cPK_told 0 = .ok (.aload_n 0, 1) := by decide +kernel
theorem dPK_told_1 : decode cPK_told 1 = .ok (.getfield 31, 3) := by decide +kernel
theorem dPK_told_4 : decode cPK_told 4 = .ok (.iload_n 1, 1) := by decide +kernel
theorem dPK_told_5 : decode cPK_told 5 = .ok (.aload_n 0, 1) := by decide +kernel
theorem dPK_told_6 : decode cPK_told 6 = .ok (.getfield 50, 3) := by decide +kernel
theorem dPK_told_9 : decode cPK_told 9 = .ok (.invokevirtual 53, 3) := by decide +kernel
theorem dPK_told_12 : decode cPK_told 12 = .ok (.istore_n 2, 1) := by decide +kernel
theorem dPK_told_13 : decode cPK_told 13 = .ok (.aload_n 0, 1) := by decide +kernel
theorem dPK_told_14 : decode cPK_told 14 = .ok (.getfield 59, 3) := by decide +kernel
theorem dPK_told_17 : decode cPK_told 17 = .ok (.ifCond .eq 38, 3) := by decide +kernel
theorem dPK_told_20 : decode cPK_told 20 = .ok (.aload_n 0, 1) := by decide +kernel
theorem dPK_told_21 : decode cPK_told 21 = .ok (.getfield 38, 3) := by decide +kernel
theorem dPK_told_24 : decode cPK_told 24 = .ok (.invokevirtual 63, 3) := by decide +kernel
theorem dPK_told_27 : decode cPK_told 27 = .ok (.ifCond .eq 28, 3) := by decide +kernel
theorem dPK_told_30 : decode cPK_told 30 = .ok (.aload_n 0, 1) := by decide +kernel
theorem dPK_told_31 : decode cPK_told 31 = .ok (.getfield 38, 3) := by decide +kernel
theorem dPK_told_34 : decode cPK_told 34 = .ok (.iload_n 1, 1) := by decide +kernel
theorem dPK_told_35 : decode cPK_told 35 = .ok (.aload_n 0, 1) := by decide +kernel
theorem dPK_told_36 : decode cPK_told 36 = .ok (.getfield 50, 3) := by decide +kernel
theorem dPK_told_39 : decode cPK_told 39 = .ok (.iload_n 2, 1) := by decide +kernel
theorem dPK_told_40 : decode cPK_told 40 = .ok (.invokevirtual 67, 3) := by decide +kernel
theorem dPK_told_43 : decode cPK_told 43 = .ok (.aload_n 0, 1) := by decide +kernel
theorem dPK_told_44 : decode cPK_told 44 = .ok (.aload_n 0, 1) := by decide +kernel
theorem dPK_told_45 : decode cPK_told 45 = .ok (.getfield 50, 3) := by decide +kernel
theorem dPK_told_48 : decode cPK_told 48 = .ok (.iload_n 2, 1) := by decide +kernel
theorem dPK_told_49 : decode cPK_told 49 = .ok (.invokestatic 71, 3) := by decide +kernel
theorem dPK_told_52 : decode cPK_told 52 = .ok (.putfield 50, 3) := by decide +kernel
theorem dPK_told_55 : decode cPK_told 55 = .ok (.iload_n 2, 1) := by decide +kernel
theorem dPK_told_56 : decode cPK_told 56 = .ok (.ireturn, 1) := by decide +kernel
theorem dPK_update_0 : decode cPK_update 0 = .ok (.aload_n 0, 1) := by decide +kernel
theorem dPK_update_1 : decode cPK_update 1 = .ok (.getfield 38, 3) := by decide +kernel
theorem dPK_update_4 : decode cPK_update 4 = .ok (.iload_n 1, 1) := by decide +kernel
theorem dPK_update_5 : decode cPK_update 5 = .ok (.invokevirtual 75, 3) := by decide +kernel
theorem dPK_update_8 : decode cPK_update 8 = .ok (.istore_n 3, 1) := by decide +kernel
theorem dPK_update_9 : decode cPK_update 9 = .ok (.iload_n 3, 1) := by decide +kernel
theorem dPK_update_10 : decode cPK_update 10 = .ok (.ifCond .lt 14, 3) := by decide +kernel
theorem dPK_update_13 : decode cPK_update 13 = .ok (.aload_n 0, 1) := by decide +kernel
theorem dPK_update_14 : decode cPK_update 14 = .ok (.getfield 38, 3) := by decide +kernel
theorem dPK_update_17 : decode cPK_update 17 = .ok (.iload_n 3, 1) := by decide +kernel
theorem dPK_update_18 : decode cPK_update 18 = .ok (.invokevirtual 79, 3) := by decide +kernel
theorem dPK_update_21 : decode cPK_update 21 = .ok (.goto 7, 3) := by decide +kernel
theorem dPK_update_24 : decode cPK_update 24 = .ok (.aload_n 0, 1) := by decide +kernel
theorem dPK_update_25 : decode cPK_update 25 = .ok (.getfield 50, 3) := by decide +kernel
theorem dPK_update_28 : decode cPK_update 28 = .ok (.istore 4, 2) := by decide +kernel
theorem dPK_update_30 : decode cPK_update 30 = .ok (.aload_n 0, 1) := by decide +kernel
theorem dPK_update_31 : decode cPK_update 31 = .ok (.getfield 31, 3) := by decide +kernel
theorem dPK_update_34 : decode cPK_update 34 = .ok (.iload_n 1, 1) := by decide +kernel
theorem dPK_update_35 : decode cPK_update 35 = .ok (.iload 4, 2) := by decide +kernel
theorem dPK_update_37 : decode cPK_update 37 = .ok (.invokevirtual 53, 3) := by decide +kernel
theorem dPK_update_40 : decode cPK_update 40 = .ok (.iload_n 2, 1) := by decide +kernel
theorem dPK_update_41 : decode cPK_update 41 = .ok (.if_icmp .ne 7, 3) := by decide +kernel
theorem dPK_update_44 : decode cPK_update 44 = .ok (.iconst 1, 1) := by decide +kernel
theorem dPK_update_45 : decode cPK_update 45 = .ok (.goto 4, 3) := by decide +kernel
theorem dPK_update_48 : decode cPK_update 48 = .ok (.iconst 0, 1) := by decide +kernel
theorem dPK_update_49 : decode cPK_update 49 = .ok (.istore 5, 2) := by decide +kernel
theorem dPK_update_51 : decode cPK_update 51 = .ok (.aload_n 0, 1) := by decide +kernel
theorem dPK_update_52 : decode cPK_update 52 = .ok (.getfield 31, 3) := by decide +kernel
theorem dPK_update_55 : decode cPK_update 55 = .ok (.iload_n 1, 1) := by decide +kernel
theorem dPK_update_56 : decode cPK_update 56 = .ok (.iload 4, 2) := by decide +kernel
theorem dPK_update_58 : decode cPK_update 58 = .ok (.iload_n 2, 1) := by decide +kernel
theorem dPK_update_59 : decode cPK_update 59 = .ok (.invokevirtual 82, 3) := by decide +kernel
theorem dPK_update_62 : decode cPK_update 62 = .ok (.aload_n 0, 1) := by decide +kernel
theorem dPK_update_63 : decode cPK_update 63 = .ok (.iload_n 3, 1) := by decide +kernel
theorem dPK_update_64 : decode cPK_update 64 = .ok (.iload 4, 2) := by decide +kernel
theorem dPK_update_66 : decode cPK_update 66 = .ok (.iload_n 2, 1) := by decide +kernel
theorem dPK_update_67 : decode cPK_update 67 = .ok (.invokevirtual 85, 3) := by decide +kernel
theorem dPK_update_70 : decode cPK_update 70 = .ok (.aload_n 0, 1) := by decide +kernel
theorem dPK_update_71 : decode cPK_update 71 = .ok (.dup, 1) := by decide +kernel
theorem dPK_update_72 : decode cPK_update 72 = .ok (.getfield 88, 3) := by decide +kernel
theorem dPK_update_75 : decode cPK_update 75 = .ok (.iconst 1, 1) := by decide +kernel
theorem dPK_update_76 : decode cPK_update 76 = .ok (.iadd, 1) := by decide +kernel
theorem dPK_update_77 : decode cPK_update 77 = .ok (.putfield 88, 3) := by decide +kernel
theorem dPK_update_80 : decode cPK_update 80 = .ok (.aload_n 0, 1) := by decide +kernel
theorem dPK_update_81 : decode cPK_update 81 = .ok (.dup, 1) := by decide +kernel
theorem dPK_update_82 : decode cPK_update 82 = .ok (.getfield 91, 3) := by decide +kernel
theorem dPK_update_85 : decode cPK_update 85 = .ok (.iload 5, 2) := by decide +kernel
theorem dPK_update_87 : decode cPK_update 87 = .ok (.ifCond .eq 7, 3) := by decide +kernel
theorem dPK_update_90 : decode cPK_update 90 = .ok (.iconst 0, 1) := by decide +kernel
theorem dPK_update_91 : decode cPK_update 91 = .ok (.goto 4, 3) := by decide +kernel
theorem dPK_update_94 : decode cPK_update 94 = .ok (.iconst 1, 1) := by decide +kernel
theorem dPK_update_95 : decode cPK_update 95 = .ok (.iadd, 1) := by decide +kernel
theorem dPK_update_96 : decode cPK_update 96 = .ok (.putfield 91, 3) := by decide +kernel
theorem dPK_update_99 : decode cPK_update 99 = .ok (.aload_n 0, 1) := by decide +kernel
theorem dPK_update_100 : decode cPK_update 100 = .ok (.dup, 1) := by decide +kernel
theorem dPK_update_101 : decode cPK_update 101 = .ok (.getfield 94, 3) := by decide +kernel
theorem dPK_update_104 : decode cPK_update 104 = .ok (.iload_n 2, 1) := by decide +kernel
theorem dPK_update_105 : decode cPK_update 105 = .ok (.ifCond .eq 7, 3) := by decide +kernel
theorem dPK_update_108 : decode cPK_update 108 = .ok (.iconst 1, 1) := by decide +kernel
theorem dPK_update_109 : decode cPK_update 109 = .ok (.goto 4, 3) := by decide +kernel
theorem dPK_update_112 : decode cPK_update 112 = .ok (.iconst 0, 1) := by decide +kernel
theorem dPK_update_113 : decode cPK_update 113 = .ok (.iadd, 1) := by decide +kernel
theorem dPK_update_114 : decode cPK_update 114 = .ok (.putfield 94, 3) := by decide +kernel
theorem dPK_update_117 : decode cPK_update 117 = .ok (.iload 5, 2) := by decide +kernel
theorem dPK_update_119 : decode cPK_update 119 = .ok (.ireturn, 1) := by decide +kernel
theorem dPK_row_0 : decode cPK_row 0 = .ok (.aload_n 0, 1) := by decide +kernel
theorem dPK_row_1 : decode cPK_row 1 = .ok (.getfield 31, 3) := by decide +kernel
theorem dPK_row_4 : decode cPK_row 4 = .ok (.iload_n 1, 1) := by decide +kernel
theorem dPK_row_5 : decode cPK_row 5 = .ok (.aload_n 0, 1) := by decide +kernel
theorem dPK_row_6 : decode cPK_row 6 = .ok (.getfield 50, 3) := by decide +kernel
theorem dPK_row_9 : decode cPK_row 9 = .ok (.invokevirtual 123, 3) := by decide +kernel
theorem dPK_row_12 : decode cPK_row 12 = .ok (.ireturn, 1) := by decide +kernel
theorem dPK_part_0 : decode cPK_part 0 = .ok (.aload_n 0, 1) := by decide +kernel
theorem dPK_part_1 : decode cPK_part 1 = .ok (.getfield 31, 3) := by decide +kernel
theorem dPK_part_4 : decode cPK_part 4 = .ok (.iload_n 1, 1) := by decide +kernel
theorem dPK_part_5 : decode cPK_part 5 = .ok (.aload_n 0, 1) := by decide +kernel
theorem dPK_part_6 : decode cPK_part 6 = .ok (.getfield 50, 3) := by decide +kernel
theorem dPK_part_9 : decode cPK_part 9 = .ok (.invokevirtual 126, 3) := by decide +kernel
theorem dPK_part_12 : decode cPK_part 12 = .ok (.ireturn, 1) := by decide +kernel
theorem dPK_storage_0 : decode cPK_storage 0 = .ok (.aload_n 0, 1) := by decide +kernel
theorem dPK_storage_1 : decode cPK_storage 1 = .ok (.getfield 31, 3) := by decide +kernel
theorem dPK_storage_4 : decode cPK_storage 4 = .ok (.invokevirtual 129, 3) := by decide +kernel
theorem dPK_storage_7 : decode cPK_storage 7 = .ok (.ireturn, 1) := by decide +kernel
theorem dPK_several_0 : decode cPK_several 0 = .ok (.iload_n 2, 1) := by decide +kernel
theorem dPK_several_1 : decode cPK_several 1 = .ok (.iconst 1, 1) := by decide +kernel
theorem dPK_several_2 : decode cPK_several 2 = .ok (.if_icmp .lt 9, 3) := by decide +kernel
theorem dPK_several_5 : decode cPK_several 5 = .ok (.iload_n 2, 1) := by decide +kernel
theorem dPK_several_6 : decode cPK_several 6 = .ok (.bipush 16, 2) := by decide +kernel
theorem dPK_several_8 : decode cPK_several 8 = .ok (.if_icmp .le 13, 3) := by decide +kernel
theorem dPK_several_11 : decode cPK_several 11 = .ok (.new 139, 3) := by decide +kernel
theorem dPK_several_14 : decode cPK_several 14 = .ok (.dup, 1) := by decide +kernel
theorem dPK_several_15 : decode cPK_several 15 = .ok (.ldc 141, 2) := by decide +kernel
theorem dPK_several_17 : decode cPK_several 17 = .ok (.invokespecial 143, 3) := by decide +kernel
theorem dPK_several_20 : decode cPK_several 20 = .ok (.athrow, 1) := by decide +kernel
theorem dPK_several_21 : decode cPK_several 21 = .ok (.aload_n 0, 1) := by decide +kernel
theorem dPK_several_22 : decode cPK_several 22 = .ok (.getfield 50, 3) := by decide +kernel
theorem dPK_several_25 : decode cPK_several 25 = .ok (.istore_n 3, 1) := by decide +kernel
theorem dPK_several_26 : decode cPK_several 26 = .ok (.iconst 0, 1) := by decide +kernel
theorem dPK_several_27 : decode cPK_several 27 = .ok (.istore 4, 2) := by decide +kernel
theorem dPK_several_29 : decode cPK_several 29 = .ok (.iconst 0, 1) := by decide +kernel
theorem dPK_several_30 : decode cPK_several 30 = .ok (.istore 5, 2) := by decide +kernel
theorem dPK_several_32 : decode cPK_several 32 = .ok (.iload 5, 2) := by decide +kernel
theorem dPK_several_34 : decode cPK_several 34 = .ok (.iload_n 2, 1) := by decide +kernel
theorem dPK_several_35 : decode cPK_several 35 = .ok (.if_icmp .ge 50, 3) := by decide +kernel
theorem dPK_several_38 : decode cPK_several 38 = .ok (.aload_n 0, 1) := by decide +kernel
theorem dPK_several_39 : decode cPK_several 39 = .ok (.getfield 31, 3) := by decide +kernel
theorem dPK_several_42 : decode cPK_several 42 = .ok (.iload_n 1, 1) := by decide +kernel
theorem dPK_several_43 : decode cPK_several 43 = .ok (.iconst 4, 1) := by decide +kernel
theorem dPK_several_44 : decode cPK_several 44 = .ok (.iload 5, 2) := by decide +kernel
theorem dPK_several_46 : decode cPK_several 46 = .ok (.imul, 1) := by decide +kernel
theorem dPK_several_47 : decode cPK_several 47 = .ok (.iadd, 1) := by decide +kernel
theorem dPK_several_48 : decode cPK_several 48 = .ok (.iload_n 3, 1) := by decide +kernel
theorem dPK_several_49 : decode cPK_several 49 = .ok (.invokevirtual 53, 3) := by decide +kernel
theorem dPK_several_52 : decode cPK_several 52 = .ok (.istore 6, 2) := by decide +kernel
theorem dPK_several_54 : decode cPK_several 54 = .ok (.iload 4, 2) := by decide +kernel
theorem dPK_several_56 : decode cPK_several 56 = .ok (.iload 6, 2) := by decide +kernel
theorem dPK_several_58 : decode cPK_several 58 = .ok (.ifCond .eq 10, 3) := by decide +kernel
theorem dPK_several_61 : decode cPK_several 61 = .ok (.iconst 1, 1) := by decide +kernel
theorem dPK_several_62 : decode cPK_several 62 = .ok (.iload 5, 2) := by decide +kernel
theorem dPK_several_64 : decode cPK_several 64 = .ok (.ishl, 1) := by decide +kernel
theorem dPK_several_65 : decode cPK_several 65 = .ok (.goto 4, 3) := by decide +kernel
theorem dPK_several_68 : decode cPK_several 68 = .ok (.iconst 0, 1) := by decide +kernel
theorem dPK_several_69 : decode cPK_several 69 = .ok (.ior, 1) := by decide +kernel
theorem dPK_several_70 : decode cPK_several 70 = .ok (.istore 4, 2) := by decide +kernel
theorem dPK_several_72 : decode cPK_several 72 = .ok (.iload_n 3, 1) := by decide +kernel
theorem dPK_several_73 : decode cPK_several 73 = .ok (.iload 6, 2) := by decide +kernel
theorem dPK_several_75 : decode cPK_several 75 = .ok (.invokestatic 71, 3) := by decide +kernel
theorem dPK_several_78 : decode cPK_several 78 = .ok (.istore_n 3, 1) := by decide +kernel
theorem dPK_several_79 : decode cPK_several 79 = .ok (.iinc 5 1, 3) := by decide +kernel
theorem dPK_several_82 : decode cPK_several 82 = .ok (.goto (-50), 3) := by decide +kernel
theorem dPK_several_85 : decode cPK_several 85 = .ok (.iload 4, 2) := by decide +kernel
theorem dPK_several_87 : decode cPK_several 87 = .ok (.ireturn, 1) := by decide +kernel
theorem dMd_modulo_0 : decode cMd_modulo 0 = .ok (.iload_n 0, 1) := by decide +kernel
theorem dMd_modulo_1 : decode cMd_modulo 1 = .ok (.bipush 10, 2) := by decide +kernel
theorem dMd_modulo_3 : decode cMd_modulo 3 = .ok (.irem, 1) := by decide +kernel
theorem dMd_modulo_4 : decode cMd_modulo 4 = .ok (.bipush 10, 2) := by decide +kernel
theorem dMd_modulo_6 : decode cMd_modulo 6 = .ok (.iadd, 1) := by decide +kernel
theorem dMd_modulo_7 : decode cMd_modulo 7 = .ok (.bipush 10, 2) := by decide +kernel
theorem dMd_modulo_9 : decode cMd_modulo 9 = .ok (.irem, 1) := by decide +kernel
theorem dMd_modulo_10 : decode cMd_modulo 10 = .ok (.ireturn, 1) := by decide +kernel
theorem dMd_thrown_0 : decode cMd_thrown 0 = .ok (.aload_n 0, 1) := by decide +kernel
theorem dMd_thrown_1 : decode cMd_thrown 1 = .ok (.getfield 82, 3) := by decide +kernel
theorem dMd_thrown_4 : decode cMd_thrown 4 = .ok (.ireturn, 1) := by decide +kernel
theorem dMd_fail_0 : decode cMd_fail 0 = .ok (.aload_n 0, 1) := by decide +kernel
theorem dMd_fail_1 : decode cMd_fail 1 = .ok (.iload_n 1, 1) := by decide +kernel
theorem dMd_fail_2 : decode cMd_fail 2 = .ok (.putfield 82, 3) := by decide +kernel
theorem dMd_fail_5 : decode cMd_fail 5 = .ok (.iconst 0, 1) := by decide +kernel
theorem dMd_fail_6 : decode cMd_fail 6 = .ok (.ireturn, 1) := by decide +kernel
theorem dMd_low_0 : decode cMd_low 0 = .ok (.iload_n 1, 1) := by decide +kernel
theorem dMd_low_1 : decode cMd_low 1 = .ok (.aload_n 0, 1) := by decide +kernel
theorem dMd_low_2 : decode cMd_low 2 = .ok (.getfield 76, 3) := by decide +kernel
theorem dMd_low_5 : decode cMd_low 5 = .ok (.iconst 1, 1) := by decide +kernel
theorem dMd_low_6 : decode cMd_low 6 = .ok (.isub, 1) := by decide +kernel
theorem dMd_low_7 : decode cMd_low 7 = .ok (.iand, 1) := by decide +kernel
theorem dMd_low_8 : decode cMd_low 8 = .ok (.ireturn, 1) := by decide +kernel
theorem dMd_plainRow_0 : decode cMd_plainRow 0 = .ok (.aload_n 0, 1) := by decide +kernel
theorem dMd_plainRow_1 : decode cMd_plainRow 1 = .ok (.iload_n 1, 1) := by decide +kernel
theorem dMd_plainRow_2 : decode cMd_plainRow 2 = .ok (.iload_n 1, 1) := by decide +kernel
theorem dMd_plainRow_3 : decode cMd_plainRow 3 = .ok (.aload_n 0, 1) := by decide +kernel
theorem dMd_plainRow_4 : decode cMd_plainRow 4 = .ok (.getfield 73, 3) := by decide +kernel
theorem dMd_plainRow_7 : decode cMd_plainRow 7 = .ok (.iushr, 1) := by decide +kernel
theorem dMd_plainRow_8 : decode cMd_plainRow 8 = .ok (.ixor, 1) := by decide +kernel
theorem dMd_plainRow_9 : decode cMd_plainRow 9 = .ok (.invokevirtual 85, 3) := by decide +kernel
theorem dMd_plainRow_12 : decode cMd_plainRow 12 = .ok (.ireturn, 1) := by decide +kernel
theorem dMd_folded_0 : decode cMd_folded 0 = .ok (.iconst 0, 1) := by decide +kernel
theorem dMd_folded_1 : decode cMd_folded 1 = .ok (.istore_n 3, 1) := by decide +kernel
theorem dMd_folded_2 : decode cMd_folded 2 = .ok (.iconst 0, 1) := by decide +kernel
theorem dMd_folded_3 : decode cMd_folded 3 = .ok (.istore 4, 2) := by decide +kernel
theorem dMd_folded_5 : decode cMd_folded 5 = .ok (.iload 4, 2) := by decide +kernel
theorem dMd_folded_7 : decode cMd_folded 7 = .ok (.iload_n 1, 1) := by decide +kernel
theorem dMd_folded_8 : decode cMd_folded 8 = .ok (.if_icmp .ge 23, 3) := by decide +kernel
theorem dMd_folded_11 : decode cMd_folded 11 = .ok (.iload_n 3, 1) := by decide +kernel
theorem dMd_folded_12 : decode cMd_folded 12 = .ok (.iload_n 0, 1) := by decide +kernel
theorem dMd_folded_13 : decode cMd_folded 13 = .ok (.iload 4, 2) := by decide +kernel
theorem dMd_folded_15 : decode cMd_folded 15 = .ok (.iushr, 1) := by decide +kernel
theorem dMd_folded_16 : decode cMd_folded 16 = .ok (.iconst 1, 1) := by decide +kernel
theorem dMd_folded_17 : decode cMd_folded 17 = .ok (.iand, 1) := by decide +kernel
theorem dMd_folded_18 : decode cMd_folded 18 = .ok (.iload 4, 2) := by decide +kernel
theorem dMd_folded_20 : decode cMd_folded 20 = .ok (.iload_n 2, 1) := by decide +kernel
theorem dMd_folded_21 : decode cMd_folded 21 = .ok (.irem, 1) := by decide +kernel
theorem dMd_folded_22 : decode cMd_folded 22 = .ok (.ishl, 1) := by decide +kernel
theorem dMd_folded_23 : decode cMd_folded 23 = .ok (.ixor, 1) := by decide +kernel
theorem dMd_folded_24 : decode cMd_folded 24 = .ok (.istore_n 3, 1) := by decide +kernel
theorem dMd_folded_25 : decode cMd_folded 25 = .ok (.iinc 4 1, 3) := by decide +kernel
theorem dMd_folded_28 : decode cMd_folded 28 = .ok (.goto (-23), 3) := by decide +kernel
theorem dMd_folded_31 : decode cMd_folded 31 = .ok (.iload_n 3, 1) := by decide +kernel
theorem dMd_folded_32 : decode cMd_folded 32 = .ok (.ireturn, 1) := by decide +kernel
theorem dMd_step_0 : decode cMd_step 0 = .ok (.iload_n 1, 1) := by decide +kernel
theorem dMd_step_1 : decode cMd_step 1 = .ok (.ifCond .eq 18, 3) := by decide +kernel
theorem dMd_step_4 : decode cMd_step 4 = .ok (.iload_n 0, 1) := by decide +kernel
theorem dMd_step_5 : decode cMd_step 5 = .ok (.iconst 3, 1) := by decide +kernel
theorem dMd_step_6 : decode cMd_step 6 = .ok (.if_icmp .ge 9, 3) := by decide +kernel
theorem dMd_step_9 : decode cMd_step 9 = .ok (.iload_n 0, 1) := by decide +kernel
theorem dMd_step_10 : decode cMd_step 10 = .ok (.iconst 1, 1) := by decide +kernel
theorem dMd_step_11 : decode cMd_step 11 = .ok (.iadd, 1) := by decide +kernel
theorem dMd_step_12 : decode cMd_step 12 = .ok (.goto 18, 3) := by decide +kernel
theorem dMd_step_15 : decode cMd_step 15 = .ok (.iconst 3, 1) := by decide +kernel
theorem dMd_step_16 : decode cMd_step 16 = .ok (.goto 14, 3) := by decide +kernel
theorem dMd_step_19 : decode cMd_step 19 = .ok (.iload_n 0, 1) := by decide +kernel
theorem dMd_step_20 : decode cMd_step 20 = .ok (.ifCond .le 9, 3) := by decide +kernel
theorem dMd_step_23 : decode cMd_step 23 = .ok (.iload_n 0, 1) := by decide +kernel
theorem dMd_step_24 : decode cMd_step 24 = .ok (.iconst 1, 1) := by decide +kernel
theorem dMd_step_25 : decode cMd_step 25 = .ok (.isub, 1) := by decide +kernel
theorem dMd_step_26 : decode cMd_step 26 = .ok (.goto 4, 3) := by decide +kernel
theorem dMd_step_29 : decode cMd_step 29 = .ok (.iconst 0, 1) := by decide +kernel
theorem dMd_step_30 : decode cMd_step 30 = .ok (.ireturn, 1) := by decide +kernel
theorem dMd_span_0 : decode cMd_span 0 = .ok (.iload_n 0, 1) := by decide +kernel
theorem dMd_span_1 : decode cMd_span 1 = .ok (.ifCond .ne 7, 3) := by decide +kernel
theorem dMd_span_4 : decode cMd_span 4 = .ok (.iconst 4, 1) := by decide +kernel
theorem dMd_span_5 : decode cMd_span 5 = .ok (.goto 15, 3) := by decide +kernel
theorem dMd_span_8 : decode cMd_span 8 = .ok (.iload_n 0, 1) := by decide +kernel
theorem dMd_span_9 : decode cMd_span 9 = .ok (.iconst 1, 1) := by decide +kernel
theorem dMd_span_10 : decode cMd_span 10 = .ok (.if_icmp .ne 8, 3) := by decide +kernel
theorem dMd_span_13 : decode cMd_span 13 = .ok (.bipush 8, 2) := by decide +kernel
theorem dMd_span_15 : decode cMd_span 15 = .ok (.goto 5, 3) := by decide +kernel
theorem dMd_span_18 : decode cMd_span 18 = .ok (.bipush 16, 2) := by decide +kernel
theorem dMd_span_20 : decode cMd_span 20 = .ok (.ireturn, 1) := by decide +kernel
theorem dMd_taggedRow_0 : decode cMd_taggedRow 0 = .ok (.sipush 1024, 3) := by decide +kernel
theorem dMd_taggedRow_3 : decode cMd_taggedRow 3 = .ok (.iload_n 1, 1) := by decide +kernel
theorem dMd_taggedRow_4 : decode cMd_taggedRow 4 = .ok (.imul, 1) := by decide +kernel
theorem dMd_taggedRow_5 : decode cMd_taggedRow 5 = .ok (.aload_n 0, 1) := by decide +kernel
theorem dMd_taggedRow_6 : decode cMd_taggedRow 6 = .ok (.iload_n 2, 1) := by decide +kernel
theorem dMd_taggedRow_7 : decode cMd_taggedRow 7 = .ok (.iload_n 3, 1) := by decide +kernel
theorem dMd_taggedRow_8 : decode cMd_taggedRow 8 = .ok (.iload_n 1, 1) := by decide +kernel
theorem dMd_taggedRow_9 : decode cMd_taggedRow 9 = .ok (.invokestatic 88, 3) := by decide +kernel
theorem dMd_taggedRow_12 : decode cMd_taggedRow 12 = .ok (.aload_n 0, 1) := by decide +kernel
theorem dMd_taggedRow_13 : decode cMd_taggedRow 13 = .ok (.getfield 73, 3) := by decide +kernel
theorem dMd_taggedRow_16 : decode cMd_taggedRow 16 = .ok (.invokestatic 91, 3) := by decide +kernel
theorem dMd_taggedRow_19 : decode cMd_taggedRow 19 = .ok (.ixor, 1) := by decide +kernel
theorem dMd_taggedRow_20 : decode cMd_taggedRow 20 = .ok (.iload_n 1, 1) := by decide +kernel
theorem dMd_taggedRow_21 : decode cMd_taggedRow 21 = .ok (.iconst 1, 1) := by decide +kernel
theorem dMd_taggedRow_22 : decode cMd_taggedRow 22 = .ok (.iadd, 1) := by decide +kernel
theorem dMd_taggedRow_23 : decode cMd_taggedRow 23 = .ok (.ixor, 1) := by decide +kernel
theorem dMd_taggedRow_24 : decode cMd_taggedRow 24 = .ok (.invokevirtual 85, 3) := by decide +kernel
theorem dMd_taggedRow_27 : decode cMd_taggedRow 27 = .ok (.iadd, 1) := by decide +kernel
theorem dMd_taggedRow_28 : decode cMd_taggedRow 28 = .ok (.ireturn, 1) := by decide +kernel
theorem dMd_tagOf_0 : decode cMd_tagOf 0 = .ok (.iload_n 1, 1) := by decide +kernel
theorem dMd_tagOf_1 : decode cMd_tagOf 1 = .ok (.iconst 2, 1) := by decide +kernel
theorem dMd_tagOf_2 : decode cMd_tagOf 2 = .ok (.iushr, 1) := by decide +kernel
theorem dMd_tagOf_3 : decode cMd_tagOf 3 = .ok (.iload_n 2, 1) := by decide +kernel
theorem dMd_tagOf_4 : decode cMd_tagOf 4 = .ok (.iload_n 0, 1) := by decide +kernel
theorem dMd_tagOf_5 : decode cMd_tagOf 5 = .ok (.invokestatic 88, 3) := by decide +kernel
theorem dMd_tagOf_8 : decode cMd_tagOf 8 = .ok (.bipush 8, 2) := by decide +kernel
theorem dMd_tagOf_10 : decode cMd_tagOf 10 = .ok (.invokestatic 91, 3) := by decide +kernel
theorem dMd_tagOf_13 : decode cMd_tagOf 13 = .ok (.ixor, 1) := by decide +kernel
theorem dMd_tagOf_14 : decode cMd_tagOf 14 = .ok (.bipush 7, 2) := by decide +kernel
theorem dMd_tagOf_16 : decode cMd_tagOf 16 = .ok (.iload_n 0, 1) := by decide +kernel
theorem dMd_tagOf_17 : decode cMd_tagOf 17 = .ok (.imul, 1) := by decide +kernel
theorem dMd_tagOf_18 : decode cMd_tagOf 18 = .ok (.ixor, 1) := by decide +kernel
theorem dMd_tagOf_19 : decode cMd_tagOf 19 = .ok (.sipush 255, 3) := by decide +kernel
theorem dMd_tagOf_22 : decode cMd_tagOf 22 = .ok (.iand, 1) := by decide +kernel
theorem dMd_tagOf_23 : decode cMd_tagOf 23 = .ok (.ireturn, 1) := by decide +kernel
theorem dMd_hits_0 : decode cMd_hits 0 = .ok (.aload_n 0, 1) := by decide +kernel
theorem dMd_hits_1 : decode cMd_hits 1 = .ok (.getfield 28, 3) := by decide +kernel
theorem dMd_hits_4 : decode cMd_hits 4 = .ok (.aload_n 0, 1) := by decide +kernel
theorem dMd_hits_5 : decode cMd_hits 5 = .ok (.iload_n 1, 1) := by decide +kernel
theorem dMd_hits_6 : decode cMd_hits 6 = .ok (.iload_n 2, 1) := by decide +kernel
theorem dMd_hits_7 : decode cMd_hits 7 = .ok (.iload_n 3, 1) := by decide +kernel
theorem dMd_hits_8 : decode cMd_hits 8 = .ok (.invokevirtual 95, 3) := by decide +kernel
theorem dMd_hits_11 : decode cMd_hits 11 = .ok (.iaload, 1) := by decide +kernel
theorem dMd_hits_12 : decode cMd_hits 12 = .ok (.iload_n 1, 1) := by decide +kernel
theorem dMd_hits_13 : decode cMd_hits 13 = .ok (.iload_n 2, 1) := by decide +kernel
theorem dMd_hits_14 : decode cMd_hits 14 = .ok (.iload_n 3, 1) := by decide +kernel
theorem dMd_hits_15 : decode cMd_hits 15 = .ok (.invokestatic 98, 3) := by decide +kernel
theorem dMd_hits_18 : decode cMd_hits 18 = .ok (.if_icmp .ne 7, 3) := by decide +kernel
theorem dMd_hits_21 : decode cMd_hits 21 = .ok (.iconst 1, 1) := by decide +kernel
theorem dMd_hits_22 : decode cMd_hits 22 = .ok (.goto 4, 3) := by decide +kernel
theorem dMd_hits_25 : decode cMd_hits 25 = .ok (.iconst 0, 1) := by decide +kernel
theorem dMd_hits_26 : decode cMd_hits 26 = .ok (.ireturn, 1) := by decide +kernel
theorem dMd_hitBefore_0 : decode cMd_hitBefore 0 = .ok (.iconst (-1), 1) := by decide +kernel
theorem dMd_hitBefore_1 : decode cMd_hitBefore 1 = .ok (.istore 4, 2) := by decide +kernel
theorem dMd_hitBefore_3 : decode cMd_hitBefore 3 = .ok (.iconst 0, 1) := by decide +kernel
theorem dMd_hitBefore_4 : decode cMd_hitBefore 4 = .ok (.istore 5, 2) := by decide +kernel
theorem dMd_hitBefore_6 : decode cMd_hitBefore 6 = .ok (.iload 5, 2) := by decide +kernel
theorem dMd_hitBefore_8 : decode cMd_hitBefore 8 = .ok (.iload_n 1, 1) := by decide +kernel
theorem dMd_hitBefore_9 : decode cMd_hitBefore 9 = .ok (.if_icmp .ge 29, 3) := by decide +kernel
theorem dMd_hitBefore_12 : decode cMd_hitBefore 12 = .ok (.aload_n 0, 1) := by decide +kernel
theorem dMd_hitBefore_13 : decode cMd_hitBefore 13 = .ok (.iload 5, 2) := by decide +kernel
theorem dMd_hitBefore_15 : decode cMd_hitBefore 15 = .ok (.iload_n 2, 1) := by decide +kernel
theorem dMd_hitBefore_16 : decode cMd_hitBefore 16 = .ok (.iload_n 3, 1) := by decide +kernel
theorem dMd_hitBefore_17 : decode cMd_hitBefore 17 = .ok (.invokevirtual 101, 3) := by decide +kernel
theorem dMd_hitBefore_20 : decode cMd_hitBefore 20 = .ok (.ifCond .eq 8, 3) := by decide +kernel
theorem dMd_hitBefore_23 : decode cMd_hitBefore 23 = .ok (.iload 5, 2) := by decide +kernel
theorem dMd_hitBefore_25 : decode cMd_hitBefore 25 = .ok (.goto 5, 3) := by decide +kernel
theorem dMd_hitBefore_28 : decode cMd_hitBefore 28 = .ok (.iload 4, 2) := by decide +kernel
theorem dMd_hitBefore_30 : decode cMd_hitBefore 30 = .ok (.istore 4, 2) := by decide +kernel
theorem dMd_hitBefore_32 : decode cMd_hitBefore 32 = .ok (.iinc 5 1, 3) := by decide +kernel
theorem dMd_hitBefore_35 : decode cMd_hitBefore 35 = .ok (.goto (-29), 3) := by decide +kernel
