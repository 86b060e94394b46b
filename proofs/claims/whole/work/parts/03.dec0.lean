theorem dPK_behind_0 : decode cPK_behind 0 = .ok (.iload_n 0, 1) := by decide +kernel
theorem dPK_behind_1 : decode cPK_behind 1 = .ok (.iconst 1, 1) := by decide +kernel
theorem dPK_behind_2 : decode cPK_behind 2 = .ok (.ishl, 1) := by decide +kernel
theorem dPK_behind_3 : decode cPK_behind 3 = .ok (.iload_n 1, 1) := by decide +kernel
theorem dPK_behind_4 : decode cPK_behind 4 = .ok (.ifCond .eq 7, 3) := by decide +kernel
theorem dPK_behind_7 : decode cPK_behind 7 = .ok (.iconst 1, 1) := by decide +kernel
theorem dPK_behind_8 : decode cPK_behind 8 = .ok (.goto 4, 3) := by decide +kernel
theorem dPK_behind_11 : decode cPK_behind 11 = .ok (.iconst 0, 1) := by decide +kernel
theorem dPK_behind_12 : decode cPK_behind 12 = .ok (.ior, 1) := by decide +kernel
theorem dPK_behind_13 : decode cPK_behind 13 = .ok (.ireturn, 1) := by decide +kernel
theorem dPK_bitOf_0 : decode cPK_bitOf 0 = .ok (.iload_n 0, 1) := by decide +kernel
theorem dPK_bitOf_1 : decode cPK_bitOf 1 = .ok (.iload_n 1, 1) := by decide +kernel
theorem dPK_bitOf_2 : decode cPK_bitOf 2 = .ok (.iushr, 1) := by decide +kernel
theorem dPK_bitOf_3 : decode cPK_bitOf 3 = .ok (.iconst 1, 1) := by decide +kernel
theorem dPK_bitOf_4 : decode cPK_bitOf 4 = .ok (.iand, 1) := by decide +kernel
theorem dPK_bitOf_5 : decode cPK_bitOf 5 = .ok (.iconst 1, 1) := by decide +kernel
theorem dPK_bitOf_6 : decode cPK_bitOf 6 = .ok (.if_icmp .ne 7, 3) := by decide +kernel
theorem dPK_bitOf_9 : decode cPK_bitOf 9 = .ok (.iconst 1, 1) := by decide +kernel
theorem dPK_bitOf_10 : decode cPK_bitOf 10 = .ok (.goto 4, 3) := by decide +kernel
theorem dPK_bitOf_13 : decode cPK_bitOf 13 = .ok (.iconst 0, 1) := by decide +kernel
theorem dPK_bitOf_14 : decode cPK_bitOf 14 = .ok (.ireturn, 1) := by decide +kernel
theorem dPK_maskOf_0 : decode cPK_maskOf 0 = .ok (.iconst 1, 1) := by decide +kernel
theorem dPK_maskOf_1 : decode cPK_maskOf 1 = .ok (.iload_n 0, 1) := by decide +kernel
theorem dPK_maskOf_2 : decode cPK_maskOf 2 = .ok (.ishl, 1) := by decide +kernel
theorem dPK_maskOf_3 : decode cPK_maskOf 3 = .ok (.iconst 1, 1) := by decide +kernel
theorem dPK_maskOf_4 : decode cPK_maskOf 4 = .ok (.isub, 1) := by decide +kernel
theorem dPK_maskOf_5 : decode cPK_maskOf 5 = .ok (.ireturn, 1) := by decide +kernel
theorem dPK_folded_0 : decode cPK_folded 0 = .ok (.iload_n 2, 1) := by decide +kernel
theorem dPK_folded_1 : decode cPK_folded 1 = .ok (.invokestatic 184, 3) := by decide +kernel
theorem dPK_folded_4 : decode cPK_folded 4 = .ok (.istore_n 3, 1) := by decide +kernel
theorem dPK_folded_5 : decode cPK_folded 5 = .ok (.iload_n 0, 1) := by decide +kernel
theorem dPK_folded_6 : decode cPK_folded 6 = .ok (.iload_n 1, 1) := by decide +kernel
theorem dPK_folded_7 : decode cPK_folded 7 = .ok (.invokestatic 184, 3) := by decide +kernel
theorem dPK_folded_10 : decode cPK_folded 10 = .ok (.iand, 1) := by decide +kernel
theorem dPK_folded_11 : decode cPK_folded 11 = .ok (.istore 4, 2) := by decide +kernel
theorem dPK_folded_13 : decode cPK_folded 13 = .ok (.iconst 0, 1) := by decide +kernel
theorem dPK_folded_14 : decode cPK_folded 14 = .ok (.istore 5, 2) := by decide +kernel
theorem dPK_folded_16 : decode cPK_folded 16 = .ok (.iconst 0, 1) := by decide +kernel
theorem dPK_folded_17 : decode cPK_folded 17 = .ok (.istore 6, 2) := by decide +kernel
theorem dPK_folded_19 : decode cPK_folded 19 = .ok (.iload 6, 2) := by decide +kernel
theorem dPK_folded_21 : decode cPK_folded 21 = .ok (.iload_n 1, 1) := by decide +kernel
theorem dPK_folded_22 : decode cPK_folded 22 = .ok (.if_icmp .ge 24, 3) := by decide +kernel
theorem dPK_folded_25 : decode cPK_folded 25 = .ok (.iload 5, 2) := by decide +kernel
theorem dPK_folded_27 : decode cPK_folded 27 = .ok (.iload 4, 2) := by decide +kernel
theorem dPK_folded_29 : decode cPK_folded 29 = .ok (.iload_n 3, 1) := by decide +kernel
theorem dPK_folded_30 : decode cPK_folded 30 = .ok (.iand, 1) := by decide +kernel
theorem dPK_folded_31 : decode cPK_folded 31 = .ok (.ixor, 1) := by decide +kernel
theorem dPK_folded_32 : decode cPK_folded 32 = .ok (.istore 5, 2) := by decide +kernel
theorem dPK_folded_34 : decode cPK_folded 34 = .ok (.iload 4, 2) := by decide +kernel
theorem dPK_folded_36 : decode cPK_folded 36 = .ok (.iload_n 2, 1) := by decide +kernel
theorem dPK_folded_37 : decode cPK_folded 37 = .ok (.iushr, 1) := by decide +kernel
theorem dPK_folded_38 : decode cPK_folded 38 = .ok (.istore 4, 2) := by decide +kernel
theorem dPK_folded_40 : decode cPK_folded 40 = .ok (.iinc 6 1, 3) := by decide +kernel
theorem dPK_folded_43 : decode cPK_folded 43 = .ok (.goto (-24), 3) := by decide +kernel
theorem dPK_folded_46 : decode cPK_folded 46 = .ok (.iload 5, 2) := by decide +kernel
theorem dPK_folded_48 : decode cPK_folded 48 = .ok (.ireturn, 1) := by decide +kernel
theorem dPK_at_0 : decode cPK_at 0 = .ok (.iload_n 1, 1) := by decide +kernel
theorem dPK_at_1 : decode cPK_at 1 = .ok (.ifCond .lt 15, 3) := by decide +kernel
theorem dPK_at_4 : decode cPK_at 4 = .ok (.iload_n 1, 1) := by decide +kernel
theorem dPK_at_5 : decode cPK_at 5 = .ok (.aload_n 0, 1) := by decide +kernel
theorem dPK_at_6 : decode cPK_at 6 = .ok (.arraylength, 1) := by decide +kernel
theorem dPK_at_7 : decode cPK_at 7 = .ok (.if_icmp .ge 9, 3) := by decide +kernel
theorem dPK_at_10 : decode cPK_at 10 = .ok (.aload_n 0, 1) := by decide +kernel
theorem dPK_at_11 : decode cPK_at 11 = .ok (.iload_n 1, 1) := by decide +kernel
theorem dPK_at_12 : decode cPK_at 12 = .ok (.iaload, 1) := by decide +kernel
theorem dPK_at_13 : decode cPK_at 13 = .ok (.goto 4, 3) := by decide +kernel
theorem dPK_at_16 : decode cPK_at 16 = .ok (.iconst 0, 1) := by decide +kernel
theorem dPK_at_17 : decode cPK_at 17 = .ok (.ireturn, 1) := by decide +kernel
theorem dPK_put_0 : decode cPK_put 0 = .ok (.iload_n 1, 1) := by decide +kernel
theorem dPK_put_1 : decode cPK_put 1 = .ok (.ifCond .lt 13, 3) := by decide +kernel
theorem dPK_put_4 : decode cPK_put 4 = .ok (.iload_n 1, 1) := by decide +kernel
theorem dPK_put_5 : decode cPK_put 5 = .ok (.aload_n 0, 1) := by decide +kernel
theorem dPK_put_6 : decode cPK_put 6 = .ok (.arraylength, 1) := by decide +kernel
theorem dPK_put_7 : decode cPK_put 7 = .ok (.if_icmp .ge 7, 3) := by decide +kernel
theorem dPK_put_10 : decode cPK_put 10 = .ok (.aload_n 0, 1) := by decide +kernel
theorem dPK_put_11 : decode cPK_put 11 = .ok (.iload_n 1, 1) := by decide +kernel
theorem dPK_put_12 : decode cPK_put 12 = .ok (.iload_n 2, 1) := by decide +kernel
theorem dPK_put_13 : decode cPK_put 13 = .ok (.iastore, 1) := by decide +kernel
theorem dPK_put_14 : decode cPK_put 14 = .ok (.return_, 1) := by decide +kernel
theorem dPK_step_0 : decode cPK_step 0 = .ok (.aload_n 0, 1) := by decide +kernel
theorem dPK_step_1 : decode cPK_step 1 = .ok (.iload_n 1, 1) := by decide +kernel
theorem dPK_step_2 : decode cPK_step 2 = .ok (.invokestatic 119, 3) := by decide +kernel
theorem dPK_step_5 : decode cPK_step 5 = .ok (.istore 5, 2) := by decide +kernel
theorem dPK_step_7 : decode cPK_step 7 = .ok (.iload_n 2, 1) := by decide +kernel
theorem dPK_step_8 : decode cPK_step 8 = .ok (.ifCond .eq 22, 3) := by decide +kernel
theorem dPK_step_11 : decode cPK_step 11 = .ok (.iload 5, 2) := by decide +kernel
theorem dPK_step_13 : decode cPK_step 13 = .ok (.iload 4, 2) := by decide +kernel
theorem dPK_step_15 : decode cPK_step 15 = .ok (.if_icmp .ge 15, 3) := by decide +kernel
theorem dPK_step_18 : decode cPK_step 18 = .ok (.aload_n 0, 1) := by decide +kernel
theorem dPK_step_19 : decode cPK_step 19 = .ok (.iload_n 1, 1) := by decide +kernel
theorem dPK_step_20 : decode cPK_step 20 = .ok (.iload 5, 2) := by decide +kernel
theorem dPK_step_22 : decode cPK_step 22 = .ok (.iconst 1, 1) := by decide +kernel
theorem dPK_step_23 : decode cPK_step 23 = .ok (.iadd, 1) := by decide +kernel
theorem dPK_step_24 : decode cPK_step 24 = .ok (.invokestatic 110, 3) := by decide +kernel
theorem dPK_step_27 : decode cPK_step 27 = .ok (.goto 22, 3) := by decide +kernel
theorem dPK_step_30 : decode cPK_step 30 = .ok (.iload_n 2, 1) := by decide +kernel
theorem dPK_step_31 : decode cPK_step 31 = .ok (.ifCond .ne 18, 3) := by decide +kernel
theorem dPK_step_34 : decode cPK_step 34 = .ok (.iload 5, 2) := by decide +kernel
theorem dPK_step_36 : decode cPK_step 36 = .ok (.iload_n 3, 1) := by decide +kernel
theorem dPK_step_37 : decode cPK_step 37 = .ok (.if_icmp .le 12, 3) := by decide +kernel
theorem dPK_step_40 : decode cPK_step 40 = .ok (.aload_n 0, 1) := by decide +kernel
theorem dPK_step_41 : decode cPK_step 41 = .ok (.iload_n 1, 1) := by decide +kernel
theorem dPK_step_42 : decode cPK_step 42 = .ok (.iload 5, 2) := by decide +kernel
theorem dPK_step_44 : decode cPK_step 44 = .ok (.iconst 1, 1) := by decide +kernel
theorem dPK_step_45 : decode cPK_step 45 = .ok (.isub, 1) := by decide +kernel
theorem dPK_step_46 : decode cPK_step 46 = .ok (.invokestatic 110, 3) := by decide +kernel
theorem dPK_step_49 : decode cPK_step 49 = .ok (.return_, 1) := by decide +kernel
theorem dPK_stepCounter_0 : decode cPK_stepCounter 0 = .ok (.aload_n 0, 1) := by decide +kernel
theorem dPK_stepCounter_1 : decode cPK_stepCounter 1 = .ok (.iload_n 1, 1) := by decide +kernel
theorem dPK_stepCounter_2 : decode cPK_stepCounter 2 = .ok (.iload_n 2, 1) := by decide +kernel
theorem dPK_stepCounter_3 : decode cPK_stepCounter 3 = .ok (.iconst 0, 1) := by decide +kernel
theorem dPK_stepCounter_4 : decode cPK_stepCounter 4 = .ok (.iconst 3, 1) := by decide +kernel
theorem dPK_stepCounter_5 : decode cPK_stepCounter 5 = .ok (.invokestatic 193, 3) := by decide +kernel
theorem dPK_stepCounter_8 : decode cPK_stepCounter 8 = .ok (.return_, 1) := by decide +kernel
theorem dWaiting_length_0 : decode cWaiting_length 0 = .ok (.aload_n 0, 1) := by decide +kernel
theorem dWaiting_length_1 : decode cWaiting_length 1 = .ok (.getfield 25, 3) := by decide +kernel
theorem dWaiting_length_4 : decode cWaiting_length 4 = .ok (.ireturn, 1) := by decide +kernel
theorem dWaiting_hasRoom_0 : decode cWaiting_hasRoom 0 = .ok (.aload_n 0, 1) := by decide +kernel
theorem dWaiting_hasRoom_1 : decode cWaiting_hasRoom 1 = .ok (.getfield 25, 3) := by decide +kernel
theorem dWaiting_hasRoom_4 : decode cWaiting_hasRoom 4 = .ok (.bipush 64, 2) := by decide +kernel
theorem dWaiting_hasRoom_6 : decode cWaiting_hasRoom 6 = .ok (.if_icmp .ge 7, 3) := by decide +kernel
theorem dWaiting_hasRoom_9 : decode cWaiting_hasRoom 9 = .ok (.iconst 1, 1) := by decide +kernel
theorem dWaiting_hasRoom_10 : decode cWaiting_hasRoom 10 = .ok (.goto 4, 3) := by decide +kernel
theorem dWaiting_hasRoom_13 : decode cWaiting_hasRoom 13 = .ok (.iconst 0, 1) := by decide +kernel
theorem dWaiting_hasRoom_14 : decode cWaiting_hasRoom 14 = .ok (.ireturn, 1) := by decide +kernel
theorem dWaiting_fill_0 : decode cWaiting_fill 0 = .ok (.aload_n 0, 1) := by decide +kernel
theorem dWaiting_fill_1 : decode cWaiting_fill 1 = .ok (.getfield 13, 3) := by decide +kernel
theorem dWaiting_fill_4 : decode cWaiting_fill 4 = .ok (.iload_n 1, 1) := by decide +kernel
theorem dWaiting_fill_5 : decode cWaiting_fill 5 = .ok (.iload_n 2, 1) := by decide +kernel
theorem dWaiting_fill_6 : decode cWaiting_fill 6 = .ok (.invokestatic 41, 3) := by decide +kernel
theorem dWaiting_fill_9 : decode cWaiting_fill 9 = .ok (.aload_n 0, 1) := by decide +kernel
theorem dWaiting_fill_10 : decode cWaiting_fill 10 = .ok (.getfield 19, 3) := by decide +kernel
theorem dWaiting_fill_13 : decode cWaiting_fill 13 = .ok (.iload_n 1, 1) := by decide +kernel
theorem dWaiting_fill_14 : decode cWaiting_fill 14 = .ok (.iload_n 3, 1) := by decide +kernel
theorem dWaiting_fill_15 : decode cWaiting_fill 15 = .ok (.invokestatic 41, 3) := by decide +kernel
theorem dWaiting_fill_18 : decode cWaiting_fill 18 = .ok (.aload_n 0, 1) := by decide +kernel
theorem dWaiting_fill_19 : decode cWaiting_fill 19 = .ok (.getfield 22, 3) := by decide +kernel
theorem dWaiting_fill_22 : decode cWaiting_fill 22 = .ok (.iload_n 1, 1) := by decide +kernel
theorem dWaiting_fill_23 : decode cWaiting_fill 23 = .ok (.iload 4, 2) := by decide +kernel
theorem dWaiting_fill_25 : decode cWaiting_fill 25 = .ok (.invokestatic 41, 3) := by decide +kernel
theorem dWaiting_fill_28 : decode cWaiting_fill 28 = .ok (.return_, 1) := by decide +kernel
theorem dWaiting_add_0 : decode cWaiting_add 0 = .ok (.aload_n 0, 1) := by decide +kernel
theorem dWaiting_add_1 : decode cWaiting_add 1 = .ok (.invokevirtual 29, 3) := by decide +kernel
theorem dWaiting_add_4 : decode cWaiting_add 4 = .ok (.ifCond .eq 32, 3) := by decide +kernel
theorem dWaiting_add_7 : decode cWaiting_add 7 = .ok (.aload_n 0, 1) := by decide +kernel
theorem dWaiting_add_8 : decode cWaiting_add 8 = .ok (.aload_n 0, 1) := by decide +kernel
theorem dWaiting_add_9 : decode cWaiting_add 9 = .ok (.getfield 25, 3) := by decide +kernel
theorem dWaiting_add_12 : decode cWaiting_add 12 = .ok (.iload_n 1, 1) := by decide +kernel
theorem dWaiting_add_13 : decode cWaiting_add 13 = .ok (.iload_n 2, 1) := by decide +kernel
theorem dWaiting_add_14 : decode cWaiting_add 14 = .ok (.iload_n 3, 1) := by decide +kernel
theorem dWaiting_add_15 : decode cWaiting_add 15 = .ok (.ifCond .eq 7, 3) := by decide +kernel
theorem dWaiting_add_18 : decode cWaiting_add 18 = .ok (.iconst 1, 1) := by decide +kernel
theorem dWaiting_add_19 : decode cWaiting_add 19 = .ok (.goto 4, 3) := by decide +kernel
theorem dWaiting_add_22 : decode cWaiting_add 22 = .ok (.iconst 0, 1) := by decide +kernel
theorem dWaiting_add_23 : decode cWaiting_add 23 = .ok (.invokevirtual 33, 3) := by decide +kernel
theorem dWaiting_add_26 : decode cWaiting_add 26 = .ok (.aload_n 0, 1) := by decide +kernel
theorem dWaiting_add_27 : decode cWaiting_add 27 = .ok (.dup, 1) := by decide +kernel
theorem dWaiting_add_28 : decode cWaiting_add 28 = .ok (.getfield 25, 3) := by decide +kernel
theorem dWaiting_add_31 : decode cWaiting_add 31 = .ok (.iconst 1, 1) := by decide +kernel
theorem dWaiting_add_32 : decode cWaiting_add 32 = .ok (.iadd, 1) := by decide +kernel
theorem dWaiting_add_33 : decode cWaiting_add 33 = .ok (.putfield 25, 3) := by decide +kernel
theorem dWaiting_add_36 : decode cWaiting_add 36 = .ok (.return_, 1) := by decide +kernel
theorem dWaiting_oldestOf_0 : decode cWaiting_oldestOf 0 = .ok (.iconst 0, 1) := by decide +kernel
theorem dWaiting_oldestOf_1 : decode cWaiting_oldestOf 1 = .ok (.istore_n 2, 1) := by decide +kernel
theorem dWaiting_oldestOf_2 : decode cWaiting_oldestOf 2 = .ok (.iload_n 2, 1) := by decide +kernel
theorem dWaiting_oldestOf_3 : decode cWaiting_oldestOf 3 = .ok (.aload_n 0, 1) := by decide +kernel
theorem dWaiting_oldestOf_4 : decode cWaiting_oldestOf 4 = .ok (.getfield 25, 3) := by decide +kernel
theorem dWaiting_oldestOf_7 : decode cWaiting_oldestOf 7 = .ok (.if_icmp .ge 23, 3) := by decide +kernel
theorem dWaiting_oldestOf_10 : decode cWaiting_oldestOf 10 = .ok (.aload_n 0, 1) := by decide +kernel
theorem dWaiting_oldestOf_11 : decode cWaiting_oldestOf 11 = .ok (.getfield 13, 3) := by decide +kernel
theorem dWaiting_oldestOf_14 : decode cWaiting_oldestOf 14 = .ok (.iload_n 2, 1) := by decide +kernel
theorem dWaiting_oldestOf_15 : decode cWaiting_oldestOf 15 = .ok (.invokestatic 37, 3) := by decide +kernel
theorem dWaiting_oldestOf_18 : decode cWaiting_oldestOf 18 = .ok (.iload_n 1, 1) := by decide +kernel
theorem dWaiting_oldestOf_19 : decode cWaiting_oldestOf 19 = .ok (.if_icmp .ne 5, 3) := by decide +kernel
theorem dWaiting_oldestOf_22 : decode cWaiting_oldestOf 22 = .ok (.iload_n 2, 1) := by decide +kernel
theorem dWaiting_oldestOf_23 : decode cWaiting_oldestOf 23 = .ok (.ireturn, 1) := by decide +kernel
theorem dWaiting_oldestOf_24 : decode cWaiting_oldestOf 24 = .ok (.iinc 2 1, 3) := by decide +kernel
theorem dWaiting_oldestOf_27 : decode cWaiting_oldestOf 27 = .ok (.goto (-25), 3) := by decide +kernel
theorem dWaiting_oldestOf_30 : decode cWaiting_oldestOf 30 = .ok (.iconst (-1), 1) := by decide +kernel
theorem dWaiting_oldestOf_31 : decode cWaiting_oldestOf 31 = .ok (.ireturn, 1) := by decide +kernel
theorem dWaiting_historyBefore_0 : decode cWaiting_historyBefore 0 = .ok (.aload_n 0, 1) := by decide +kernel
theorem dWaiting_historyBefore_1 : decode cWaiting_historyBefore 1 = .ok (.getfield 19, 3) := by decide +kernel
theorem dWaiting_historyBefore_4 : decode cWaiting_historyBefore 4 = .ok (.iload_n 1, 1) := by decide +kernel
theorem dWaiting_historyBefore_5 : decode cWaiting_historyBefore 5 = .ok (.invokestatic 37, 3) := by decide +kernel
theorem dWaiting_historyBefore_8 : decode cWaiting_historyBefore 8 = .ok (.ireturn, 1) := by decide +kernel
theorem dWaiting_wasSaid_0 : decode cWaiting_wasSaid 0 = .ok (.aload_n 0, 1) := by decide +kernel
theorem dWaiting_wasSaid_1 : decode cWaiting_wasSaid 1 = .ok (.getfield 22, 3) := by decide +kernel
theorem dWaiting_wasSaid_4 : decode cWaiting_wasSaid 4 = .ok (.iload_n 1, 1) := by decide +kernel
theorem dWaiting_wasSaid_5 : decode cWaiting_wasSaid 5 = .ok (.invokestatic 37, 3) := by decide +kernel
theorem dWaiting_wasSaid_8 : decode cWaiting_wasSaid 8 = .ok (.iconst 1, 1) := by decide +kernel
theorem dWaiting_wasSaid_9 : decode cWaiting_wasSaid 9 = .ok (.if_icmp .ne 7, 3) := by decide +kernel
theorem dWaiting_wasSaid_12 : decode cWaiting_wasSaid 12 = .ok (.iconst 1, 1) := by decide +kernel
theorem dWaiting_wasSaid_13 : decode cWaiting_wasSaid 13 = .ok (.goto 4, 3) := by decide +kernel
theorem dWaiting_wasSaid_16 : decode cWaiting_wasSaid 16 = .ok (.iconst 0, 1) := by decide +kernel
theorem dWaiting_wasSaid_17 : decode cWaiting_wasSaid 17 = .ok (.ireturn, 1) := by decide +kernel
theorem dWaiting_remove_0 : decode cWaiting_remove 0 = .ok (.iload_n 1, 1) := by decide +kernel
theorem dWaiting_remove_1 : decode cWaiting_remove 1 = .ok (.ifCond .lt 11, 3) := by decide +kernel
theorem dWaiting_remove_4 : decode cWaiting_remove 4 = .ok (.iload_n 1, 1) := by decide +kernel
theorem dWaiting_remove_5 : decode cWaiting_remove 5 = .ok (.aload_n 0, 1) := by decide +kernel
theorem dWaiting_remove_6 : decode cWaiting_remove 6 = .ok (.getfield 25, 3) := by decide +kernel
theorem dWaiting_remove_9 : decode cWaiting_remove 9 = .ok (.if_icmp .lt 4, 3) := by decide +kernel
theorem dWaiting_remove_12 : decode cWaiting_remove 12 = .ok (.return_, 1) := by decide +kernel
theorem dWaiting_remove_13 : decode cWaiting_remove 13 = .ok (.iload_n 1, 1) := by decide +kernel
theorem dWaiting_remove_14 : decode cWaiting_remove 14 = .ok (.istore_n 2, 1) := by decide +kernel
theorem dWaiting_remove_15 : decode cWaiting_remove 15 = .ok (.iload_n 2, 1) := by decide +kernel
theorem dWaiting_remove_16 : decode cWaiting_remove 16 = .ok (.aload_n 0, 1) := by decide +kernel
theorem dWaiting_remove_17 : decode cWaiting_remove 17 = .ok (.getfield 25, 3) := by decide +kernel
theorem dWaiting_remove_20 : decode cWaiting_remove 20 = .ok (.iconst 1, 1) := by decide +kernel
theorem dWaiting_remove_21 : decode cWaiting_remove 21 = .ok (.isub, 1) := by decide +kernel
theorem dWaiting_remove_22 : decode cWaiting_remove 22 = .ok (.if_icmp .ge 44, 3) := by decide +kernel
theorem dWaiting_remove_25 : decode cWaiting_remove 25 = .ok (.aload_n 0, 1) := by decide +kernel
theorem dWaiting_remove_26 : decode cWaiting_remove 26 = .ok (.iload_n 2, 1) := by decide +kernel
theorem dWaiting_remove_27 : decode cWaiting_remove 27 = .ok (.aload_n 0, 1) := by decide +kernel
theorem dWaiting_remove_28 : decode cWaiting_remove 28 = .ok (.getfield 13, 3) := by decide +kernel
theorem dWaiting_remove_31 : decode cWaiting_remove 31 = .ok (.iload_n 2, 1) := by decide +kernel
theorem dWaiting_remove_32 : decode cWaiting_remove 32 = .ok (.iconst 1, 1) := by decide +kernel
theorem dWaiting_remove_33 : decode cWaiting_remove 33 = .ok (.iadd, 1) := by decide +kernel
theorem dWaiting_remove_34 : decode cWaiting_remove 34 = .ok (.invokestatic 37, 3) := by decide +kernel
theorem dWaiting_remove_37 : decode cWaiting_remove 37 = .ok (.aload_n 0, 1) := by decide +kernel
theorem dWaiting_remove_38 : decode cWaiting_remove 38 = .ok (.getfield 19, 3) := by decide +kernel
theorem dWaiting_remove_41 : decode cWaiting_remove 41 = .ok (.iload_n 2, 1) := by decide +kernel
theorem dWaiting_remove_42 : decode cWaiting_remove 42 = .ok (.iconst 1, 1) := by decide +kernel
theorem dWaiting_remove_43 : decode cWaiting_remove 43 = .ok (.iadd, 1) := by decide +kernel
theorem dWaiting_remove_44 : decode cWaiting_remove 44 = .ok (.invokestatic 37, 3) := by decide +kernel
theorem dWaiting_remove_47 : decode cWaiting_remove 47 = .ok (.aload_n 0, 1) := by decide +kernel
theorem dWaiting_remove_48 : decode cWaiting_remove 48 = .ok (.getfield 22, 3) := by decide +kernel
theorem dWaiting_remove_51 : decode cWaiting_remove 51 = .ok (.iload_n 2, 1) := by decide +kernel
theorem dWaiting_remove_52 : decode cWaiting_remove 52 = .ok (.iconst 1, 1) := by decide +kernel
theorem dWaiting_remove_53 : decode cWaiting_remove 53 = .ok (.iadd, 1) := by decide +kernel
theorem dWaiting_remove_54 : decode cWaiting_remove 54 = .ok (.invokestatic 37, 3) := by decide +kernel
theorem dWaiting_remove_57 : decode cWaiting_remove 57 = .ok (.invokevirtual 33, 3) := by decide +kernel
theorem dWaiting_remove_60 : decode cWaiting_remove 60 = .ok (.iinc 2 1, 3) := by decide +kernel
theorem dWaiting_remove_63 : decode cWaiting_remove 63 = .ok (.goto (-48), 3) := by decide +kernel
theorem dWaiting_remove_66 : decode cWaiting_remove 66 = .ok (.aload_n 0, 1) := by decide +kernel
theorem dWaiting_remove_67 : decode cWaiting_remove 67 = .ok (.dup, 1) := by decide +kernel
theorem dWaiting_remove_68 : decode cWaiting_remove 68 = .ok (.getfield 25, 3) := by decide +kernel
theorem dWaiting_remove_71 : decode cWaiting_remove 71 = .ok (.iconst 1, 1) := by decide +kernel
theorem dWaiting_remove_72 : decode cWaiting_remove 72 = .ok (.isub, 1) := by decide +kernel
theorem dWaiting_remove_73 : decode cWaiting_remove 73 = .ok (.putfield 25, 3) := by decide +kernel
theorem dWaiting_remove_76 : decode cWaiting_remove 76 = .ok (.return_, 1) := by decide +kernel
theorem dWaiting_lose_0 : decode cWaiting_lose 0 = .ok (.aload_n 0, 1) := by decide +kernel
theorem dWaiting_lose_1 : decode cWaiting_lose 1 = .ok (.iconst 0, 1) := by decide +kernel
theorem dWaiting_lose_2 : decode cWaiting_lose 2 = .ok (.putfield 25, 3) := by decide +kernel
theorem dWaiting_lose_5 : decode cWaiting_lose 5 = .ok (.return_, 1) := by decide +kernel
theorem dKind_plainRow_0 : decode cKind_plainRow 0 = .ok (.iload_n 1, 1) := by decide +kernel
theorem dKind_plainRow_1 : decode cKind_plainRow 1 = .ok (.iload_n 1, 1) := by decide +kernel
theorem dKind_plainRow_2 : decode cKind_plainRow 2 = .ok (.aload_n 0, 1) := by decide +kernel
theorem dKind_plainRow_3 : decode cKind_plainRow 3 = .ok (.getfield 7, 3) := by decide +kernel
theorem dKind_plainRow_6 : decode cKind_plainRow 6 = .ok (.iushr, 1) := by decide +kernel
theorem dKind_plainRow_7 : decode cKind_plainRow 7 = .ok (.ixor, 1) := by decide +kernel
theorem dKind_plainRow_8 : decode cKind_plainRow 8 = .ok (.aload_n 0, 1) := by decide +kernel
theorem dKind_plainRow_9 : decode cKind_plainRow 9 = .ok (.getfield 16, 3) := by decide +kernel
theorem dKind_plainRow_12 : decode cKind_plainRow 12 = .ok (.iand, 1) := by decide +kernel
theorem dKind_plainRow_13 : decode cKind_plainRow 13 = .ok (.ireturn, 1) := by decide +kernel
theorem dKind_answering_0 : decode cKind_answering 0 = .ok (.iconst 0, 1) := by decide +kernel
theorem dKind_answering_1 : decode cKind_answering 1 = .ok (.ireturn, 1) := by decide +kernel
theorem dAlways_number_0 : decode cAlways_number 0 = .ok (.iconst 1, 1) := by decide +kernel
theorem dAlways_number_1 : decode cAlways_number 1 = .ok (.ireturn, 1) := by decide +kernel
theorem dAlways_says_0 : decode cAlways_says 0 = .ok (.iconst 1, 1) := by decide +kernel
theorem dAlways_says_1 : decode cAlways_says 1 = .ok (.ireturn, 1) := by decide +kernel
theorem dAlways_learn_0 : decode cAlways_learn 0 = .ok (.return_, 1) := by decide +kernel
theorem dAlways_bits_0 : decode cAlways_bits 0 = .ok (.iconst 0, 1) := by decide +kernel
theorem dAlways_bits_1 : decode cAlways_bits 1 = .ok (.ireturn, 1) := by decide +kernel
theorem dLast_number_0 : decode cLast_number 0 = .ok (.aload_n 0, 1) := by decide +kernel
theorem dLast_number_1 : decode cLast_number 1 = .ok (.getfield 19, 3) := by decide +kernel
theorem dLast_number_4 : decode cLast_number 4 = .ok (.aload_n 0, 1) := by decide +kernel
theorem dLast_number_5 : decode cLast_number 5 = .ok (.iload_n 1, 1) := by decide +kernel
theorem dLast_number_6 : decode cLast_number 6 = .ok (.invokevirtual 27, 3) := by decide +kernel
theorem dLast_number_9 : decode cLast_number 9 = .ok (.invokestatic 35, 3) := by decide +kernel
theorem dLast_number_12 : decode cLast_number 12 = .ok (.ireturn, 1) := by decide +kernel
theorem dLast_says_0 : decode cLast_says 0 = .ok (.aload_n 0, 1) := by decide +kernel
theorem dLast_says_1 : decode cLast_says 1 = .ok (.iload_n 1, 1) := by decide +kernel
theorem dLast_says_2 : decode cLast_says 2 = .ok (.iload_n 2, 1) := by decide +kernel
theorem dLast_says_3 : decode cLast_says 3 = .ok (.invokevirtual 23, 3) := by decide +kernel
theorem dLast_says_6 : decode cLast_says 6 = .ok (.iconst 1, 1) := by decide +kernel
theorem dLast_says_7 : decode cLast_says 7 = .ok (.if_icmp .ne 7, 3) := by decide +kernel
theorem dLast_says_10 : decode cLast_says 10 = .ok (.iconst 1, 1) := by decide +kernel
theorem dLast_says_11 : decode cLast_says 11 = .ok (.goto 4, 3) := by decide +kernel
theorem dLast_says_14 : decode cLast_says 14 = .ok (.iconst 0, 1) := by decide +kernel
theorem dLast_says_15 : decode cLast_says 15 = .ok (.ireturn, 1) := by decide +kernel
theorem dLast_learn_0 : decode cLast_learn 0 = .ok (.aload_n 0, 1) := by decide +kernel
theorem dLast_learn_1 : decode cLast_learn 1 = .ok (.getfield 19, 3) := by decide +kernel
theorem dLast_learn_4 : decode cLast_learn 4 = .ok (.aload_n 0, 1) := by decide +kernel
theorem dLast_learn_5 : decode cLast_learn 5 = .ok (.iload_n 1, 1) := by decide +kernel
theorem dLast_learn_6 : decode cLast_learn 6 = .ok (.invokevirtual 27, 3) := by decide +kernel
theorem dLast_learn_9 : decode cLast_learn 9 = .ok (.iload_n 3, 1) := by decide +kernel
theorem dLast_learn_10 : decode cLast_learn 10 = .ok (.ifCond .eq 7, 3) := by decide +kernel
theorem dLast_learn_13 : decode cLast_learn 13 = .ok (.iconst 1, 1) := by decide +kernel
theorem dLast_learn_14 : decode cLast_learn 14 = .ok (.goto 4, 3) := by decide +kernel
theorem dLast_learn_17 : decode cLast_learn 17 = .ok (.iconst 0, 1) := by decide +kernel
theorem dLast_learn_18 : decode cLast_learn 18 = .ok (.invokestatic 31, 3) := by decide +kernel
theorem dLast_learn_21 : decode cLast_learn 21 = .ok (.return_, 1) := by decide +kernel
theorem dLast_bits_0 : decode cLast_bits 0 = .ok (.aload_n 0, 1) := by decide +kernel
theorem dLast_bits_1 : decode cLast_bits 1 = .ok (.getfield 7, 3) := by decide +kernel
theorem dLast_bits_4 : decode cLast_bits 4 = .ok (.ireturn, 1) := by decide +kernel
theorem dCounters_counterRow_0 : decode cCounters_counterRow 0 = .ok (.aload_n 0, 1) := by decide +kernel
theorem dCounters_counterRow_1 : decode cCounters_counterRow 1 = .ok (.getfield 9, 3) := by decide +kernel
theorem dCounters_counterRow_4 : decode cCounters_counterRow 4 = .ok (.ifCond .eq 14, 3) := by decide +kernel
theorem dCounters_counterRow_7 : decode cCounters_counterRow 7 = .ok (.iload_n 1, 1) := by decide +kernel
theorem dCounters_counterRow_8 : decode cCounters_counterRow 8 = .ok (.iload_n 2, 1) := by decide +kernel
theorem dCounters_counterRow_9 : decode cCounters_counterRow 9 = .ok (.ixor, 1) := by decide +kernel
theorem dCounters_counterRow_10 : decode cCounters_counterRow 10 = .ok (.aload_n 0, 1) := by decide +kernel
theorem dCounters_counterRow_11 : decode cCounters_counterRow 11 = .ok (.getfield 39, 3) := by decide +kernel
theorem dCounters_counterRow_14 : decode cCounters_counterRow 14 = .ok (.iand, 1) := by decide +kernel
theorem dCounters_counterRow_15 : decode cCounters_counterRow 15 = .ok (.goto 8, 3) := by decide +kernel
theorem dCounters_counterRow_18 : decode cCounters_counterRow 18 = .ok (.aload_n 0, 1) := by decide +kernel
theorem dCounters_counterRow_19 : decode cCounters_counterRow 19 = .ok (.iload_n 1, 1) := by decide +kernel
theorem dCounters_counterRow_20 : decode cCounters_counterRow 20 = .ok (.invokevirtual 42, 3) := by decide +kernel
theorem dCounters_counterRow_23 : decode cCounters_counterRow 23 = .ok (.ireturn, 1) := by decide +kernel
theorem dCounters_number_0 : decode cCounters_number 0 = .ok (.aload_n 0, 1) := by decide +kernel
theorem dCounters_number_1 : decode cCounters_number 1 = .ok (.getfield 23, 3) := by decide +kernel
theorem dCounters_number_4 : decode cCounters_number 4 = .ok (.aload_n 0, 1) := by decide +kernel
theorem dCounters_number_5 : decode cCounters_number 5 = .ok (.iload_n 1, 1) := by decide +kernel
theorem dCounters_number_6 : decode cCounters_number 6 = .ok (.iload_n 2, 1) := by decide +kernel
theorem dCounters_number_7 : decode cCounters_number 7 = .ok (.invokevirtual 27, 3) := by decide +kernel
theorem dCounters_number_10 : decode cCounters_number 10 = .ok (.invokestatic 31, 3) := by decide +kernel
theorem dCounters_number_13 : decode cCounters_number 13 = .ok (.ireturn, 1) := by decide +kernel
theorem dCounters_says_0 : decode cCounters_says 0 = .ok (.aload_n 0, 1) := by decide +kernel
theorem dCounters_says_1 : decode cCounters_says 1 = .ok (.getfield 23, 3) := by decide +kernel
theorem dCounters_says_4 : decode cCounters_says 4 = .ok (.aload_n 0, 1) := by decide +kernel
theorem dCounters_says_5 : decode cCounters_says 5 = .ok (.iload_n 1, 1) := by decide +kernel
theorem dCounters_says_6 : decode cCounters_says 6 = .ok (.iload_n 2, 1) := by decide +kernel
theorem dCounters_says_7 : decode cCounters_says 7 = .ok (.invokevirtual 27, 3) := by decide +kernel
theorem dCounters_says_10 : decode cCounters_says 10 = .ok (.invokestatic 31, 3) := by decide +kernel
theorem dCounters_says_13 : decode cCounters_says 13 = .ok (.iconst 2, 1) := by decide +kernel
theorem dCounters_says_14 : decode cCounters_says 14 = .ok (.if_icmp .lt 7, 3) := by decide +kernel
theorem dCounters_says_17 : decode cCounters_says 17 = .ok (.iconst 1, 1) := by decide +kernel
theorem dCounters_says_18 : decode cCounters_says 18 = .ok (.goto 4, 3) := by decide +kernel
theorem dCounters_says_21 : decode cCounters_says 21 = .ok (.iconst 0, 1) := by decide +kernel
theorem dCounters_says_22 : decode cCounters_says 22 = .ok (.ireturn, 1) := by decide +kernel
theorem dCounters_learn_0 : decode cCounters_learn 0 = .ok (.aload_n 0, 1) := by decide +kernel
theorem dCounters_learn_1 : decode cCounters_learn 1 = .ok (.getfield 23, 3) := by decide +kernel
theorem dCounters_learn_4 : decode cCounters_learn 4 = .ok (.aload_n 0, 1) := by decide +kernel
theorem dCounters_learn_5 : decode cCounters_learn 5 = .ok (.iload_n 1, 1) := by decide +kernel
theorem dCounters_learn_6 : decode cCounters_learn 6 = .ok (.iload_n 2, 1) := by decide +kernel
theorem dCounters_learn_7 : decode cCounters_learn 7 = .ok (.invokevirtual 27, 3) := by decide +kernel
theorem dCounters_learn_10 : decode cCounters_learn 10 = .ok (.iload_n 3, 1) := by decide +kernel
theorem dCounters_learn_11 : decode cCounters_learn 11 = .ok (.invokestatic 35, 3) := by decide +kernel
theorem dCounters_learn_14 : decode cCounters_learn 14 = .ok (.return_, 1) := by decide +kernel
theorem dCounters_bits_0 : decode cCounters_bits 0 = .ok (.iconst 2, 1) := by decide +kernel
theorem dCounters_bits_1 : decode cCounters_bits 1 = .ok (.aload_n 0, 1) := by decide +kernel
theorem dCounters_bits_2 : decode cCounters_bits 2 = .ok (.getfield 15, 3) := by decide +kernel
theorem dCounters_bits_5 : decode cCounters_bits 5 = .ok (.imul, 1) := by decide +kernel
theorem dCounters_bits_6 : decode cCounters_bits 6 = .ok (.aload_n 0, 1) := by decide +kernel
theorem dCounters_bits_7 : decode cCounters_bits 7 = .ok (.getfield 9, 3) := by decide +kernel
theorem dCounters_bits_10 : decode cCounters_bits 10 = .ok (.ifCond .eq 8, 3) := by decide +kernel
theorem dCounters_bits_13 : decode cCounters_bits 13 = .ok (.bipush 32, 2) := by decide +kernel
theorem dCounters_bits_15 : decode cCounters_bits 15 = .ok (.goto 4, 3) := by decide +kernel
theorem dCounters_bits_18 : decode cCounters_bits 18 = .ok (.iconst 0, 1) := by decide +kernel
theorem dCounters_bits_19 : decode cCounters_bits 19 = .ok (.iadd, 1) := by decide +kernel
theorem dCounters_bits_20 : decode cCounters_bits 20 = .ok (.ireturn, 1) := by decide +kernel
theorem dOwn_number_0 : decode cOwn_number 0 = .ok (.aload_n 0, 1) := by decide +kernel
theorem dOwn_number_1 : decode cOwn_number 1 = .ok (.getfield 23, 3) := by decide +kernel
theorem dOwn_number_4 : decode cOwn_number 4 = .ok (.aload_n 0, 1) := by decide +kernel
theorem dOwn_number_5 : decode cOwn_number 5 = .ok (.getfield 19, 3) := by decide +kernel
theorem dOwn_number_8 : decode cOwn_number 8 = .ok (.aload_n 0, 1) := by decide +kernel
theorem dOwn_number_9 : decode cOwn_number 9 = .ok (.iload_n 1, 1) := by decide +kernel
theorem dOwn_number_10 : decode cOwn_number 10 = .ok (.invokevirtual 30, 3) := by decide +kernel
theorem dOwn_number_13 : decode cOwn_number 13 = .ok (.invokestatic 34, 3) := by decide +kernel
theorem dOwn_number_16 : decode cOwn_number 16 = .ok (.invokestatic 34, 3) := by decide +kernel
theorem dOwn_number_19 : decode cOwn_number 19 = .ok (.ireturn, 1) := by decide +kernel
theorem dOwn_says_0 : decode cOwn_says 0 = .ok (.aload_n 0, 1) := by decide +kernel
theorem dOwn_says_1 : decode cOwn_says 1 = .ok (.iload_n 1, 1) := by decide +kernel
theorem dOwn_says_2 : decode cOwn_says 2 = .ok (.iload_n 2, 1) := by decide +kernel
theorem dOwn_says_3 : decode cOwn_says 3 = .ok (.invokevirtual 26, 3) := by decide +kernel
theorem dOwn_says_6 : decode cOwn_says 6 = .ok (.iconst 2, 1) := by decide +kernel
theorem dOwn_says_7 : decode cOwn_says 7 = .ok (.if_icmp .lt 7, 3) := by decide +kernel
theorem dOwn_says_10 : decode cOwn_says 10 = .ok (.iconst 1, 1) := by decide +kernel
theorem dOwn_says_11 : decode cOwn_says 11 = .ok (.goto 4, 3) := by decide +kernel
theorem dOwn_says_14 : decode cOwn_says 14 = .ok (.iconst 0, 1) := by decide +kernel
theorem dOwn_says_15 : decode cOwn_says 15 = .ok (.ireturn, 1) := by decide +kernel
theorem dOwn_learn_0 : decode cOwn_learn 0 = .ok (.aload_n 0, 1) := by decide +kernel
theorem dOwn_learn_1 : decode cOwn_learn 1 = .ok (.iload_n 1, 1) := by decide +kernel
theorem dOwn_learn_2 : decode cOwn_learn 2 = .ok (.invokevirtual 30, 3) := by decide +kernel
theorem dOwn_learn_5 : decode cOwn_learn 5 = .ok (.istore 4, 2) := by decide +kernel
theorem dOwn_learn_7 : decode cOwn_learn 7 = .ok (.aload_n 0, 1) := by decide +kernel
theorem dOwn_learn_8 : decode cOwn_learn 8 = .ok (.getfield 19, 3) := by decide +kernel
theorem dOwn_learn_11 : decode cOwn_learn 11 = .ok (.iload 4, 2) := by decide +kernel
theorem dOwn_learn_13 : decode cOwn_learn 13 = .ok (.invokestatic 34, 3) := by decide +kernel
theorem dOwn_learn_16 : decode cOwn_learn 16 = .ok (.istore 5, 2) := by decide +kernel
theorem dOwn_learn_18 : decode cOwn_learn 18 = .ok (.aload_n 0, 1) := by decide +kernel
theorem dOwn_learn_19 : decode cOwn_learn 19 = .ok (.getfield 23, 3) := by decide +kernel
theorem dOwn_learn_22 : decode cOwn_learn 22 = .ok (.iload 5, 2) := by decide +kernel
theorem dOwn_learn_24 : decode cOwn_learn 24 = .ok (.iload_n 3, 1) := by decide +kernel
theorem dOwn_learn_25 : decode cOwn_learn 25 = .ok (.invokestatic 38, 3) := by decide +kernel
theorem dOwn_learn_28 : decode cOwn_learn 28 = .ok (.aload_n 0, 1) := by decide +kernel
theorem dOwn_learn_29 : decode cOwn_learn 29 = .ok (.getfield 19, 3) := by decide +kernel
theorem dOwn_learn_32 : decode cOwn_learn 32 = .ok (.iload 4, 2) := by decide +kernel
theorem dOwn_learn_34 : decode cOwn_learn 34 = .ok (.iload 5, 2) := by decide +kernel
theorem dOwn_learn_36 : decode cOwn_learn 36 = .ok (.iload_n 3, 1) := by decide +kernel
theorem dOwn_learn_37 : decode cOwn_learn 37 = .ok (.invokestatic 42, 3) := by decide +kernel
theorem dOwn_learn_40 : decode cOwn_learn 40 = .ok (.aload_n 0, 1) := by decide +kernel
theorem dOwn_learn_41 : decode cOwn_learn 41 = .ok (.getfield 46, 3) := by decide +kernel
theorem dOwn_learn_44 : decode cOwn_learn 44 = .ok (.iand, 1) := by decide +kernel
theorem dOwn_learn_45 : decode cOwn_learn 45 = .ok (.invokestatic 49, 3) := by decide +kernel
theorem dOwn_learn_48 : decode cOwn_learn 48 = .ok (.return_, 1) := by decide +kernel
theorem dOwn_bits_0 : decode cOwn_bits 0 = .ok (.aload_n 0, 1) := by decide +kernel
theorem dOwn_bits_1 : decode cOwn_bits 1 = .ok (.getfield 53, 3) := by decide +kernel
theorem dOwn_bits_4 : decode cOwn_bits 4 = .ok (.aload_n 0, 1) := by decide +kernel
theorem dOwn_bits_5 : decode cOwn_bits 5 = .ok (.getfield 9, 3) := by decide +kernel
