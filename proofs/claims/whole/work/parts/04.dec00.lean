theorem dX0_waysToLose_0 : decode cX0_waysToLose 0 = .ok (.lconst 0, 1) := by decide +kernel
theorem dX0_waysToLose_1 : decode cX0_waysToLose 1 = .ok (.lstore 5, 2) := by decide +kernel
theorem dX0_waysToLose_3 : decode cX0_waysToLose 3 = .ok (.iconst 0, 1) := by decide +kernel
theorem dX0_waysToLose_4 : decode cX0_waysToLose 4 = .ok (.istore 7, 2) := by decide +kernel
theorem dX0_waysToLose_6 : decode cX0_waysToLose 6 = .ok (.iload 7, 2) := by decide +kernel
theorem dX0_waysToLose_8 : decode cX0_waysToLose 8 = .ok (.iconst 1, 1) := by decide +kernel
theorem dX0_waysToLose_9 : decode cX0_waysToLose 9 = .ok (.iload_n 3, 1) := by decide +kernel
theorem dX0_waysToLose_10 : decode cX0_waysToLose 10 = .ok (.ishl, 1) := by decide +kernel
theorem dX0_waysToLose_11 : decode cX0_waysToLose 11 = .ok (.if_icmp .ge 45, 3) := by decide +kernel
theorem dX0_waysToLose_14 : decode cX0_waysToLose 14 = .ok (.aload_n 0, 1) := by decide +kernel
theorem dX0_waysToLose_15 : decode cX0_waysToLose 15 = .ok (.iconst 1, 1) := by decide +kernel
theorem dX0_waysToLose_16 : decode cX0_waysToLose 16 = .ok (.iload_n 1, 1) := by decide +kernel
theorem dX0_waysToLose_17 : decode cX0_waysToLose 17 = .ok (.ishl, 1) := by decide +kernel
theorem dX0_waysToLose_18 : decode cX0_waysToLose 18 = .ok (.iload_n 3, 1) := by decide +kernel
theorem dX0_waysToLose_19 : decode cX0_waysToLose 19 = .ok (.iload 7, 2) := by decide +kernel
theorem dX0_waysToLose_21 : decode cX0_waysToLose 21 = .ok (.invokestatic 7, 3) := by decide +kernel
theorem dX0_waysToLose_24 : decode cX0_waysToLose 24 = .ok (.iconst 1, 1) := by decide +kernel
theorem dX0_waysToLose_25 : decode cX0_waysToLose 25 = .ok (.iload_n 2, 1) := by decide +kernel
theorem dX0_waysToLose_26 : decode cX0_waysToLose 26 = .ok (.ishl, 1) := by decide +kernel
theorem dX0_waysToLose_27 : decode cX0_waysToLose 27 = .ok (.iand, 1) := by decide +kernel
theorem dX0_waysToLose_28 : decode cX0_waysToLose 28 = .ok (.ifCond .eq 22, 3) := by decide +kernel
theorem dX0_waysToLose_31 : decode cX0_waysToLose 31 = .ok (.lload 5, 2) := by decide +kernel
theorem dX0_waysToLose_33 : decode cX0_waysToLose 33 = .ok (.iload 4, 2) := by decide +kernel
theorem dX0_waysToLose_35 : decode cX0_waysToLose 35 = .ok (.iconst 1, 1) := by decide +kernel
theorem dX0_waysToLose_36 : decode cX0_waysToLose 36 = .ok (.isub, 1) := by decide +kernel
theorem dX0_waysToLose_37 : decode cX0_waysToLose 37 = .ok (.iload_n 3, 1) := by decide +kernel
theorem dX0_waysToLose_38 : decode cX0_waysToLose 38 = .ok (.iload 7, 2) := by decide +kernel
theorem dX0_waysToLose_40 : decode cX0_waysToLose 40 = .ok (.invokestatic 13, 3) := by decide +kernel
theorem dX0_waysToLose_43 : decode cX0_waysToLose 43 = .ok (.isub, 1) := by decide +kernel
theorem dX0_waysToLose_44 : decode cX0_waysToLose 44 = .ok (.invokestatic 19, 3) := by decide +kernel
theorem dX0_waysToLose_47 : decode cX0_waysToLose 47 = .ok (.ladd, 1) := by decide +kernel
theorem dX0_waysToLose_48 : decode cX0_waysToLose 48 = .ok (.lstore 5, 2) := by decide +kernel
theorem dX0_waysToLose_50 : decode cX0_waysToLose 50 = .ok (.iinc 7 1, 3) := by decide +kernel
theorem dX0_waysToLose_53 : decode cX0_waysToLose 53 = .ok (.goto (-47), 3) := by decide +kernel
theorem dX0_waysToLose_56 : decode cX0_waysToLose 56 = .ok (.lload 5, 2) := by decide +kernel
theorem dX0_waysToLose_58 : decode cX0_waysToLose 58 = .ok (.lreturn, 1) := by decide +kernel
theorem dX0_lostByFinds_0 : decode cX0_lostByFinds 0 = .ok (.aload_n 0, 1) := by decide +kernel
theorem dX0_lostByFinds_1 : decode cX0_lostByFinds 1 = .ok (.getfield 25, 3) := by decide +kernel
theorem dX0_lostByFinds_4 : decode cX0_lostByFinds 4 = .ok (.istore 4, 2) := by decide +kernel
theorem dX0_lostByFinds_6 : decode cX0_lostByFinds 6 = .ok (.iconst 0, 1) := by decide +kernel
theorem dX0_lostByFinds_7 : decode cX0_lostByFinds 7 = .ok (.istore 5, 2) := by decide +kernel
theorem dX0_lostByFinds_9 : decode cX0_lostByFinds 9 = .ok (.iload 5, 2) := by decide +kernel
theorem dX0_lostByFinds_11 : decode cX0_lostByFinds 11 = .ok (.iload_n 2, 1) := by decide +kernel
theorem dX0_lostByFinds_12 : decode cX0_lostByFinds 12 = .ok (.if_icmp .ge 47, 3) := by decide +kernel
theorem dX0_lostByFinds_15 : decode cX0_lostByFinds 15 = .ok (.iload_n 3, 1) := by decide +kernel
theorem dX0_lostByFinds_16 : decode cX0_lostByFinds 16 = .ok (.iconst 1, 1) := by decide +kernel
theorem dX0_lostByFinds_17 : decode cX0_lostByFinds 17 = .ok (.iload 5, 2) := by decide +kernel
theorem dX0_lostByFinds_19 : decode cX0_lostByFinds 19 = .ok (.ishl, 1) := by decide +kernel
theorem dX0_lostByFinds_20 : decode cX0_lostByFinds 20 = .ok (.iand, 1) := by decide +kernel
theorem dX0_lostByFinds_21 : decode cX0_lostByFinds 21 = .ok (.ifCond .eq 11, 3) := by decide +kernel
theorem dX0_lostByFinds_24 : decode cX0_lostByFinds 24 = .ok (.iload 4, 2) := by decide +kernel
theorem dX0_lostByFinds_26 : decode cX0_lostByFinds 26 = .ok (.iload_n 1, 1) := by decide +kernel
theorem dX0_lostByFinds_27 : decode cX0_lostByFinds 27 = .ok (.iconst (-1), 1) := by decide +kernel
theorem dX0_lostByFinds_28 : decode cX0_lostByFinds 28 = .ok (.ixor, 1) := by decide +kernel
theorem dX0_lostByFinds_29 : decode cX0_lostByFinds 29 = .ok (.iand, 1) := by decide +kernel
theorem dX0_lostByFinds_30 : decode cX0_lostByFinds 30 = .ok (.istore 4, 2) := by decide +kernel
theorem dX0_lostByFinds_32 : decode cX0_lostByFinds 32 = .ok (.aload_n 0, 1) := by decide +kernel
theorem dX0_lostByFinds_33 : decode cX0_lostByFinds 33 = .ok (.iload 4, 2) := by decide +kernel
theorem dX0_lostByFinds_35 : decode cX0_lostByFinds 35 = .ok (.aload_n 0, 1) := by decide +kernel
theorem dX0_lostByFinds_36 : decode cX0_lostByFinds 36 = .ok (.getfield 31, 3) := by decide +kernel
theorem dX0_lostByFinds_39 : decode cX0_lostByFinds 39 = .ok (.aload_n 0, 1) := by decide +kernel
theorem dX0_lostByFinds_40 : decode cX0_lostByFinds 40 = .ok (.getfield 34, 3) := by decide +kernel
theorem dX0_lostByFinds_43 : decode cX0_lostByFinds 43 = .ok (.iload 5, 2) := by decide +kernel
theorem dX0_lostByFinds_45 : decode cX0_lostByFinds 45 = .ok (.iadd, 1) := by decide +kernel
theorem dX0_lostByFinds_46 : decode cX0_lostByFinds 46 = .ok (.iconst 1, 1) := by decide +kernel
theorem dX0_lostByFinds_47 : decode cX0_lostByFinds 47 = .ok (.iadd, 1) := by decide +kernel
theorem dX0_lostByFinds_48 : decode cX0_lostByFinds 48 = .ok (.invokevirtual 37, 3) := by decide +kernel
theorem dX0_lostByFinds_51 : decode cX0_lostByFinds 51 = .ok (.istore 4, 2) := by decide +kernel
theorem dX0_lostByFinds_53 : decode cX0_lostByFinds 53 = .ok (.iinc 5 1, 3) := by decide +kernel
theorem dX0_lostByFinds_56 : decode cX0_lostByFinds 56 = .ok (.goto (-47), 3) := by decide +kernel
theorem dX0_lostByFinds_59 : decode cX0_lostByFinds 59 = .ok (.iload 4, 2) := by decide +kernel
theorem dX0_lostByFinds_61 : decode cX0_lostByFinds 61 = .ok (.ireturn, 1) := by decide +kernel
theorem dX1_part_0 : decode cX1_part 0 = .ok (.lload_n 0, 1) := by decide +kernel
theorem dX1_part_1 : decode cX1_part 1 = .ok (.lload_n 2, 1) := by decide +kernel
theorem dX1_part_2 : decode cX1_part 2 = .ok (.invokestatic 7, 3) := by decide +kernel
theorem dX1_part_5 : decode cX1_part 5 = .ok (.lstore 5, 2) := by decide +kernel
theorem dX1_part_7 : decode cX1_part 7 = .ok (.lload 5, 2) := by decide +kernel
theorem dX1_part_9 : decode cX1_part 9 = .ok (.lconst 0, 1) := by decide +kernel
theorem dX1_part_10 : decode cX1_part 10 = .ok (.lcmp, 1) := by decide +kernel
theorem dX1_part_11 : decode cX1_part 11 = .ok (.ifCond .ne 14, 3) := by decide +kernel
theorem dX1_part_14 : decode cX1_part 14 = .ok (.iload 4, 2) := by decide +kernel
theorem dX1_part_16 : decode cX1_part 16 = .ok (.ifCond .ne 7, 3) := by decide +kernel
theorem dX1_part_19 : decode cX1_part 19 = .ok (.lconst 0, 1) := by decide +kernel
theorem dX1_part_20 : decode cX1_part 20 = .ok (.goto 4, 3) := by decide +kernel
theorem dX1_part_23 : decode cX1_part 23 = .ok (.lconst 1, 1) := by decide +kernel
theorem dX1_part_24 : decode cX1_part 24 = .ok (.lreturn, 1) := by decide +kernel
theorem dX1_part_25 : decode cX1_part 25 = .ok (.iload 4, 2) := by decide +kernel
theorem dX1_part_27 : decode cX1_part 27 = .ok (.ifCond .ne 10, 3) := by decide +kernel
theorem dX1_part_30 : decode cX1_part 30 = .ok (.lload_n 0, 1) := by decide +kernel
theorem dX1_part_31 : decode cX1_part 31 = .ok (.lload 5, 2) := by decide +kernel
theorem dX1_part_33 : decode cX1_part 33 = .ok (.ldiv, 1) := by decide +kernel
theorem dX1_part_34 : decode cX1_part 34 = .ok (.goto 7, 3) := by decide +kernel
theorem dX1_part_37 : decode cX1_part 37 = .ok (.lload_n 2, 1) := by decide +kernel
theorem dX1_part_38 : decode cX1_part 38 = .ok (.lload 5, 2) := by decide +kernel
theorem dX1_part_40 : decode cX1_part 40 = .ok (.ldiv, 1) := by decide +kernel
theorem dX1_part_41 : decode cX1_part 41 = .ok (.lreturn, 1) := by decide +kernel
theorem dX1_greatestCommon_0 : decode cX1_greatestCommon 0 = .ok (.lload_n 0, 1) := by decide +kernel
theorem dX1_greatestCommon_1 : decode cX1_greatestCommon 1 = .ok (.lstore 4, 2) := by decide +kernel
theorem dX1_greatestCommon_3 : decode cX1_greatestCommon 3 = .ok (.lload_n 2, 1) := by decide +kernel
theorem dX1_greatestCommon_4 : decode cX1_greatestCommon 4 = .ok (.lstore 6, 2) := by decide +kernel
theorem dX1_greatestCommon_6 : decode cX1_greatestCommon 6 = .ok (.iconst 0, 1) := by decide +kernel
theorem dX1_greatestCommon_7 : decode cX1_greatestCommon 7 = .ok (.istore 8, 2) := by decide +kernel
theorem dX1_greatestCommon_9 : decode cX1_greatestCommon 9 = .ok (.iload 8, 2) := by decide +kernel
theorem dX1_greatestCommon_11 : decode cX1_greatestCommon 11 = .ok (.sipush 200, 3) := by decide +kernel
theorem dX1_greatestCommon_14 : decode cX1_greatestCommon 14 = .ok (.if_icmp .ge 31, 3) := by decide +kernel
theorem dX1_greatestCommon_17 : decode cX1_greatestCommon 17 = .ok (.lload 6, 2) := by decide +kernel
theorem dX1_greatestCommon_19 : decode cX1_greatestCommon 19 = .ok (.lconst 0, 1) := by decide +kernel
theorem dX1_greatestCommon_20 : decode cX1_greatestCommon 20 = .ok (.lcmp, 1) := by decide +kernel
theorem dX1_greatestCommon_21 : decode cX1_greatestCommon 21 = .ok (.ifCond .eq 24, 3) := by decide +kernel
theorem dX1_greatestCommon_24 : decode cX1_greatestCommon 24 = .ok (.lload 4, 2) := by decide +kernel
theorem dX1_greatestCommon_26 : decode cX1_greatestCommon 26 = .ok (.lload 6, 2) := by decide +kernel
theorem dX1_greatestCommon_28 : decode cX1_greatestCommon 28 = .ok (.lrem, 1) := by decide +kernel
theorem dX1_greatestCommon_29 : decode cX1_greatestCommon 29 = .ok (.lstore 9, 2) := by decide +kernel
theorem dX1_greatestCommon_31 : decode cX1_greatestCommon 31 = .ok (.lload 6, 2) := by decide +kernel
theorem dX1_greatestCommon_33 : decode cX1_greatestCommon 33 = .ok (.lstore 4, 2) := by decide +kernel
theorem dX1_greatestCommon_35 : decode cX1_greatestCommon 35 = .ok (.lload 9, 2) := by decide +kernel
theorem dX1_greatestCommon_37 : decode cX1_greatestCommon 37 = .ok (.lstore 6, 2) := by decide +kernel
theorem dX1_greatestCommon_39 : decode cX1_greatestCommon 39 = .ok (.iinc 8 1, 3) := by decide +kernel
theorem dX1_greatestCommon_42 : decode cX1_greatestCommon 42 = .ok (.goto (-33), 3) := by decide +kernel
theorem dX1_greatestCommon_45 : decode cX1_greatestCommon 45 = .ok (.lload 4, 2) := by decide +kernel
theorem dX1_greatestCommon_47 : decode cX1_greatestCommon 47 = .ok (.lreturn, 1) := by decide +kernel
theorem dX1_power_0 : decode cX1_power 0 = .ok (.lconst 1, 1) := by decide +kernel
theorem dX1_power_1 : decode cX1_power 1 = .ok (.lstore_n 2, 1) := by decide +kernel
theorem dX1_power_2 : decode cX1_power 2 = .ok (.iconst 0, 1) := by decide +kernel
theorem dX1_power_3 : decode cX1_power 3 = .ok (.istore 4, 2) := by decide +kernel
theorem dX1_power_5 : decode cX1_power 5 = .ok (.iload 4, 2) := by decide +kernel
theorem dX1_power_7 : decode cX1_power 7 = .ok (.iload_n 1, 1) := by decide +kernel
theorem dX1_power_8 : decode cX1_power 8 = .ok (.if_icmp .ge 14, 3) := by decide +kernel
theorem dX1_power_11 : decode cX1_power 11 = .ok (.lload_n 2, 1) := by decide +kernel
theorem dX1_power_12 : decode cX1_power 12 = .ok (.iload_n 0, 1) := by decide +kernel
theorem dX1_power_13 : decode cX1_power 13 = .ok (.i2l, 1) := by decide +kernel
theorem dX1_power_14 : decode cX1_power 14 = .ok (.lmul, 1) := by decide +kernel
theorem dX1_power_15 : decode cX1_power 15 = .ok (.lstore_n 2, 1) := by decide +kernel
theorem dX1_power_16 : decode cX1_power 16 = .ok (.iinc 4 1, 3) := by decide +kernel
theorem dX1_power_19 : decode cX1_power 19 = .ok (.goto (-14), 3) := by decide +kernel
theorem dX1_power_22 : decode cX1_power 22 = .ok (.lload_n 2, 1) := by decide +kernel
theorem dX1_power_23 : decode cX1_power 23 = .ok (.lreturn, 1) := by decide +kernel
theorem dX2_firstSettled_0 : decode cX2_firstSettled 0 = .ok (.iconst 0, 1) := by decide +kernel
theorem dX2_firstSettled_1 : decode cX2_firstSettled 1 = .ok (.istore 4, 2) := by decide +kernel
theorem dX2_firstSettled_3 : decode cX2_firstSettled 3 = .ok (.iload 4, 2) := by decide +kernel
theorem dX2_firstSettled_5 : decode cX2_firstSettled 5 = .ok (.iconst 1, 1) := by decide +kernel
theorem dX2_firstSettled_6 : decode cX2_firstSettled 6 = .ok (.if_icmp .gt 55, 3) := by decide +kernel
theorem dX2_firstSettled_9 : decode cX2_firstSettled 9 = .ok (.iconst 0, 1) := by decide +kernel
theorem dX2_firstSettled_10 : decode cX2_firstSettled 10 = .ok (.istore 5, 2) := by decide +kernel
theorem dX2_firstSettled_12 : decode cX2_firstSettled 12 = .ok (.iload 5, 2) := by decide +kernel
theorem dX2_firstSettled_14 : decode cX2_firstSettled 14 = .ok (.iconst 1, 1) := by decide +kernel
theorem dX2_firstSettled_15 : decode cX2_firstSettled 15 = .ok (.if_icmp .gt 40, 3) := by decide +kernel
theorem dX2_firstSettled_18 : decode cX2_firstSettled 18 = .ok (.aload_n 0, 1) := by decide +kernel
theorem dX2_firstSettled_19 : decode cX2_firstSettled 19 = .ok (.iload 4, 2) := by decide +kernel
theorem dX2_firstSettled_21 : decode cX2_firstSettled 21 = .ok (.iload_n 1, 1) := by decide +kernel
theorem dX2_firstSettled_22 : decode cX2_firstSettled 22 = .ok (.ishl, 1) := by decide +kernel
theorem dX2_firstSettled_23 : decode cX2_firstSettled 23 = .ok (.iload 5, 2) := by decide +kernel
theorem dX2_firstSettled_25 : decode cX2_firstSettled 25 = .ok (.iload_n 2, 1) := by decide +kernel
theorem dX2_firstSettled_26 : decode cX2_firstSettled 26 = .ok (.ishl, 1) := by decide +kernel
theorem dX2_firstSettled_27 : decode cX2_firstSettled 27 = .ok (.iconst 1, 1) := by decide +kernel
theorem dX2_firstSettled_28 : decode cX2_firstSettled 28 = .ok (.iload_n 1, 1) := by decide +kernel
theorem dX2_firstSettled_29 : decode cX2_firstSettled 29 = .ok (.ishl, 1) := by decide +kernel
theorem dX2_firstSettled_30 : decode cX2_firstSettled 30 = .ok (.iconst 1, 1) := by decide +kernel
theorem dX2_firstSettled_31 : decode cX2_firstSettled 31 = .ok (.iload_n 2, 1) := by decide +kernel
theorem dX2_firstSettled_32 : decode cX2_firstSettled 32 = .ok (.ishl, 1) := by decide +kernel
theorem dX2_firstSettled_33 : decode cX2_firstSettled 33 = .ok (.iload_n 3, 1) := by decide +kernel
theorem dX2_firstSettled_34 : decode cX2_firstSettled 34 = .ok (.invokestatic 9, 3) := by decide +kernel
theorem dX2_firstSettled_37 : decode cX2_firstSettled 37 = .ok (.ifCond .eq 12, 3) := by decide +kernel
theorem dX2_firstSettled_40 : decode cX2_firstSettled 40 = .ok (.bipush 10, 2) := by decide +kernel
theorem dX2_firstSettled_42 : decode cX2_firstSettled 42 = .ok (.iload 4, 2) := by decide +kernel
theorem dX2_firstSettled_44 : decode cX2_firstSettled 44 = .ok (.imul, 1) := by decide +kernel
theorem dX2_firstSettled_45 : decode cX2_firstSettled 45 = .ok (.iload 5, 2) := by decide +kernel
theorem dX2_firstSettled_47 : decode cX2_firstSettled 47 = .ok (.iadd, 1) := by decide +kernel
theorem dX2_firstSettled_48 : decode cX2_firstSettled 48 = .ok (.ireturn, 1) := by decide +kernel
theorem dX2_firstSettled_49 : decode cX2_firstSettled 49 = .ok (.iinc 5 1, 3) := by decide +kernel
theorem dX2_firstSettled_52 : decode cX2_firstSettled 52 = .ok (.goto (-40), 3) := by decide +kernel
theorem dX2_firstSettled_55 : decode cX2_firstSettled 55 = .ok (.iinc 4 1, 3) := by decide +kernel
theorem dX2_firstSettled_58 : decode cX2_firstSettled 58 = .ok (.goto (-55), 3) := by decide +kernel
theorem dX2_firstSettled_61 : decode cX2_firstSettled 61 = .ok (.bipush (-9), 2) := by decide +kernel
theorem dX2_firstSettled_63 : decode cX2_firstSettled 63 = .ok (.ireturn, 1) := by decide +kernel
theorem dX2_isSettled_0 : decode cX2_isSettled 0 = .ok (.iload_n 1, 1) := by decide +kernel
theorem dX2_isSettled_1 : decode cX2_isSettled 1 = .ok (.iload_n 3, 1) := by decide +kernel
theorem dX2_isSettled_2 : decode cX2_isSettled 2 = .ok (.ixor, 1) := by decide +kernel
theorem dX2_isSettled_3 : decode cX2_isSettled 3 = .ok (.istore 6, 2) := by decide +kernel
theorem dX2_isSettled_5 : decode cX2_isSettled 5 = .ok (.iload_n 2, 1) := by decide +kernel
theorem dX2_isSettled_6 : decode cX2_isSettled 6 = .ok (.iload 4, 2) := by decide +kernel
theorem dX2_isSettled_8 : decode cX2_isSettled 8 = .ok (.ixor, 1) := by decide +kernel
theorem dX2_isSettled_9 : decode cX2_isSettled 9 = .ok (.istore 7, 2) := by decide +kernel
theorem dX2_isSettled_11 : decode cX2_isSettled 11 = .ok (.aload_n 0, 1) := by decide +kernel
theorem dX2_isSettled_12 : decode cX2_isSettled 12 = .ok (.iload_n 1, 1) := by decide +kernel
theorem dX2_isSettled_13 : decode cX2_isSettled 13 = .ok (.iload_n 2, 1) := by decide +kernel
theorem dX2_isSettled_14 : decode cX2_isSettled 14 = .ok (.iload 5, 2) := by decide +kernel
theorem dX2_isSettled_16 : decode cX2_isSettled 16 = .ok (.invokestatic 15, 3) := by decide +kernel
theorem dX2_isSettled_19 : decode cX2_isSettled 19 = .ok (.istore 8, 2) := by decide +kernel
theorem dX2_isSettled_21 : decode cX2_isSettled 21 = .ok (.iload 8, 2) := by decide +kernel
theorem dX2_isSettled_23 : decode cX2_isSettled 23 = .ok (.iload_n 1, 1) := by decide +kernel
theorem dX2_isSettled_24 : decode cX2_isSettled 24 = .ok (.invokestatic 19, 3) := by decide +kernel
theorem dX2_isSettled_27 : decode cX2_isSettled 27 = .ok (.isub, 1) := by decide +kernel
theorem dX2_isSettled_28 : decode cX2_isSettled 28 = .ok (.aload_n 0, 1) := by decide +kernel
theorem dX2_isSettled_29 : decode cX2_isSettled 29 = .ok (.iload 6, 2) := by decide +kernel
theorem dX2_isSettled_31 : decode cX2_isSettled 31 = .ok (.iload_n 2, 1) := by decide +kernel
theorem dX2_isSettled_32 : decode cX2_isSettled 32 = .ok (.iload 5, 2) := by decide +kernel
theorem dX2_isSettled_34 : decode cX2_isSettled 34 = .ok (.invokestatic 15, 3) := by decide +kernel
theorem dX2_isSettled_37 : decode cX2_isSettled 37 = .ok (.iload 6, 2) := by decide +kernel
theorem dX2_isSettled_39 : decode cX2_isSettled 39 = .ok (.invokestatic 19, 3) := by decide +kernel
theorem dX2_isSettled_42 : decode cX2_isSettled 42 = .ok (.isub, 1) := by decide +kernel
theorem dX2_isSettled_43 : decode cX2_isSettled 43 = .ok (.if_icmp .lt 7, 3) := by decide +kernel
theorem dX2_isSettled_46 : decode cX2_isSettled 46 = .ok (.iconst 1, 1) := by decide +kernel
theorem dX2_isSettled_47 : decode cX2_isSettled 47 = .ok (.goto 4, 3) := by decide +kernel
theorem dX2_isSettled_50 : decode cX2_isSettled 50 = .ok (.iconst 0, 1) := by decide +kernel
theorem dX2_isSettled_51 : decode cX2_isSettled 51 = .ok (.istore 9, 2) := by decide +kernel
theorem dX2_isSettled_53 : decode cX2_isSettled 53 = .ok (.iload 8, 2) := by decide +kernel
theorem dX2_isSettled_55 : decode cX2_isSettled 55 = .ok (.iload_n 2, 1) := by decide +kernel
theorem dX2_isSettled_56 : decode cX2_isSettled 56 = .ok (.invokestatic 19, 3) := by decide +kernel
theorem dX2_isSettled_59 : decode cX2_isSettled 59 = .ok (.iadd, 1) := by decide +kernel
theorem dX2_isSettled_60 : decode cX2_isSettled 60 = .ok (.aload_n 0, 1) := by decide +kernel
theorem dX2_isSettled_61 : decode cX2_isSettled 61 = .ok (.iload_n 1, 1) := by decide +kernel
theorem dX2_isSettled_62 : decode cX2_isSettled 62 = .ok (.iload 7, 2) := by decide +kernel
theorem dX2_isSettled_64 : decode cX2_isSettled 64 = .ok (.iload 5, 2) := by decide +kernel
theorem dX2_isSettled_66 : decode cX2_isSettled 66 = .ok (.invokestatic 15, 3) := by decide +kernel
theorem dX2_isSettled_69 : decode cX2_isSettled 69 = .ok (.iload 7, 2) := by decide +kernel
theorem dX2_isSettled_71 : decode cX2_isSettled 71 = .ok (.invokestatic 19, 3) := by decide +kernel
theorem dX2_isSettled_74 : decode cX2_isSettled 74 = .ok (.iadd, 1) := by decide +kernel
theorem dX2_isSettled_75 : decode cX2_isSettled 75 = .ok (.if_icmp .gt 7, 3) := by decide +kernel
theorem dX2_isSettled_78 : decode cX2_isSettled 78 = .ok (.iconst 1, 1) := by decide +kernel
theorem dX2_isSettled_79 : decode cX2_isSettled 79 = .ok (.goto 4, 3) := by decide +kernel
theorem dX2_isSettled_82 : decode cX2_isSettled 82 = .ok (.iconst 0, 1) := by decide +kernel
theorem dX2_isSettled_83 : decode cX2_isSettled 83 = .ok (.istore 10, 2) := by decide +kernel
theorem dX2_isSettled_85 : decode cX2_isSettled 85 = .ok (.iload 9, 2) := by decide +kernel
theorem dX2_isSettled_87 : decode cX2_isSettled 87 = .ok (.ifCond .eq 12, 3) := by decide +kernel
theorem dX2_isSettled_90 : decode cX2_isSettled 90 = .ok (.iload 10, 2) := by decide +kernel
theorem dX2_isSettled_92 : decode cX2_isSettled 92 = .ok (.ifCond .eq 7, 3) := by decide +kernel
theorem dX2_isSettled_95 : decode cX2_isSettled 95 = .ok (.iconst 1, 1) := by decide +kernel
theorem dX2_isSettled_96 : decode cX2_isSettled 96 = .ok (.goto 4, 3) := by decide +kernel
theorem dX2_isSettled_99 : decode cX2_isSettled 99 = .ok (.iconst 0, 1) := by decide +kernel
theorem dX2_isSettled_100 : decode cX2_isSettled 100 = .ok (.ireturn, 1) := by decide +kernel
theorem dX2_lostBy_0 : decode cX2_lostBy 0 = .ok (.aload_n 0, 1) := by decide +kernel
theorem dX2_lostBy_1 : decode cX2_lostBy 1 = .ok (.aload_n 0, 1) := by decide +kernel
theorem dX2_lostBy_2 : decode cX2_lostBy 2 = .ok (.getfield 23, 3) := by decide +kernel
theorem dX2_lostBy_5 : decode cX2_lostBy 5 = .ok (.iload_n 1, 1) := by decide +kernel
theorem dX2_lostBy_6 : decode cX2_lostBy 6 = .ok (.ior, 1) := by decide +kernel
theorem dX2_lostBy_7 : decode cX2_lostBy 7 = .ok (.iload_n 2, 1) := by decide +kernel
theorem dX2_lostBy_8 : decode cX2_lostBy 8 = .ok (.ior, 1) := by decide +kernel
theorem dX2_lostBy_9 : decode cX2_lostBy 9 = .ok (.aload_n 0, 1) := by decide +kernel
theorem dX2_lostBy_10 : decode cX2_lostBy 10 = .ok (.getfield 29, 3) := by decide +kernel
theorem dX2_lostBy_13 : decode cX2_lostBy 13 = .ok (.aload_n 0, 1) := by decide +kernel
theorem dX2_lostBy_14 : decode cX2_lostBy 14 = .ok (.getfield 32, 3) := by decide +kernel
theorem dX2_lostBy_17 : decode cX2_lostBy 17 = .ok (.iload_n 3, 1) := by decide +kernel
theorem dX2_lostBy_18 : decode cX2_lostBy 18 = .ok (.invokevirtual 35, 3) := by decide +kernel
theorem dX2_lostBy_21 : decode cX2_lostBy 21 = .ok (.invokestatic 39, 3) := by decide +kernel
theorem dX2_lostBy_24 : decode cX2_lostBy 24 = .ok (.ireturn, 1) := by decide +kernel
theorem dX2_price_0 : decode cX2_price 0 = .ok (.iload_n 0, 1) := by decide +kernel
theorem dX2_price_1 : decode cX2_price 1 = .ok (.ifCond .ne 7, 3) := by decide +kernel
theorem dX2_price_4 : decode cX2_price 4 = .ok (.iconst 0, 1) := by decide +kernel
theorem dX2_price_5 : decode cX2_price 5 = .ok (.goto 4, 3) := by decide +kernel
theorem dX2_price_8 : decode cX2_price 8 = .ok (.iconst 2, 1) := by decide +kernel
theorem dX2_price_9 : decode cX2_price 9 = .ok (.ireturn, 1) := by decide +kernel
theorem dX3_init_0 : decode cX3_init 0 = .ok (.aload_n 0, 1) := by decide +kernel
theorem dX3_init_1 : decode cX3_init 1 = .ok (.invokespecial 1, 3) := by decide +kernel
theorem dX3_init_4 : decode cX3_init 4 = .ok (.return_, 1) := by decide +kernel
theorem dX3_lostInWars_0 : decode cX3_lostInWars 0 = .ok (.aload_n 0, 1) := by decide +kernel
theorem dX3_lostInWars_1 : decode cX3_lostInWars 1 = .ok (.iload_n 3, 1) := by decide +kernel
theorem dX3_lostInWars_2 : decode cX3_lostInWars 2 = .ok (.putfield 7, 3) := by decide +kernel
theorem dX3_lostInWars_5 : decode cX3_lostInWars 5 = .ok (.iconst 0, 1) := by decide +kernel
theorem dX3_lostInWars_6 : decode cX3_lostInWars 6 = .ok (.istore 5, 2) := by decide +kernel
theorem dX3_lostInWars_8 : decode cX3_lostInWars 8 = .ok (.iconst 0, 1) := by decide +kernel
theorem dX3_lostInWars_9 : decode cX3_lostInWars 9 = .ok (.istore 6, 2) := by decide +kernel
theorem dX3_lostInWars_11 : decode cX3_lostInWars 11 = .ok (.iload 6, 2) := by decide +kernel
theorem dX3_lostInWars_13 : decode cX3_lostInWars 13 = .ok (.iload_n 2, 1) := by decide +kernel
theorem dX3_lostInWars_14 : decode cX3_lostInWars 14 = .ok (.if_icmp .ge 35, 3) := by decide +kernel
theorem dX3_lostInWars_17 : decode cX3_lostInWars 17 = .ok (.aload_n 0, 1) := by decide +kernel
theorem dX3_lostInWars_18 : decode cX3_lostInWars 18 = .ok (.aload_n 1, 1) := by decide +kernel
theorem dX3_lostInWars_19 : decode cX3_lostInWars 19 = .ok (.invokevirtual 13, 3) := by decide +kernel
theorem dX3_lostInWars_22 : decode cX3_lostInWars 22 = .ok (.istore 7, 2) := by decide +kernel
theorem dX3_lostInWars_24 : decode cX3_lostInWars 24 = .ok (.iload 5, 2) := by decide +kernel
theorem dX3_lostInWars_26 : decode cX3_lostInWars 26 = .ok (.aload_n 1, 1) := by decide +kernel
theorem dX3_lostInWars_27 : decode cX3_lostInWars 27 = .ok (.iload 7, 2) := by decide +kernel
theorem dX3_lostInWars_29 : decode cX3_lostInWars 29 = .ok (.bipush 15, 2) := by decide +kernel
theorem dX3_lostInWars_31 : decode cX3_lostInWars 31 = .ok (.invokestatic 17, 3) := by decide +kernel
theorem dX3_lostInWars_34 : decode cX3_lostInWars 34 = .ok (.iload 4, 2) := by decide +kernel
theorem dX3_lostInWars_36 : decode cX3_lostInWars 36 = .ok (.iand, 1) := by decide +kernel
theorem dX3_lostInWars_37 : decode cX3_lostInWars 37 = .ok (.invokestatic 23, 3) := by decide +kernel
theorem dX3_lostInWars_40 : decode cX3_lostInWars 40 = .ok (.iadd, 1) := by decide +kernel
theorem dX3_lostInWars_41 : decode cX3_lostInWars 41 = .ok (.istore 5, 2) := by decide +kernel
theorem dX3_lostInWars_43 : decode cX3_lostInWars 43 = .ok (.iinc 6 1, 3) := by decide +kernel
theorem dX3_lostInWars_46 : decode cX3_lostInWars 46 = .ok (.goto (-35), 3) := by decide +kernel
theorem dX3_lostInWars_49 : decode cX3_lostInWars 49 = .ok (.iload 5, 2) := by decide +kernel
theorem dX3_lostInWars_51 : decode cX3_lostInWars 51 = .ok (.ireturn, 1) := by decide +kernel
theorem dX3_drawNails_0 : decode cX3_drawNails 0 = .ok (.aload_n 1, 1) := by decide +kernel
theorem dX3_drawNails_1 : decode cX3_drawNails 1 = .ok (.invokevirtual 29, 3) := by decide +kernel
theorem dX3_drawNails_4 : decode cX3_drawNails 4 = .ok (.istore_n 2, 1) := by decide +kernel
theorem dX3_drawNails_5 : decode cX3_drawNails 5 = .ok (.aload_n 1, 1) := by decide +kernel
theorem dX3_drawNails_6 : decode cX3_drawNails 6 = .ok (.getfield 35, 3) := by decide +kernel
theorem dX3_drawNails_9 : decode cX3_drawNails 9 = .ok (.iload_n 2, 1) := by decide +kernel
theorem dX3_drawNails_10 : decode cX3_drawNails 10 = .ok (.iconst (-1), 1) := by decide +kernel
theorem dX3_drawNails_11 : decode cX3_drawNails 11 = .ok (.ixor, 1) := by decide +kernel
theorem dX3_drawNails_12 : decode cX3_drawNails 12 = .ok (.iand, 1) := by decide +kernel
theorem dX3_drawNails_13 : decode cX3_drawNails 13 = .ok (.istore_n 3, 1) := by decide +kernel
theorem dX3_drawNails_14 : decode cX3_drawNails 14 = .ok (.iconst 0, 1) := by decide +kernel
theorem dX3_drawNails_15 : decode cX3_drawNails 15 = .ok (.istore 4, 2) := by decide +kernel
theorem dX3_drawNails_17 : decode cX3_drawNails 17 = .ok (.iload 4, 2) := by decide +kernel
theorem dX3_drawNails_19 : decode cX3_drawNails 19 = .ok (.aload_n 1, 1) := by decide +kernel
theorem dX3_drawNails_20 : decode cX3_drawNails 20 = .ok (.getfield 38, 3) := by decide +kernel
theorem dX3_drawNails_23 : decode cX3_drawNails 23 = .ok (.if_icmp .ge 33, 3) := by decide +kernel
theorem dX3_drawNails_26 : decode cX3_drawNails 26 = .ok (.iload_n 2, 1) := by decide +kernel
theorem dX3_drawNails_27 : decode cX3_drawNails 27 = .ok (.iconst 1, 1) := by decide +kernel
theorem dX3_drawNails_28 : decode cX3_drawNails 28 = .ok (.iload 4, 2) := by decide +kernel
theorem dX3_drawNails_30 : decode cX3_drawNails 30 = .ok (.ishl, 1) := by decide +kernel
theorem dX3_drawNails_31 : decode cX3_drawNails 31 = .ok (.iand, 1) := by decide +kernel
theorem dX3_drawNails_32 : decode cX3_drawNails 32 = .ok (.ifCond .eq 18, 3) := by decide +kernel
theorem dX3_drawNails_35 : decode cX3_drawNails 35 = .ok (.aload_n 0, 1) := by decide +kernel
theorem dX3_drawNails_36 : decode cX3_drawNails 36 = .ok (.iconst 3, 1) := by decide +kernel
theorem dX3_drawNails_37 : decode cX3_drawNails 37 = .ok (.invokevirtual 41, 3) := by decide +kernel
theorem dX3_drawNails_40 : decode cX3_drawNails 40 = .ok (.ifCond .ne 10, 3) := by decide +kernel
theorem dX3_drawNails_43 : decode cX3_drawNails 43 = .ok (.iload_n 3, 1) := by decide +kernel
theorem dX3_drawNails_44 : decode cX3_drawNails 44 = .ok (.iconst 1, 1) := by decide +kernel
theorem dX3_drawNails_45 : decode cX3_drawNails 45 = .ok (.iload 4, 2) := by decide +kernel
theorem dX3_drawNails_47 : decode cX3_drawNails 47 = .ok (.ishl, 1) := by decide +kernel
theorem dX3_drawNails_48 : decode cX3_drawNails 48 = .ok (.ior, 1) := by decide +kernel
theorem dX3_drawNails_49 : decode cX3_drawNails 49 = .ok (.istore_n 3, 1) := by decide +kernel
theorem dX3_drawNails_50 : decode cX3_drawNails 50 = .ok (.iinc 4 1, 3) := by decide +kernel
theorem dX3_drawNails_53 : decode cX3_drawNails 53 = .ok (.goto (-36), 3) := by decide +kernel
theorem dX3_drawNails_56 : decode cX3_drawNails 56 = .ok (.iload_n 3, 1) := by decide +kernel
theorem dX3_drawNails_57 : decode cX3_drawNails 57 = .ok (.ireturn, 1) := by decide +kernel
theorem dX3_drawBelow_0 : decode cX3_drawBelow 0 = .ok (.aload_n 0, 1) := by decide +kernel
theorem dX3_drawBelow_1 : decode cX3_drawBelow 1 = .ok (.aload_n 0, 1) := by decide +kernel
theorem dX3_drawBelow_2 : decode cX3_drawBelow 2 = .ok (.getfield 7, 3) := by decide +kernel
theorem dX3_drawBelow_5 : decode cX3_drawBelow 5 = .ok (.ldc 44, 2) := by decide +kernel
theorem dX3_drawBelow_7 : decode cX3_drawBelow 7 = .ok (.imul, 1) := by decide +kernel
theorem dX3_drawBelow_8 : decode cX3_drawBelow 8 = .ok (.ldc 45, 2) := by decide +kernel
theorem dX3_drawBelow_10 : decode cX3_drawBelow 10 = .ok (.iadd, 1) := by decide +kernel
theorem dX3_drawBelow_11 : decode cX3_drawBelow 11 = .ok (.putfield 7, 3) := by decide +kernel
theorem dX3_drawBelow_14 : decode cX3_drawBelow 14 = .ok (.iload_n 1, 1) := by decide +kernel
theorem dX3_drawBelow_15 : decode cX3_drawBelow 15 = .ok (.ifCond .le 19, 3) := by decide +kernel
theorem dX3_drawBelow_18 : decode cX3_drawBelow 18 = .ok (.aload_n 0, 1) := by decide +kernel
theorem dX3_drawBelow_19 : decode cX3_drawBelow 19 = .ok (.getfield 7, 3) := by decide +kernel
theorem dX3_drawBelow_22 : decode cX3_drawBelow 22 = .ok (.ldc 46, 2) := by decide +kernel
theorem dX3_drawBelow_24 : decode cX3_drawBelow 24 = .ok (.iand, 1) := by decide +kernel
theorem dX3_drawBelow_25 : decode cX3_drawBelow 25 = .ok (.sipush 256, 3) := by decide +kernel
theorem dX3_drawBelow_28 : decode cX3_drawBelow 28 = .ok (.idiv, 1) := by decide +kernel
theorem dX3_drawBelow_29 : decode cX3_drawBelow 29 = .ok (.iload_n 1, 1) := by decide +kernel
theorem dX3_drawBelow_30 : decode cX3_drawBelow 30 = .ok (.irem, 1) := by decide +kernel
theorem dX3_drawBelow_31 : decode cX3_drawBelow 31 = .ok (.goto 4, 3) := by decide +kernel
theorem dX3_drawBelow_34 : decode cX3_drawBelow 34 = .ok (.iconst 0, 1) := by decide +kernel
theorem dX3_drawBelow_35 : decode cX3_drawBelow 35 = .ok (.ireturn, 1) := by decide +kernel
theorem dX4_lostBehind_0 : decode cX4_lostBehind 0 = .ok (.aload_n 0, 1) := by decide +kernel
theorem dX4_lostBehind_1 : decode cX4_lostBehind 1 = .ok (.iload_n 1, 1) := by decide +kernel
theorem dX4_lostBehind_2 : decode cX4_lostBehind 2 = .ok (.aload_n 0, 1) := by decide +kernel
theorem dX4_lostBehind_3 : decode cX4_lostBehind 3 = .ok (.getfield 9, 3) := by decide +kernel
theorem dX4_lostBehind_6 : decode cX4_lostBehind 6 = .ok (.aload_n 0, 1) := by decide +kernel
theorem dX4_lostBehind_7 : decode cX4_lostBehind 7 = .ok (.getfield 15, 3) := by decide +kernel
theorem dX4_lostBehind_10 : decode cX4_lostBehind 10 = .ok (.iload_n 2, 1) := by decide +kernel
theorem dX4_lostBehind_11 : decode cX4_lostBehind 11 = .ok (.invokevirtual 18, 3) := by decide +kernel
theorem dX4_lostBehind_14 : decode cX4_lostBehind 14 = .ok (.ireturn, 1) := by decide +kernel
theorem dX4_daysUntilLost_0 : decode cX4_daysUntilLost 0 = .ok (.iconst 1, 1) := by decide +kernel
theorem dX4_daysUntilLost_1 : decode cX4_daysUntilLost 1 = .ok (.iload_n 1, 1) := by decide +kernel
theorem dX4_daysUntilLost_2 : decode cX4_daysUntilLost 2 = .ok (.ishl, 1) := by decide +kernel
theorem dX4_daysUntilLost_3 : decode cX4_daysUntilLost 3 = .ok (.istore_n 3, 1) := by decide +kernel
theorem dX4_daysUntilLost_4 : decode cX4_daysUntilLost 4 = .ok (.iload_n 2, 1) := by decide +kernel
theorem dX4_daysUntilLost_5 : decode cX4_daysUntilLost 5 = .ok (.istore 4, 2) := by decide +kernel
theorem dX4_daysUntilLost_7 : decode cX4_daysUntilLost 7 = .ok (.iconst 0, 1) := by decide +kernel
theorem dX4_daysUntilLost_8 : decode cX4_daysUntilLost 8 = .ok (.istore 5, 2) := by decide +kernel
theorem dX4_daysUntilLost_10 : decode cX4_daysUntilLost 10 = .ok (.iconst 0, 1) := by decide +kernel
theorem dX4_daysUntilLost_11 : decode cX4_daysUntilLost 11 = .ok (.istore 6, 2) := by decide +kernel
theorem dX4_daysUntilLost_13 : decode cX4_daysUntilLost 13 = .ok (.iload 6, 2) := by decide +kernel
theorem dX4_daysUntilLost_15 : decode cX4_daysUntilLost 15 = .ok (.bipush 60, 2) := by decide +kernel
theorem dX4_daysUntilLost_17 : decode cX4_daysUntilLost 17 = .ok (.if_icmp .gt 68, 3) := by decide +kernel
theorem dX4_daysUntilLost_20 : decode cX4_daysUntilLost 20 = .ok (.iload 5, 2) := by decide +kernel
theorem dX4_daysUntilLost_22 : decode cX4_daysUntilLost 22 = .ok (.bipush 10, 2) := by decide +kernel
theorem dX4_daysUntilLost_24 : decode cX4_daysUntilLost 24 = .ok (.if_icmp .ge 61, 3) := by decide +kernel
theorem dX4_daysUntilLost_27 : decode cX4_daysUntilLost 27 = .ok (.iload 4, 2) := by decide +kernel
theorem dX4_daysUntilLost_29 : decode cX4_daysUntilLost 29 = .ok (.iload_n 3, 1) := by decide +kernel
theorem dX4_daysUntilLost_30 : decode cX4_daysUntilLost 30 = .ok (.iand, 1) := by decide +kernel
theorem dX4_daysUntilLost_31 : decode cX4_daysUntilLost 31 = .ok (.ifCond .eq 6, 3) := by decide +kernel
theorem dX4_daysUntilLost_34 : decode cX4_daysUntilLost 34 = .ok (.iload 6, 2) := by decide +kernel
theorem dX4_daysUntilLost_36 : decode cX4_daysUntilLost 36 = .ok (.ireturn, 1) := by decide +kernel
theorem dX4_daysUntilLost_37 : decode cX4_daysUntilLost 37 = .ok (.aload_n 0, 1) := by decide +kernel
theorem dX4_daysUntilLost_38 : decode cX4_daysUntilLost 38 = .ok (.iload 4, 2) := by decide +kernel
theorem dX4_daysUntilLost_40 : decode cX4_daysUntilLost 40 = .ok (.aload_n 0, 1) := by decide +kernel
theorem dX4_daysUntilLost_41 : decode cX4_daysUntilLost 41 = .ok (.getfield 9, 3) := by decide +kernel
theorem dX4_daysUntilLost_44 : decode cX4_daysUntilLost 44 = .ok (.aload_n 0, 1) := by decide +kernel
theorem dX4_daysUntilLost_45 : decode cX4_daysUntilLost 45 = .ok (.getfield 15, 3) := by decide +kernel
theorem dX4_daysUntilLost_48 : decode cX4_daysUntilLost 48 = .ok (.iload 6, 2) := by decide +kernel
theorem dX4_daysUntilLost_50 : decode cX4_daysUntilLost 50 = .ok (.iadd, 1) := by decide +kernel
theorem dX4_daysUntilLost_51 : decode cX4_daysUntilLost 51 = .ok (.iconst 1, 1) := by decide +kernel
theorem dX4_daysUntilLost_52 : decode cX4_daysUntilLost 52 = .ok (.iadd, 1) := by decide +kernel
theorem dX4_daysUntilLost_53 : decode cX4_daysUntilLost 53 = .ok (.invokevirtual 22, 3) := by decide +kernel
theorem dX4_daysUntilLost_56 : decode cX4_daysUntilLost 56 = .ok (.istore 7, 2) := by decide +kernel
theorem dX4_daysUntilLost_58 : decode cX4_daysUntilLost 58 = .ok (.iload 7, 2) := by decide +kernel
theorem dX4_daysUntilLost_60 : decode cX4_daysUntilLost 60 = .ok (.iload 4, 2) := by decide +kernel
theorem dX4_daysUntilLost_62 : decode cX4_daysUntilLost 62 = .ok (.if_icmp .ne 10, 3) := by decide +kernel
theorem dX4_daysUntilLost_65 : decode cX4_daysUntilLost 65 = .ok (.iload 5, 2) := by decide +kernel
theorem dX4_daysUntilLost_67 : decode cX4_daysUntilLost 67 = .ok (.iconst 1, 1) := by decide +kernel
theorem dX4_daysUntilLost_68 : decode cX4_daysUntilLost 68 = .ok (.iadd, 1) := by decide +kernel
theorem dX4_daysUntilLost_69 : decode cX4_daysUntilLost 69 = .ok (.goto 4, 3) := by decide +kernel
theorem dX4_daysUntilLost_72 : decode cX4_daysUntilLost 72 = .ok (.iconst 0, 1) := by decide +kernel
theorem dX4_daysUntilLost_73 : decode cX4_daysUntilLost 73 = .ok (.istore 5, 2) := by decide +kernel
theorem dX4_daysUntilLost_75 : decode cX4_daysUntilLost 75 = .ok (.iload 7, 2) := by decide +kernel
theorem dX4_daysUntilLost_77 : decode cX4_daysUntilLost 77 = .ok (.istore 4, 2) := by decide +kernel
theorem dX4_daysUntilLost_79 : decode cX4_daysUntilLost 79 = .ok (.iinc 6 1, 3) := by decide +kernel
theorem dX4_daysUntilLost_82 : decode cX4_daysUntilLost 82 = .ok (.goto (-69), 3) := by decide +kernel
theorem dX4_daysUntilLost_85 : decode cX4_daysUntilLost 85 = .ok (.bipush (-9), 2) := by decide +kernel
theorem dX4_daysUntilLost_87 : decode cX4_daysUntilLost 87 = .ok (.ireturn, 1) := by decide +kernel
theorem dX4_firstToFall_0 : decode cX4_firstToFall 0 = .ok (.aload_n 0, 1) := by decide +kernel
theorem dX4_firstToFall_1 : decode cX4_firstToFall 1 = .ok (.getfield 26, 3) := by decide +kernel
theorem dX4_firstToFall_4 : decode cX4_firstToFall 4 = .ok (.istore_n 1, 1) := by decide +kernel
theorem dX4_firstToFall_5 : decode cX4_firstToFall 5 = .ok (.iconst 1, 1) := by decide +kernel
theorem dX4_firstToFall_6 : decode cX4_firstToFall 6 = .ok (.istore_n 2, 1) := by decide +kernel
theorem dX4_firstToFall_7 : decode cX4_firstToFall 7 = .ok (.iload_n 2, 1) := by decide +kernel
theorem dX4_firstToFall_8 : decode cX4_firstToFall 8 = .ok (.bipush 60, 2) := by decide +kernel
theorem dX4_firstToFall_10 : decode cX4_firstToFall 10 = .ok (.if_icmp .gt 45, 3) := by decide +kernel
theorem dX4_firstToFall_13 : decode cX4_firstToFall 13 = .ok (.aload_n 0, 1) := by decide +kernel
theorem dX4_firstToFall_14 : decode cX4_firstToFall 14 = .ok (.iload_n 1, 1) := by decide +kernel
theorem dX4_firstToFall_15 : decode cX4_firstToFall 15 = .ok (.aload_n 0, 1) := by decide +kernel
theorem dX4_firstToFall_16 : decode cX4_firstToFall 16 = .ok (.getfield 9, 3) := by decide +kernel
theorem dX4_firstToFall_19 : decode cX4_firstToFall 19 = .ok (.aload_n 0, 1) := by decide +kernel
theorem dX4_firstToFall_20 : decode cX4_firstToFall 20 = .ok (.getfield 15, 3) := by decide +kernel
theorem dX4_firstToFall_23 : decode cX4_firstToFall 23 = .ok (.iload_n 2, 1) := by decide +kernel
theorem dX4_firstToFall_24 : decode cX4_firstToFall 24 = .ok (.iadd, 1) := by decide +kernel
theorem dX4_firstToFall_25 : decode cX4_firstToFall 25 = .ok (.invokevirtual 22, 3) := by decide +kernel
theorem dX4_firstToFall_28 : decode cX4_firstToFall 28 = .ok (.istore_n 1, 1) := by decide +kernel
theorem dX4_firstToFall_29 : decode cX4_firstToFall 29 = .ok (.iload_n 1, 1) := by decide +kernel
theorem dX4_firstToFall_30 : decode cX4_firstToFall 30 = .ok (.aload_n 0, 1) := by decide +kernel
theorem dX4_firstToFall_31 : decode cX4_firstToFall 31 = .ok (.getfield 26, 3) := by decide +kernel
theorem dX4_firstToFall_34 : decode cX4_firstToFall 34 = .ok (.if_icmp .eq 15, 3) := by decide +kernel
theorem dX4_firstToFall_37 : decode cX4_firstToFall 37 = .ok (.iload_n 1, 1) := by decide +kernel
theorem dX4_firstToFall_38 : decode cX4_firstToFall 38 = .ok (.aload_n 0, 1) := by decide +kernel
theorem dX4_firstToFall_39 : decode cX4_firstToFall 39 = .ok (.getfield 26, 3) := by decide +kernel
theorem dX4_firstToFall_42 : decode cX4_firstToFall 42 = .ok (.iconst (-1), 1) := by decide +kernel
theorem dX4_firstToFall_43 : decode cX4_firstToFall 43 = .ok (.ixor, 1) := by decide +kernel
theorem dX4_firstToFall_44 : decode cX4_firstToFall 44 = .ok (.iand, 1) := by decide +kernel
theorem dX4_firstToFall_45 : decode cX4_firstToFall 45 = .ok (.invokestatic 29, 3) := by decide +kernel
theorem dX4_firstToFall_48 : decode cX4_firstToFall 48 = .ok (.ireturn, 1) := by decide +kernel
theorem dX4_firstToFall_49 : decode cX4_firstToFall 49 = .ok (.iinc 2 1, 3) := by decide +kernel
theorem dX4_firstToFall_52 : decode cX4_firstToFall 52 = .ok (.goto (-45), 3) := by decide +kernel
theorem dX4_firstToFall_55 : decode cX4_firstToFall 55 = .ok (.bipush (-9), 2) := by decide +kernel
theorem dX4_firstToFall_57 : decode cX4_firstToFall 57 = .ok (.ireturn, 1) := by decide +kernel
theorem dX4_daysUntilStill_0 : decode cX4_daysUntilStill 0 = .ok (.aload_n 0, 1) := by decide +kernel
theorem dX4_daysUntilStill_1 : decode cX4_daysUntilStill 1 = .ok (.getfield 26, 3) := by decide +kernel
theorem dX4_daysUntilStill_4 : decode cX4_daysUntilStill 4 = .ok (.istore_n 1, 1) := by decide +kernel
theorem dX4_daysUntilStill_5 : decode cX4_daysUntilStill 5 = .ok (.iconst 0, 1) := by decide +kernel
theorem dX4_daysUntilStill_6 : decode cX4_daysUntilStill 6 = .ok (.istore_n 2, 1) := by decide +kernel
theorem dX4_daysUntilStill_7 : decode cX4_daysUntilStill 7 = .ok (.iload_n 2, 1) := by decide +kernel
theorem dX4_daysUntilStill_8 : decode cX4_daysUntilStill 8 = .ok (.bipush 60, 2) := by decide +kernel
theorem dX4_daysUntilStill_10 : decode cX4_daysUntilStill 10 = .ok (.if_icmp .gt 50, 3) := by decide +kernel
theorem dX4_daysUntilStill_13 : decode cX4_daysUntilStill 13 = .ok (.aload_n 0, 1) := by decide +kernel
theorem dX4_daysUntilStill_14 : decode cX4_daysUntilStill 14 = .ok (.iload_n 1, 1) := by decide +kernel
theorem dX4_daysUntilStill_15 : decode cX4_daysUntilStill 15 = .ok (.aload_n 0, 1) := by decide +kernel
theorem dX4_daysUntilStill_16 : decode cX4_daysUntilStill 16 = .ok (.getfield 9, 3) := by decide +kernel
theorem dX4_daysUntilStill_19 : decode cX4_daysUntilStill 19 = .ok (.aload_n 0, 1) := by decide +kernel
theorem dX4_daysUntilStill_20 : decode cX4_daysUntilStill 20 = .ok (.getfield 15, 3) := by decide +kernel
theorem dX4_daysUntilStill_23 : decode cX4_daysUntilStill 23 = .ok (.iload_n 2, 1) := by decide +kernel
theorem dX4_daysUntilStill_24 : decode cX4_daysUntilStill 24 = .ok (.iadd, 1) := by decide +kernel
theorem dX4_daysUntilStill_25 : decode cX4_daysUntilStill 25 = .ok (.bipush 12, 2) := by decide +kernel
theorem dX4_daysUntilStill_27 : decode cX4_daysUntilStill 27 = .ok (.invokevirtual 18, 3) := by decide +kernel
theorem dX4_daysUntilStill_30 : decode cX4_daysUntilStill 30 = .ok (.iload_n 1, 1) := by decide +kernel
theorem dX4_daysUntilStill_31 : decode cX4_daysUntilStill 31 = .ok (.if_icmp .ne 5, 3) := by decide +kernel
theorem dX4_daysUntilStill_34 : decode cX4_daysUntilStill 34 = .ok (.iload_n 2, 1) := by decide +kernel
theorem dX4_daysUntilStill_35 : decode cX4_daysUntilStill 35 = .ok (.ireturn, 1) := by decide +kernel
theorem dX4_daysUntilStill_36 : decode cX4_daysUntilStill 36 = .ok (.aload_n 0, 1) := by decide +kernel
theorem dX4_daysUntilStill_37 : decode cX4_daysUntilStill 37 = .ok (.iload_n 1, 1) := by decide +kernel
theorem dX4_daysUntilStill_38 : decode cX4_daysUntilStill 38 = .ok (.aload_n 0, 1) := by decide +kernel
theorem dX4_daysUntilStill_39 : decode cX4_daysUntilStill 39 = .ok (.getfield 9, 3) := by decide +kernel
theorem dX4_daysUntilStill_42 : decode cX4_daysUntilStill 42 = .ok (.aload_n 0, 1) := by decide +kernel
theorem dX4_daysUntilStill_43 : decode cX4_daysUntilStill 43 = .ok (.getfield 15, 3) := by decide +kernel
theorem dX4_daysUntilStill_46 : decode cX4_daysUntilStill 46 = .ok (.iload_n 2, 1) := by decide +kernel
theorem dX4_daysUntilStill_47 : decode cX4_daysUntilStill 47 = .ok (.iadd, 1) := by decide +kernel
theorem dX4_daysUntilStill_48 : decode cX4_daysUntilStill 48 = .ok (.iconst 1, 1) := by decide +kernel
theorem dX4_daysUntilStill_49 : decode cX4_daysUntilStill 49 = .ok (.iadd, 1) := by decide +kernel
theorem dX4_daysUntilStill_50 : decode cX4_daysUntilStill 50 = .ok (.invokevirtual 22, 3) := by decide +kernel
theorem dX4_daysUntilStill_53 : decode cX4_daysUntilStill 53 = .ok (.istore_n 1, 1) := by decide +kernel
theorem dX4_daysUntilStill_54 : decode cX4_daysUntilStill 54 = .ok (.iinc 2 1, 3) := by decide +kernel
theorem dX4_daysUntilStill_57 : decode cX4_daysUntilStill 57 = .ok (.goto (-50), 3) := by decide +kernel
theorem dX4_daysUntilStill_60 : decode cX4_daysUntilStill 60 = .ok (.bipush (-9), 2) := by decide +kernel
theorem dX4_daysUntilStill_62 : decode cX4_daysUntilStill 62 = .ok (.ireturn, 1) := by decide +kernel
theorem dX4_fewestToGuard_0 : decode cX4_fewestToGuard 0 = .ok (.iconst 1, 1) := by decide +kernel
theorem dX4_fewestToGuard_1 : decode cX4_fewestToGuard 1 = .ok (.iload_n 1, 1) := by decide +kernel
theorem dX4_fewestToGuard_2 : decode cX4_fewestToGuard 2 = .ok (.ishl, 1) := by decide +kernel
theorem dX4_fewestToGuard_3 : decode cX4_fewestToGuard 3 = .ok (.istore_n 3, 1) := by decide +kernel
theorem dX4_fewestToGuard_4 : decode cX4_fewestToGuard 4 = .ok (.aload_n 0, 1) := by decide +kernel
theorem dX4_fewestToGuard_5 : decode cX4_fewestToGuard 5 = .ok (.iload_n 1, 1) := by decide +kernel
theorem dX4_fewestToGuard_6 : decode cX4_fewestToGuard 6 = .ok (.invokevirtual 37, 3) := by decide +kernel
theorem dX4_fewestToGuard_9 : decode cX4_fewestToGuard 9 = .ok (.ifCond .eq 6, 3) := by decide +kernel
theorem dX4_fewestToGuard_12 : decode cX4_fewestToGuard 12 = .ok (.bipush (-9), 2) := by decide +kernel
theorem dX4_fewestToGuard_14 : decode cX4_fewestToGuard 14 = .ok (.ireturn, 1) := by decide +kernel
theorem dX4_fewestToGuard_15 : decode cX4_fewestToGuard 15 = .ok (.aload_n 0, 1) := by decide +kernel
theorem dX4_fewestToGuard_16 : decode cX4_fewestToGuard 16 = .ok (.aload_n 0, 1) := by decide +kernel
theorem dX4_fewestToGuard_17 : decode cX4_fewestToGuard 17 = .ok (.getfield 26, 3) := by decide +kernel
theorem dX4_fewestToGuard_20 : decode cX4_fewestToGuard 20 = .ok (.iload_n 2, 1) := by decide +kernel
theorem dX4_fewestToGuard_21 : decode cX4_fewestToGuard 21 = .ok (.invokestatic 41, 3) := by decide +kernel
theorem dX4_fewestToGuard_24 : decode cX4_fewestToGuard 24 = .ok (.iload_n 3, 1) := by decide +kernel
theorem dX4_fewestToGuard_25 : decode cX4_fewestToGuard 25 = .ok (.iand, 1) := by decide +kernel
theorem dX4_fewestToGuard_26 : decode cX4_fewestToGuard 26 = .ok (.ifCond .ne 5, 3) := by decide +kernel
theorem dX4_fewestToGuard_29 : decode cX4_fewestToGuard 29 = .ok (.iconst 0, 1) := by decide +kernel
theorem dX4_fewestToGuard_30 : decode cX4_fewestToGuard 30 = .ok (.ireturn, 1) := by decide +kernel
theorem dX4_fewestToGuard_31 : decode cX4_fewestToGuard 31 = .ok (.iconst 0, 1) := by decide +kernel
theorem dX4_fewestToGuard_32 : decode cX4_fewestToGuard 32 = .ok (.istore 4, 2) := by decide +kernel
theorem dX4_fewestToGuard_34 : decode cX4_fewestToGuard 34 = .ok (.iload 4, 2) := by decide +kernel
theorem dX4_fewestToGuard_36 : decode cX4_fewestToGuard 36 = .ok (.aload_n 0, 1) := by decide +kernel
theorem dX4_fewestToGuard_37 : decode cX4_fewestToGuard 37 = .ok (.getfield 45, 3) := by decide +kernel
theorem dX4_fewestToGuard_40 : decode cX4_fewestToGuard 40 = .ok (.if_icmp .ge 40, 3) := by decide +kernel
theorem dX4_fewestToGuard_43 : decode cX4_fewestToGuard 43 = .ok (.iconst 1, 1) := by decide +kernel
theorem dX4_fewestToGuard_44 : decode cX4_fewestToGuard 44 = .ok (.iload 4, 2) := by decide +kernel
theorem dX4_fewestToGuard_46 : decode cX4_fewestToGuard 46 = .ok (.ishl, 1) := by decide +kernel
theorem dX4_fewestToGuard_47 : decode cX4_fewestToGuard 47 = .ok (.istore 5, 2) := by decide +kernel
theorem dX4_fewestToGuard_49 : decode cX4_fewestToGuard 49 = .ok (.aload_n 0, 1) := by decide +kernel
theorem dX4_fewestToGuard_50 : decode cX4_fewestToGuard 50 = .ok (.invokevirtual 48, 3) := by decide +kernel
theorem dX4_fewestToGuard_53 : decode cX4_fewestToGuard 53 = .ok (.iload 5, 2) := by decide +kernel
theorem dX4_fewestToGuard_55 : decode cX4_fewestToGuard 55 = .ok (.iand, 1) := by decide +kernel
theorem dX4_fewestToGuard_56 : decode cX4_fewestToGuard 56 = .ok (.ifCond .eq 18, 3) := by decide +kernel
theorem dX4_fewestToGuard_59 : decode cX4_fewestToGuard 59 = .ok (.aload_n 0, 1) := by decide +kernel
theorem dX4_fewestToGuard_60 : decode cX4_fewestToGuard 60 = .ok (.iload 5, 2) := by decide +kernel
theorem dX4_fewestToGuard_62 : decode cX4_fewestToGuard 62 = .ok (.iload_n 2, 1) := by decide +kernel
theorem dX4_fewestToGuard_63 : decode cX4_fewestToGuard 63 = .ok (.invokestatic 52, 3) := by decide +kernel
theorem dX4_fewestToGuard_66 : decode cX4_fewestToGuard 66 = .ok (.iload_n 3, 1) := by decide +kernel
theorem dX4_fewestToGuard_67 : decode cX4_fewestToGuard 67 = .ok (.iand, 1) := by decide +kernel
theorem dX4_fewestToGuard_68 : decode cX4_fewestToGuard 68 = .ok (.ifCond .ne 6, 3) := by decide +kernel
theorem dX4_fewestToGuard_71 : decode cX4_fewestToGuard 71 = .ok (.iload 5, 2) := by decide +kernel
theorem dX4_fewestToGuard_73 : decode cX4_fewestToGuard 73 = .ok (.ireturn, 1) := by decide +kernel
theorem dX4_fewestToGuard_74 : decode cX4_fewestToGuard 74 = .ok (.iinc 4 1, 3) := by decide +kernel
theorem dX4_fewestToGuard_77 : decode cX4_fewestToGuard 77 = .ok (.goto (-43), 3) := by decide +kernel
theorem dX4_fewestToGuard_80 : decode cX4_fewestToGuard 80 = .ok (.bipush (-9), 2) := by decide +kernel
theorem dX4_fewestToGuard_82 : decode cX4_fewestToGuard 82 = .ok (.ireturn, 1) := by decide +kernel
theorem dX4_lostIfGuarded_0 : decode cX4_lostIfGuarded 0 = .ok (.aload_n 0, 1) := by decide +kernel
theorem dX4_lostIfGuarded_1 : decode cX4_lostIfGuarded 1 = .ok (.aload_n 0, 1) := by decide +kernel
theorem dX4_lostIfGuarded_2 : decode cX4_lostIfGuarded 2 = .ok (.getfield 26, 3) := by decide +kernel
theorem dX4_lostIfGuarded_5 : decode cX4_lostIfGuarded 5 = .ok (.aload_n 0, 1) := by decide +kernel
theorem dX4_lostIfGuarded_6 : decode cX4_lostIfGuarded 6 = .ok (.getfield 9, 3) := by decide +kernel
theorem dX4_lostIfGuarded_9 : decode cX4_lostIfGuarded 9 = .ok (.iload_n 1, 1) := by decide +kernel
theorem dX4_lostIfGuarded_10 : decode cX4_lostIfGuarded 10 = .ok (.ior, 1) := by decide +kernel
theorem dX4_lostIfGuarded_11 : decode cX4_lostIfGuarded 11 = .ok (.aload_n 0, 1) := by decide +kernel
theorem dX4_lostIfGuarded_12 : decode cX4_lostIfGuarded 12 = .ok (.getfield 15, 3) := by decide +kernel
theorem dX4_lostIfGuarded_15 : decode cX4_lostIfGuarded 15 = .ok (.iload_n 2, 1) := by decide +kernel
theorem dX4_lostIfGuarded_16 : decode cX4_lostIfGuarded 16 = .ok (.invokevirtual 18, 3) := by decide +kernel
theorem dX4_lostIfGuarded_19 : decode cX4_lostIfGuarded 19 = .ok (.ireturn, 1) := by decide +kernel
theorem dX4_bestToGuard_0 : decode cX4_bestToGuard 0 = .ok (.bipush (-9), 2) := by decide +kernel
theorem dX4_bestToGuard_2 : decode cX4_bestToGuard 2 = .ok (.istore_n 2, 1) := by decide +kernel
theorem dX4_bestToGuard_3 : decode cX4_bestToGuard 3 = .ok (.aload_n 0, 1) := by decide +kernel
theorem dX4_bestToGuard_4 : decode cX4_bestToGuard 4 = .ok (.aload_n 0, 1) := by decide +kernel
theorem dX4_bestToGuard_5 : decode cX4_bestToGuard 5 = .ok (.getfield 26, 3) := by decide +kernel
theorem dX4_bestToGuard_8 : decode cX4_bestToGuard 8 = .ok (.iload_n 1, 1) := by decide +kernel
theorem dX4_bestToGuard_9 : decode cX4_bestToGuard 9 = .ok (.invokestatic 41, 3) := by decide +kernel
theorem dX4_bestToGuard_12 : decode cX4_bestToGuard 12 = .ok (.invokestatic 55, 3) := by decide +kernel
theorem dX4_bestToGuard_15 : decode cX4_bestToGuard 15 = .ok (.istore_n 3, 1) := by decide +kernel
theorem dX4_bestToGuard_16 : decode cX4_bestToGuard 16 = .ok (.iconst 0, 1) := by decide +kernel
theorem dX4_bestToGuard_17 : decode cX4_bestToGuard 17 = .ok (.istore 4, 2) := by decide +kernel
theorem dX4_bestToGuard_19 : decode cX4_bestToGuard 19 = .ok (.iload 4, 2) := by decide +kernel
theorem dX4_bestToGuard_21 : decode cX4_bestToGuard 21 = .ok (.aload_n 0, 1) := by decide +kernel
theorem dX4_bestToGuard_22 : decode cX4_bestToGuard 22 = .ok (.getfield 45, 3) := by decide +kernel
theorem dX4_bestToGuard_25 : decode cX4_bestToGuard 25 = .ok (.if_icmp .ge 49, 3) := by decide +kernel
theorem dX4_bestToGuard_28 : decode cX4_bestToGuard 28 = .ok (.iconst 1, 1) := by decide +kernel
theorem dX4_bestToGuard_29 : decode cX4_bestToGuard 29 = .ok (.iload 4, 2) := by decide +kernel
theorem dX4_bestToGuard_31 : decode cX4_bestToGuard 31 = .ok (.ishl, 1) := by decide +kernel
theorem dX4_bestToGuard_32 : decode cX4_bestToGuard 32 = .ok (.istore 5, 2) := by decide +kernel
theorem dX4_bestToGuard_34 : decode cX4_bestToGuard 34 = .ok (.aload_n 0, 1) := by decide +kernel
theorem dX4_bestToGuard_35 : decode cX4_bestToGuard 35 = .ok (.invokevirtual 48, 3) := by decide +kernel
theorem dX4_bestToGuard_38 : decode cX4_bestToGuard 38 = .ok (.iload 5, 2) := by decide +kernel
theorem dX4_bestToGuard_40 : decode cX4_bestToGuard 40 = .ok (.iand, 1) := by decide +kernel
theorem dX4_bestToGuard_41 : decode cX4_bestToGuard 41 = .ok (.ifCond .eq 27, 3) := by decide +kernel
theorem dX4_bestToGuard_44 : decode cX4_bestToGuard 44 = .ok (.aload_n 0, 1) := by decide +kernel
theorem dX4_bestToGuard_45 : decode cX4_bestToGuard 45 = .ok (.iload 5, 2) := by decide +kernel
theorem dX4_bestToGuard_47 : decode cX4_bestToGuard 47 = .ok (.iload_n 1, 1) := by decide +kernel
theorem dX4_bestToGuard_48 : decode cX4_bestToGuard 48 = .ok (.invokestatic 52, 3) := by decide +kernel
theorem dX4_bestToGuard_51 : decode cX4_bestToGuard 51 = .ok (.invokestatic 55, 3) := by decide +kernel
theorem dX4_bestToGuard_54 : decode cX4_bestToGuard 54 = .ok (.istore 6, 2) := by decide +kernel
theorem dX4_bestToGuard_56 : decode cX4_bestToGuard 56 = .ok (.iload 6, 2) := by decide +kernel
theorem dX4_bestToGuard_58 : decode cX4_bestToGuard 58 = .ok (.iload_n 3, 1) := by decide +kernel
theorem dX4_bestToGuard_59 : decode cX4_bestToGuard 59 = .ok (.if_icmp .ge 9, 3) := by decide +kernel
theorem dX4_bestToGuard_62 : decode cX4_bestToGuard 62 = .ok (.iload 6, 2) := by decide +kernel
theorem dX4_bestToGuard_64 : decode cX4_bestToGuard 64 = .ok (.istore_n 3, 1) := by decide +kernel
theorem dX4_bestToGuard_65 : decode cX4_bestToGuard 65 = .ok (.iload 4, 2) := by decide +kernel
theorem dX4_bestToGuard_67 : decode cX4_bestToGuard 67 = .ok (.istore_n 2, 1) := by decide +kernel
theorem dX4_bestToGuard_68 : decode cX4_bestToGuard 68 = .ok (.iinc 4 1, 3) := by decide +kernel
theorem dX4_bestToGuard_71 : decode cX4_bestToGuard 71 = .ok (.goto (-52), 3) := by decide +kernel
theorem dX4_bestToGuard_74 : decode cX4_bestToGuard 74 = .ok (.iload_n 2, 1) := by decide +kernel
theorem dX4_bestToGuard_75 : decode cX4_bestToGuard 75 = .ok (.ireturn, 1) := by decide +kernel
theorem dX4_soonestNail_0 : decode cX4_soonestNail 0 = .ok (.bipush (-9), 2) := by decide +kernel
theorem dX4_soonestNail_2 : decode cX4_soonestNail 2 = .ok (.istore_n 2, 1) := by decide +kernel
theorem dX4_soonestNail_3 : decode cX4_soonestNail 3 = .ok (.aload_n 0, 1) := by decide +kernel
theorem dX4_soonestNail_4 : decode cX4_soonestNail 4 = .ok (.iload_n 1, 1) := by decide +kernel
theorem dX4_soonestNail_5 : decode cX4_soonestNail 5 = .ok (.aload_n 0, 1) := by decide +kernel
theorem dX4_soonestNail_6 : decode cX4_soonestNail 6 = .ok (.getfield 26, 3) := by decide +kernel
theorem dX4_soonestNail_9 : decode cX4_soonestNail 9 = .ok (.invokestatic 58, 3) := by decide +kernel
theorem dX4_soonestNail_12 : decode cX4_soonestNail 12 = .ok (.istore_n 3, 1) := by decide +kernel
theorem dX4_soonestNail_13 : decode cX4_soonestNail 13 = .ok (.aload_n 0, 1) := by decide +kernel
theorem dX4_soonestNail_14 : decode cX4_soonestNail 14 = .ok (.invokevirtual 61, 3) := by decide +kernel
theorem dX4_soonestNail_17 : decode cX4_soonestNail 17 = .ok (.istore 4, 2) := by decide +kernel
theorem dX4_soonestNail_19 : decode cX4_soonestNail 19 = .ok (.iconst 0, 1) := by decide +kernel
theorem dX4_soonestNail_20 : decode cX4_soonestNail 20 = .ok (.istore 5, 2) := by decide +kernel
theorem dX4_soonestNail_22 : decode cX4_soonestNail 22 = .ok (.iload 5, 2) := by decide +kernel
theorem dX4_soonestNail_24 : decode cX4_soonestNail 24 = .ok (.aload_n 0, 1) := by decide +kernel
theorem dX4_soonestNail_25 : decode cX4_soonestNail 25 = .ok (.getfield 45, 3) := by decide +kernel
theorem dX4_soonestNail_28 : decode cX4_soonestNail 28 = .ok (.if_icmp .ge 60, 3) := by decide +kernel
theorem dX4_soonestNail_31 : decode cX4_soonestNail 31 = .ok (.iload 4, 2) := by decide +kernel
theorem dX4_soonestNail_33 : decode cX4_soonestNail 33 = .ok (.iconst 1, 1) := by decide +kernel
theorem dX4_soonestNail_34 : decode cX4_soonestNail 34 = .ok (.iload 5, 2) := by decide +kernel
theorem dX4_soonestNail_36 : decode cX4_soonestNail 36 = .ok (.ishl, 1) := by decide +kernel
theorem dX4_soonestNail_37 : decode cX4_soonestNail 37 = .ok (.iand, 1) := by decide +kernel
theorem dX4_soonestNail_38 : decode cX4_soonestNail 38 = .ok (.ifCond .eq 44, 3) := by decide +kernel
theorem dX4_soonestNail_41 : decode cX4_soonestNail 41 = .ok (.aload_n 0, 1) := by decide +kernel
theorem dX4_soonestNail_42 : decode cX4_soonestNail 42 = .ok (.iload_n 1, 1) := by decide +kernel
theorem dX4_soonestNail_43 : decode cX4_soonestNail 43 = .ok (.aload_n 0, 1) := by decide +kernel
theorem dX4_soonestNail_44 : decode cX4_soonestNail 44 = .ok (.getfield 26, 3) := by decide +kernel
theorem dX4_soonestNail_47 : decode cX4_soonestNail 47 = .ok (.iconst 1, 1) := by decide +kernel
theorem dX4_soonestNail_48 : decode cX4_soonestNail 48 = .ok (.iload 5, 2) := by decide +kernel
theorem dX4_soonestNail_50 : decode cX4_soonestNail 50 = .ok (.ishl, 1) := by decide +kernel
theorem dX4_soonestNail_51 : decode cX4_soonestNail 51 = .ok (.ior, 1) := by decide +kernel
theorem dX4_soonestNail_52 : decode cX4_soonestNail 52 = .ok (.invokestatic 58, 3) := by decide +kernel
theorem dX4_soonestNail_55 : decode cX4_soonestNail 55 = .ok (.istore 6, 2) := by decide +kernel
theorem dX4_soonestNail_57 : decode cX4_soonestNail 57 = .ok (.iload 6, 2) := by decide +kernel
theorem dX4_soonestNail_59 : decode cX4_soonestNail 59 = .ok (.bipush (-9), 2) := by decide +kernel
theorem dX4_soonestNail_61 : decode cX4_soonestNail 61 = .ok (.if_icmp .eq 21, 3) := by decide +kernel
theorem dX4_soonestNail_64 : decode cX4_soonestNail 64 = .ok (.iload_n 3, 1) := by decide +kernel
theorem dX4_soonestNail_65 : decode cX4_soonestNail 65 = .ok (.bipush (-9), 2) := by decide +kernel
theorem dX4_soonestNail_67 : decode cX4_soonestNail 67 = .ok (.if_icmp .eq 9, 3) := by decide +kernel
theorem dX4_soonestNail_70 : decode cX4_soonestNail 70 = .ok (.iload 6, 2) := by decide +kernel
theorem dX4_soonestNail_72 : decode cX4_soonestNail 72 = .ok (.iload_n 3, 1) := by decide +kernel
theorem dX4_soonestNail_73 : decode cX4_soonestNail 73 = .ok (.if_icmp .ge 9, 3) := by decide +kernel
theorem dX4_soonestNail_76 : decode cX4_soonestNail 76 = .ok (.iload 6, 2) := by decide +kernel
theorem dX4_soonestNail_78 : decode cX4_soonestNail 78 = .ok (.istore_n 3, 1) := by decide +kernel
theorem dX4_soonestNail_79 : decode cX4_soonestNail 79 = .ok (.iload 5, 2) := by decide +kernel
theorem dX4_soonestNail_81 : decode cX4_soonestNail 81 = .ok (.istore_n 2, 1) := by decide +kernel
theorem dX4_soonestNail_82 : decode cX4_soonestNail 82 = .ok (.iinc 5 1, 3) := by decide +kernel
theorem dX4_soonestNail_85 : decode cX4_soonestNail 85 = .ok (.goto (-63), 3) := by decide +kernel
theorem dX4_soonestNail_88 : decode cX4_soonestNail 88 = .ok (.iload_n 2, 1) := by decide +kernel
theorem dX4_soonestNail_89 : decode cX4_soonestNail 89 = .ok (.ireturn, 1) := by decide +kernel
theorem dX4_worstNail_0 : decode cX4_worstNail 0 = .ok (.bipush (-9), 2) := by decide +kernel
theorem dX4_worstNail_2 : decode cX4_worstNail 2 = .ok (.istore_n 2, 1) := by decide +kernel
theorem dX4_worstNail_3 : decode cX4_worstNail 3 = .ok (.aload_n 0, 1) := by decide +kernel
theorem dX4_worstNail_4 : decode cX4_worstNail 4 = .ok (.aload_n 0, 1) := by decide +kernel
theorem dX4_worstNail_5 : decode cX4_worstNail 5 = .ok (.getfield 26, 3) := by decide +kernel
theorem dX4_worstNail_8 : decode cX4_worstNail 8 = .ok (.iload_n 1, 1) := by decide +kernel
theorem dX4_worstNail_9 : decode cX4_worstNail 9 = .ok (.invokestatic 41, 3) := by decide +kernel
theorem dX4_worstNail_12 : decode cX4_worstNail 12 = .ok (.invokestatic 55, 3) := by decide +kernel
theorem dX4_worstNail_15 : decode cX4_worstNail 15 = .ok (.istore_n 3, 1) := by decide +kernel
theorem dX4_worstNail_16 : decode cX4_worstNail 16 = .ok (.aload_n 0, 1) := by decide +kernel
theorem dX4_worstNail_17 : decode cX4_worstNail 17 = .ok (.invokevirtual 61, 3) := by decide +kernel
theorem dX4_worstNail_20 : decode cX4_worstNail 20 = .ok (.istore 4, 2) := by decide +kernel
theorem dX4_worstNail_22 : decode cX4_worstNail 22 = .ok (.iconst 0, 1) := by decide +kernel
theorem dX4_worstNail_23 : decode cX4_worstNail 23 = .ok (.istore 5, 2) := by decide +kernel
theorem dX4_worstNail_25 : decode cX4_worstNail 25 = .ok (.iload 5, 2) := by decide +kernel
theorem dX4_worstNail_27 : decode cX4_worstNail 27 = .ok (.aload_n 0, 1) := by decide +kernel
theorem dX4_worstNail_28 : decode cX4_worstNail 28 = .ok (.getfield 45, 3) := by decide +kernel
theorem dX4_worstNail_31 : decode cX4_worstNail 31 = .ok (.if_icmp .ge 50, 3) := by decide +kernel
theorem dX4_worstNail_34 : decode cX4_worstNail 34 = .ok (.iload 4, 2) := by decide +kernel
theorem dX4_worstNail_36 : decode cX4_worstNail 36 = .ok (.iconst 1, 1) := by decide +kernel
theorem dX4_worstNail_37 : decode cX4_worstNail 37 = .ok (.iload 5, 2) := by decide +kernel
theorem dX4_worstNail_39 : decode cX4_worstNail 39 = .ok (.ishl, 1) := by decide +kernel
theorem dX4_worstNail_40 : decode cX4_worstNail 40 = .ok (.iand, 1) := by decide +kernel
theorem dX4_worstNail_41 : decode cX4_worstNail 41 = .ok (.ifCond .eq 34, 3) := by decide +kernel
theorem dX4_worstNail_44 : decode cX4_worstNail 44 = .ok (.aload_n 0, 1) := by decide +kernel
theorem dX4_worstNail_45 : decode cX4_worstNail 45 = .ok (.aload_n 0, 1) := by decide +kernel
theorem dX4_worstNail_46 : decode cX4_worstNail 46 = .ok (.getfield 26, 3) := by decide +kernel
theorem dX4_worstNail_49 : decode cX4_worstNail 49 = .ok (.iconst 1, 1) := by decide +kernel
theorem dX4_worstNail_50 : decode cX4_worstNail 50 = .ok (.iload 5, 2) := by decide +kernel
theorem dX4_worstNail_52 : decode cX4_worstNail 52 = .ok (.ishl, 1) := by decide +kernel
theorem dX4_worstNail_53 : decode cX4_worstNail 53 = .ok (.ior, 1) := by decide +kernel
theorem dX4_worstNail_54 : decode cX4_worstNail 54 = .ok (.iload_n 1, 1) := by decide +kernel
theorem dX4_worstNail_55 : decode cX4_worstNail 55 = .ok (.invokestatic 41, 3) := by decide +kernel
theorem dX4_worstNail_58 : decode cX4_worstNail 58 = .ok (.invokestatic 55, 3) := by decide +kernel
theorem dX4_worstNail_61 : decode cX4_worstNail 61 = .ok (.istore 6, 2) := by decide +kernel
theorem dX4_worstNail_63 : decode cX4_worstNail 63 = .ok (.iload 6, 2) := by decide +kernel
theorem dX4_worstNail_65 : decode cX4_worstNail 65 = .ok (.iload_n 3, 1) := by decide +kernel
theorem dX4_worstNail_66 : decode cX4_worstNail 66 = .ok (.if_icmp .le 9, 3) := by decide +kernel
theorem dX4_worstNail_69 : decode cX4_worstNail 69 = .ok (.iload 6, 2) := by decide +kernel
theorem dX4_worstNail_71 : decode cX4_worstNail 71 = .ok (.istore_n 3, 1) := by decide +kernel
theorem dX4_worstNail_72 : decode cX4_worstNail 72 = .ok (.iload 5, 2) := by decide +kernel
theorem dX4_worstNail_74 : decode cX4_worstNail 74 = .ok (.istore_n 2, 1) := by decide +kernel
theorem dX4_worstNail_75 : decode cX4_worstNail 75 = .ok (.iinc 5 1, 3) := by decide +kernel
theorem dX4_worstNail_78 : decode cX4_worstNail 78 = .ok (.goto (-53), 3) := by decide +kernel
theorem dX4_worstNail_81 : decode cX4_worstNail 81 = .ok (.iload_n 2, 1) := by decide +kernel
theorem dX4_worstNail_82 : decode cX4_worstNail 82 = .ok (.ireturn, 1) := by decide +kernel
theorem dX4_fewestToLose_0 : decode cX4_fewestToLose 0 = .ok (.bipush (-9), 2) := by decide +kernel
theorem dX4_fewestToLose_2 : decode cX4_fewestToLose 2 = .ok (.istore_n 2, 1) := by decide +kernel
theorem dX4_fewestToLose_3 : decode cX4_fewestToLose 3 = .ok (.bipush 10, 2) := by decide +kernel
theorem dX4_fewestToLose_5 : decode cX4_fewestToLose 5 = .ok (.istore_n 3, 1) := by decide +kernel
theorem dX4_fewestToLose_6 : decode cX4_fewestToLose 6 = .ok (.aload_n 0, 1) := by decide +kernel
theorem dX4_fewestToLose_7 : decode cX4_fewestToLose 7 = .ok (.invokevirtual 61, 3) := by decide +kernel
theorem dX4_fewestToLose_10 : decode cX4_fewestToLose 10 = .ok (.istore 4, 2) := by decide +kernel
theorem dX4_fewestToLose_12 : decode cX4_fewestToLose 12 = .ok (.iconst 0, 1) := by decide +kernel
theorem dX4_fewestToLose_13 : decode cX4_fewestToLose 13 = .ok (.istore 5, 2) := by decide +kernel
theorem dX4_fewestToLose_15 : decode cX4_fewestToLose 15 = .ok (.iload 5, 2) := by decide +kernel
theorem dX4_fewestToLose_17 : decode cX4_fewestToLose 17 = .ok (.aload_n 0, 1) := by decide +kernel
theorem dX4_fewestToLose_18 : decode cX4_fewestToLose 18 = .ok (.invokevirtual 64, 3) := by decide +kernel
theorem dX4_fewestToLose_21 : decode cX4_fewestToLose 21 = .ok (.if_icmp .gt 66, 3) := by decide +kernel
theorem dX4_fewestToLose_24 : decode cX4_fewestToLose 24 = .ok (.iload 5, 2) := by decide +kernel
theorem dX4_fewestToLose_26 : decode cX4_fewestToLose 26 = .ok (.iload 4, 2) := by decide +kernel
theorem dX4_fewestToLose_28 : decode cX4_fewestToLose 28 = .ok (.iconst (-1), 1) := by decide +kernel
theorem dX4_fewestToLose_29 : decode cX4_fewestToLose 29 = .ok (.ixor, 1) := by decide +kernel
theorem dX4_fewestToLose_30 : decode cX4_fewestToLose 30 = .ok (.iand, 1) := by decide +kernel
theorem dX4_fewestToLose_31 : decode cX4_fewestToLose 31 = .ok (.ifCond .ne 16, 3) := by decide +kernel
theorem dX4_fewestToLose_34 : decode cX4_fewestToLose 34 = .ok (.iload 5, 2) := by decide +kernel
theorem dX4_fewestToLose_36 : decode cX4_fewestToLose 36 = .ok (.invokestatic 55, 3) := by decide +kernel
theorem dX4_fewestToLose_39 : decode cX4_fewestToLose 39 = .ok (.iload_n 3, 1) := by decide +kernel
theorem dX4_fewestToLose_40 : decode cX4_fewestToLose 40 = .ok (.if_icmp .ge 7, 3) := by decide +kernel
theorem dX4_fewestToLose_43 : decode cX4_fewestToLose 43 = .ok (.iconst 1, 1) := by decide +kernel
theorem dX4_fewestToLose_44 : decode cX4_fewestToLose 44 = .ok (.goto 4, 3) := by decide +kernel
theorem dX4_fewestToLose_47 : decode cX4_fewestToLose 47 = .ok (.iconst 0, 1) := by decide +kernel
theorem dX4_fewestToLose_48 : decode cX4_fewestToLose 48 = .ok (.istore 6, 2) := by decide +kernel
theorem dX4_fewestToLose_50 : decode cX4_fewestToLose 50 = .ok (.iload 6, 2) := by decide +kernel
theorem dX4_fewestToLose_52 : decode cX4_fewestToLose 52 = .ok (.ifCond .eq 29, 3) := by decide +kernel
theorem dX4_fewestToLose_55 : decode cX4_fewestToLose 55 = .ok (.aload_n 0, 1) := by decide +kernel
theorem dX4_fewestToLose_56 : decode cX4_fewestToLose 56 = .ok (.iload_n 1, 1) := by decide +kernel
theorem dX4_fewestToLose_57 : decode cX4_fewestToLose 57 = .ok (.aload_n 0, 1) := by decide +kernel
theorem dX4_fewestToLose_58 : decode cX4_fewestToLose 58 = .ok (.getfield 26, 3) := by decide +kernel
theorem dX4_fewestToLose_61 : decode cX4_fewestToLose 61 = .ok (.iload 5, 2) := by decide +kernel
theorem dX4_fewestToLose_63 : decode cX4_fewestToLose 63 = .ok (.ior, 1) := by decide +kernel
theorem dX4_fewestToLose_64 : decode cX4_fewestToLose 64 = .ok (.invokestatic 58, 3) := by decide +kernel
theorem dX4_fewestToLose_67 : decode cX4_fewestToLose 67 = .ok (.bipush (-9), 2) := by decide +kernel
theorem dX4_fewestToLose_69 : decode cX4_fewestToLose 69 = .ok (.if_icmp .eq 12, 3) := by decide +kernel
theorem dX4_fewestToLose_72 : decode cX4_fewestToLose 72 = .ok (.iload 5, 2) := by decide +kernel
theorem dX4_fewestToLose_74 : decode cX4_fewestToLose 74 = .ok (.istore_n 2, 1) := by decide +kernel
theorem dX4_fewestToLose_75 : decode cX4_fewestToLose 75 = .ok (.iload 5, 2) := by decide +kernel
theorem dX4_fewestToLose_77 : decode cX4_fewestToLose 77 = .ok (.invokestatic 55, 3) := by decide +kernel
theorem dX4_fewestToLose_80 : decode cX4_fewestToLose 80 = .ok (.istore_n 3, 1) := by decide +kernel
theorem dX4_fewestToLose_81 : decode cX4_fewestToLose 81 = .ok (.iinc 5 1, 3) := by decide +kernel
theorem dX4_fewestToLose_84 : decode cX4_fewestToLose 84 = .ok (.goto (-69), 3) := by decide +kernel
theorem dX4_fewestToLose_87 : decode cX4_fewestToLose 87 = .ok (.iload_n 2, 1) := by decide +kernel
theorem dX4_fewestToLose_88 : decode cX4_fewestToLose 88 = .ok (.ireturn, 1) := by decide +kernel
theorem dX4_savedBy_0 : decode cX4_savedBy 0 = .ok (.aload_n 0, 1) := by decide +kernel
theorem dX4_savedBy_1 : decode cX4_savedBy 1 = .ok (.aload_n 0, 1) := by decide +kernel
theorem dX4_savedBy_2 : decode cX4_savedBy 2 = .ok (.getfield 26, 3) := by decide +kernel
theorem dX4_savedBy_5 : decode cX4_savedBy 5 = .ok (.iload_n 2, 1) := by decide +kernel
theorem dX4_savedBy_6 : decode cX4_savedBy 6 = .ok (.invokestatic 41, 3) := by decide +kernel
theorem dX4_savedBy_9 : decode cX4_savedBy 9 = .ok (.istore_n 3, 1) := by decide +kernel
theorem dX4_savedBy_10 : decode cX4_savedBy 10 = .ok (.aload_n 0, 1) := by decide +kernel
theorem dX4_savedBy_11 : decode cX4_savedBy 11 = .ok (.aload_n 0, 1) := by decide +kernel
theorem dX4_savedBy_12 : decode cX4_savedBy 12 = .ok (.getfield 26, 3) := by decide +kernel
theorem dX4_savedBy_15 : decode cX4_savedBy 15 = .ok (.iconst 1, 1) := by decide +kernel
theorem dX4_savedBy_16 : decode cX4_savedBy 16 = .ok (.iload_n 1, 1) := by decide +kernel
theorem dX4_savedBy_17 : decode cX4_savedBy 17 = .ok (.ishl, 1) := by decide +kernel
theorem dX4_savedBy_18 : decode cX4_savedBy 18 = .ok (.iconst (-1), 1) := by decide +kernel
theorem dX4_savedBy_19 : decode cX4_savedBy 19 = .ok (.ixor, 1) := by decide +kernel
theorem dX4_savedBy_20 : decode cX4_savedBy 20 = .ok (.iand, 1) := by decide +kernel
theorem dX4_savedBy_21 : decode cX4_savedBy 21 = .ok (.iload_n 2, 1) := by decide +kernel
theorem dX4_savedBy_22 : decode cX4_savedBy 22 = .ok (.invokestatic 41, 3) := by decide +kernel
theorem dX4_savedBy_25 : decode cX4_savedBy 25 = .ok (.istore 4, 2) := by decide +kernel
theorem dX4_savedBy_27 : decode cX4_savedBy 27 = .ok (.iload_n 3, 1) := by decide +kernel
theorem dX4_savedBy_28 : decode cX4_savedBy 28 = .ok (.invokestatic 55, 3) := by decide +kernel
theorem dX4_savedBy_31 : decode cX4_savedBy 31 = .ok (.iload 4, 2) := by decide +kernel
theorem dX4_savedBy_33 : decode cX4_savedBy 33 = .ok (.invokestatic 55, 3) := by decide +kernel
theorem dX4_savedBy_36 : decode cX4_savedBy 36 = .ok (.isub, 1) := by decide +kernel
theorem dX4_savedBy_37 : decode cX4_savedBy 37 = .ok (.ireturn, 1) := by decide +kernel
theorem dX5_init_0 : decode cX5_init 0 = .ok (.aload_n 0, 1) := by decide +kernel
theorem dX5_init_1 : decode cX5_init 1 = .ok (.invokespecial 3, 3) := by decide +kernel
theorem dX5_init_4 : decode cX5_init 4 = .ok (.aload_n 0, 1) := by decide +kernel
theorem dX5_init_5 : decode cX5_init 5 = .ok (.bipush 16, 2) := by decide +kernel
theorem dX5_init_7 : decode cX5_init 7 = .ok (.newarray .int, 2) := by decide +kernel
theorem dX5_init_9 : decode cX5_init 9 = .ok (.putfield 11, 3) := by decide +kernel
theorem dX5_init_12 : decode cX5_init 12 = .ok (.return_, 1) := by decide +kernel
theorem dX5_isFull_0 : decode cX5_isFull 0 = .ok (.aload_n 0, 1) := by decide +kernel
theorem dX5_isFull_1 : decode cX5_isFull 1 = .ok (.getfield 15, 3) := by decide +kernel
theorem dX5_isFull_4 : decode cX5_isFull 4 = .ok (.bipush 16, 2) := by decide +kernel
theorem dX5_isFull_6 : decode cX5_isFull 6 = .ok (.if_icmp .lt 7, 3) := by decide +kernel
theorem dX5_isFull_9 : decode cX5_isFull 9 = .ok (.iconst 1, 1) := by decide +kernel
theorem dX5_isFull_10 : decode cX5_isFull 10 = .ok (.goto 4, 3) := by decide +kernel
theorem dX5_isFull_13 : decode cX5_isFull 13 = .ok (.iconst 0, 1) := by decide +kernel
theorem dX5_isFull_14 : decode cX5_isFull 14 = .ok (.ireturn, 1) := by decide +kernel
theorem dX5_add_0 : decode cX5_add 0 = .ok (.aload_n 0, 1) := by decide +kernel
theorem dX5_add_1 : decode cX5_add 1 = .ok (.invokevirtual 19, 3) := by decide +kernel
theorem dX5_add_4 : decode cX5_add 4 = .ok (.ifCond .ne 23, 3) := by decide +kernel
theorem dX5_add_7 : decode cX5_add 7 = .ok (.aload_n 0, 1) := by decide +kernel
theorem dX5_add_8 : decode cX5_add 8 = .ok (.getfield 11, 3) := by decide +kernel
theorem dX5_add_11 : decode cX5_add 11 = .ok (.aload_n 0, 1) := by decide +kernel
theorem dX5_add_12 : decode cX5_add 12 = .ok (.getfield 15, 3) := by decide +kernel
theorem dX5_add_15 : decode cX5_add 15 = .ok (.iload_n 1, 1) := by decide +kernel
theorem dX5_add_16 : decode cX5_add 16 = .ok (.iastore, 1) := by decide +kernel
theorem dX5_add_17 : decode cX5_add 17 = .ok (.aload_n 0, 1) := by decide +kernel
theorem dX5_add_18 : decode cX5_add 18 = .ok (.dup, 1) := by decide +kernel
theorem dX5_add_19 : decode cX5_add 19 = .ok (.getfield 15, 3) := by decide +kernel
theorem dX5_add_22 : decode cX5_add 22 = .ok (.iconst 1, 1) := by decide +kernel
theorem dX5_add_23 : decode cX5_add 23 = .ok (.iadd, 1) := by decide +kernel
theorem dX5_add_24 : decode cX5_add 24 = .ok (.putfield 15, 3) := by decide +kernel
theorem dX5_add_27 : decode cX5_add 27 = .ok (.aload_n 0, 1) := by decide +kernel
theorem dX5_add_28 : decode cX5_add 28 = .ok (.getfield 15, 3) := by decide +kernel
theorem dX5_add_31 : decode cX5_add 31 = .ok (.ireturn, 1) := by decide +kernel
theorem dX5_forget_0 : decode cX5_forget 0 = .ok (.aload_n 0, 1) := by decide +kernel
theorem dX5_forget_1 : decode cX5_forget 1 = .ok (.iconst 0, 1) := by decide +kernel
theorem dX5_forget_2 : decode cX5_forget 2 = .ok (.putfield 15, 3) := by decide +kernel
theorem dX5_forget_5 : decode cX5_forget 5 = .ok (.return_, 1) := by decide +kernel
theorem dX5_at_0 : decode cX5_at 0 = .ok (.iload_n 1, 1) := by decide +kernel
theorem dX5_at_1 : decode cX5_at 1 = .ok (.ifCond .lt 26, 3) := by decide +kernel
theorem dX5_at_4 : decode cX5_at 4 = .ok (.iload_n 1, 1) := by decide +kernel
theorem dX5_at_5 : decode cX5_at 5 = .ok (.aload_n 0, 1) := by decide +kernel
theorem dX5_at_6 : decode cX5_at 6 = .ok (.getfield 15, 3) := by decide +kernel
theorem dX5_at_9 : decode cX5_at 9 = .ok (.if_icmp .ge 18, 3) := by decide +kernel
theorem dX5_at_12 : decode cX5_at 12 = .ok (.iload_n 1, 1) := by decide +kernel
theorem dX5_at_13 : decode cX5_at 13 = .ok (.bipush 16, 2) := by decide +kernel
theorem dX5_at_15 : decode cX5_at 15 = .ok (.if_icmp .ge 12, 3) := by decide +kernel
theorem dX5_at_18 : decode cX5_at 18 = .ok (.aload_n 0, 1) := by decide +kernel
theorem dX5_at_19 : decode cX5_at 19 = .ok (.getfield 11, 3) := by decide +kernel
theorem dX5_at_22 : decode cX5_at 22 = .ok (.iload_n 1, 1) := by decide +kernel
theorem dX5_at_23 : decode cX5_at 23 = .ok (.iaload, 1) := by decide +kernel
theorem dX5_at_24 : decode cX5_at 24 = .ok (.goto 5, 3) := by decide +kernel
theorem dX5_at_27 : decode cX5_at 27 = .ok (.bipush (-9), 2) := by decide +kernel
theorem dX5_at_29 : decode cX5_at 29 = .ok (.ireturn, 1) := by decide +kernel
theorem dX5_tellLosses_0 : decode cX5_tellLosses 0 = .ok (.aload_n 1, 1) := by decide +kernel
theorem dX5_tellLosses_1 : decode cX5_tellLosses 1 = .ok (.getfield 23, 3) := by decide +kernel
theorem dX5_tellLosses_4 : decode cX5_tellLosses 4 = .ok (.istore_n 2, 1) := by decide +kernel
theorem dX5_tellLosses_5 : decode cX5_tellLosses 5 = .ok (.iconst 0, 1) := by decide +kernel
theorem dX5_tellLosses_6 : decode cX5_tellLosses 6 = .ok (.istore_n 3, 1) := by decide +kernel
theorem dX5_tellLosses_7 : decode cX5_tellLosses 7 = .ok (.iload_n 3, 1) := by decide +kernel
theorem dX5_tellLosses_8 : decode cX5_tellLosses 8 = .ok (.aload_n 0, 1) := by decide +kernel
theorem dX5_tellLosses_9 : decode cX5_tellLosses 9 = .ok (.getfield 15, 3) := by decide +kernel
theorem dX5_tellLosses_12 : decode cX5_tellLosses 12 = .ok (.if_icmp .ge 43, 3) := by decide +kernel
theorem dX5_tellLosses_15 : decode cX5_tellLosses 15 = .ok (.iload_n 3, 1) := by decide +kernel
theorem dX5_tellLosses_16 : decode cX5_tellLosses 16 = .ok (.ifCond .le 19, 3) := by decide +kernel
theorem dX5_tellLosses_19 : decode cX5_tellLosses 19 = .ok (.aload_n 1, 1) := by decide +kernel
theorem dX5_tellLosses_20 : decode cX5_tellLosses 20 = .ok (.iload_n 2, 1) := by decide +kernel
theorem dX5_tellLosses_21 : decode cX5_tellLosses 21 = .ok (.aload_n 1, 1) := by decide +kernel
theorem dX5_tellLosses_22 : decode cX5_tellLosses 22 = .ok (.getfield 28, 3) := by decide +kernel
theorem dX5_tellLosses_25 : decode cX5_tellLosses 25 = .ok (.aload_n 1, 1) := by decide +kernel
theorem dX5_tellLosses_26 : decode cX5_tellLosses 26 = .ok (.getfield 31, 3) := by decide +kernel
theorem dX5_tellLosses_29 : decode cX5_tellLosses 29 = .ok (.iload_n 3, 1) := by decide +kernel
theorem dX5_tellLosses_30 : decode cX5_tellLosses 30 = .ok (.iadd, 1) := by decide +kernel
theorem dX5_tellLosses_31 : decode cX5_tellLosses 31 = .ok (.invokevirtual 34, 3) := by decide +kernel
theorem dX5_tellLosses_34 : decode cX5_tellLosses 34 = .ok (.istore_n 2, 1) := by decide +kernel
theorem dX5_tellLosses_35 : decode cX5_tellLosses 35 = .ok (.aload_n 0, 1) := by decide +kernel
theorem dX5_tellLosses_36 : decode cX5_tellLosses 36 = .ok (.iload_n 3, 1) := by decide +kernel
theorem dX5_tellLosses_37 : decode cX5_tellLosses 37 = .ok (.invokevirtual 38, 3) := by decide +kernel
theorem dX5_tellLosses_40 : decode cX5_tellLosses 40 = .ok (.iload_n 2, 1) := by decide +kernel
theorem dX5_tellLosses_41 : decode cX5_tellLosses 41 = .ok (.invokestatic 42, 3) := by decide +kernel
theorem dX5_tellLosses_44 : decode cX5_tellLosses 44 = .ok (.if_icmp .eq 5, 3) := by decide +kernel
theorem dX5_tellLosses_47 : decode cX5_tellLosses 47 = .ok (.iconst 0, 1) := by decide +kernel
theorem dX5_tellLosses_48 : decode cX5_tellLosses 48 = .ok (.ireturn, 1) := by decide +kernel
theorem dX5_tellLosses_49 : decode cX5_tellLosses 49 = .ok (.iinc 3 1, 3) := by decide +kernel
theorem dX5_tellLosses_52 : decode cX5_tellLosses 52 = .ok (.goto (-45), 3) := by decide +kernel
theorem dX5_tellLosses_55 : decode cX5_tellLosses 55 = .ok (.iconst 1, 1) := by decide +kernel
theorem dX5_tellLosses_56 : decode cX5_tellLosses 56 = .ok (.ireturn, 1) := by decide +kernel
theorem dX6_firstNails_0 : decode cX6_firstNails 0 = .ok (.aload_n 0, 1) := by decide +kernel
theorem dX6_firstNails_1 : decode cX6_firstNails 1 = .ok (.invokevirtual 7, 3) := by decide +kernel
theorem dX6_firstNails_4 : decode cX6_firstNails 4 = .ok (.istore_n 1, 1) := by decide +kernel
theorem dX6_firstNails_5 : decode cX6_firstNails 5 = .ok (.iconst 0, 1) := by decide +kernel
theorem dX6_firstNails_6 : decode cX6_firstNails 6 = .ok (.istore_n 2, 1) := by decide +kernel
theorem dX6_firstNails_7 : decode cX6_firstNails 7 = .ok (.iconst 0, 1) := by decide +kernel
theorem dX6_firstNails_8 : decode cX6_firstNails 8 = .ok (.istore_n 3, 1) := by decide +kernel
theorem dX6_firstNails_9 : decode cX6_firstNails 9 = .ok (.iload_n 3, 1) := by decide +kernel
theorem dX6_firstNails_10 : decode cX6_firstNails 10 = .ok (.aload_n 0, 1) := by decide +kernel
theorem dX6_firstNails_11 : decode cX6_firstNails 11 = .ok (.getfield 13, 3) := by decide +kernel
theorem dX6_firstNails_14 : decode cX6_firstNails 14 = .ok (.if_icmp .ge 25, 3) := by decide +kernel
theorem dX6_firstNails_17 : decode cX6_firstNails 17 = .ok (.iload_n 2, 1) := by decide +kernel
theorem dX6_firstNails_18 : decode cX6_firstNails 18 = .ok (.invokestatic 17, 3) := by decide +kernel
theorem dX6_firstNails_21 : decode cX6_firstNails 21 = .ok (.iconst 5, 1) := by decide +kernel
theorem dX6_firstNails_22 : decode cX6_firstNails 22 = .ok (.if_icmp .ge 17, 3) := by decide +kernel
theorem dX6_firstNails_25 : decode cX6_firstNails 25 = .ok (.iload_n 2, 1) := by decide +kernel
theorem dX6_firstNails_26 : decode cX6_firstNails 26 = .ok (.iload_n 1, 1) := by decide +kernel
theorem dX6_firstNails_27 : decode cX6_firstNails 27 = .ok (.iconst 1, 1) := by decide +kernel
theorem dX6_firstNails_28 : decode cX6_firstNails 28 = .ok (.iload_n 3, 1) := by decide +kernel
theorem dX6_firstNails_29 : decode cX6_firstNails 29 = .ok (.ishl, 1) := by decide +kernel
theorem dX6_firstNails_30 : decode cX6_firstNails 30 = .ok (.iand, 1) := by decide +kernel
theorem dX6_firstNails_31 : decode cX6_firstNails 31 = .ok (.ior, 1) := by decide +kernel
theorem dX6_firstNails_32 : decode cX6_firstNails 32 = .ok (.istore_n 2, 1) := by decide +kernel
theorem dX6_firstNails_33 : decode cX6_firstNails 33 = .ok (.iinc 3 1, 3) := by decide +kernel
theorem dX6_firstNails_36 : decode cX6_firstNails 36 = .ok (.goto (-27), 3) := by decide +kernel
theorem dX6_firstNails_39 : decode cX6_firstNails 39 = .ok (.iload_n 2, 1) := by decide +kernel
theorem dX6_firstNails_40 : decode cX6_firstNails 40 = .ok (.ireturn, 1) := by decide +kernel
theorem dX6_ofThese_0 : decode cX6_ofThese 0 = .ok (.lconst 1, 1) := by decide +kernel
theorem dX6_ofThese_1 : decode cX6_ofThese 1 = .ok (.lstore_n 1, 1) := by decide +kernel
theorem dX6_ofThese_2 : decode cX6_ofThese 2 = .ok (.iconst 2, 1) := by decide +kernel
theorem dX6_ofThese_3 : decode cX6_ofThese 3 = .ok (.istore_n 3, 1) := by decide +kernel
theorem dX6_ofThese_4 : decode cX6_ofThese 4 = .ok (.iload_n 3, 1) := by decide +kernel
theorem dX6_ofThese_5 : decode cX6_ofThese 5 = .ok (.iload_n 0, 1) := by decide +kernel
theorem dX6_ofThese_6 : decode cX6_ofThese 6 = .ok (.if_icmp .gt 14, 3) := by decide +kernel
theorem dX6_ofThese_9 : decode cX6_ofThese 9 = .ok (.lload_n 1, 1) := by decide +kernel
theorem dX6_ofThese_10 : decode cX6_ofThese 10 = .ok (.iload_n 3, 1) := by decide +kernel
theorem dX6_ofThese_11 : decode cX6_ofThese 11 = .ok (.i2l, 1) := by decide +kernel
theorem dX6_ofThese_12 : decode cX6_ofThese 12 = .ok (.lmul, 1) := by decide +kernel
theorem dX6_ofThese_13 : decode cX6_ofThese 13 = .ok (.lstore_n 1, 1) := by decide +kernel
theorem dX6_ofThese_14 : decode cX6_ofThese 14 = .ok (.iinc 3 1, 3) := by decide +kernel
theorem dX6_ofThese_17 : decode cX6_ofThese 17 = .ok (.goto (-13), 3) := by decide +kernel
theorem dX6_ofThese_20 : decode cX6_ofThese 20 = .ok (.lload_n 1, 1) := by decide +kernel
theorem dX6_ofThese_21 : decode cX6_ofThese 21 = .ok (.lreturn, 1) := by decide +kernel
theorem dX6_blaming_0 : decode cX6_blaming 0 = .ok (.aload_n 0, 1) := by decide +kernel
theorem dX6_blaming_1 : decode cX6_blaming 1 = .ok (.iload_n 1, 1) := by decide +kernel
theorem dX6_blaming_2 : decode cX6_blaming 2 = .ok (.iload_n 2, 1) := by decide +kernel
theorem dX6_blaming_3 : decode cX6_blaming 3 = .ok (.aload_n 0, 1) := by decide +kernel
theorem dX6_blaming_4 : decode cX6_blaming 4 = .ok (.invokestatic 25, 3) := by decide +kernel
theorem dX6_blaming_7 : decode cX6_blaming 7 = .ok (.iconst 0, 1) := by decide +kernel
theorem dX6_blaming_8 : decode cX6_blaming 8 = .ok (.iconst 0, 1) := by decide +kernel
theorem dX6_blaming_9 : decode cX6_blaming 9 = .ok (.invokestatic 29, 3) := by decide +kernel
theorem dX6_blaming_12 : decode cX6_blaming 12 = .ok (.lreturn, 1) := by decide +kernel
theorem dX6_blamingOf_0 : decode cX6_blamingOf 0 = .ok (.iload_n 3, 1) := by decide +kernel
theorem dX6_blamingOf_1 : decode cX6_blamingOf 1 = .ok (.ifCond .eq 9, 3) := by decide +kernel
theorem dX6_blamingOf_4 : decode cX6_blamingOf 4 = .ok (.iload 5, 2) := by decide +kernel
theorem dX6_blamingOf_6 : decode cX6_blamingOf 6 = .ok (.iconst 5, 1) := by decide +kernel
theorem dX6_blamingOf_7 : decode cX6_blamingOf 7 = .ok (.if_icmp .lt 5, 3) := by decide +kernel
theorem dX6_blamingOf_10 : decode cX6_blamingOf 10 = .ok (.lconst 0, 1) := by decide +kernel
theorem dX6_blamingOf_11 : decode cX6_blamingOf 11 = .ok (.lreturn, 1) := by decide +kernel
theorem dX6_blamingOf_12 : decode cX6_blamingOf 12 = .ok (.lconst 0, 1) := by decide +kernel
theorem dX6_blamingOf_13 : decode cX6_blamingOf 13 = .ok (.lstore 6, 2) := by decide +kernel
theorem dX6_blamingOf_15 : decode cX6_blamingOf 15 = .ok (.iconst 0, 1) := by decide +kernel
theorem dX6_blamingOf_16 : decode cX6_blamingOf 16 = .ok (.istore 8, 2) := by decide +kernel
theorem dX6_blamingOf_18 : decode cX6_blamingOf 18 = .ok (.iload 8, 2) := by decide +kernel
theorem dX6_blamingOf_20 : decode cX6_blamingOf 20 = .ok (.aload_n 0, 1) := by decide +kernel
theorem dX6_blamingOf_21 : decode cX6_blamingOf 21 = .ok (.getfield 13, 3) := by decide +kernel
theorem dX6_blamingOf_24 : decode cX6_blamingOf 24 = .ok (.if_icmp .ge 105, 3) := by decide +kernel
theorem dX6_blamingOf_27 : decode cX6_blamingOf 27 = .ok (.iconst 1, 1) := by decide +kernel
theorem dX6_blamingOf_28 : decode cX6_blamingOf 28 = .ok (.iload 8, 2) := by decide +kernel
theorem dX6_blamingOf_30 : decode cX6_blamingOf 30 = .ok (.ishl, 1) := by decide +kernel
theorem dX6_blamingOf_31 : decode cX6_blamingOf 31 = .ok (.istore 9, 2) := by decide +kernel
theorem dX6_blamingOf_33 : decode cX6_blamingOf 33 = .ok (.iload_n 3, 1) := by decide +kernel
theorem dX6_blamingOf_34 : decode cX6_blamingOf 34 = .ok (.iload 9, 2) := by decide +kernel
theorem dX6_blamingOf_36 : decode cX6_blamingOf 36 = .ok (.iand, 1) := by decide +kernel
theorem dX6_blamingOf_37 : decode cX6_blamingOf 37 = .ok (.ifCond .eq 86, 3) := by decide +kernel
theorem dX6_blamingOf_40 : decode cX6_blamingOf 40 = .ok (.aload_n 0, 1) := by decide +kernel
