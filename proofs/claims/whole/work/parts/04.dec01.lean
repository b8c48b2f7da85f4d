theorem dX6_blamingOf_41 : decode cX6_blamingOf 41 = .ok (.getfield 33, 3) := by decide +kernel
theorem dX6_blamingOf_44 : decode cX6_blamingOf 44 = .ok (.bipush 10, 2) := by decide +kernel
theorem dX6_blamingOf_46 : decode cX6_blamingOf 46 = .ok (.iload 5, 2) := by decide +kernel
theorem dX6_blamingOf_48 : decode cX6_blamingOf 48 = .ok (.imul, 1) := by decide +kernel
theorem dX6_blamingOf_49 : decode cX6_blamingOf 49 = .ok (.iadd, 1) := by decide +kernel
theorem dX6_blamingOf_50 : decode cX6_blamingOf 50 = .ok (.istore 10, 2) := by decide +kernel
theorem dX6_blamingOf_52 : decode cX6_blamingOf 52 = .ok (.aload_n 0, 1) := by decide +kernel
theorem dX6_blamingOf_53 : decode cX6_blamingOf 53 = .ok (.iload 4, 2) := by decide +kernel
theorem dX6_blamingOf_55 : decode cX6_blamingOf 55 = .ok (.iload 9, 2) := by decide +kernel
theorem dX6_blamingOf_57 : decode cX6_blamingOf 57 = .ok (.ior, 1) := by decide +kernel
theorem dX6_blamingOf_58 : decode cX6_blamingOf 58 = .ok (.iconst 0, 1) := by decide +kernel
theorem dX6_blamingOf_59 : decode cX6_blamingOf 59 = .ok (.iload 10, 2) := by decide +kernel
theorem dX6_blamingOf_61 : decode cX6_blamingOf 61 = .ok (.bipush 10, 2) := by decide +kernel
theorem dX6_blamingOf_63 : decode cX6_blamingOf 63 = .ok (.invokevirtual 36, 3) := by decide +kernel
theorem dX6_blamingOf_66 : decode cX6_blamingOf 66 = .ok (.istore 11, 2) := by decide +kernel
theorem dX6_blamingOf_68 : decode cX6_blamingOf 68 = .ok (.iload 11, 2) := by decide +kernel
theorem dX6_blamingOf_70 : decode cX6_blamingOf 70 = .ok (.iconst 1, 1) := by decide +kernel
theorem dX6_blamingOf_71 : decode cX6_blamingOf 71 = .ok (.iload_n 2, 1) := by decide +kernel
theorem dX6_blamingOf_72 : decode cX6_blamingOf 72 = .ok (.ishl, 1) := by decide +kernel
theorem dX6_blamingOf_73 : decode cX6_blamingOf 73 = .ok (.iand, 1) := by decide +kernel
theorem dX6_blamingOf_74 : decode cX6_blamingOf 74 = .ok (.ifCond .ne 29, 3) := by decide +kernel
theorem dX6_blamingOf_77 : decode cX6_blamingOf 77 = .ok (.lload 6, 2) := by decide +kernel
theorem dX6_blamingOf_79 : decode cX6_blamingOf 79 = .ok (.aload_n 0, 1) := by decide +kernel
theorem dX6_blamingOf_80 : decode cX6_blamingOf 80 = .ok (.iload_n 1, 1) := by decide +kernel
theorem dX6_blamingOf_81 : decode cX6_blamingOf 81 = .ok (.iload_n 2, 1) := by decide +kernel
theorem dX6_blamingOf_82 : decode cX6_blamingOf 82 = .ok (.iload_n 3, 1) := by decide +kernel
theorem dX6_blamingOf_83 : decode cX6_blamingOf 83 = .ok (.iload 9, 2) := by decide +kernel
theorem dX6_blamingOf_85 : decode cX6_blamingOf 85 = .ok (.iconst (-1), 1) := by decide +kernel
theorem dX6_blamingOf_86 : decode cX6_blamingOf 86 = .ok (.ixor, 1) := by decide +kernel
theorem dX6_blamingOf_87 : decode cX6_blamingOf 87 = .ok (.iand, 1) := by decide +kernel
theorem dX6_blamingOf_88 : decode cX6_blamingOf 88 = .ok (.iload 11, 2) := by decide +kernel
theorem dX6_blamingOf_90 : decode cX6_blamingOf 90 = .ok (.iload 5, 2) := by decide +kernel
theorem dX6_blamingOf_92 : decode cX6_blamingOf 92 = .ok (.iconst 1, 1) := by decide +kernel
theorem dX6_blamingOf_93 : decode cX6_blamingOf 93 = .ok (.iadd, 1) := by decide +kernel
theorem dX6_blamingOf_94 : decode cX6_blamingOf 94 = .ok (.invokestatic 29, 3) := by decide +kernel
theorem dX6_blamingOf_97 : decode cX6_blamingOf 97 = .ok (.ladd, 1) := by decide +kernel
theorem dX6_blamingOf_98 : decode cX6_blamingOf 98 = .ok (.lstore 6, 2) := by decide +kernel
theorem dX6_blamingOf_100 : decode cX6_blamingOf 100 = .ok (.goto 23, 3) := by decide +kernel
theorem dX6_blamingOf_103 : decode cX6_blamingOf 103 = .ok (.iload 8, 2) := by decide +kernel
theorem dX6_blamingOf_105 : decode cX6_blamingOf 105 = .ok (.iload_n 1, 1) := by decide +kernel
theorem dX6_blamingOf_106 : decode cX6_blamingOf 106 = .ok (.if_icmp .ne 17, 3) := by decide +kernel
theorem dX6_blamingOf_109 : decode cX6_blamingOf 109 = .ok (.lload 6, 2) := by decide +kernel
theorem dX6_blamingOf_111 : decode cX6_blamingOf 111 = .ok (.iload_n 3, 1) := by decide +kernel
theorem dX6_blamingOf_112 : decode cX6_blamingOf 112 = .ok (.invokestatic 17, 3) := by decide +kernel
theorem dX6_blamingOf_115 : decode cX6_blamingOf 115 = .ok (.iconst 1, 1) := by decide +kernel
theorem dX6_blamingOf_116 : decode cX6_blamingOf 116 = .ok (.isub, 1) := by decide +kernel
theorem dX6_blamingOf_117 : decode cX6_blamingOf 117 = .ok (.invokestatic 40, 3) := by decide +kernel
theorem dX6_blamingOf_120 : decode cX6_blamingOf 120 = .ok (.ladd, 1) := by decide +kernel
theorem dX6_blamingOf_121 : decode cX6_blamingOf 121 = .ok (.lstore 6, 2) := by decide +kernel
theorem dX6_blamingOf_123 : decode cX6_blamingOf 123 = .ok (.iinc 8 1, 3) := by decide +kernel
theorem dX6_blamingOf_126 : decode cX6_blamingOf 126 = .ok (.goto (-108), 3) := by decide +kernel
theorem dX6_blamingOf_129 : decode cX6_blamingOf 129 = .ok (.lload 6, 2) := by decide +kernel
theorem dX6_blamingOf_131 : decode cX6_blamingOf 131 = .ok (.lreturn, 1) := by decide +kernel
theorem dX7_init_0 : decode cX7_init 0 = .ok (.aload_n 0, 1) := by decide +kernel
theorem dX7_init_1 : decode cX7_init 1 = .ok (.invokespecial 5, 3) := by decide +kernel
theorem dX7_init_4 : decode cX7_init 4 = .ok (.aload_n 0, 1) := by decide +kernel
theorem dX7_init_5 : decode cX7_init 5 = .ok (.bipush 9, 2) := by decide +kernel
theorem dX7_init_7 : decode cX7_init 7 = .ok (.newarray .int, 2) := by decide +kernel
theorem dX7_init_9 : decode cX7_init 9 = .ok (.putfield 11, 3) := by decide +kernel
theorem dX7_init_12 : decode cX7_init 12 = .ok (.aload_n 0, 1) := by decide +kernel
theorem dX7_init_13 : decode cX7_init 13 = .ok (.bipush 9, 2) := by decide +kernel
theorem dX7_init_15 : decode cX7_init 15 = .ok (.newarray .int, 2) := by decide +kernel
theorem dX7_init_17 : decode cX7_init 17 = .ok (.putfield 15, 3) := by decide +kernel
theorem dX7_init_20 : decode cX7_init 20 = .ok (.aload_n 0, 1) := by decide +kernel
theorem dX7_init_21 : decode cX7_init 21 = .ok (.bipush 9, 2) := by decide +kernel
theorem dX7_init_23 : decode cX7_init 23 = .ok (.newarray .int, 2) := by decide +kernel
theorem dX7_init_25 : decode cX7_init 25 = .ok (.putfield 18, 3) := by decide +kernel
theorem dX7_init_28 : decode cX7_init 28 = .ok (.return_, 1) := by decide +kernel
theorem dX7_becomes_0 : decode cX7_becomes 0 = .ok (.iconst 0, 1) := by decide +kernel
theorem dX7_becomes_1 : decode cX7_becomes 1 = .ok (.istore_n 2, 1) := by decide +kernel
theorem dX7_becomes_2 : decode cX7_becomes 2 = .ok (.iload_n 2, 1) := by decide +kernel
theorem dX7_becomes_3 : decode cX7_becomes 3 = .ok (.bipush 9, 2) := by decide +kernel
theorem dX7_becomes_5 : decode cX7_becomes 5 = .ok (.if_icmp .ge 45, 3) := by decide +kernel
theorem dX7_becomes_8 : decode cX7_becomes 8 = .ok (.aload_n 0, 1) := by decide +kernel
theorem dX7_becomes_9 : decode cX7_becomes 9 = .ok (.getfield 11, 3) := by decide +kernel
theorem dX7_becomes_12 : decode cX7_becomes 12 = .ok (.iload_n 2, 1) := by decide +kernel
theorem dX7_becomes_13 : decode cX7_becomes 13 = .ok (.aload_n 1, 1) := by decide +kernel
theorem dX7_becomes_14 : decode cX7_becomes 14 = .ok (.getfield 11, 3) := by decide +kernel
theorem dX7_becomes_17 : decode cX7_becomes 17 = .ok (.iload_n 2, 1) := by decide +kernel
theorem dX7_becomes_18 : decode cX7_becomes 18 = .ok (.iaload, 1) := by decide +kernel
theorem dX7_becomes_19 : decode cX7_becomes 19 = .ok (.iastore, 1) := by decide +kernel
theorem dX7_becomes_20 : decode cX7_becomes 20 = .ok (.aload_n 0, 1) := by decide +kernel
theorem dX7_becomes_21 : decode cX7_becomes 21 = .ok (.getfield 15, 3) := by decide +kernel
theorem dX7_becomes_24 : decode cX7_becomes 24 = .ok (.iload_n 2, 1) := by decide +kernel
theorem dX7_becomes_25 : decode cX7_becomes 25 = .ok (.aload_n 1, 1) := by decide +kernel
theorem dX7_becomes_26 : decode cX7_becomes 26 = .ok (.getfield 15, 3) := by decide +kernel
theorem dX7_becomes_29 : decode cX7_becomes 29 = .ok (.iload_n 2, 1) := by decide +kernel
theorem dX7_becomes_30 : decode cX7_becomes 30 = .ok (.iaload, 1) := by decide +kernel
theorem dX7_becomes_31 : decode cX7_becomes 31 = .ok (.iastore, 1) := by decide +kernel
theorem dX7_becomes_32 : decode cX7_becomes 32 = .ok (.aload_n 0, 1) := by decide +kernel
theorem dX7_becomes_33 : decode cX7_becomes 33 = .ok (.getfield 18, 3) := by decide +kernel
theorem dX7_becomes_36 : decode cX7_becomes 36 = .ok (.iload_n 2, 1) := by decide +kernel
theorem dX7_becomes_37 : decode cX7_becomes 37 = .ok (.aload_n 1, 1) := by decide +kernel
theorem dX7_becomes_38 : decode cX7_becomes 38 = .ok (.getfield 18, 3) := by decide +kernel
theorem dX7_becomes_41 : decode cX7_becomes 41 = .ok (.iload_n 2, 1) := by decide +kernel
theorem dX7_becomes_42 : decode cX7_becomes 42 = .ok (.iaload, 1) := by decide +kernel
theorem dX7_becomes_43 : decode cX7_becomes 43 = .ok (.iastore, 1) := by decide +kernel
theorem dX7_becomes_44 : decode cX7_becomes 44 = .ok (.iinc 2 1, 3) := by decide +kernel
theorem dX7_becomes_47 : decode cX7_becomes 47 = .ok (.goto (-45), 3) := by decide +kernel
theorem dX7_becomes_50 : decode cX7_becomes 50 = .ok (.aload_n 0, 1) := by decide +kernel
theorem dX7_becomes_51 : decode cX7_becomes 51 = .ok (.aload_n 1, 1) := by decide +kernel
theorem dX7_becomes_52 : decode cX7_becomes 52 = .ok (.getfield 21, 3) := by decide +kernel
theorem dX7_becomes_55 : decode cX7_becomes 55 = .ok (.putfield 21, 3) := by decide +kernel
theorem dX7_becomes_58 : decode cX7_becomes 58 = .ok (.aload_n 0, 1) := by decide +kernel
theorem dX7_becomes_59 : decode cX7_becomes 59 = .ok (.aload_n 1, 1) := by decide +kernel
theorem dX7_becomes_60 : decode cX7_becomes 60 = .ok (.getfield 25, 3) := by decide +kernel
theorem dX7_becomes_63 : decode cX7_becomes 63 = .ok (.putfield 25, 3) := by decide +kernel
theorem dX7_becomes_66 : decode cX7_becomes 66 = .ok (.aload_n 0, 1) := by decide +kernel
theorem dX7_becomes_67 : decode cX7_becomes 67 = .ok (.aload_n 1, 1) := by decide +kernel
theorem dX7_becomes_68 : decode cX7_becomes 68 = .ok (.getfield 28, 3) := by decide +kernel
theorem dX7_becomes_71 : decode cX7_becomes 71 = .ok (.putfield 28, 3) := by decide +kernel
theorem dX7_becomes_74 : decode cX7_becomes 74 = .ok (.aload_n 0, 1) := by decide +kernel
theorem dX7_becomes_75 : decode cX7_becomes 75 = .ok (.aload_n 1, 1) := by decide +kernel
theorem dX7_becomes_76 : decode cX7_becomes 76 = .ok (.getfield 31, 3) := by decide +kernel
theorem dX7_becomes_79 : decode cX7_becomes 79 = .ok (.putfield 31, 3) := by decide +kernel
theorem dX7_becomes_82 : decode cX7_becomes 82 = .ok (.return_, 1) := by decide +kernel
theorem dX7_isKind_0 : decode cX7_isKind 0 = .ok (.iload_n 0, 1) := by decide +kernel
theorem dX7_isKind_1 : decode cX7_isKind 1 = .ok (.ifCond .lt 13, 3) := by decide +kernel
theorem dX7_isKind_4 : decode cX7_isKind 4 = .ok (.iload_n 0, 1) := by decide +kernel
theorem dX7_isKind_5 : decode cX7_isKind 5 = .ok (.bipush 6, 2) := by decide +kernel
theorem dX7_isKind_7 : decode cX7_isKind 7 = .ok (.if_icmp .ge 7, 3) := by decide +kernel
theorem dX7_isKind_10 : decode cX7_isKind 10 = .ok (.iconst 1, 1) := by decide +kernel
theorem dX7_isKind_11 : decode cX7_isKind 11 = .ok (.goto 4, 3) := by decide +kernel
theorem dX7_isKind_14 : decode cX7_isKind 14 = .ok (.iconst 0, 1) := by decide +kernel
theorem dX7_isKind_15 : decode cX7_isKind 15 = .ok (.ireturn, 1) := by decide +kernel
theorem dX7_isFigure_0 : decode cX7_isFigure 0 = .ok (.iload_n 0, 1) := by decide +kernel
theorem dX7_isFigure_1 : decode cX7_isFigure 1 = .ok (.ifCond .lt 13, 3) := by decide +kernel
theorem dX7_isFigure_4 : decode cX7_isFigure 4 = .ok (.iload_n 0, 1) := by decide +kernel
theorem dX7_isFigure_5 : decode cX7_isFigure 5 = .ok (.bipush 9, 2) := by decide +kernel
theorem dX7_isFigure_7 : decode cX7_isFigure 7 = .ok (.if_icmp .gt 7, 3) := by decide +kernel
theorem dX7_isFigure_10 : decode cX7_isFigure 10 = .ok (.iconst 1, 1) := by decide +kernel
theorem dX7_isFigure_11 : decode cX7_isFigure 11 = .ok (.goto 4, 3) := by decide +kernel
theorem dX7_isFigure_14 : decode cX7_isFigure 14 = .ok (.iconst 0, 1) := by decide +kernel
theorem dX7_isFigure_15 : decode cX7_isFigure 15 = .ok (.ireturn, 1) := by decide +kernel
theorem dX7_has_0 : decode cX7_has 0 = .ok (.iload_n 1, 1) := by decide +kernel
theorem dX7_has_1 : decode cX7_has 1 = .ok (.ifCond .lt 21, 3) := by decide +kernel
theorem dX7_has_4 : decode cX7_has 4 = .ok (.iload_n 1, 1) := by decide +kernel
theorem dX7_has_5 : decode cX7_has 5 = .ok (.aload_n 0, 1) := by decide +kernel
theorem dX7_has_6 : decode cX7_has 6 = .ok (.getfield 21, 3) := by decide +kernel
theorem dX7_has_9 : decode cX7_has 9 = .ok (.if_icmp .ge 13, 3) := by decide +kernel
theorem dX7_has_12 : decode cX7_has 12 = .ok (.iload_n 1, 1) := by decide +kernel
theorem dX7_has_13 : decode cX7_has 13 = .ok (.bipush 9, 2) := by decide +kernel
theorem dX7_has_15 : decode cX7_has 15 = .ok (.if_icmp .ge 7, 3) := by decide +kernel
theorem dX7_has_18 : decode cX7_has 18 = .ok (.iconst 1, 1) := by decide +kernel
theorem dX7_has_19 : decode cX7_has 19 = .ok (.goto 4, 3) := by decide +kernel
theorem dX7_has_22 : decode cX7_has 22 = .ok (.iconst 0, 1) := by decide +kernel
theorem dX7_has_23 : decode cX7_has 23 = .ok (.ireturn, 1) := by decide +kernel
theorem dX7_all_0 : decode cX7_all 0 = .ok (.iconst 1, 1) := by decide +kernel
theorem dX7_all_1 : decode cX7_all 1 = .ok (.aload_n 0, 1) := by decide +kernel
theorem dX7_all_2 : decode cX7_all 2 = .ok (.getfield 21, 3) := by decide +kernel
theorem dX7_all_5 : decode cX7_all 5 = .ok (.ishl, 1) := by decide +kernel
theorem dX7_all_6 : decode cX7_all 6 = .ok (.iconst 1, 1) := by decide +kernel
theorem dX7_all_7 : decode cX7_all 7 = .ok (.isub, 1) := by decide +kernel
theorem dX7_all_8 : decode cX7_all 8 = .ok (.ireturn, 1) := by decide +kernel
theorem dX7_kindOf_0 : decode cX7_kindOf 0 = .ok (.aload_n 0, 1) := by decide +kernel
theorem dX7_kindOf_1 : decode cX7_kindOf 1 = .ok (.iload_n 1, 1) := by decide +kernel
theorem dX7_kindOf_2 : decode cX7_kindOf 2 = .ok (.invokevirtual 34, 3) := by decide +kernel
theorem dX7_kindOf_5 : decode cX7_kindOf 5 = .ok (.ifCond .eq 12, 3) := by decide +kernel
theorem dX7_kindOf_8 : decode cX7_kindOf 8 = .ok (.aload_n 0, 1) := by decide +kernel
theorem dX7_kindOf_9 : decode cX7_kindOf 9 = .ok (.getfield 11, 3) := by decide +kernel
theorem dX7_kindOf_12 : decode cX7_kindOf 12 = .ok (.iload_n 1, 1) := by decide +kernel
theorem dX7_kindOf_13 : decode cX7_kindOf 13 = .ok (.iaload, 1) := by decide +kernel
theorem dX7_kindOf_14 : decode cX7_kindOf 14 = .ok (.goto 4, 3) := by decide +kernel
theorem dX7_kindOf_17 : decode cX7_kindOf 17 = .ok (.iconst 0, 1) := by decide +kernel
theorem dX7_kindOf_18 : decode cX7_kindOf 18 = .ok (.ireturn, 1) := by decide +kernel
theorem dX7_figureOf_0 : decode cX7_figureOf 0 = .ok (.aload_n 0, 1) := by decide +kernel
theorem dX7_figureOf_1 : decode cX7_figureOf 1 = .ok (.iload_n 1, 1) := by decide +kernel
theorem dX7_figureOf_2 : decode cX7_figureOf 2 = .ok (.invokevirtual 34, 3) := by decide +kernel
theorem dX7_figureOf_5 : decode cX7_figureOf 5 = .ok (.ifCond .eq 12, 3) := by decide +kernel
theorem dX7_figureOf_8 : decode cX7_figureOf 8 = .ok (.aload_n 0, 1) := by decide +kernel
theorem dX7_figureOf_9 : decode cX7_figureOf 9 = .ok (.getfield 15, 3) := by decide +kernel
theorem dX7_figureOf_12 : decode cX7_figureOf 12 = .ok (.iload_n 1, 1) := by decide +kernel
theorem dX7_figureOf_13 : decode cX7_figureOf 13 = .ok (.iaload, 1) := by decide +kernel
theorem dX7_figureOf_14 : decode cX7_figureOf 14 = .ok (.goto 4, 3) := by decide +kernel
theorem dX7_figureOf_17 : decode cX7_figureOf 17 = .ok (.iconst 0, 1) := by decide +kernel
theorem dX7_figureOf_18 : decode cX7_figureOf 18 = .ok (.ireturn, 1) := by decide +kernel
theorem dX7_causesOf_0 : decode cX7_causesOf 0 = .ok (.aload_n 0, 1) := by decide +kernel
theorem dX7_causesOf_1 : decode cX7_causesOf 1 = .ok (.iload_n 1, 1) := by decide +kernel
theorem dX7_causesOf_2 : decode cX7_causesOf 2 = .ok (.invokevirtual 34, 3) := by decide +kernel
theorem dX7_causesOf_5 : decode cX7_causesOf 5 = .ok (.ifCond .eq 12, 3) := by decide +kernel
theorem dX7_causesOf_8 : decode cX7_causesOf 8 = .ok (.aload_n 0, 1) := by decide +kernel
theorem dX7_causesOf_9 : decode cX7_causesOf 9 = .ok (.getfield 18, 3) := by decide +kernel
theorem dX7_causesOf_12 : decode cX7_causesOf 12 = .ok (.iload_n 1, 1) := by decide +kernel
theorem dX7_causesOf_13 : decode cX7_causesOf 13 = .ok (.iaload, 1) := by decide +kernel
theorem dX7_causesOf_14 : decode cX7_causesOf 14 = .ok (.goto 4, 3) := by decide +kernel
theorem dX7_causesOf_17 : decode cX7_causesOf 17 = .ok (.iconst 0, 1) := by decide +kernel
theorem dX7_causesOf_18 : decode cX7_causesOf 18 = .ok (.ireturn, 1) := by decide +kernel
theorem dX7_isLost_0 : decode cX7_isLost 0 = .ok (.aload_n 0, 1) := by decide +kernel
theorem dX7_isLost_1 : decode cX7_isLost 1 = .ok (.iload_n 1, 1) := by decide +kernel
theorem dX7_isLost_2 : decode cX7_isLost 2 = .ok (.invokevirtual 34, 3) := by decide +kernel
theorem dX7_isLost_5 : decode cX7_isLost 5 = .ok (.ifCond .eq 18, 3) := by decide +kernel
theorem dX7_isLost_8 : decode cX7_isLost 8 = .ok (.aload_n 0, 1) := by decide +kernel
theorem dX7_isLost_9 : decode cX7_isLost 9 = .ok (.getfield 25, 3) := by decide +kernel
theorem dX7_isLost_12 : decode cX7_isLost 12 = .ok (.iconst 1, 1) := by decide +kernel
theorem dX7_isLost_13 : decode cX7_isLost 13 = .ok (.iload_n 1, 1) := by decide +kernel
theorem dX7_isLost_14 : decode cX7_isLost 14 = .ok (.ishl, 1) := by decide +kernel
theorem dX7_isLost_15 : decode cX7_isLost 15 = .ok (.iand, 1) := by decide +kernel
theorem dX7_isLost_16 : decode cX7_isLost 16 = .ok (.ifCond .eq 7, 3) := by decide +kernel
theorem dX7_isLost_19 : decode cX7_isLost 19 = .ok (.iconst 1, 1) := by decide +kernel
theorem dX7_isLost_20 : decode cX7_isLost 20 = .ok (.goto 4, 3) := by decide +kernel
theorem dX7_isLost_23 : decode cX7_isLost 23 = .ok (.iconst 0, 1) := by decide +kernel
theorem dX7_isLost_24 : decode cX7_isLost 24 = .ok (.ireturn, 1) := by decide +kernel
theorem dX7_isGuarded_0 : decode cX7_isGuarded 0 = .ok (.aload_n 0, 1) := by decide +kernel
theorem dX7_isGuarded_1 : decode cX7_isGuarded 1 = .ok (.iload_n 1, 1) := by decide +kernel
theorem dX7_isGuarded_2 : decode cX7_isGuarded 2 = .ok (.invokevirtual 34, 3) := by decide +kernel
theorem dX7_isGuarded_5 : decode cX7_isGuarded 5 = .ok (.ifCond .eq 18, 3) := by decide +kernel
theorem dX7_isGuarded_8 : decode cX7_isGuarded 8 = .ok (.aload_n 0, 1) := by decide +kernel
theorem dX7_isGuarded_9 : decode cX7_isGuarded 9 = .ok (.getfield 28, 3) := by decide +kernel
theorem dX7_isGuarded_12 : decode cX7_isGuarded 12 = .ok (.iconst 1, 1) := by decide +kernel
theorem dX7_isGuarded_13 : decode cX7_isGuarded 13 = .ok (.iload_n 1, 1) := by decide +kernel
theorem dX7_isGuarded_14 : decode cX7_isGuarded 14 = .ok (.ishl, 1) := by decide +kernel
theorem dX7_isGuarded_15 : decode cX7_isGuarded 15 = .ok (.iand, 1) := by decide +kernel
theorem dX7_isGuarded_16 : decode cX7_isGuarded 16 = .ok (.ifCond .eq 7, 3) := by decide +kernel
theorem dX7_isGuarded_19 : decode cX7_isGuarded 19 = .ok (.iconst 1, 1) := by decide +kernel
theorem dX7_isGuarded_20 : decode cX7_isGuarded 20 = .ok (.goto 4, 3) := by decide +kernel
theorem dX7_isGuarded_23 : decode cX7_isGuarded 23 = .ok (.iconst 0, 1) := by decide +kernel
theorem dX7_isGuarded_24 : decode cX7_isGuarded 24 = .ok (.ireturn, 1) := by decide +kernel
theorem dX7_add_0 : decode cX7_add 0 = .ok (.aload_n 0, 1) := by decide +kernel
theorem dX7_add_1 : decode cX7_add 1 = .ok (.getfield 21, 3) := by decide +kernel
theorem dX7_add_4 : decode cX7_add 4 = .ok (.bipush 9, 2) := by decide +kernel
theorem dX7_add_6 : decode cX7_add 6 = .ok (.if_icmp .ge 17, 3) := by decide +kernel
theorem dX7_add_9 : decode cX7_add 9 = .ok (.iload_n 1, 1) := by decide +kernel
theorem dX7_add_10 : decode cX7_add 10 = .ok (.invokestatic 38, 3) := by decide +kernel
theorem dX7_add_13 : decode cX7_add 13 = .ok (.ifCond .eq 10, 3) := by decide +kernel
theorem dX7_add_16 : decode cX7_add 16 = .ok (.iload_n 2, 1) := by decide +kernel
theorem dX7_add_17 : decode cX7_add 17 = .ok (.invokestatic 41, 3) := by decide +kernel
theorem dX7_add_20 : decode cX7_add 20 = .ok (.ifCond .ne 5, 3) := by decide +kernel
theorem dX7_add_23 : decode cX7_add 23 = .ok (.iconst 0, 1) := by decide +kernel
theorem dX7_add_24 : decode cX7_add 24 = .ok (.ireturn, 1) := by decide +kernel
theorem dX7_add_25 : decode cX7_add 25 = .ok (.aload_n 0, 1) := by decide +kernel
theorem dX7_add_26 : decode cX7_add 26 = .ok (.getfield 11, 3) := by decide +kernel
theorem dX7_add_29 : decode cX7_add 29 = .ok (.aload_n 0, 1) := by decide +kernel
theorem dX7_add_30 : decode cX7_add 30 = .ok (.getfield 21, 3) := by decide +kernel
theorem dX7_add_33 : decode cX7_add 33 = .ok (.iload_n 1, 1) := by decide +kernel
theorem dX7_add_34 : decode cX7_add 34 = .ok (.iastore, 1) := by decide +kernel
theorem dX7_add_35 : decode cX7_add 35 = .ok (.aload_n 0, 1) := by decide +kernel
theorem dX7_add_36 : decode cX7_add 36 = .ok (.getfield 15, 3) := by decide +kernel
theorem dX7_add_39 : decode cX7_add 39 = .ok (.aload_n 0, 1) := by decide +kernel
theorem dX7_add_40 : decode cX7_add 40 = .ok (.getfield 21, 3) := by decide +kernel
theorem dX7_add_43 : decode cX7_add 43 = .ok (.iload_n 2, 1) := by decide +kernel
theorem dX7_add_44 : decode cX7_add 44 = .ok (.iastore, 1) := by decide +kernel
theorem dX7_add_45 : decode cX7_add 45 = .ok (.aload_n 0, 1) := by decide +kernel
theorem dX7_add_46 : decode cX7_add 46 = .ok (.getfield 18, 3) := by decide +kernel
theorem dX7_add_49 : decode cX7_add 49 = .ok (.aload_n 0, 1) := by decide +kernel
theorem dX7_add_50 : decode cX7_add 50 = .ok (.getfield 21, 3) := by decide +kernel
theorem dX7_add_53 : decode cX7_add 53 = .ok (.iconst 0, 1) := by decide +kernel
theorem dX7_add_54 : decode cX7_add 54 = .ok (.iastore, 1) := by decide +kernel
theorem dX7_add_55 : decode cX7_add 55 = .ok (.aload_n 0, 1) := by decide +kernel
theorem dX7_add_56 : decode cX7_add 56 = .ok (.dup, 1) := by decide +kernel
theorem dX7_add_57 : decode cX7_add 57 = .ok (.getfield 21, 3) := by decide +kernel
theorem dX7_add_60 : decode cX7_add 60 = .ok (.iconst 1, 1) := by decide +kernel
theorem dX7_add_61 : decode cX7_add 61 = .ok (.iadd, 1) := by decide +kernel
theorem dX7_add_62 : decode cX7_add 62 = .ok (.putfield 21, 3) := by decide +kernel
theorem dX7_add_65 : decode cX7_add 65 = .ok (.iconst 1, 1) := by decide +kernel
theorem dX7_add_66 : decode cX7_add 66 = .ok (.ireturn, 1) := by decide +kernel
theorem dX7_setKind_0 : decode cX7_setKind 0 = .ok (.aload_n 0, 1) := by decide +kernel
theorem dX7_setKind_1 : decode cX7_setKind 1 = .ok (.iload_n 1, 1) := by decide +kernel
theorem dX7_setKind_2 : decode cX7_setKind 2 = .ok (.invokevirtual 34, 3) := by decide +kernel
theorem dX7_setKind_5 : decode cX7_setKind 5 = .ok (.ifCond .eq 17, 3) := by decide +kernel
theorem dX7_setKind_8 : decode cX7_setKind 8 = .ok (.iload_n 2, 1) := by decide +kernel
theorem dX7_setKind_9 : decode cX7_setKind 9 = .ok (.invokestatic 38, 3) := by decide +kernel
theorem dX7_setKind_12 : decode cX7_setKind 12 = .ok (.ifCond .eq 10, 3) := by decide +kernel
theorem dX7_setKind_15 : decode cX7_setKind 15 = .ok (.aload_n 0, 1) := by decide +kernel
theorem dX7_setKind_16 : decode cX7_setKind 16 = .ok (.getfield 11, 3) := by decide +kernel
theorem dX7_setKind_19 : decode cX7_setKind 19 = .ok (.iload_n 1, 1) := by decide +kernel
theorem dX7_setKind_20 : decode cX7_setKind 20 = .ok (.iload_n 2, 1) := by decide +kernel
theorem dX7_setKind_21 : decode cX7_setKind 21 = .ok (.iastore, 1) := by decide +kernel
theorem dX7_setKind_22 : decode cX7_setKind 22 = .ok (.return_, 1) := by decide +kernel
theorem dX7_setFigure_0 : decode cX7_setFigure 0 = .ok (.aload_n 0, 1) := by decide +kernel
theorem dX7_setFigure_1 : decode cX7_setFigure 1 = .ok (.iload_n 1, 1) := by decide +kernel
theorem dX7_setFigure_2 : decode cX7_setFigure 2 = .ok (.invokevirtual 34, 3) := by decide +kernel
theorem dX7_setFigure_5 : decode cX7_setFigure 5 = .ok (.ifCond .eq 17, 3) := by decide +kernel
theorem dX7_setFigure_8 : decode cX7_setFigure 8 = .ok (.iload_n 2, 1) := by decide +kernel
theorem dX7_setFigure_9 : decode cX7_setFigure 9 = .ok (.invokestatic 41, 3) := by decide +kernel
theorem dX7_setFigure_12 : decode cX7_setFigure 12 = .ok (.ifCond .eq 10, 3) := by decide +kernel
theorem dX7_setFigure_15 : decode cX7_setFigure 15 = .ok (.aload_n 0, 1) := by decide +kernel
theorem dX7_setFigure_16 : decode cX7_setFigure 16 = .ok (.getfield 15, 3) := by decide +kernel
theorem dX7_setFigure_19 : decode cX7_setFigure 19 = .ok (.iload_n 1, 1) := by decide +kernel
theorem dX7_setFigure_20 : decode cX7_setFigure 20 = .ok (.iload_n 2, 1) := by decide +kernel
theorem dX7_setFigure_21 : decode cX7_setFigure 21 = .ok (.iastore, 1) := by decide +kernel
theorem dX7_setFigure_22 : decode cX7_setFigure 22 = .ok (.return_, 1) := by decide +kernel
theorem dX7_flipCause_0 : decode cX7_flipCause 0 = .ok (.aload_n 0, 1) := by decide +kernel
theorem dX7_flipCause_1 : decode cX7_flipCause 1 = .ok (.iload_n 1, 1) := by decide +kernel
theorem dX7_flipCause_2 : decode cX7_flipCause 2 = .ok (.invokevirtual 34, 3) := by decide +kernel
theorem dX7_flipCause_5 : decode cX7_flipCause 5 = .ok (.ifCond .eq 16, 3) := by decide +kernel
theorem dX7_flipCause_8 : decode cX7_flipCause 8 = .ok (.aload_n 0, 1) := by decide +kernel
theorem dX7_flipCause_9 : decode cX7_flipCause 9 = .ok (.iload_n 2, 1) := by decide +kernel
theorem dX7_flipCause_10 : decode cX7_flipCause 10 = .ok (.invokevirtual 34, 3) := by decide +kernel
theorem dX7_flipCause_13 : decode cX7_flipCause 13 = .ok (.ifCond .eq 8, 3) := by decide +kernel
theorem dX7_flipCause_16 : decode cX7_flipCause 16 = .ok (.iload_n 2, 1) := by decide +kernel
theorem dX7_flipCause_17 : decode cX7_flipCause 17 = .ok (.iload_n 1, 1) := by decide +kernel
theorem dX7_flipCause_18 : decode cX7_flipCause 18 = .ok (.if_icmp .lt 5, 3) := by decide +kernel
theorem dX7_flipCause_21 : decode cX7_flipCause 21 = .ok (.iconst 0, 1) := by decide +kernel
theorem dX7_flipCause_22 : decode cX7_flipCause 22 = .ok (.ireturn, 1) := by decide +kernel
theorem dX7_flipCause_23 : decode cX7_flipCause 23 = .ok (.aload_n 0, 1) := by decide +kernel
theorem dX7_flipCause_24 : decode cX7_flipCause 24 = .ok (.getfield 18, 3) := by decide +kernel
theorem dX7_flipCause_27 : decode cX7_flipCause 27 = .ok (.iload_n 1, 1) := by decide +kernel
theorem dX7_flipCause_28 : decode cX7_flipCause 28 = .ok (.dup2, 1) := by decide +kernel
theorem dX7_flipCause_29 : decode cX7_flipCause 29 = .ok (.iaload, 1) := by decide +kernel
theorem dX7_flipCause_30 : decode cX7_flipCause 30 = .ok (.iconst 1, 1) := by decide +kernel
theorem dX7_flipCause_31 : decode cX7_flipCause 31 = .ok (.iload_n 2, 1) := by decide +kernel
theorem dX7_flipCause_32 : decode cX7_flipCause 32 = .ok (.ishl, 1) := by decide +kernel
theorem dX7_flipCause_33 : decode cX7_flipCause 33 = .ok (.ixor, 1) := by decide +kernel
theorem dX7_flipCause_34 : decode cX7_flipCause 34 = .ok (.iastore, 1) := by decide +kernel
theorem dX7_flipCause_35 : decode cX7_flipCause 35 = .ok (.iconst 1, 1) := by decide +kernel
theorem dX7_flipCause_36 : decode cX7_flipCause 36 = .ok (.ireturn, 1) := by decide +kernel
theorem dX7_lose_0 : decode cX7_lose 0 = .ok (.aload_n 0, 1) := by decide +kernel
theorem dX7_lose_1 : decode cX7_lose 1 = .ok (.iload_n 1, 1) := by decide +kernel
theorem dX7_lose_2 : decode cX7_lose 2 = .ok (.invokevirtual 34, 3) := by decide +kernel
theorem dX7_lose_5 : decode cX7_lose 5 = .ok (.ifCond .eq 11, 3) := by decide +kernel
theorem dX7_lose_8 : decode cX7_lose 8 = .ok (.aload_n 0, 1) := by decide +kernel
theorem dX7_lose_9 : decode cX7_lose 9 = .ok (.iload_n 1, 1) := by decide +kernel
theorem dX7_lose_10 : decode cX7_lose 10 = .ok (.invokevirtual 44, 3) := by decide +kernel
theorem dX7_lose_13 : decode cX7_lose 13 = .ok (.ifCond .eq 5, 3) := by decide +kernel
theorem dX7_lose_16 : decode cX7_lose 16 = .ok (.iconst 0, 1) := by decide +kernel
theorem dX7_lose_17 : decode cX7_lose 17 = .ok (.ireturn, 1) := by decide +kernel
theorem dX7_lose_18 : decode cX7_lose 18 = .ok (.aload_n 0, 1) := by decide +kernel
theorem dX7_lose_19 : decode cX7_lose 19 = .ok (.dup, 1) := by decide +kernel
theorem dX7_lose_20 : decode cX7_lose 20 = .ok (.getfield 25, 3) := by decide +kernel
theorem dX7_lose_23 : decode cX7_lose 23 = .ok (.iconst 1, 1) := by decide +kernel
theorem dX7_lose_24 : decode cX7_lose 24 = .ok (.iload_n 1, 1) := by decide +kernel
theorem dX7_lose_25 : decode cX7_lose 25 = .ok (.ishl, 1) := by decide +kernel
theorem dX7_lose_26 : decode cX7_lose 26 = .ok (.ior, 1) := by decide +kernel
theorem dX7_lose_27 : decode cX7_lose 27 = .ok (.putfield 25, 3) := by decide +kernel
theorem dX7_lose_30 : decode cX7_lose 30 = .ok (.iconst 1, 1) := by decide +kernel
theorem dX7_lose_31 : decode cX7_lose 31 = .ok (.ireturn, 1) := by decide +kernel
theorem dX7_mend_0 : decode cX7_mend 0 = .ok (.aload_n 0, 1) := by decide +kernel
theorem dX7_mend_1 : decode cX7_mend 1 = .ok (.iload_n 1, 1) := by decide +kernel
theorem dX7_mend_2 : decode cX7_mend 2 = .ok (.invokevirtual 34, 3) := by decide +kernel
theorem dX7_mend_5 : decode cX7_mend 5 = .ok (.ifCond .ne 5, 3) := by decide +kernel
theorem dX7_mend_8 : decode cX7_mend 8 = .ok (.iconst 0, 1) := by decide +kernel
theorem dX7_mend_9 : decode cX7_mend 9 = .ok (.ireturn, 1) := by decide +kernel
theorem dX7_mend_10 : decode cX7_mend 10 = .ok (.aload_n 0, 1) := by decide +kernel
theorem dX7_mend_11 : decode cX7_mend 11 = .ok (.dup, 1) := by decide +kernel
theorem dX7_mend_12 : decode cX7_mend 12 = .ok (.getfield 25, 3) := by decide +kernel
theorem dX7_mend_15 : decode cX7_mend 15 = .ok (.iconst 1, 1) := by decide +kernel
theorem dX7_mend_16 : decode cX7_mend 16 = .ok (.iload_n 1, 1) := by decide +kernel
theorem dX7_mend_17 : decode cX7_mend 17 = .ok (.ishl, 1) := by decide +kernel
theorem dX7_mend_18 : decode cX7_mend 18 = .ok (.iconst (-1), 1) := by decide +kernel
theorem dX7_mend_19 : decode cX7_mend 19 = .ok (.ixor, 1) := by decide +kernel
theorem dX7_mend_20 : decode cX7_mend 20 = .ok (.iand, 1) := by decide +kernel
theorem dX7_mend_21 : decode cX7_mend 21 = .ok (.putfield 25, 3) := by decide +kernel
theorem dX7_mend_24 : decode cX7_mend 24 = .ok (.iconst 1, 1) := by decide +kernel
theorem dX7_mend_25 : decode cX7_mend 25 = .ok (.ireturn, 1) := by decide +kernel
theorem dX7_flipGuard_0 : decode cX7_flipGuard 0 = .ok (.aload_n 0, 1) := by decide +kernel
theorem dX7_flipGuard_1 : decode cX7_flipGuard 1 = .ok (.iload_n 1, 1) := by decide +kernel
theorem dX7_flipGuard_2 : decode cX7_flipGuard 2 = .ok (.invokevirtual 34, 3) := by decide +kernel
theorem dX7_flipGuard_5 : decode cX7_flipGuard 5 = .ok (.ifCond .ne 5, 3) := by decide +kernel
theorem dX7_flipGuard_8 : decode cX7_flipGuard 8 = .ok (.iconst 0, 1) := by decide +kernel
theorem dX7_flipGuard_9 : decode cX7_flipGuard 9 = .ok (.ireturn, 1) := by decide +kernel
theorem dX7_flipGuard_10 : decode cX7_flipGuard 10 = .ok (.aload_n 0, 1) := by decide +kernel
theorem dX7_flipGuard_11 : decode cX7_flipGuard 11 = .ok (.dup, 1) := by decide +kernel
theorem dX7_flipGuard_12 : decode cX7_flipGuard 12 = .ok (.getfield 28, 3) := by decide +kernel
theorem dX7_flipGuard_15 : decode cX7_flipGuard 15 = .ok (.iconst 1, 1) := by decide +kernel
theorem dX7_flipGuard_16 : decode cX7_flipGuard 16 = .ok (.iload_n 1, 1) := by decide +kernel
theorem dX7_flipGuard_17 : decode cX7_flipGuard 17 = .ok (.ishl, 1) := by decide +kernel
theorem dX7_flipGuard_18 : decode cX7_flipGuard 18 = .ok (.ixor, 1) := by decide +kernel
theorem dX7_flipGuard_19 : decode cX7_flipGuard 19 = .ok (.putfield 28, 3) := by decide +kernel
theorem dX7_flipGuard_22 : decode cX7_flipGuard 22 = .ok (.iconst 1, 1) := by decide +kernel
theorem dX7_flipGuard_23 : decode cX7_flipGuard 23 = .ok (.ireturn, 1) := by decide +kernel
theorem dX7_passDays_0 : decode cX7_passDays 0 = .ok (.iload_n 1, 1) := by decide +kernel
theorem dX7_passDays_1 : decode cX7_passDays 1 = .ok (.iconst 1, 1) := by decide +kernel
theorem dX7_passDays_2 : decode cX7_passDays 2 = .ok (.if_icmp .lt 21, 3) := by decide +kernel
theorem dX7_passDays_5 : decode cX7_passDays 5 = .ok (.iload_n 1, 1) := by decide +kernel
theorem dX7_passDays_6 : decode cX7_passDays 6 = .ok (.bipush 60, 2) := by decide +kernel
theorem dX7_passDays_8 : decode cX7_passDays 8 = .ok (.if_icmp .gt 15, 3) := by decide +kernel
theorem dX7_passDays_11 : decode cX7_passDays 11 = .ok (.aload_n 0, 1) := by decide +kernel
theorem dX7_passDays_12 : decode cX7_passDays 12 = .ok (.getfield 31, 3) := by decide +kernel
theorem dX7_passDays_15 : decode cX7_passDays 15 = .ok (.iload_n 1, 1) := by decide +kernel
theorem dX7_passDays_16 : decode cX7_passDays 16 = .ok (.iadd, 1) := by decide +kernel
theorem dX7_passDays_17 : decode cX7_passDays 17 = .ok (.sipush 999, 3) := by decide +kernel
theorem dX7_passDays_20 : decode cX7_passDays 20 = .ok (.if_icmp .le 5, 3) := by decide +kernel
theorem dX7_passDays_23 : decode cX7_passDays 23 = .ok (.iconst 0, 1) := by decide +kernel
theorem dX7_passDays_24 : decode cX7_passDays 24 = .ok (.ireturn, 1) := by decide +kernel
theorem dX7_passDays_25 : decode cX7_passDays 25 = .ok (.aload_n 0, 1) := by decide +kernel
theorem dX7_passDays_26 : decode cX7_passDays 26 = .ok (.aload_n 0, 1) := by decide +kernel
theorem dX7_passDays_27 : decode cX7_passDays 27 = .ok (.aload_n 0, 1) := by decide +kernel
theorem dX7_passDays_28 : decode cX7_passDays 28 = .ok (.getfield 25, 3) := by decide +kernel
theorem dX7_passDays_31 : decode cX7_passDays 31 = .ok (.aload_n 0, 1) := by decide +kernel
theorem dX7_passDays_32 : decode cX7_passDays 32 = .ok (.getfield 28, 3) := by decide +kernel
theorem dX7_passDays_35 : decode cX7_passDays 35 = .ok (.aload_n 0, 1) := by decide +kernel
theorem dX7_passDays_36 : decode cX7_passDays 36 = .ok (.getfield 31, 3) := by decide +kernel
theorem dX7_passDays_39 : decode cX7_passDays 39 = .ok (.iload_n 1, 1) := by decide +kernel
theorem dX7_passDays_40 : decode cX7_passDays 40 = .ok (.invokevirtual 47, 3) := by decide +kernel
theorem dX7_passDays_43 : decode cX7_passDays 43 = .ok (.putfield 25, 3) := by decide +kernel
theorem dX7_passDays_46 : decode cX7_passDays 46 = .ok (.aload_n 0, 1) := by decide +kernel
theorem dX7_passDays_47 : decode cX7_passDays 47 = .ok (.dup, 1) := by decide +kernel
theorem dX7_passDays_48 : decode cX7_passDays 48 = .ok (.getfield 31, 3) := by decide +kernel
theorem dX7_passDays_51 : decode cX7_passDays 51 = .ok (.iload_n 1, 1) := by decide +kernel
theorem dX7_passDays_52 : decode cX7_passDays 52 = .ok (.iadd, 1) := by decide +kernel
theorem dX7_passDays_53 : decode cX7_passDays 53 = .ok (.putfield 31, 3) := by decide +kernel
theorem dX7_passDays_56 : decode cX7_passDays 56 = .ok (.iconst 1, 1) := by decide +kernel
theorem dX7_passDays_57 : decode cX7_passDays 57 = .ok (.ireturn, 1) := by decide +kernel
theorem dX7_behindDay_0 : decode cX7_behindDay 0 = .ok (.iload_n 1, 1) := by decide +kernel
theorem dX7_behindDay_1 : decode cX7_behindDay 1 = .ok (.istore 4, 2) := by decide +kernel
theorem dX7_behindDay_3 : decode cX7_behindDay 3 = .ok (.iconst 0, 1) := by decide +kernel
theorem dX7_behindDay_4 : decode cX7_behindDay 4 = .ok (.istore 5, 2) := by decide +kernel
theorem dX7_behindDay_6 : decode cX7_behindDay 6 = .ok (.iload 5, 2) := by decide +kernel
theorem dX7_behindDay_8 : decode cX7_behindDay 8 = .ok (.aload_n 0, 1) := by decide +kernel
theorem dX7_behindDay_9 : decode cX7_behindDay 9 = .ok (.getfield 21, 3) := by decide +kernel
theorem dX7_behindDay_12 : decode cX7_behindDay 12 = .ok (.if_icmp .ge 91, 3) := by decide +kernel
theorem dX7_behindDay_15 : decode cX7_behindDay 15 = .ok (.iload 5, 2) := by decide +kernel
theorem dX7_behindDay_17 : decode cX7_behindDay 17 = .ok (.bipush 9, 2) := by decide +kernel
theorem dX7_behindDay_19 : decode cX7_behindDay 19 = .ok (.if_icmp .ge 84, 3) := by decide +kernel
theorem dX7_behindDay_22 : decode cX7_behindDay 22 = .ok (.iconst 1, 1) := by decide +kernel
theorem dX7_behindDay_23 : decode cX7_behindDay 23 = .ok (.iload 5, 2) := by decide +kernel
theorem dX7_behindDay_25 : decode cX7_behindDay 25 = .ok (.ishl, 1) := by decide +kernel
theorem dX7_behindDay_26 : decode cX7_behindDay 26 = .ok (.istore 6, 2) := by decide +kernel
theorem dX7_behindDay_28 : decode cX7_behindDay 28 = .ok (.aload_n 0, 1) := by decide +kernel
theorem dX7_behindDay_29 : decode cX7_behindDay 29 = .ok (.getfield 18, 3) := by decide +kernel
theorem dX7_behindDay_32 : decode cX7_behindDay 32 = .ok (.iload 5, 2) := by decide +kernel
theorem dX7_behindDay_34 : decode cX7_behindDay 34 = .ok (.iaload, 1) := by decide +kernel
theorem dX7_behindDay_35 : decode cX7_behindDay 35 = .ok (.iload_n 1, 1) := by decide +kernel
theorem dX7_behindDay_36 : decode cX7_behindDay 36 = .ok (.iand, 1) := by decide +kernel
theorem dX7_behindDay_37 : decode cX7_behindDay 37 = .ok (.invokestatic 51, 3) := by decide +kernel
theorem dX7_behindDay_40 : decode cX7_behindDay 40 = .ok (.istore 7, 2) := by decide +kernel
theorem dX7_behindDay_42 : decode cX7_behindDay 42 = .ok (.iload_n 1, 1) := by decide +kernel
theorem dX7_behindDay_43 : decode cX7_behindDay 43 = .ok (.iload_n 2, 1) := by decide +kernel
theorem dX7_behindDay_44 : decode cX7_behindDay 44 = .ok (.ior, 1) := by decide +kernel
theorem dX7_behindDay_45 : decode cX7_behindDay 45 = .ok (.iload 6, 2) := by decide +kernel
theorem dX7_behindDay_47 : decode cX7_behindDay 47 = .ok (.iand, 1) := by decide +kernel
theorem dX7_behindDay_48 : decode cX7_behindDay 48 = .ok (.ifCond .ne 7, 3) := by decide +kernel
theorem dX7_behindDay_51 : decode cX7_behindDay 51 = .ok (.iconst 1, 1) := by decide +kernel
theorem dX7_behindDay_52 : decode cX7_behindDay 52 = .ok (.goto 4, 3) := by decide +kernel
theorem dX7_behindDay_55 : decode cX7_behindDay 55 = .ok (.iconst 0, 1) := by decide +kernel
theorem dX7_behindDay_56 : decode cX7_behindDay 56 = .ok (.istore 8, 2) := by decide +kernel
theorem dX7_behindDay_58 : decode cX7_behindDay 58 = .ok (.iload 8, 2) := by decide +kernel
theorem dX7_behindDay_60 : decode cX7_behindDay 60 = .ok (.ifCond .eq 37, 3) := by decide +kernel
theorem dX7_behindDay_63 : decode cX7_behindDay 63 = .ok (.iload 7, 2) := by decide +kernel
theorem dX7_behindDay_65 : decode cX7_behindDay 65 = .ok (.ifCond .le 32, 3) := by decide +kernel
theorem dX7_behindDay_68 : decode cX7_behindDay 68 = .ok (.iload 7, 2) := by decide +kernel
theorem dX7_behindDay_70 : decode cX7_behindDay 70 = .ok (.aload_n 0, 1) := by decide +kernel
theorem dX7_behindDay_71 : decode cX7_behindDay 71 = .ok (.iload 5, 2) := by decide +kernel
theorem dX7_behindDay_73 : decode cX7_behindDay 73 = .ok (.aload_n 0, 1) := by decide +kernel
theorem dX7_behindDay_74 : decode cX7_behindDay 74 = .ok (.getfield 18, 3) := by decide +kernel
theorem dX7_behindDay_77 : decode cX7_behindDay 77 = .ok (.iload 5, 2) := by decide +kernel
theorem dX7_behindDay_79 : decode cX7_behindDay 79 = .ok (.iaload, 1) := by decide +kernel
theorem dX7_behindDay_80 : decode cX7_behindDay 80 = .ok (.invokestatic 51, 3) := by decide +kernel
theorem dX7_behindDay_83 : decode cX7_behindDay 83 = .ok (.iload_n 3, 1) := by decide +kernel
theorem dX7_behindDay_84 : decode cX7_behindDay 84 = .ok (.invokevirtual 57, 3) := by decide +kernel
theorem dX7_behindDay_87 : decode cX7_behindDay 87 = .ok (.if_icmp .lt 10, 3) := by decide +kernel
theorem dX7_behindDay_90 : decode cX7_behindDay 90 = .ok (.iload 4, 2) := by decide +kernel
theorem dX7_behindDay_92 : decode cX7_behindDay 92 = .ok (.iload 6, 2) := by decide +kernel
theorem dX7_behindDay_94 : decode cX7_behindDay 94 = .ok (.ior, 1) := by decide +kernel
theorem dX7_behindDay_95 : decode cX7_behindDay 95 = .ok (.istore 4, 2) := by decide +kernel
theorem dX7_behindDay_97 : decode cX7_behindDay 97 = .ok (.iinc 5 1, 3) := by decide +kernel
theorem dX7_behindDay_100 : decode cX7_behindDay 100 = .ok (.goto (-94), 3) := by decide +kernel
theorem dX7_behindDay_103 : decode cX7_behindDay 103 = .ok (.iload 4, 2) := by decide +kernel
theorem dX7_behindDay_105 : decode cX7_behindDay 105 = .ok (.ireturn, 1) := by decide +kernel
theorem dX7_behindDays_0 : decode cX7_behindDays 0 = .ok (.iload_n 1, 1) := by decide +kernel
theorem dX7_behindDays_1 : decode cX7_behindDays 1 = .ok (.istore 5, 2) := by decide +kernel
theorem dX7_behindDays_3 : decode cX7_behindDays 3 = .ok (.iconst 0, 1) := by decide +kernel
theorem dX7_behindDays_4 : decode cX7_behindDays 4 = .ok (.istore 6, 2) := by decide +kernel
theorem dX7_behindDays_6 : decode cX7_behindDays 6 = .ok (.iconst 1, 1) := by decide +kernel
theorem dX7_behindDays_7 : decode cX7_behindDays 7 = .ok (.istore 7, 2) := by decide +kernel
theorem dX7_behindDays_9 : decode cX7_behindDays 9 = .ok (.iload 7, 2) := by decide +kernel
theorem dX7_behindDays_11 : decode cX7_behindDays 11 = .ok (.iload 4, 2) := by decide +kernel
theorem dX7_behindDays_13 : decode cX7_behindDays 13 = .ok (.if_icmp .gt 50, 3) := by decide +kernel
theorem dX7_behindDays_16 : decode cX7_behindDays 16 = .ok (.iload 6, 2) := by decide +kernel
theorem dX7_behindDays_18 : decode cX7_behindDays 18 = .ok (.bipush 10, 2) := by decide +kernel
theorem dX7_behindDays_20 : decode cX7_behindDays 20 = .ok (.if_icmp .ge 43, 3) := by decide +kernel
theorem dX7_behindDays_23 : decode cX7_behindDays 23 = .ok (.aload_n 0, 1) := by decide +kernel
theorem dX7_behindDays_24 : decode cX7_behindDays 24 = .ok (.iload 5, 2) := by decide +kernel
theorem dX7_behindDays_26 : decode cX7_behindDays 26 = .ok (.iload_n 2, 1) := by decide +kernel
theorem dX7_behindDays_27 : decode cX7_behindDays 27 = .ok (.iload_n 3, 1) := by decide +kernel
theorem dX7_behindDays_28 : decode cX7_behindDays 28 = .ok (.iload 7, 2) := by decide +kernel
theorem dX7_behindDays_30 : decode cX7_behindDays 30 = .ok (.iadd, 1) := by decide +kernel
theorem dX7_behindDays_31 : decode cX7_behindDays 31 = .ok (.invokevirtual 61, 3) := by decide +kernel
theorem dX7_behindDays_34 : decode cX7_behindDays 34 = .ok (.istore 8, 2) := by decide +kernel
theorem dX7_behindDays_36 : decode cX7_behindDays 36 = .ok (.iload 8, 2) := by decide +kernel
theorem dX7_behindDays_38 : decode cX7_behindDays 38 = .ok (.iload 5, 2) := by decide +kernel
theorem dX7_behindDays_40 : decode cX7_behindDays 40 = .ok (.if_icmp .ne 10, 3) := by decide +kernel
theorem dX7_behindDays_43 : decode cX7_behindDays 43 = .ok (.iload 6, 2) := by decide +kernel
theorem dX7_behindDays_45 : decode cX7_behindDays 45 = .ok (.iconst 1, 1) := by decide +kernel
theorem dX7_behindDays_46 : decode cX7_behindDays 46 = .ok (.iadd, 1) := by decide +kernel
theorem dX7_behindDays_47 : decode cX7_behindDays 47 = .ok (.goto 4, 3) := by decide +kernel
theorem dX7_behindDays_50 : decode cX7_behindDays 50 = .ok (.iconst 0, 1) := by decide +kernel
theorem dX7_behindDays_51 : decode cX7_behindDays 51 = .ok (.istore 6, 2) := by decide +kernel
theorem dX7_behindDays_53 : decode cX7_behindDays 53 = .ok (.iload 8, 2) := by decide +kernel
theorem dX7_behindDays_55 : decode cX7_behindDays 55 = .ok (.istore 5, 2) := by decide +kernel
theorem dX7_behindDays_57 : decode cX7_behindDays 57 = .ok (.iinc 7 1, 3) := by decide +kernel
theorem dX7_behindDays_60 : decode cX7_behindDays 60 = .ok (.goto (-51), 3) := by decide +kernel
theorem dX7_behindDays_63 : decode cX7_behindDays 63 = .ok (.iload 5, 2) := by decide +kernel
theorem dX7_behindDays_65 : decode cX7_behindDays 65 = .ok (.ireturn, 1) := by decide +kernel
theorem dX7_needed_0 : decode cX7_needed 0 = .ok (.iload_n 1, 1) := by decide +kernel
theorem dX7_needed_1 : decode cX7_needed 1 = .ok (.ifCond .lt 9, 3) := by decide +kernel
theorem dX7_needed_4 : decode cX7_needed 4 = .ok (.iload_n 1, 1) := by decide +kernel
theorem dX7_needed_5 : decode cX7_needed 5 = .ok (.bipush 9, 2) := by decide +kernel
theorem dX7_needed_7 : decode cX7_needed 7 = .ok (.if_icmp .lt 6, 3) := by decide +kernel
theorem dX7_needed_10 : decode cX7_needed 10 = .ok (.bipush 10, 2) := by decide +kernel
theorem dX7_needed_12 : decode cX7_needed 12 = .ok (.ireturn, 1) := by decide +kernel
theorem dX7_needed_13 : decode cX7_needed 13 = .ok (.aload_n 0, 1) := by decide +kernel
theorem dX7_needed_14 : decode cX7_needed 14 = .ok (.getfield 11, 3) := by decide +kernel
theorem dX7_needed_17 : decode cX7_needed 17 = .ok (.iload_n 1, 1) := by decide +kernel
theorem dX7_needed_18 : decode cX7_needed 18 = .ok (.iaload, 1) := by decide +kernel
theorem dX7_needed_19 : decode cX7_needed 19 = .ok (.tableswitch 83 1 5 #[33, 35, 46, 48, 77], 33) := by decide +kernel
theorem dX7_needed_52 : decode cX7_needed 52 = .ok (.iconst 1, 1) := by decide +kernel
theorem dX7_needed_53 : decode cX7_needed 53 = .ok (.ireturn, 1) := by decide +kernel
theorem dX7_needed_54 : decode cX7_needed 54 = .ok (.iload_n 2, 1) := by decide +kernel
theorem dX7_needed_55 : decode cX7_needed 55 = .ok (.iconst 1, 1) := by decide +kernel
theorem dX7_needed_56 : decode cX7_needed 56 = .ok (.if_icmp .le 7, 3) := by decide +kernel
theorem dX7_needed_59 : decode cX7_needed 59 = .ok (.iconst 2, 1) := by decide +kernel
theorem dX7_needed_60 : decode cX7_needed 60 = .ok (.goto 4, 3) := by decide +kernel
theorem dX7_needed_63 : decode cX7_needed 63 = .ok (.iconst 1, 1) := by decide +kernel
theorem dX7_needed_64 : decode cX7_needed 64 = .ok (.ireturn, 1) := by decide +kernel
theorem dX7_needed_65 : decode cX7_needed 65 = .ok (.iload_n 2, 1) := by decide +kernel
theorem dX7_needed_66 : decode cX7_needed 66 = .ok (.ireturn, 1) := by decide +kernel
theorem dX7_needed_67 : decode cX7_needed 67 = .ok (.aload_n 0, 1) := by decide +kernel
theorem dX7_needed_68 : decode cX7_needed 68 = .ok (.getfield 15, 3) := by decide +kernel
theorem dX7_needed_71 : decode cX7_needed 71 = .ok (.iload_n 1, 1) := by decide +kernel
theorem dX7_needed_72 : decode cX7_needed 72 = .ok (.iaload, 1) := by decide +kernel
theorem dX7_needed_73 : decode cX7_needed 73 = .ok (.iconst 1, 1) := by decide +kernel
theorem dX7_needed_74 : decode cX7_needed 74 = .ok (.iadd, 1) := by decide +kernel
theorem dX7_needed_75 : decode cX7_needed 75 = .ok (.istore 4, 2) := by decide +kernel
theorem dX7_needed_77 : decode cX7_needed 77 = .ok (.iload 4, 2) := by decide +kernel
theorem dX7_needed_79 : decode cX7_needed 79 = .ok (.ifCond .le 14, 3) := by decide +kernel
theorem dX7_needed_82 : decode cX7_needed 82 = .ok (.iload_n 3, 1) := by decide +kernel
theorem dX7_needed_83 : decode cX7_needed 83 = .ok (.iload 4, 2) := by decide +kernel
theorem dX7_needed_85 : decode cX7_needed 85 = .ok (.irem, 1) := by decide +kernel
theorem dX7_needed_86 : decode cX7_needed 86 = .ok (.ifCond .ne 7, 3) := by decide +kernel
theorem dX7_needed_89 : decode cX7_needed 89 = .ok (.iconst 1, 1) := by decide +kernel
theorem dX7_needed_90 : decode cX7_needed 90 = .ok (.goto 5, 3) := by decide +kernel
theorem dX7_needed_93 : decode cX7_needed 93 = .ok (.bipush 10, 2) := by decide +kernel
theorem dX7_needed_95 : decode cX7_needed 95 = .ok (.ireturn, 1) := by decide +kernel
theorem dX7_needed_96 : decode cX7_needed 96 = .ok (.iload_n 2, 1) := by decide +kernel
theorem dX7_needed_97 : decode cX7_needed 97 = .ok (.iconst 2, 1) := by decide +kernel
theorem dX7_needed_98 : decode cX7_needed 98 = .ok (.idiv, 1) := by decide +kernel
theorem dX7_needed_99 : decode cX7_needed 99 = .ok (.iconst 1, 1) := by decide +kernel
theorem dX7_needed_100 : decode cX7_needed 100 = .ok (.iadd, 1) := by decide +kernel
theorem dX7_needed_101 : decode cX7_needed 101 = .ok (.ireturn, 1) := by decide +kernel
theorem dX7_needed_102 : decode cX7_needed 102 = .ok (.bipush 10, 2) := by decide +kernel
theorem dX7_needed_104 : decode cX7_needed 104 = .ok (.ireturn, 1) := by decide +kernel
theorem dX7_withoutCauses_0 : decode cX7_withoutCauses 0 = .ok (.iconst 0, 1) := by decide +kernel
theorem dX7_withoutCauses_1 : decode cX7_withoutCauses 1 = .ok (.istore_n 1, 1) := by decide +kernel
theorem dX7_withoutCauses_2 : decode cX7_withoutCauses 2 = .ok (.iconst 0, 1) := by decide +kernel
theorem dX7_withoutCauses_3 : decode cX7_withoutCauses 3 = .ok (.istore_n 2, 1) := by decide +kernel
theorem dX7_withoutCauses_4 : decode cX7_withoutCauses 4 = .ok (.iload_n 2, 1) := by decide +kernel
theorem dX7_withoutCauses_5 : decode cX7_withoutCauses 5 = .ok (.aload_n 0, 1) := by decide +kernel
theorem dX7_withoutCauses_6 : decode cX7_withoutCauses 6 = .ok (.getfield 21, 3) := by decide +kernel
theorem dX7_withoutCauses_9 : decode cX7_withoutCauses 9 = .ok (.if_icmp .ge 23, 3) := by decide +kernel
theorem dX7_withoutCauses_12 : decode cX7_withoutCauses 12 = .ok (.aload_n 0, 1) := by decide +kernel
theorem dX7_withoutCauses_13 : decode cX7_withoutCauses 13 = .ok (.iload_n 2, 1) := by decide +kernel
theorem dX7_withoutCauses_14 : decode cX7_withoutCauses 14 = .ok (.invokevirtual 64, 3) := by decide +kernel
theorem dX7_withoutCauses_17 : decode cX7_withoutCauses 17 = .ok (.ifCond .ne 9, 3) := by decide +kernel
theorem dX7_withoutCauses_20 : decode cX7_withoutCauses 20 = .ok (.iload_n 1, 1) := by decide +kernel
theorem dX7_withoutCauses_21 : decode cX7_withoutCauses 21 = .ok (.iconst 1, 1) := by decide +kernel
theorem dX7_withoutCauses_22 : decode cX7_withoutCauses 22 = .ok (.iload_n 2, 1) := by decide +kernel
theorem dX7_withoutCauses_23 : decode cX7_withoutCauses 23 = .ok (.ishl, 1) := by decide +kernel
theorem dX7_withoutCauses_24 : decode cX7_withoutCauses 24 = .ok (.ior, 1) := by decide +kernel
theorem dX7_withoutCauses_25 : decode cX7_withoutCauses 25 = .ok (.istore_n 1, 1) := by decide +kernel
theorem dX7_withoutCauses_26 : decode cX7_withoutCauses 26 = .ok (.iinc 2 1, 3) := by decide +kernel
theorem dX7_withoutCauses_29 : decode cX7_withoutCauses 29 = .ok (.goto (-25), 3) := by decide +kernel
theorem dX7_withoutCauses_32 : decode cX7_withoutCauses 32 = .ok (.iload_n 1, 1) := by decide +kernel
theorem dX7_withoutCauses_33 : decode cX7_withoutCauses 33 = .ok (.ireturn, 1) := by decide +kernel
theorem dX7_open_0 : decode cX7_open 0 = .ok (.aload_n 0, 1) := by decide +kernel
theorem dX7_open_1 : decode cX7_open 1 = .ok (.invokevirtual 67, 3) := by decide +kernel
theorem dX7_open_4 : decode cX7_open 4 = .ok (.aload_n 0, 1) := by decide +kernel
theorem dX7_open_5 : decode cX7_open 5 = .ok (.getfield 25, 3) := by decide +kernel
theorem dX7_open_8 : decode cX7_open 8 = .ok (.iconst (-1), 1) := by decide +kernel
theorem dX7_open_9 : decode cX7_open 9 = .ok (.ixor, 1) := by decide +kernel
theorem dX7_open_10 : decode cX7_open 10 = .ok (.iand, 1) := by decide +kernel
theorem dX7_open_11 : decode cX7_open 11 = .ok (.aload_n 0, 1) := by decide +kernel
theorem dX7_open_12 : decode cX7_open 12 = .ok (.getfield 28, 3) := by decide +kernel
theorem dX7_open_15 : decode cX7_open 15 = .ok (.iconst (-1), 1) := by decide +kernel
theorem dX7_open_16 : decode cX7_open 16 = .ok (.ixor, 1) := by decide +kernel
theorem dX7_open_17 : decode cX7_open 17 = .ok (.iand, 1) := by decide +kernel
theorem dX7_open_18 : decode cX7_open 18 = .ok (.ireturn, 1) := by decide +kernel
theorem dX7_openNails_0 : decode cX7_openNails 0 = .ok (.aload_n 0, 1) := by decide +kernel
theorem dX7_openNails_1 : decode cX7_openNails 1 = .ok (.invokevirtual 71, 3) := by decide +kernel
theorem dX7_openNails_4 : decode cX7_openNails 4 = .ok (.aload_n 0, 1) := by decide +kernel
theorem dX7_openNails_5 : decode cX7_openNails 5 = .ok (.invokevirtual 74, 3) := by decide +kernel
theorem dX7_openNails_8 : decode cX7_openNails 8 = .ok (.iand, 1) := by decide +kernel
theorem dX7_openNails_9 : decode cX7_openNails 9 = .ok (.ireturn, 1) := by decide +kernel
theorem dX7_allCauses_0 : decode cX7_allCauses 0 = .ok (.iconst 0, 1) := by decide +kernel
theorem dX7_allCauses_1 : decode cX7_allCauses 1 = .ok (.istore_n 1, 1) := by decide +kernel
theorem dX7_allCauses_2 : decode cX7_allCauses 2 = .ok (.iconst 0, 1) := by decide +kernel
theorem dX7_allCauses_3 : decode cX7_allCauses 3 = .ok (.istore_n 2, 1) := by decide +kernel
theorem dX7_allCauses_4 : decode cX7_allCauses 4 = .ok (.iload_n 2, 1) := by decide +kernel
theorem dX7_allCauses_5 : decode cX7_allCauses 5 = .ok (.aload_n 0, 1) := by decide +kernel
theorem dX7_allCauses_6 : decode cX7_allCauses 6 = .ok (.getfield 21, 3) := by decide +kernel
theorem dX7_allCauses_9 : decode cX7_allCauses 9 = .ok (.if_icmp .ge 20, 3) := by decide +kernel
theorem dX7_allCauses_12 : decode cX7_allCauses 12 = .ok (.iload_n 1, 1) := by decide +kernel
theorem dX7_allCauses_13 : decode cX7_allCauses 13 = .ok (.aload_n 0, 1) := by decide +kernel
theorem dX7_allCauses_14 : decode cX7_allCauses 14 = .ok (.iload_n 2, 1) := by decide +kernel
theorem dX7_allCauses_15 : decode cX7_allCauses 15 = .ok (.invokevirtual 64, 3) := by decide +kernel
theorem dX7_allCauses_18 : decode cX7_allCauses 18 = .ok (.invokestatic 51, 3) := by decide +kernel
theorem dX7_allCauses_21 : decode cX7_allCauses 21 = .ok (.iadd, 1) := by decide +kernel
theorem dX7_allCauses_22 : decode cX7_allCauses 22 = .ok (.istore_n 1, 1) := by decide +kernel
theorem dX7_allCauses_23 : decode cX7_allCauses 23 = .ok (.iinc 2 1, 3) := by decide +kernel
theorem dX7_allCauses_26 : decode cX7_allCauses 26 = .ok (.goto (-22), 3) := by decide +kernel
theorem dX7_allCauses_29 : decode cX7_allCauses 29 = .ok (.iload_n 1, 1) := by decide +kernel
theorem dX7_allCauses_30 : decode cX7_allCauses 30 = .ok (.ireturn, 1) := by decide +kernel
theorem dX7_rootsOf_0 : decode cX7_rootsOf 0 = .ok (.aload_n 0, 1) := by decide +kernel
theorem dX7_rootsOf_1 : decode cX7_rootsOf 1 = .ok (.iload_n 1, 1) := by decide +kernel
theorem dX7_rootsOf_2 : decode cX7_rootsOf 2 = .ok (.invokevirtual 64, 3) := by decide +kernel
theorem dX7_rootsOf_5 : decode cX7_rootsOf 5 = .ok (.istore_n 2, 1) := by decide +kernel
theorem dX7_rootsOf_6 : decode cX7_rootsOf 6 = .ok (.iload_n 1, 1) := by decide +kernel
theorem dX7_rootsOf_7 : decode cX7_rootsOf 7 = .ok (.iconst 1, 1) := by decide +kernel
theorem dX7_rootsOf_8 : decode cX7_rootsOf 8 = .ok (.isub, 1) := by decide +kernel
theorem dX7_rootsOf_9 : decode cX7_rootsOf 9 = .ok (.istore_n 3, 1) := by decide +kernel
theorem dX7_rootsOf_10 : decode cX7_rootsOf 10 = .ok (.iload_n 3, 1) := by decide +kernel
theorem dX7_rootsOf_11 : decode cX7_rootsOf 11 = .ok (.ifCond .lt 25, 3) := by decide +kernel
theorem dX7_rootsOf_14 : decode cX7_rootsOf 14 = .ok (.iload_n 2, 1) := by decide +kernel
theorem dX7_rootsOf_15 : decode cX7_rootsOf 15 = .ok (.iconst 1, 1) := by decide +kernel
theorem dX7_rootsOf_16 : decode cX7_rootsOf 16 = .ok (.iload_n 3, 1) := by decide +kernel
theorem dX7_rootsOf_17 : decode cX7_rootsOf 17 = .ok (.ishl, 1) := by decide +kernel
theorem dX7_rootsOf_18 : decode cX7_rootsOf 18 = .ok (.iand, 1) := by decide +kernel
theorem dX7_rootsOf_19 : decode cX7_rootsOf 19 = .ok (.ifCond .eq 11, 3) := by decide +kernel
theorem dX7_rootsOf_22 : decode cX7_rootsOf 22 = .ok (.iload_n 2, 1) := by decide +kernel
theorem dX7_rootsOf_23 : decode cX7_rootsOf 23 = .ok (.aload_n 0, 1) := by decide +kernel
theorem dX7_rootsOf_24 : decode cX7_rootsOf 24 = .ok (.iload_n 3, 1) := by decide +kernel
theorem dX7_rootsOf_25 : decode cX7_rootsOf 25 = .ok (.invokevirtual 64, 3) := by decide +kernel
theorem dX7_rootsOf_28 : decode cX7_rootsOf 28 = .ok (.ior, 1) := by decide +kernel
theorem dX7_rootsOf_29 : decode cX7_rootsOf 29 = .ok (.istore_n 2, 1) := by decide +kernel
theorem dX7_rootsOf_30 : decode cX7_rootsOf 30 = .ok (.iinc 3 (-1), 3) := by decide +kernel
theorem dX7_rootsOf_33 : decode cX7_rootsOf 33 = .ok (.goto (-23), 3) := by decide +kernel
theorem dX7_rootsOf_36 : decode cX7_rootsOf 36 = .ok (.iload_n 2, 1) := by decide +kernel
theorem dX7_rootsOf_37 : decode cX7_rootsOf 37 = .ok (.ireturn, 1) := by decide +kernel
theorem dX7_fruitsOf_0 : decode cX7_fruitsOf 0 = .ok (.iconst 0, 1) := by decide +kernel
theorem dX7_fruitsOf_1 : decode cX7_fruitsOf 1 = .ok (.istore_n 2, 1) := by decide +kernel
theorem dX7_fruitsOf_2 : decode cX7_fruitsOf 2 = .ok (.iconst 0, 1) := by decide +kernel
theorem dX7_fruitsOf_3 : decode cX7_fruitsOf 3 = .ok (.istore_n 3, 1) := by decide +kernel
theorem dX7_fruitsOf_4 : decode cX7_fruitsOf 4 = .ok (.iload_n 3, 1) := by decide +kernel
theorem dX7_fruitsOf_5 : decode cX7_fruitsOf 5 = .ok (.aload_n 0, 1) := by decide +kernel
theorem dX7_fruitsOf_6 : decode cX7_fruitsOf 6 = .ok (.getfield 21, 3) := by decide +kernel
theorem dX7_fruitsOf_9 : decode cX7_fruitsOf 9 = .ok (.if_icmp .ge 27, 3) := by decide +kernel
theorem dX7_fruitsOf_12 : decode cX7_fruitsOf 12 = .ok (.aload_n 0, 1) := by decide +kernel
theorem dX7_fruitsOf_13 : decode cX7_fruitsOf 13 = .ok (.iload_n 3, 1) := by decide +kernel
theorem dX7_fruitsOf_14 : decode cX7_fruitsOf 14 = .ok (.invokevirtual 77, 3) := by decide +kernel
theorem dX7_fruitsOf_17 : decode cX7_fruitsOf 17 = .ok (.iconst 1, 1) := by decide +kernel
theorem dX7_fruitsOf_18 : decode cX7_fruitsOf 18 = .ok (.iload_n 1, 1) := by decide +kernel
theorem dX7_fruitsOf_19 : decode cX7_fruitsOf 19 = .ok (.ishl, 1) := by decide +kernel
theorem dX7_fruitsOf_20 : decode cX7_fruitsOf 20 = .ok (.iand, 1) := by decide +kernel
theorem dX7_fruitsOf_21 : decode cX7_fruitsOf 21 = .ok (.ifCond .eq 9, 3) := by decide +kernel
theorem dX7_fruitsOf_24 : decode cX7_fruitsOf 24 = .ok (.iload_n 2, 1) := by decide +kernel
theorem dX7_fruitsOf_25 : decode cX7_fruitsOf 25 = .ok (.iconst 1, 1) := by decide +kernel
theorem dX7_fruitsOf_26 : decode cX7_fruitsOf 26 = .ok (.iload_n 3, 1) := by decide +kernel
theorem dX7_fruitsOf_27 : decode cX7_fruitsOf 27 = .ok (.ishl, 1) := by decide +kernel
theorem dX7_fruitsOf_28 : decode cX7_fruitsOf 28 = .ok (.ior, 1) := by decide +kernel
theorem dX7_fruitsOf_29 : decode cX7_fruitsOf 29 = .ok (.istore_n 2, 1) := by decide +kernel
theorem dX7_fruitsOf_30 : decode cX7_fruitsOf 30 = .ok (.iinc 3 1, 3) := by decide +kernel
theorem dX7_fruitsOf_33 : decode cX7_fruitsOf 33 = .ok (.goto (-29), 3) := by decide +kernel
theorem dX7_fruitsOf_36 : decode cX7_fruitsOf 36 = .ok (.iload_n 2, 1) := by decide +kernel
theorem dX7_fruitsOf_37 : decode cX7_fruitsOf 37 = .ok (.ireturn, 1) := by decide +kernel
theorem dX7_depthOf_0 : decode cX7_depthOf 0 = .ok (.aload_n 0, 1) := by decide +kernel
theorem dX7_depthOf_1 : decode cX7_depthOf 1 = .ok (.iload_n 1, 1) := by decide +kernel
theorem dX7_depthOf_2 : decode cX7_depthOf 2 = .ok (.invokevirtual 64, 3) := by decide +kernel
theorem dX7_depthOf_5 : decode cX7_depthOf 5 = .ok (.istore_n 2, 1) := by decide +kernel
theorem dX7_depthOf_6 : decode cX7_depthOf 6 = .ok (.iconst 0, 1) := by decide +kernel
theorem dX7_depthOf_7 : decode cX7_depthOf 7 = .ok (.istore_n 3, 1) := by decide +kernel
theorem dX7_depthOf_8 : decode cX7_depthOf 8 = .ok (.iload_n 2, 1) := by decide +kernel
theorem dX7_depthOf_9 : decode cX7_depthOf 9 = .ok (.ifCond .eq 21, 3) := by decide +kernel
theorem dX7_depthOf_12 : decode cX7_depthOf 12 = .ok (.iload_n 3, 1) := by decide +kernel
theorem dX7_depthOf_13 : decode cX7_depthOf 13 = .ok (.bipush 9, 2) := by decide +kernel
theorem dX7_depthOf_15 : decode cX7_depthOf 15 = .ok (.if_icmp .ge 15, 3) := by decide +kernel
theorem dX7_depthOf_18 : decode cX7_depthOf 18 = .ok (.iinc 3 1, 3) := by decide +kernel
theorem dX7_depthOf_21 : decode cX7_depthOf 21 = .ok (.aload_n 0, 1) := by decide +kernel
theorem dX7_depthOf_22 : decode cX7_depthOf 22 = .ok (.iload_n 2, 1) := by decide +kernel
theorem dX7_depthOf_23 : decode cX7_depthOf 23 = .ok (.invokevirtual 80, 3) := by decide +kernel
theorem dX7_depthOf_26 : decode cX7_depthOf 26 = .ok (.istore_n 2, 1) := by decide +kernel
theorem dX7_depthOf_27 : decode cX7_depthOf 27 = .ok (.goto (-19), 3) := by decide +kernel
theorem dX7_depthOf_30 : decode cX7_depthOf 30 = .ok (.iload_n 3, 1) := by decide +kernel
theorem dX7_depthOf_31 : decode cX7_depthOf 31 = .ok (.ireturn, 1) := by decide +kernel
theorem dX7_causesOfThese_0 : decode cX7_causesOfThese 0 = .ok (.iconst 0, 1) := by decide +kernel
theorem dX7_causesOfThese_1 : decode cX7_causesOfThese 1 = .ok (.istore_n 2, 1) := by decide +kernel
theorem dX7_causesOfThese_2 : decode cX7_causesOfThese 2 = .ok (.iconst 0, 1) := by decide +kernel
theorem dX7_causesOfThese_3 : decode cX7_causesOfThese 3 = .ok (.istore_n 3, 1) := by decide +kernel
theorem dX7_causesOfThese_4 : decode cX7_causesOfThese 4 = .ok (.iload_n 3, 1) := by decide +kernel
theorem dX7_causesOfThese_5 : decode cX7_causesOfThese 5 = .ok (.aload_n 0, 1) := by decide +kernel
theorem dX7_causesOfThese_6 : decode cX7_causesOfThese 6 = .ok (.getfield 21, 3) := by decide +kernel
theorem dX7_causesOfThese_9 : decode cX7_causesOfThese 9 = .ok (.if_icmp .ge 25, 3) := by decide +kernel
theorem dX7_causesOfThese_12 : decode cX7_causesOfThese 12 = .ok (.iload_n 1, 1) := by decide +kernel
theorem dX7_causesOfThese_13 : decode cX7_causesOfThese 13 = .ok (.iconst 1, 1) := by decide +kernel
theorem dX7_causesOfThese_14 : decode cX7_causesOfThese 14 = .ok (.iload_n 3, 1) := by decide +kernel
theorem dX7_causesOfThese_15 : decode cX7_causesOfThese 15 = .ok (.ishl, 1) := by decide +kernel
theorem dX7_causesOfThese_16 : decode cX7_causesOfThese 16 = .ok (.iand, 1) := by decide +kernel
theorem dX7_causesOfThese_17 : decode cX7_causesOfThese 17 = .ok (.ifCond .eq 11, 3) := by decide +kernel
theorem dX7_causesOfThese_20 : decode cX7_causesOfThese 20 = .ok (.iload_n 2, 1) := by decide +kernel
theorem dX7_causesOfThese_21 : decode cX7_causesOfThese 21 = .ok (.aload_n 0, 1) := by decide +kernel
theorem dX7_causesOfThese_22 : decode cX7_causesOfThese 22 = .ok (.iload_n 3, 1) := by decide +kernel
theorem dX7_causesOfThese_23 : decode cX7_causesOfThese 23 = .ok (.invokevirtual 64, 3) := by decide +kernel
theorem dX7_causesOfThese_26 : decode cX7_causesOfThese 26 = .ok (.ior, 1) := by decide +kernel
theorem dX7_causesOfThese_27 : decode cX7_causesOfThese 27 = .ok (.istore_n 2, 1) := by decide +kernel
theorem dX7_causesOfThese_28 : decode cX7_causesOfThese 28 = .ok (.iinc 3 1, 3) := by decide +kernel
theorem dX7_causesOfThese_31 : decode cX7_causesOfThese 31 = .ok (.goto (-27), 3) := by decide +kernel
theorem dX7_causesOfThese_34 : decode cX7_causesOfThese 34 = .ok (.iload_n 2, 1) := by decide +kernel
theorem dX7_causesOfThese_35 : decode cX7_causesOfThese 35 = .ok (.ireturn, 1) := by decide +kernel
theorem dX7_withMostFruits_0 : decode cX7_withMostFruits 0 = .ok (.bipush (-9), 2) := by decide +kernel
theorem dX7_withMostFruits_2 : decode cX7_withMostFruits 2 = .ok (.istore_n 1, 1) := by decide +kernel
theorem dX7_withMostFruits_3 : decode cX7_withMostFruits 3 = .ok (.iconst (-1), 1) := by decide +kernel
theorem dX7_withMostFruits_4 : decode cX7_withMostFruits 4 = .ok (.istore_n 2, 1) := by decide +kernel
theorem dX7_withMostFruits_5 : decode cX7_withMostFruits 5 = .ok (.iconst 0, 1) := by decide +kernel
theorem dX7_withMostFruits_6 : decode cX7_withMostFruits 6 = .ok (.istore_n 3, 1) := by decide +kernel
theorem dX7_withMostFruits_7 : decode cX7_withMostFruits 7 = .ok (.iload_n 3, 1) := by decide +kernel
theorem dX7_withMostFruits_8 : decode cX7_withMostFruits 8 = .ok (.aload_n 0, 1) := by decide +kernel
theorem dX7_withMostFruits_9 : decode cX7_withMostFruits 9 = .ok (.getfield 21, 3) := by decide +kernel
theorem dX7_withMostFruits_12 : decode cX7_withMostFruits 12 = .ok (.if_icmp .ge 30, 3) := by decide +kernel
theorem dX7_withMostFruits_15 : decode cX7_withMostFruits 15 = .ok (.aload_n 0, 1) := by decide +kernel
theorem dX7_withMostFruits_16 : decode cX7_withMostFruits 16 = .ok (.iload_n 3, 1) := by decide +kernel
theorem dX7_withMostFruits_17 : decode cX7_withMostFruits 17 = .ok (.invokevirtual 83, 3) := by decide +kernel
theorem dX7_withMostFruits_20 : decode cX7_withMostFruits 20 = .ok (.invokestatic 51, 3) := by decide +kernel
theorem dX7_withMostFruits_23 : decode cX7_withMostFruits 23 = .ok (.istore 4, 2) := by decide +kernel
theorem dX7_withMostFruits_25 : decode cX7_withMostFruits 25 = .ok (.iload 4, 2) := by decide +kernel
theorem dX7_withMostFruits_27 : decode cX7_withMostFruits 27 = .ok (.iload_n 2, 1) := by decide +kernel
theorem dX7_withMostFruits_28 : decode cX7_withMostFruits 28 = .ok (.if_icmp .le 8, 3) := by decide +kernel
theorem dX7_withMostFruits_31 : decode cX7_withMostFruits 31 = .ok (.iload 4, 2) := by decide +kernel
theorem dX7_withMostFruits_33 : decode cX7_withMostFruits 33 = .ok (.istore_n 2, 1) := by decide +kernel
theorem dX7_withMostFruits_34 : decode cX7_withMostFruits 34 = .ok (.iload_n 3, 1) := by decide +kernel
theorem dX7_withMostFruits_35 : decode cX7_withMostFruits 35 = .ok (.istore_n 1, 1) := by decide +kernel
theorem dX7_withMostFruits_36 : decode cX7_withMostFruits 36 = .ok (.iinc 3 1, 3) := by decide +kernel
theorem dX7_withMostFruits_39 : decode cX7_withMostFruits 39 = .ok (.goto (-32), 3) := by decide +kernel
theorem dX7_withMostFruits_42 : decode cX7_withMostFruits 42 = .ok (.iload_n 1, 1) := by decide +kernel
theorem dX7_withMostFruits_43 : decode cX7_withMostFruits 43 = .ok (.ireturn, 1) := by decide +kernel
theorem dX7_areTwins_0 : decode cX7_areTwins 0 = .ok (.aload_n 0, 1) := by decide +kernel
theorem dX7_areTwins_1 : decode cX7_areTwins 1 = .ok (.iload_n 1, 1) := by decide +kernel
theorem dX7_areTwins_2 : decode cX7_areTwins 2 = .ok (.invokevirtual 86, 3) := by decide +kernel
theorem dX7_areTwins_5 : decode cX7_areTwins 5 = .ok (.aload_n 0, 1) := by decide +kernel
theorem dX7_areTwins_6 : decode cX7_areTwins 6 = .ok (.iload_n 2, 1) := by decide +kernel
theorem dX7_areTwins_7 : decode cX7_areTwins 7 = .ok (.invokevirtual 86, 3) := by decide +kernel
theorem dX7_areTwins_10 : decode cX7_areTwins 10 = .ok (.if_icmp .ne 20, 3) := by decide +kernel
theorem dX7_areTwins_13 : decode cX7_areTwins 13 = .ok (.aload_n 0, 1) := by decide +kernel
theorem dX7_areTwins_14 : decode cX7_areTwins 14 = .ok (.iload_n 1, 1) := by decide +kernel
theorem dX7_areTwins_15 : decode cX7_areTwins 15 = .ok (.invokevirtual 64, 3) := by decide +kernel
theorem dX7_areTwins_18 : decode cX7_areTwins 18 = .ok (.aload_n 0, 1) := by decide +kernel
theorem dX7_areTwins_19 : decode cX7_areTwins 19 = .ok (.iload_n 2, 1) := by decide +kernel
theorem dX7_areTwins_20 : decode cX7_areTwins 20 = .ok (.invokevirtual 64, 3) := by decide +kernel
theorem dX7_areTwins_23 : decode cX7_areTwins 23 = .ok (.if_icmp .ne 7, 3) := by decide +kernel
theorem dX7_areTwins_26 : decode cX7_areTwins 26 = .ok (.iconst 1, 1) := by decide +kernel
theorem dX7_areTwins_27 : decode cX7_areTwins 27 = .ok (.goto 4, 3) := by decide +kernel
theorem dX7_areTwins_30 : decode cX7_areTwins 30 = .ok (.iconst 0, 1) := by decide +kernel
theorem dX7_areTwins_31 : decode cX7_areTwins 31 = .ok (.ireturn, 1) := by decide +kernel
theorem dX7_howManyTwins_0 : decode cX7_howManyTwins 0 = .ok (.iconst 0, 1) := by decide +kernel
theorem dX7_howManyTwins_1 : decode cX7_howManyTwins 1 = .ok (.istore_n 1, 1) := by decide +kernel
theorem dX7_howManyTwins_2 : decode cX7_howManyTwins 2 = .ok (.iconst 0, 1) := by decide +kernel
theorem dX7_howManyTwins_3 : decode cX7_howManyTwins 3 = .ok (.istore_n 2, 1) := by decide +kernel
theorem dX7_howManyTwins_4 : decode cX7_howManyTwins 4 = .ok (.iload_n 2, 1) := by decide +kernel
theorem dX7_howManyTwins_5 : decode cX7_howManyTwins 5 = .ok (.aload_n 0, 1) := by decide +kernel
theorem dX7_howManyTwins_6 : decode cX7_howManyTwins 6 = .ok (.getfield 21, 3) := by decide +kernel
theorem dX7_howManyTwins_9 : decode cX7_howManyTwins 9 = .ok (.if_icmp .ge 39, 3) := by decide +kernel
theorem dX7_howManyTwins_12 : decode cX7_howManyTwins 12 = .ok (.iload_n 2, 1) := by decide +kernel
theorem dX7_howManyTwins_13 : decode cX7_howManyTwins 13 = .ok (.iconst 1, 1) := by decide +kernel
theorem dX7_howManyTwins_14 : decode cX7_howManyTwins 14 = .ok (.iadd, 1) := by decide +kernel
theorem dX7_howManyTwins_15 : decode cX7_howManyTwins 15 = .ok (.istore_n 3, 1) := by decide +kernel
theorem dX7_howManyTwins_16 : decode cX7_howManyTwins 16 = .ok (.iload_n 3, 1) := by decide +kernel
theorem dX7_howManyTwins_17 : decode cX7_howManyTwins 17 = .ok (.aload_n 0, 1) := by decide +kernel
theorem dX7_howManyTwins_18 : decode cX7_howManyTwins 18 = .ok (.getfield 21, 3) := by decide +kernel
theorem dX7_howManyTwins_21 : decode cX7_howManyTwins 21 = .ok (.if_icmp .ge 21, 3) := by decide +kernel
theorem dX7_howManyTwins_24 : decode cX7_howManyTwins 24 = .ok (.aload_n 0, 1) := by decide +kernel
theorem dX7_howManyTwins_25 : decode cX7_howManyTwins 25 = .ok (.iload_n 2, 1) := by decide +kernel
theorem dX7_howManyTwins_26 : decode cX7_howManyTwins 26 = .ok (.iload_n 3, 1) := by decide +kernel
theorem dX7_howManyTwins_27 : decode cX7_howManyTwins 27 = .ok (.invokevirtual 89, 3) := by decide +kernel
theorem dX7_howManyTwins_30 : decode cX7_howManyTwins 30 = .ok (.ifCond .eq 6, 3) := by decide +kernel
theorem dX7_howManyTwins_33 : decode cX7_howManyTwins 33 = .ok (.iinc 1 1, 3) := by decide +kernel
theorem dX7_howManyTwins_36 : decode cX7_howManyTwins 36 = .ok (.iinc 3 1, 3) := by decide +kernel
theorem dX7_howManyTwins_39 : decode cX7_howManyTwins 39 = .ok (.goto (-23), 3) := by decide +kernel
theorem dX7_howManyTwins_42 : decode cX7_howManyTwins 42 = .ok (.iinc 2 1, 3) := by decide +kernel
theorem dX7_howManyTwins_45 : decode cX7_howManyTwins 45 = .ok (.goto (-41), 3) := by decide +kernel
theorem dX7_howManyTwins_48 : decode cX7_howManyTwins 48 = .ok (.iload_n 1, 1) := by decide +kernel
theorem dX7_howManyTwins_49 : decode cX7_howManyTwins 49 = .ok (.ireturn, 1) := by decide +kernel
theorem dX7_firstTwins_0 : decode cX7_firstTwins 0 = .ok (.iconst 0, 1) := by decide +kernel
theorem dX7_firstTwins_1 : decode cX7_firstTwins 1 = .ok (.istore_n 1, 1) := by decide +kernel
theorem dX7_firstTwins_2 : decode cX7_firstTwins 2 = .ok (.iload_n 1, 1) := by decide +kernel
theorem dX7_firstTwins_3 : decode cX7_firstTwins 3 = .ok (.aload_n 0, 1) := by decide +kernel
theorem dX7_firstTwins_4 : decode cX7_firstTwins 4 = .ok (.getfield 21, 3) := by decide +kernel
theorem dX7_firstTwins_7 : decode cX7_firstTwins 7 = .ok (.if_icmp .ge 43, 3) := by decide +kernel
theorem dX7_firstTwins_10 : decode cX7_firstTwins 10 = .ok (.iload_n 1, 1) := by decide +kernel
theorem dX7_firstTwins_11 : decode cX7_firstTwins 11 = .ok (.iconst 1, 1) := by decide +kernel
theorem dX7_firstTwins_12 : decode cX7_firstTwins 12 = .ok (.iadd, 1) := by decide +kernel
theorem dX7_firstTwins_13 : decode cX7_firstTwins 13 = .ok (.istore_n 2, 1) := by decide +kernel
theorem dX7_firstTwins_14 : decode cX7_firstTwins 14 = .ok (.iload_n 2, 1) := by decide +kernel
theorem dX7_firstTwins_15 : decode cX7_firstTwins 15 = .ok (.aload_n 0, 1) := by decide +kernel
theorem dX7_firstTwins_16 : decode cX7_firstTwins 16 = .ok (.getfield 21, 3) := by decide +kernel
theorem dX7_firstTwins_19 : decode cX7_firstTwins 19 = .ok (.if_icmp .ge 25, 3) := by decide +kernel
theorem dX7_firstTwins_22 : decode cX7_firstTwins 22 = .ok (.aload_n 0, 1) := by decide +kernel
theorem dX7_firstTwins_23 : decode cX7_firstTwins 23 = .ok (.iload_n 1, 1) := by decide +kernel
theorem dX7_firstTwins_24 : decode cX7_firstTwins 24 = .ok (.iload_n 2, 1) := by decide +kernel
theorem dX7_firstTwins_25 : decode cX7_firstTwins 25 = .ok (.invokevirtual 89, 3) := by decide +kernel
theorem dX7_firstTwins_28 : decode cX7_firstTwins 28 = .ok (.ifCond .eq 10, 3) := by decide +kernel
theorem dX7_firstTwins_31 : decode cX7_firstTwins 31 = .ok (.bipush 10, 2) := by decide +kernel
theorem dX7_firstTwins_33 : decode cX7_firstTwins 33 = .ok (.iload_n 1, 1) := by decide +kernel
theorem dX7_firstTwins_34 : decode cX7_firstTwins 34 = .ok (.imul, 1) := by decide +kernel
theorem dX7_firstTwins_35 : decode cX7_firstTwins 35 = .ok (.iload_n 2, 1) := by decide +kernel
theorem dX7_firstTwins_36 : decode cX7_firstTwins 36 = .ok (.iadd, 1) := by decide +kernel
theorem dX7_firstTwins_37 : decode cX7_firstTwins 37 = .ok (.ireturn, 1) := by decide +kernel
theorem dX7_firstTwins_38 : decode cX7_firstTwins 38 = .ok (.iinc 2 1, 3) := by decide +kernel
theorem dX7_firstTwins_41 : decode cX7_firstTwins 41 = .ok (.goto (-27), 3) := by decide +kernel
theorem dX7_firstTwins_44 : decode cX7_firstTwins 44 = .ok (.iinc 1 1, 3) := by decide +kernel
theorem dX7_firstTwins_47 : decode cX7_firstTwins 47 = .ok (.goto (-45), 3) := by decide +kernel
theorem dX7_firstTwins_50 : decode cX7_firstTwins 50 = .ok (.bipush (-9), 2) := by decide +kernel
theorem dX7_firstTwins_52 : decode cX7_firstTwins 52 = .ok (.ireturn, 1) := by decide +kernel
theorem dX8_init_0 : decode cX8_init 0 = .ok (.aload_n 0, 1) := by decide +kernel
theorem dX8_init_1 : decode cX8_init 1 = .ok (.invokespecial 1, 3) := by decide +kernel
theorem dX8_init_4 : decode cX8_init 4 = .ok (.aload_n 0, 1) := by decide +kernel
theorem dX8_init_5 : decode cX8_init 5 = .ok (.bipush 96, 2) := by decide +kernel
theorem dX8_init_7 : decode cX8_init 7 = .ok (.newarray .int, 2) := by decide +kernel
theorem dX8_init_9 : decode cX8_init 9 = .ok (.putfield 9, 3) := by decide +kernel
theorem dX8_init_12 : decode cX8_init 12 = .ok (.return_, 1) := by decide +kernel
theorem dX8_isFull_0 : decode cX8_isFull 0 = .ok (.aload_n 0, 1) := by decide +kernel
theorem dX8_isFull_1 : decode cX8_isFull 1 = .ok (.getfield 13, 3) := by decide +kernel
theorem dX8_isFull_4 : decode cX8_isFull 4 = .ok (.bipush 96, 2) := by decide +kernel
theorem dX8_isFull_6 : decode cX8_isFull 6 = .ok (.if_icmp .lt 7, 3) := by decide +kernel
theorem dX8_isFull_9 : decode cX8_isFull 9 = .ok (.iconst 1, 1) := by decide +kernel
theorem dX8_isFull_10 : decode cX8_isFull 10 = .ok (.goto 4, 3) := by decide +kernel
theorem dX8_isFull_13 : decode cX8_isFull 13 = .ok (.iconst 0, 1) := by decide +kernel
theorem dX8_isFull_14 : decode cX8_isFull 14 = .ok (.ireturn, 1) := by decide +kernel
theorem dX8_add_0 : decode cX8_add 0 = .ok (.aload_n 0, 1) := by decide +kernel
theorem dX8_add_1 : decode cX8_add 1 = .ok (.invokevirtual 17, 3) := by decide +kernel
theorem dX8_add_4 : decode cX8_add 4 = .ok (.ifCond .ne 23, 3) := by decide +kernel
theorem dX8_add_7 : decode cX8_add 7 = .ok (.aload_n 0, 1) := by decide +kernel
theorem dX8_add_8 : decode cX8_add 8 = .ok (.getfield 9, 3) := by decide +kernel
theorem dX8_add_11 : decode cX8_add 11 = .ok (.aload_n 0, 1) := by decide +kernel
theorem dX8_add_12 : decode cX8_add 12 = .ok (.getfield 13, 3) := by decide +kernel
theorem dX8_add_15 : decode cX8_add 15 = .ok (.iload_n 1, 1) := by decide +kernel
theorem dX8_add_16 : decode cX8_add 16 = .ok (.iastore, 1) := by decide +kernel
theorem dX8_add_17 : decode cX8_add 17 = .ok (.aload_n 0, 1) := by decide +kernel
theorem dX8_add_18 : decode cX8_add 18 = .ok (.dup, 1) := by decide +kernel
theorem dX8_add_19 : decode cX8_add 19 = .ok (.getfield 13, 3) := by decide +kernel
theorem dX8_add_22 : decode cX8_add 22 = .ok (.iconst 1, 1) := by decide +kernel
theorem dX8_add_23 : decode cX8_add 23 = .ok (.iadd, 1) := by decide +kernel
theorem dX8_add_24 : decode cX8_add 24 = .ok (.putfield 13, 3) := by decide +kernel
theorem dX8_add_27 : decode cX8_add 27 = .ok (.aload_n 0, 1) := by decide +kernel
theorem dX8_add_28 : decode cX8_add 28 = .ok (.getfield 13, 3) := by decide +kernel
theorem dX8_add_31 : decode cX8_add 31 = .ok (.ireturn, 1) := by decide +kernel
theorem dX8_forget_0 : decode cX8_forget 0 = .ok (.aload_n 0, 1) := by decide +kernel
theorem dX8_forget_1 : decode cX8_forget 1 = .ok (.iconst 0, 1) := by decide +kernel
theorem dX8_forget_2 : decode cX8_forget 2 = .ok (.putfield 13, 3) := by decide +kernel
theorem dX8_forget_5 : decode cX8_forget 5 = .ok (.return_, 1) := by decide +kernel
theorem dX8_at_0 : decode cX8_at 0 = .ok (.iload_n 1, 1) := by decide +kernel
theorem dX8_at_1 : decode cX8_at 1 = .ok (.ifCond .lt 26, 3) := by decide +kernel
theorem dX8_at_4 : decode cX8_at 4 = .ok (.iload_n 1, 1) := by decide +kernel
theorem dX8_at_5 : decode cX8_at 5 = .ok (.aload_n 0, 1) := by decide +kernel
theorem dX8_at_6 : decode cX8_at 6 = .ok (.getfield 13, 3) := by decide +kernel
theorem dX8_at_9 : decode cX8_at 9 = .ok (.if_icmp .ge 18, 3) := by decide +kernel
theorem dX8_at_12 : decode cX8_at 12 = .ok (.iload_n 1, 1) := by decide +kernel
theorem dX8_at_13 : decode cX8_at 13 = .ok (.bipush 96, 2) := by decide +kernel
theorem dX8_at_15 : decode cX8_at 15 = .ok (.if_icmp .ge 12, 3) := by decide +kernel
theorem dX8_at_18 : decode cX8_at 18 = .ok (.aload_n 0, 1) := by decide +kernel
theorem dX8_at_19 : decode cX8_at 19 = .ok (.getfield 9, 3) := by decide +kernel
theorem dX8_at_22 : decode cX8_at 22 = .ok (.iload_n 1, 1) := by decide +kernel
theorem dX8_at_23 : decode cX8_at 23 = .ok (.iaload, 1) := by decide +kernel
theorem dX8_at_24 : decode cX8_at 24 = .ok (.goto 4, 3) := by decide +kernel
theorem dX8_at_27 : decode cX8_at 27 = .ok (.iconst (-1), 1) := by decide +kernel
theorem dX8_at_28 : decode cX8_at 28 = .ok (.ireturn, 1) := by decide +kernel
theorem dX8_lengthBy_0 : decode cX8_lengthBy 0 = .ok (.iload_n 0, 1) := by decide +kernel
theorem dX8_lengthBy_1 : decode cX8_lengthBy 1 = .ok (.tableswitch 91 99 116 #[87, 87, 91, 91, 89, 91, 91, 91, 91, 89, 89, 91, 91, 91, 91, 91, 91, 87], 87) := by decide +kernel
theorem dX8_lengthBy_88 : decode cX8_lengthBy 88 = .ok (.iconst 4, 1) := by decide +kernel
theorem dX8_lengthBy_89 : decode cX8_lengthBy 89 = .ok (.ireturn, 1) := by decide +kernel
theorem dX8_lengthBy_90 : decode cX8_lengthBy 90 = .ok (.iconst 3, 1) := by decide +kernel
theorem dX8_lengthBy_91 : decode cX8_lengthBy 91 = .ok (.ireturn, 1) := by decide +kernel
theorem dX8_lengthBy_92 : decode cX8_lengthBy 92 = .ok (.iconst 0, 1) := by decide +kernel
theorem dX8_lengthBy_93 : decode cX8_lengthBy 93 = .ok (.ireturn, 1) := by decide +kernel
theorem dX8_faultOfForm_0 : decode cX8_faultOfForm 0 = .ok (.iconst 0, 1) := by decide +kernel
theorem dX8_faultOfForm_1 : decode cX8_faultOfForm 1 = .ok (.istore_n 1, 1) := by decide +kernel
theorem dX8_faultOfForm_2 : decode cX8_faultOfForm 2 = .ok (.iload_n 1, 1) := by decide +kernel
theorem dX8_faultOfForm_3 : decode cX8_faultOfForm 3 = .ok (.aload_n 0, 1) := by decide +kernel
theorem dX8_faultOfForm_4 : decode cX8_faultOfForm 4 = .ok (.getfield 13, 3) := by decide +kernel
theorem dX8_faultOfForm_7 : decode cX8_faultOfForm 7 = .ok (.if_icmp .ge 70, 3) := by decide +kernel
theorem dX8_faultOfForm_10 : decode cX8_faultOfForm 10 = .ok (.aload_n 0, 1) := by decide +kernel
theorem dX8_faultOfForm_11 : decode cX8_faultOfForm 11 = .ok (.iload_n 1, 1) := by decide +kernel
theorem dX8_faultOfForm_12 : decode cX8_faultOfForm 12 = .ok (.invokevirtual 21, 3) := by decide +kernel
theorem dX8_faultOfForm_15 : decode cX8_faultOfForm 15 = .ok (.invokestatic 25, 3) := by decide +kernel
theorem dX8_faultOfForm_18 : decode cX8_faultOfForm 18 = .ok (.istore_n 2, 1) := by decide +kernel
theorem dX8_faultOfForm_19 : decode cX8_faultOfForm 19 = .ok (.iload_n 2, 1) := by decide +kernel
theorem dX8_faultOfForm_20 : decode cX8_faultOfForm 20 = .ok (.ifCond .ne 9, 3) := by decide +kernel
theorem dX8_faultOfForm_23 : decode cX8_faultOfForm 23 = .ok (.sipush (-1000), 3) := by decide +kernel
theorem dX8_faultOfForm_26 : decode cX8_faultOfForm 26 = .ok (.iload_n 1, 1) := by decide +kernel
theorem dX8_faultOfForm_27 : decode cX8_faultOfForm 27 = .ok (.isub, 1) := by decide +kernel
theorem dX8_faultOfForm_28 : decode cX8_faultOfForm 28 = .ok (.ireturn, 1) := by decide +kernel
theorem dX8_faultOfForm_29 : decode cX8_faultOfForm 29 = .ok (.iconst 1, 1) := by decide +kernel
theorem dX8_faultOfForm_30 : decode cX8_faultOfForm 30 = .ok (.istore_n 3, 1) := by decide +kernel
theorem dX8_faultOfForm_31 : decode cX8_faultOfForm 31 = .ok (.iload_n 3, 1) := by decide +kernel
theorem dX8_faultOfForm_32 : decode cX8_faultOfForm 32 = .ok (.iload_n 2, 1) := by decide +kernel
theorem dX8_faultOfForm_33 : decode cX8_faultOfForm 33 = .ok (.if_icmp .ge 37, 3) := by decide +kernel
theorem dX8_faultOfForm_36 : decode cX8_faultOfForm 36 = .ok (.aload_n 0, 1) := by decide +kernel
theorem dX8_faultOfForm_37 : decode cX8_faultOfForm 37 = .ok (.iload_n 1, 1) := by decide +kernel
theorem dX8_faultOfForm_38 : decode cX8_faultOfForm 38 = .ok (.invokevirtual 21, 3) := by decide +kernel
theorem dX8_faultOfForm_41 : decode cX8_faultOfForm 41 = .ok (.iload_n 3, 1) := by decide +kernel
theorem dX8_faultOfForm_42 : decode cX8_faultOfForm 42 = .ok (.iload_n 2, 1) := by decide +kernel
theorem dX8_faultOfForm_43 : decode cX8_faultOfForm 43 = .ok (.aload_n 0, 1) := by decide +kernel
theorem dX8_faultOfForm_44 : decode cX8_faultOfForm 44 = .ok (.iload_n 1, 1) := by decide +kernel
theorem dX8_faultOfForm_45 : decode cX8_faultOfForm 45 = .ok (.iload_n 3, 1) := by decide +kernel
theorem dX8_faultOfForm_46 : decode cX8_faultOfForm 46 = .ok (.iadd, 1) := by decide +kernel
theorem dX8_faultOfForm_47 : decode cX8_faultOfForm 47 = .ok (.invokevirtual 21, 3) := by decide +kernel
theorem dX8_faultOfForm_50 : decode cX8_faultOfForm 50 = .ok (.invokestatic 28, 3) := by decide +kernel
theorem dX8_faultOfForm_53 : decode cX8_faultOfForm 53 = .ok (.ifCond .ne 11, 3) := by decide +kernel
theorem dX8_faultOfForm_56 : decode cX8_faultOfForm 56 = .ok (.sipush (-1000), 3) := by decide +kernel
theorem dX8_faultOfForm_59 : decode cX8_faultOfForm 59 = .ok (.iload_n 1, 1) := by decide +kernel
theorem dX8_faultOfForm_60 : decode cX8_faultOfForm 60 = .ok (.iload_n 3, 1) := by decide +kernel
theorem dX8_faultOfForm_61 : decode cX8_faultOfForm 61 = .ok (.iadd, 1) := by decide +kernel
theorem dX8_faultOfForm_62 : decode cX8_faultOfForm 62 = .ok (.isub, 1) := by decide +kernel
theorem dX8_faultOfForm_63 : decode cX8_faultOfForm 63 = .ok (.ireturn, 1) := by decide +kernel
theorem dX8_faultOfForm_64 : decode cX8_faultOfForm 64 = .ok (.iinc 3 1, 3) := by decide +kernel
theorem dX8_faultOfForm_67 : decode cX8_faultOfForm 67 = .ok (.goto (-36), 3) := by decide +kernel
theorem dX8_faultOfForm_70 : decode cX8_faultOfForm 70 = .ok (.iload_n 1, 1) := by decide +kernel
theorem dX8_faultOfForm_71 : decode cX8_faultOfForm 71 = .ok (.iload_n 2, 1) := by decide +kernel
theorem dX8_faultOfForm_72 : decode cX8_faultOfForm 72 = .ok (.iadd, 1) := by decide +kernel
theorem dX8_faultOfForm_73 : decode cX8_faultOfForm 73 = .ok (.istore_n 1, 1) := by decide +kernel
theorem dX8_faultOfForm_74 : decode cX8_faultOfForm 74 = .ok (.goto (-72), 3) := by decide +kernel
theorem dX8_faultOfForm_77 : decode cX8_faultOfForm 77 = .ok (.aload_n 0, 1) := by decide +kernel
theorem dX8_faultOfForm_78 : decode cX8_faultOfForm 78 = .ok (.getfield 13, 3) := by decide +kernel
