theorem dX10_comesDays_23 : decode cX10_comesDays 23 = .ok (.ireturn, 1) := by decide +kernel
theorem dX10_comesDays_24 : decode cX10_comesDays 24 = .ok (.aload_n 0, 1) := by decide +kernel
theorem dX10_comesDays_25 : decode cX10_comesDays 25 = .ok (.iload_n 1, 1) := by decide +kernel
theorem dX10_comesDays_26 : decode cX10_comesDays 26 = .ok (.invokevirtual 106, 3) := by decide +kernel
theorem dX10_comesDays_29 : decode cX10_comesDays 29 = .ok (.iconst 1, 1) := by decide +kernel
theorem dX10_comesDays_30 : decode cX10_comesDays 30 = .ok (.ireturn, 1) := by decide +kernel
theorem dX10_comes_0 : decode cX10_comes 0 = .ok (.iconst 2, 1) := by decide +kernel
theorem dX10_comes_1 : decode cX10_comes 1 = .ok (.iload_n 1, 1) := by decide +kernel
theorem dX10_comes_2 : decode cX10_comes 2 = .ok (.imul, 1) := by decide +kernel
theorem dX10_comes_3 : decode cX10_comes 3 = .ok (.istore_n 2, 1) := by decide +kernel
theorem dX10_comes_4 : decode cX10_comes 4 = .ok (.aload_n 0, 1) := by decide +kernel
theorem dX10_comes_5 : decode cX10_comes 5 = .ok (.getfield 25, 3) := by decide +kernel
theorem dX10_comes_8 : decode cX10_comes 8 = .ok (.iload_n 1, 1) := by decide +kernel
theorem dX10_comes_9 : decode cX10_comes 9 = .ok (.iaload, 1) := by decide +kernel
theorem dX10_comes_10 : decode cX10_comes 10 = .ok (.lookupswitch 83 #[(99, 53), (100, 72), (116, 34)], 34) := by decide +kernel
theorem dX10_comes_44 : decode cX10_comes 44 = .ok (.aload_n 0, 1) := by decide +kernel
theorem dX10_comes_45 : decode cX10_comes 45 = .ok (.aload_n 0, 1) := by decide +kernel
theorem dX10_comes_46 : decode cX10_comes 46 = .ok (.getfield 31, 3) := by decide +kernel
theorem dX10_comes_49 : decode cX10_comes 49 = .ok (.iload_n 2, 1) := by decide +kernel
theorem dX10_comes_50 : decode cX10_comes 50 = .ok (.iaload, 1) := by decide +kernel
theorem dX10_comes_51 : decode cX10_comes 51 = .ok (.aload_n 0, 1) := by decide +kernel
theorem dX10_comes_52 : decode cX10_comes 52 = .ok (.getfield 31, 3) := by decide +kernel
theorem dX10_comes_55 : decode cX10_comes 55 = .ok (.iload_n 2, 1) := by decide +kernel
theorem dX10_comes_56 : decode cX10_comes 56 = .ok (.iconst 1, 1) := by decide +kernel
theorem dX10_comes_57 : decode cX10_comes 57 = .ok (.iadd, 1) := by decide +kernel
theorem dX10_comes_58 : decode cX10_comes 58 = .ok (.iaload, 1) := by decide +kernel
theorem dX10_comes_59 : decode cX10_comes 59 = .ok (.invokevirtual 110, 3) := by decide +kernel
theorem dX10_comes_62 : decode cX10_comes 62 = .ok (.ireturn, 1) := by decide +kernel
theorem dX10_comes_63 : decode cX10_comes 63 = .ok (.aload_n 0, 1) := by decide +kernel
theorem dX10_comes_64 : decode cX10_comes 64 = .ok (.aload_n 0, 1) := by decide +kernel
theorem dX10_comes_65 : decode cX10_comes 65 = .ok (.getfield 31, 3) := by decide +kernel
theorem dX10_comes_68 : decode cX10_comes 68 = .ok (.iload_n 2, 1) := by decide +kernel
theorem dX10_comes_69 : decode cX10_comes 69 = .ok (.iaload, 1) := by decide +kernel
theorem dX10_comes_70 : decode cX10_comes 70 = .ok (.aload_n 0, 1) := by decide +kernel
theorem dX10_comes_71 : decode cX10_comes 71 = .ok (.getfield 31, 3) := by decide +kernel
theorem dX10_comes_74 : decode cX10_comes 74 = .ok (.iload_n 2, 1) := by decide +kernel
theorem dX10_comes_75 : decode cX10_comes 75 = .ok (.iconst 1, 1) := by decide +kernel
theorem dX10_comes_76 : decode cX10_comes 76 = .ok (.iadd, 1) := by decide +kernel
theorem dX10_comes_77 : decode cX10_comes 77 = .ok (.iaload, 1) := by decide +kernel
theorem dX10_comes_78 : decode cX10_comes 78 = .ok (.invokevirtual 113, 3) := by decide +kernel
theorem dX10_comes_81 : decode cX10_comes 81 = .ok (.ireturn, 1) := by decide +kernel
theorem dX10_comes_82 : decode cX10_comes 82 = .ok (.aload_n 0, 1) := by decide +kernel
theorem dX10_comes_83 : decode cX10_comes 83 = .ok (.aload_n 0, 1) := by decide +kernel
theorem dX10_comes_84 : decode cX10_comes 84 = .ok (.getfield 31, 3) := by decide +kernel
theorem dX10_comes_87 : decode cX10_comes 87 = .ok (.iload_n 2, 1) := by decide +kernel
theorem dX10_comes_88 : decode cX10_comes 88 = .ok (.iaload, 1) := by decide +kernel
theorem dX10_comes_89 : decode cX10_comes 89 = .ok (.invokevirtual 116, 3) := by decide +kernel
theorem dX10_comes_92 : decode cX10_comes 92 = .ok (.ireturn, 1) := by decide +kernel
theorem dX10_comes_93 : decode cX10_comes 93 = .ok (.aload_n 0, 1) := by decide +kernel
theorem dX10_comes_94 : decode cX10_comes 94 = .ok (.aload_n 0, 1) := by decide +kernel
theorem dX10_comes_95 : decode cX10_comes 95 = .ok (.getfield 25, 3) := by decide +kernel
theorem dX10_comes_98 : decode cX10_comes 98 = .ok (.iload_n 1, 1) := by decide +kernel
theorem dX10_comes_99 : decode cX10_comes 99 = .ok (.iaload, 1) := by decide +kernel
theorem dX10_comes_100 : decode cX10_comes 100 = .ok (.aload_n 0, 1) := by decide +kernel
theorem dX10_comes_101 : decode cX10_comes 101 = .ok (.getfield 31, 3) := by decide +kernel
theorem dX10_comes_104 : decode cX10_comes 104 = .ok (.iload_n 2, 1) := by decide +kernel
theorem dX10_comes_105 : decode cX10_comes 105 = .ok (.iaload, 1) := by decide +kernel
theorem dX10_comes_106 : decode cX10_comes 106 = .ok (.invokevirtual 119, 3) := by decide +kernel
theorem dX10_comes_109 : decode cX10_comes 109 = .ok (.ireturn, 1) := by decide +kernel
theorem dX10_state_0 : decode cX10_state 0 = .ok (.aload_n 0, 1) := by decide +kernel
theorem dX10_state_1 : decode cX10_state 1 = .ok (.iconst 0, 1) := by decide +kernel
theorem dX10_state_2 : decode cX10_state 2 = .ok (.putfield 67, 3) := by decide +kernel
theorem dX10_state_5 : decode cX10_state 5 = .ok (.aload_n 0, 1) := by decide +kernel
theorem dX10_state_6 : decode cX10_state 6 = .ok (.iconst 0, 1) := by decide +kernel
theorem dX10_state_7 : decode cX10_state 7 = .ok (.putfield 88, 3) := by decide +kernel
theorem dX10_state_10 : decode cX10_state 10 = .ok (.iconst 1, 1) := by decide +kernel
theorem dX10_state_11 : decode cX10_state 11 = .ok (.istore_n 1, 1) := by decide +kernel
theorem dX10_state_12 : decode cX10_state 12 = .ok (.iload_n 1, 1) := by decide +kernel
theorem dX10_state_13 : decode cX10_state 13 = .ok (.ifCond .eq 47, 3) := by decide +kernel
theorem dX10_state_16 : decode cX10_state 16 = .ok (.aload_n 0, 1) := by decide +kernel
theorem dX10_state_17 : decode cX10_state 17 = .ok (.getfield 67, 3) := by decide +kernel
theorem dX10_state_20 : decode cX10_state 20 = .ok (.aload_n 0, 1) := by decide +kernel
theorem dX10_state_21 : decode cX10_state 21 = .ok (.getfield 60, 3) := by decide +kernel
theorem dX10_state_24 : decode cX10_state 24 = .ok (.if_icmp .lt 10, 3) := by decide +kernel
theorem dX10_state_27 : decode cX10_state 27 = .ok (.aload_n 0, 1) := by decide +kernel
theorem dX10_state_28 : decode cX10_state 28 = .ok (.getfield 88, 3) := by decide +kernel
theorem dX10_state_31 : decode cX10_state 31 = .ok (.ifCond .ne 29, 3) := by decide +kernel
theorem dX10_state_34 : decode cX10_state 34 = .ok (.aload_n 0, 1) := by decide +kernel
theorem dX10_state_35 : decode cX10_state 35 = .ok (.invokevirtual 122, 3) := by decide +kernel
theorem dX10_state_38 : decode cX10_state 38 = .ok (.istore_n 1, 1) := by decide +kernel
theorem dX10_state_39 : decode cX10_state 39 = .ok (.aload_n 0, 1) := by decide +kernel
theorem dX10_state_40 : decode cX10_state 40 = .ok (.dup, 1) := by decide +kernel
theorem dX10_state_41 : decode cX10_state 41 = .ok (.getfield 88, 3) := by decide +kernel
theorem dX10_state_44 : decode cX10_state 44 = .ok (.iload_n 1, 1) := by decide +kernel
theorem dX10_state_45 : decode cX10_state 45 = .ok (.ifCond .eq 7, 3) := by decide +kernel
theorem dX10_state_48 : decode cX10_state 48 = .ok (.iconst 1, 1) := by decide +kernel
theorem dX10_state_49 : decode cX10_state 49 = .ok (.goto 4, 3) := by decide +kernel
theorem dX10_state_52 : decode cX10_state 52 = .ok (.iconst 0, 1) := by decide +kernel
theorem dX10_state_53 : decode cX10_state 53 = .ok (.iadd, 1) := by decide +kernel
theorem dX10_state_54 : decode cX10_state 54 = .ok (.putfield 88, 3) := by decide +kernel
theorem dX10_state_57 : decode cX10_state 57 = .ok (.goto (-45), 3) := by decide +kernel
theorem dX10_state_60 : decode cX10_state 60 = .ok (.aload_n 0, 1) := by decide +kernel
theorem dX10_state_61 : decode cX10_state 61 = .ok (.iconst 0, 1) := by decide +kernel
theorem dX10_state_62 : decode cX10_state 62 = .ok (.putfield 60, 3) := by decide +kernel
theorem dX10_state_65 : decode cX10_state 65 = .ok (.iload_n 1, 1) := by decide +kernel
theorem dX10_state_66 : decode cX10_state 66 = .ok (.ifCond .ne 12, 3) := by decide +kernel
theorem dX10_state_69 : decode cX10_state 69 = .ok (.sipush (-1000), 3) := by decide +kernel
theorem dX10_state_72 : decode cX10_state 72 = .ok (.aload_n 0, 1) := by decide +kernel
theorem dX10_state_73 : decode cX10_state 73 = .ok (.getfield 67, 3) := by decide +kernel
theorem dX10_state_76 : decode cX10_state 76 = .ok (.isub, 1) := by decide +kernel
theorem dX10_state_77 : decode cX10_state 77 = .ok (.ireturn, 1) := by decide +kernel
theorem dX10_state_78 : decode cX10_state 78 = .ok (.aload_n 0, 1) := by decide +kernel
theorem dX10_state_79 : decode cX10_state 79 = .ok (.iconst 1, 1) := by decide +kernel
theorem dX10_state_80 : decode cX10_state 80 = .ok (.iconst 1, 1) := by decide +kernel
theorem dX10_state_81 : decode cX10_state 81 = .ok (.invokevirtual 126, 3) := by decide +kernel
theorem dX10_state_84 : decode cX10_state 84 = .ok (.iconst 0, 1) := by decide +kernel
theorem dX10_state_85 : decode cX10_state 85 = .ok (.istore_n 2, 1) := by decide +kernel
theorem dX10_state_86 : decode cX10_state 86 = .ok (.iload_n 2, 1) := by decide +kernel
theorem dX10_state_87 : decode cX10_state 87 = .ok (.aload_n 0, 1) := by decide +kernel
theorem dX10_state_88 : decode cX10_state 88 = .ok (.getfield 88, 3) := by decide +kernel
theorem dX10_state_91 : decode cX10_state 91 = .ok (.if_icmp .ge 37, 3) := by decide +kernel
theorem dX10_state_94 : decode cX10_state 94 = .ok (.aload_n 0, 1) := by decide +kernel
theorem dX10_state_95 : decode cX10_state 95 = .ok (.iload_n 2, 1) := by decide +kernel
theorem dX10_state_96 : decode cX10_state 96 = .ok (.invokevirtual 130, 3) := by decide +kernel
theorem dX10_state_99 : decode cX10_state 99 = .ok (.ifCond .eq 6, 3) := by decide +kernel
theorem dX10_state_102 : decode cX10_state 102 = .ok (.goto 20, 3) := by decide +kernel
theorem dX10_state_105 : decode cX10_state 105 = .ok (.aload_n 0, 1) := by decide +kernel
theorem dX10_state_106 : decode cX10_state 106 = .ok (.iconst 1, 1) := by decide +kernel
theorem dX10_state_107 : decode cX10_state 107 = .ok (.iconst 0, 1) := by decide +kernel
theorem dX10_state_108 : decode cX10_state 108 = .ok (.invokevirtual 126, 3) := by decide +kernel
theorem dX10_state_111 : decode cX10_state 111 = .ok (.sipush (-2000), 3) := by decide +kernel
theorem dX10_state_114 : decode cX10_state 114 = .ok (.aload_n 0, 1) := by decide +kernel
theorem dX10_state_115 : decode cX10_state 115 = .ok (.getfield 28, 3) := by decide +kernel
theorem dX10_state_118 : decode cX10_state 118 = .ok (.iload_n 2, 1) := by decide +kernel
theorem dX10_state_119 : decode cX10_state 119 = .ok (.iaload, 1) := by decide +kernel
theorem dX10_state_120 : decode cX10_state 120 = .ok (.isub, 1) := by decide +kernel
theorem dX10_state_121 : decode cX10_state 121 = .ok (.ireturn, 1) := by decide +kernel
theorem dX10_state_122 : decode cX10_state 122 = .ok (.iinc 2 1, 3) := by decide +kernel
theorem dX10_state_125 : decode cX10_state 125 = .ok (.goto (-39), 3) := by decide +kernel
theorem dX10_state_128 : decode cX10_state 128 = .ok (.aload_n 0, 1) := by decide +kernel
theorem dX10_state_129 : decode cX10_state 129 = .ok (.getfield 88, 3) := by decide +kernel
theorem dX10_state_132 : decode cX10_state 132 = .ok (.ireturn, 1) := by decide +kernel
theorem dX10_passes_0 : decode cX10_passes 0 = .ok (.iconst 0, 1) := by decide +kernel
theorem dX10_passes_1 : decode cX10_passes 1 = .ok (.istore_n 2, 1) := by decide +kernel
theorem dX10_passes_2 : decode cX10_passes 2 = .ok (.iload_n 2, 1) := by decide +kernel
theorem dX10_passes_3 : decode cX10_passes 3 = .ok (.aload_n 1, 1) := by decide +kernel
theorem dX10_passes_4 : decode cX10_passes 4 = .ok (.arraylength, 1) := by decide +kernel
theorem dX10_passes_5 : decode cX10_passes 5 = .ok (.if_icmp .ge 53, 3) := by decide +kernel
theorem dX10_passes_8 : decode cX10_passes 8 = .ok (.aload_n 0, 1) := by decide +kernel
theorem dX10_passes_9 : decode cX10_passes 9 = .ok (.getfield 133, 3) := by decide +kernel
theorem dX10_passes_12 : decode cX10_passes 12 = .ok (.ifCond .eq 18, 3) := by decide +kernel
theorem dX10_passes_15 : decode cX10_passes 15 = .ok (.aload_n 0, 1) := by decide +kernel
theorem dX10_passes_16 : decode cX10_passes 16 = .ok (.getfield 34, 3) := by decide +kernel
theorem dX10_passes_19 : decode cX10_passes 19 = .ok (.aload_n 0, 1) := by decide +kernel
theorem dX10_passes_20 : decode cX10_passes 20 = .ok (.getfield 137, 3) := by decide +kernel
theorem dX10_passes_23 : decode cX10_passes 23 = .ok (.aload_n 1, 1) := by decide +kernel
theorem dX10_passes_24 : decode cX10_passes 24 = .ok (.iload_n 2, 1) := by decide +kernel
theorem dX10_passes_25 : decode cX10_passes 25 = .ok (.iaload, 1) := by decide +kernel
theorem dX10_passes_26 : decode cX10_passes 26 = .ok (.iastore, 1) := by decide +kernel
theorem dX10_passes_27 : decode cX10_passes 27 = .ok (.goto 15, 3) := by decide +kernel
theorem dX10_passes_30 : decode cX10_passes 30 = .ok (.aload_n 1, 1) := by decide +kernel
theorem dX10_passes_31 : decode cX10_passes 31 = .ok (.iload_n 2, 1) := by decide +kernel
theorem dX10_passes_32 : decode cX10_passes 32 = .ok (.aload_n 0, 1) := by decide +kernel
theorem dX10_passes_33 : decode cX10_passes 33 = .ok (.getfield 34, 3) := by decide +kernel
theorem dX10_passes_36 : decode cX10_passes 36 = .ok (.aload_n 0, 1) := by decide +kernel
theorem dX10_passes_37 : decode cX10_passes 37 = .ok (.getfield 137, 3) := by decide +kernel
theorem dX10_passes_40 : decode cX10_passes 40 = .ok (.iaload, 1) := by decide +kernel
theorem dX10_passes_41 : decode cX10_passes 41 = .ok (.iastore, 1) := by decide +kernel
theorem dX10_passes_42 : decode cX10_passes 42 = .ok (.aload_n 0, 1) := by decide +kernel
theorem dX10_passes_43 : decode cX10_passes 43 = .ok (.dup, 1) := by decide +kernel
theorem dX10_passes_44 : decode cX10_passes 44 = .ok (.getfield 137, 3) := by decide +kernel
theorem dX10_passes_47 : decode cX10_passes 47 = .ok (.iconst 1, 1) := by decide +kernel
theorem dX10_passes_48 : decode cX10_passes 48 = .ok (.iadd, 1) := by decide +kernel
theorem dX10_passes_49 : decode cX10_passes 49 = .ok (.putfield 137, 3) := by decide +kernel
theorem dX10_passes_52 : decode cX10_passes 52 = .ok (.iinc 2 1, 3) := by decide +kernel
theorem dX10_passes_55 : decode cX10_passes 55 = .ok (.goto (-53), 3) := by decide +kernel
theorem dX10_passes_58 : decode cX10_passes 58 = .ok (.return_, 1) := by decide +kernel
theorem dX10_passOne_0 : decode cX10_passOne 0 = .ok (.aload_n 0, 1) := by decide +kernel
theorem dX10_passOne_1 : decode cX10_passOne 1 = .ok (.getfield 133, 3) := by decide +kernel
theorem dX10_passOne_4 : decode cX10_passOne 4 = .ok (.ifCond .eq 7, 3) := by decide +kernel
theorem dX10_passOne_7 : decode cX10_passOne 7 = .ok (.iload_n 1, 1) := by decide +kernel
theorem dX10_passOne_8 : decode cX10_passOne 8 = .ok (.goto 12, 3) := by decide +kernel
theorem dX10_passOne_11 : decode cX10_passOne 11 = .ok (.aload_n 0, 1) := by decide +kernel
theorem dX10_passOne_12 : decode cX10_passOne 12 = .ok (.getfield 34, 3) := by decide +kernel
theorem dX10_passOne_15 : decode cX10_passOne 15 = .ok (.aload_n 0, 1) := by decide +kernel
theorem dX10_passOne_16 : decode cX10_passOne 16 = .ok (.getfield 137, 3) := by decide +kernel
theorem dX10_passOne_19 : decode cX10_passOne 19 = .ok (.iaload, 1) := by decide +kernel
theorem dX10_passOne_20 : decode cX10_passOne 20 = .ok (.istore_n 2, 1) := by decide +kernel
theorem dX10_passOne_21 : decode cX10_passOne 21 = .ok (.aload_n 0, 1) := by decide +kernel
theorem dX10_passOne_22 : decode cX10_passOne 22 = .ok (.getfield 133, 3) := by decide +kernel
theorem dX10_passOne_25 : decode cX10_passOne 25 = .ok (.ifCond .eq 13, 3) := by decide +kernel
theorem dX10_passOne_28 : decode cX10_passOne 28 = .ok (.aload_n 0, 1) := by decide +kernel
theorem dX10_passOne_29 : decode cX10_passOne 29 = .ok (.getfield 34, 3) := by decide +kernel
theorem dX10_passOne_32 : decode cX10_passOne 32 = .ok (.aload_n 0, 1) := by decide +kernel
theorem dX10_passOne_33 : decode cX10_passOne 33 = .ok (.getfield 137, 3) := by decide +kernel
theorem dX10_passOne_36 : decode cX10_passOne 36 = .ok (.iload_n 1, 1) := by decide +kernel
theorem dX10_passOne_37 : decode cX10_passOne 37 = .ok (.iastore, 1) := by decide +kernel
theorem dX10_passOne_38 : decode cX10_passOne 38 = .ok (.aload_n 0, 1) := by decide +kernel
theorem dX10_passOne_39 : decode cX10_passOne 39 = .ok (.dup, 1) := by decide +kernel
theorem dX10_passOne_40 : decode cX10_passOne 40 = .ok (.getfield 137, 3) := by decide +kernel
theorem dX10_passOne_43 : decode cX10_passOne 43 = .ok (.iconst 1, 1) := by decide +kernel
theorem dX10_passOne_44 : decode cX10_passOne 44 = .ok (.iadd, 1) := by decide +kernel
theorem dX10_passOne_45 : decode cX10_passOne 45 = .ok (.putfield 137, 3) := by decide +kernel
theorem dX10_passOne_48 : decode cX10_passOne 48 = .ok (.iload_n 2, 1) := by decide +kernel
theorem dX10_passOne_49 : decode cX10_passOne 49 = .ok (.ireturn, 1) := by decide +kernel
theorem dX10_passesAll_0 : decode cX10_passesAll 0 = .ok (.aload_n 0, 1) := by decide +kernel
theorem dX10_passesAll_1 : decode cX10_passesAll 1 = .ok (.bipush 31, 2) := by decide +kernel
theorem dX10_passesAll_3 : decode cX10_passesAll 3 = .ok (.iload_n 1, 1) := by decide +kernel
theorem dX10_passesAll_4 : decode cX10_passesAll 4 = .ok (.imul, 1) := by decide +kernel
theorem dX10_passesAll_5 : decode cX10_passesAll 5 = .ok (.putfield 137, 3) := by decide +kernel
theorem dX10_passesAll_8 : decode cX10_passesAll 8 = .ok (.aload_n 0, 1) := by decide +kernel
theorem dX10_passesAll_9 : decode cX10_passesAll 9 = .ok (.iload_n 2, 1) := by decide +kernel
theorem dX10_passesAll_10 : decode cX10_passesAll 10 = .ok (.putfield 133, 3) := by decide +kernel
theorem dX10_passesAll_13 : decode cX10_passesAll 13 = .ok (.aload_n 0, 1) := by decide +kernel
theorem dX10_passesAll_14 : decode cX10_passesAll 14 = .ok (.aload_n 0, 1) := by decide +kernel
theorem dX10_passesAll_15 : decode cX10_passesAll 15 = .ok (.getfield 13, 3) := by decide +kernel
theorem dX10_passesAll_18 : decode cX10_passesAll 18 = .ok (.invokevirtual 140, 3) := by decide +kernel
theorem dX10_passesAll_21 : decode cX10_passesAll 21 = .ok (.aload_n 0, 1) := by decide +kernel
theorem dX10_passesAll_22 : decode cX10_passesAll 22 = .ok (.aload_n 0, 1) := by decide +kernel
theorem dX10_passesAll_23 : decode cX10_passesAll 23 = .ok (.getfield 16, 3) := by decide +kernel
theorem dX10_passesAll_26 : decode cX10_passesAll 26 = .ok (.invokevirtual 140, 3) := by decide +kernel
theorem dX10_passesAll_29 : decode cX10_passesAll 29 = .ok (.aload_n 0, 1) := by decide +kernel
theorem dX10_passesAll_30 : decode cX10_passesAll 30 = .ok (.aload_n 0, 1) := by decide +kernel
theorem dX10_passesAll_31 : decode cX10_passesAll 31 = .ok (.getfield 19, 3) := by decide +kernel
theorem dX10_passesAll_34 : decode cX10_passesAll 34 = .ok (.invokevirtual 140, 3) := by decide +kernel
theorem dX10_passesAll_37 : decode cX10_passesAll 37 = .ok (.aload_n 0, 1) := by decide +kernel
theorem dX10_passesAll_38 : decode cX10_passesAll 38 = .ok (.aload_n 0, 1) := by decide +kernel
theorem dX10_passesAll_39 : decode cX10_passesAll 39 = .ok (.aload_n 0, 1) := by decide +kernel
theorem dX10_passesAll_40 : decode cX10_passesAll 40 = .ok (.getfield 46, 3) := by decide +kernel
theorem dX10_passesAll_43 : decode cX10_passesAll 43 = .ok (.invokevirtual 144, 3) := by decide +kernel
theorem dX10_passesAll_46 : decode cX10_passesAll 46 = .ok (.putfield 46, 3) := by decide +kernel
theorem dX10_passesAll_49 : decode cX10_passesAll 49 = .ok (.aload_n 0, 1) := by decide +kernel
theorem dX10_passesAll_50 : decode cX10_passesAll 50 = .ok (.aload_n 0, 1) := by decide +kernel
theorem dX10_passesAll_51 : decode cX10_passesAll 51 = .ok (.aload_n 0, 1) := by decide +kernel
theorem dX10_passesAll_52 : decode cX10_passesAll 52 = .ok (.getfield 103, 3) := by decide +kernel
theorem dX10_passesAll_55 : decode cX10_passesAll 55 = .ok (.invokevirtual 144, 3) := by decide +kernel
theorem dX10_passesAll_58 : decode cX10_passesAll 58 = .ok (.putfield 103, 3) := by decide +kernel
theorem dX10_passesAll_61 : decode cX10_passesAll 61 = .ok (.aload_n 0, 1) := by decide +kernel
theorem dX10_passesAll_62 : decode cX10_passesAll 62 = .ok (.aload_n 0, 1) := by decide +kernel
theorem dX10_passesAll_63 : decode cX10_passesAll 63 = .ok (.aload_n 0, 1) := by decide +kernel
theorem dX10_passesAll_64 : decode cX10_passesAll 64 = .ok (.getfield 94, 3) := by decide +kernel
theorem dX10_passesAll_67 : decode cX10_passesAll 67 = .ok (.invokevirtual 144, 3) := by decide +kernel
theorem dX10_passesAll_70 : decode cX10_passesAll 70 = .ok (.putfield 94, 3) := by decide +kernel
theorem dX10_passesAll_73 : decode cX10_passesAll 73 = .ok (.aload_n 0, 1) := by decide +kernel
theorem dX10_passesAll_74 : decode cX10_passesAll 74 = .ok (.aload_n 0, 1) := by decide +kernel
theorem dX10_passesAll_75 : decode cX10_passesAll 75 = .ok (.aload_n 0, 1) := by decide +kernel
theorem dX10_passesAll_76 : decode cX10_passesAll 76 = .ok (.getfield 97, 3) := by decide +kernel
theorem dX10_passesAll_79 : decode cX10_passesAll 79 = .ok (.invokevirtual 144, 3) := by decide +kernel
theorem dX10_passesAll_82 : decode cX10_passesAll 82 = .ok (.putfield 97, 3) := by decide +kernel
theorem dX10_passesAll_85 : decode cX10_passesAll 85 = .ok (.return_, 1) := by decide +kernel
theorem dX10_thinks_0 : decode cX10_thinks 0 = .ok (.aload_n 0, 1) := by decide +kernel
theorem dX10_thinks_1 : decode cX10_thinks 1 = .ok (.iconst 2, 1) := by decide +kernel
theorem dX10_thinks_2 : decode cX10_thinks 2 = .ok (.iconst 1, 1) := by decide +kernel
theorem dX10_thinks_3 : decode cX10_thinks 3 = .ok (.invokevirtual 126, 3) := by decide +kernel
theorem dX10_thinks_6 : decode cX10_thinks 6 = .ok (.return_, 1) := by decide +kernel
theorem dX10_forgets_0 : decode cX10_forgets 0 = .ok (.aload_n 0, 1) := by decide +kernel
theorem dX10_forgets_1 : decode cX10_forgets 1 = .ok (.iconst 2, 1) := by decide +kernel
theorem dX10_forgets_2 : decode cX10_forgets 2 = .ok (.iconst 0, 1) := by decide +kernel
theorem dX10_forgets_3 : decode cX10_forgets 3 = .ok (.invokevirtual 126, 3) := by decide +kernel
theorem dX10_forgets_6 : decode cX10_forgets 6 = .ok (.return_, 1) := by decide +kernel
theorem dX10_image_0 : decode cX10_image 0 = .ok (.aload_n 0, 1) := by decide +kernel
theorem dX10_image_1 : decode cX10_image 1 = .ok (.iconst 1, 1) := by decide +kernel
theorem dX10_image_2 : decode cX10_image 2 = .ok (.putfield 147, 3) := by decide +kernel
theorem dX10_image_5 : decode cX10_image 5 = .ok (.aload_n 0, 1) := by decide +kernel
theorem dX10_image_6 : decode cX10_image 6 = .ok (.iconst 0, 1) := by decide +kernel
theorem dX10_image_7 : decode cX10_image 7 = .ok (.iconst 1, 1) := by decide +kernel
theorem dX10_image_8 : decode cX10_image 8 = .ok (.invokevirtual 126, 3) := by decide +kernel
theorem dX10_image_11 : decode cX10_image 11 = .ok (.aload_n 0, 1) := by decide +kernel
theorem dX10_image_12 : decode cX10_image 12 = .ok (.getfield 103, 3) := by decide +kernel
theorem dX10_image_15 : decode cX10_image 15 = .ok (.ireturn, 1) := by decide +kernel
theorem dX10_on_0 : decode cX10_on 0 = .ok (.aload_n 0, 1) := by decide +kernel
theorem dX10_on_1 : decode cX10_on 1 = .ok (.getfield 147, 3) := by decide +kernel
theorem dX10_on_4 : decode cX10_on 4 = .ok (.ifCond .ne 10, 3) := by decide +kernel
theorem dX10_on_7 : decode cX10_on 7 = .ok (.aload_n 0, 1) := by decide +kernel
theorem dX10_on_8 : decode cX10_on 8 = .ok (.bipush (-3), 2) := by decide +kernel
theorem dX10_on_10 : decode cX10_on 10 = .ok (.invokevirtual 63, 3) := by decide +kernel
theorem dX10_on_13 : decode cX10_on 13 = .ok (.ireturn, 1) := by decide +kernel
theorem dX10_on_14 : decode cX10_on 14 = .ok (.aload_n 0, 1) := by decide +kernel
theorem dX10_on_15 : decode cX10_on 15 = .ok (.iconst 0, 1) := by decide +kernel
theorem dX10_on_16 : decode cX10_on 16 = .ok (.iconst 0, 1) := by decide +kernel
theorem dX10_on_17 : decode cX10_on 17 = .ok (.invokevirtual 126, 3) := by decide +kernel
theorem dX10_on_20 : decode cX10_on 20 = .ok (.aload_n 0, 1) := by decide +kernel
theorem dX10_on_21 : decode cX10_on 21 = .ok (.getfield 103, 3) := by decide +kernel
theorem dX10_on_24 : decode cX10_on 24 = .ok (.ireturn, 1) := by decide +kernel
theorem dX10_needs_0 : decode cX10_needs 0 = .ok (.aload_n 0, 1) := by decide +kernel
theorem dX10_needs_1 : decode cX10_needs 1 = .ok (.getfield 19, 3) := by decide +kernel
theorem dX10_needs_4 : decode cX10_needs 4 = .ok (.iload_n 1, 1) := by decide +kernel
theorem dX10_needs_5 : decode cX10_needs 5 = .ok (.iaload, 1) := by decide +kernel
theorem dX10_needs_6 : decode cX10_needs 6 = .ok (.invokestatic 150, 3) := by decide +kernel
theorem dX10_needs_9 : decode cX10_needs 9 = .ok (.istore_n 2, 1) := by decide +kernel
theorem dX10_needs_10 : decode cX10_needs 10 = .ok (.iload_n 2, 1) := by decide +kernel
theorem dX10_needs_11 : decode cX10_needs 11 = .ok (.ifCond .ne 7, 3) := by decide +kernel
theorem dX10_needs_14 : decode cX10_needs 14 = .ok (.sipush 1000, 3) := by decide +kernel
theorem dX10_needs_17 : decode cX10_needs 17 = .ok (.ireturn, 1) := by decide +kernel
theorem dX10_needs_18 : decode cX10_needs 18 = .ok (.aload_n 0, 1) := by decide +kernel
theorem dX10_needs_19 : decode cX10_needs 19 = .ok (.getfield 13, 3) := by decide +kernel
theorem dX10_needs_22 : decode cX10_needs 22 = .ok (.iload_n 1, 1) := by decide +kernel
theorem dX10_needs_23 : decode cX10_needs 23 = .ok (.iaload, 1) := by decide +kernel
theorem dX10_needs_24 : decode cX10_needs 24 = .ok (.tableswitch 81 1 5 #[36, 38, 49, 51, 75], 36) := by decide +kernel
theorem dX10_needs_60 : decode cX10_needs 60 = .ok (.iconst 1, 1) := by decide +kernel
theorem dX10_needs_61 : decode cX10_needs 61 = .ok (.ireturn, 1) := by decide +kernel
theorem dX10_needs_62 : decode cX10_needs 62 = .ok (.iload_n 2, 1) := by decide +kernel
theorem dX10_needs_63 : decode cX10_needs 63 = .ok (.iconst 1, 1) := by decide +kernel
theorem dX10_needs_64 : decode cX10_needs 64 = .ok (.if_icmp .le 7, 3) := by decide +kernel
theorem dX10_needs_67 : decode cX10_needs 67 = .ok (.iconst 2, 1) := by decide +kernel
theorem dX10_needs_68 : decode cX10_needs 68 = .ok (.goto 4, 3) := by decide +kernel
theorem dX10_needs_71 : decode cX10_needs 71 = .ok (.iconst 1, 1) := by decide +kernel
theorem dX10_needs_72 : decode cX10_needs 72 = .ok (.ireturn, 1) := by decide +kernel
theorem dX10_needs_73 : decode cX10_needs 73 = .ok (.iload_n 2, 1) := by decide +kernel
theorem dX10_needs_74 : decode cX10_needs 74 = .ok (.ireturn, 1) := by decide +kernel
theorem dX10_needs_75 : decode cX10_needs 75 = .ok (.aload_n 0, 1) := by decide +kernel
theorem dX10_needs_76 : decode cX10_needs 76 = .ok (.getfield 103, 3) := by decide +kernel
theorem dX10_needs_79 : decode cX10_needs 79 = .ok (.aload_n 0, 1) := by decide +kernel
theorem dX10_needs_80 : decode cX10_needs 80 = .ok (.getfield 16, 3) := by decide +kernel
theorem dX10_needs_83 : decode cX10_needs 83 = .ok (.iload_n 1, 1) := by decide +kernel
theorem dX10_needs_84 : decode cX10_needs 84 = .ok (.iaload, 1) := by decide +kernel
theorem dX10_needs_85 : decode cX10_needs 85 = .ok (.iconst 1, 1) := by decide +kernel
theorem dX10_needs_86 : decode cX10_needs 86 = .ok (.iadd, 1) := by decide +kernel
theorem dX10_needs_87 : decode cX10_needs 87 = .ok (.irem, 1) := by decide +kernel
theorem dX10_needs_88 : decode cX10_needs 88 = .ok (.ifCond .ne 7, 3) := by decide +kernel
theorem dX10_needs_91 : decode cX10_needs 91 = .ok (.iconst 1, 1) := by decide +kernel
theorem dX10_needs_92 : decode cX10_needs 92 = .ok (.goto 6, 3) := by decide +kernel
theorem dX10_needs_95 : decode cX10_needs 95 = .ok (.sipush 1000, 3) := by decide +kernel
theorem dX10_needs_98 : decode cX10_needs 98 = .ok (.ireturn, 1) := by decide +kernel
theorem dX10_needs_99 : decode cX10_needs 99 = .ok (.iload_n 2, 1) := by decide +kernel
theorem dX10_needs_100 : decode cX10_needs 100 = .ok (.iconst 2, 1) := by decide +kernel
theorem dX10_needs_101 : decode cX10_needs 101 = .ok (.idiv, 1) := by decide +kernel
theorem dX10_needs_102 : decode cX10_needs 102 = .ok (.iconst 1, 1) := by decide +kernel
theorem dX10_needs_103 : decode cX10_needs 103 = .ok (.iadd, 1) := by decide +kernel
theorem dX10_needs_104 : decode cX10_needs 104 = .ok (.ireturn, 1) := by decide +kernel
theorem dX10_needs_105 : decode cX10_needs 105 = .ok (.sipush 1000, 3) := by decide +kernel
theorem dX10_needs_108 : decode cX10_needs 108 = .ok (.ireturn, 1) := by decide +kernel
theorem dX10_goesDay_0 : decode cX10_goesDay 0 = .ok (.aload_n 0, 1) := by decide +kernel
theorem dX10_goesDay_1 : decode cX10_goesDay 1 = .ok (.dup, 1) := by decide +kernel
theorem dX10_goesDay_2 : decode cX10_goesDay 2 = .ok (.getfield 103, 3) := by decide +kernel
theorem dX10_goesDay_5 : decode cX10_goesDay 5 = .ok (.iconst 1, 1) := by decide +kernel
theorem dX10_goesDay_6 : decode cX10_goesDay 6 = .ok (.iadd, 1) := by decide +kernel
theorem dX10_goesDay_7 : decode cX10_goesDay 7 = .ok (.putfield 103, 3) := by decide +kernel
theorem dX10_goesDay_10 : decode cX10_goesDay 10 = .ok (.iconst 0, 1) := by decide +kernel
theorem dX10_goesDay_11 : decode cX10_goesDay 11 = .ok (.istore_n 1, 1) := by decide +kernel
theorem dX10_goesDay_12 : decode cX10_goesDay 12 = .ok (.iconst 0, 1) := by decide +kernel
theorem dX10_goesDay_13 : decode cX10_goesDay 13 = .ok (.istore_n 2, 1) := by decide +kernel
theorem dX10_goesDay_14 : decode cX10_goesDay 14 = .ok (.iload_n 2, 1) := by decide +kernel
theorem dX10_goesDay_15 : decode cX10_goesDay 15 = .ok (.aload_n 0, 1) := by decide +kernel
theorem dX10_goesDay_16 : decode cX10_goesDay 16 = .ok (.getfield 46, 3) := by decide +kernel
theorem dX10_goesDay_19 : decode cX10_goesDay 19 = .ok (.if_icmp .ge 57, 3) := by decide +kernel
theorem dX10_goesDay_22 : decode cX10_goesDay 22 = .ok (.iload_n 1, 1) := by decide +kernel
theorem dX10_goesDay_23 : decode cX10_goesDay 23 = .ok (.aload_n 0, 1) := by decide +kernel
theorem dX10_goesDay_24 : decode cX10_goesDay 24 = .ok (.getfield 94, 3) := by decide +kernel
theorem dX10_goesDay_27 : decode cX10_goesDay 27 = .ok (.aload_n 0, 1) := by decide +kernel
theorem dX10_goesDay_28 : decode cX10_goesDay 28 = .ok (.getfield 97, 3) := by decide +kernel
theorem dX10_goesDay_31 : decode cX10_goesDay 31 = .ok (.ior, 1) := by decide +kernel
theorem dX10_goesDay_32 : decode cX10_goesDay 32 = .ok (.iload_n 2, 1) := by decide +kernel
theorem dX10_goesDay_33 : decode cX10_goesDay 33 = .ok (.invokestatic 52, 3) := by decide +kernel
theorem dX10_goesDay_36 : decode cX10_goesDay 36 = .ok (.ifCond .ne 31, 3) := by decide +kernel
theorem dX10_goesDay_39 : decode cX10_goesDay 39 = .ok (.aload_n 0, 1) := by decide +kernel
theorem dX10_goesDay_40 : decode cX10_goesDay 40 = .ok (.getfield 19, 3) := by decide +kernel
theorem dX10_goesDay_43 : decode cX10_goesDay 43 = .ok (.iload_n 2, 1) := by decide +kernel
theorem dX10_goesDay_44 : decode cX10_goesDay 44 = .ok (.iaload, 1) := by decide +kernel
theorem dX10_goesDay_45 : decode cX10_goesDay 45 = .ok (.aload_n 0, 1) := by decide +kernel
theorem dX10_goesDay_46 : decode cX10_goesDay 46 = .ok (.getfield 94, 3) := by decide +kernel
theorem dX10_goesDay_49 : decode cX10_goesDay 49 = .ok (.iand, 1) := by decide +kernel
theorem dX10_goesDay_50 : decode cX10_goesDay 50 = .ok (.invokestatic 150, 3) := by decide +kernel
theorem dX10_goesDay_53 : decode cX10_goesDay 53 = .ok (.aload_n 0, 1) := by decide +kernel
theorem dX10_goesDay_54 : decode cX10_goesDay 54 = .ok (.iload_n 2, 1) := by decide +kernel
theorem dX10_goesDay_55 : decode cX10_goesDay 55 = .ok (.invokevirtual 153, 3) := by decide +kernel
theorem dX10_goesDay_58 : decode cX10_goesDay 58 = .ok (.if_icmp .lt 9, 3) := by decide +kernel
theorem dX10_goesDay_61 : decode cX10_goesDay 61 = .ok (.iconst 1, 1) := by decide +kernel
theorem dX10_goesDay_62 : decode cX10_goesDay 62 = .ok (.iload_n 2, 1) := by decide +kernel
theorem dX10_goesDay_63 : decode cX10_goesDay 63 = .ok (.ishl, 1) := by decide +kernel
theorem dX10_goesDay_64 : decode cX10_goesDay 64 = .ok (.goto 4, 3) := by decide +kernel
theorem dX10_goesDay_67 : decode cX10_goesDay 67 = .ok (.iconst 0, 1) := by decide +kernel
theorem dX10_goesDay_68 : decode cX10_goesDay 68 = .ok (.ior, 1) := by decide +kernel
theorem dX10_goesDay_69 : decode cX10_goesDay 69 = .ok (.istore_n 1, 1) := by decide +kernel
theorem dX10_goesDay_70 : decode cX10_goesDay 70 = .ok (.iinc 2 1, 3) := by decide +kernel
theorem dX10_goesDay_73 : decode cX10_goesDay 73 = .ok (.goto (-59), 3) := by decide +kernel
theorem dX10_goesDay_76 : decode cX10_goesDay 76 = .ok (.aload_n 0, 1) := by decide +kernel
theorem dX10_goesDay_77 : decode cX10_goesDay 77 = .ok (.dup, 1) := by decide +kernel
theorem dX10_goesDay_78 : decode cX10_goesDay 78 = .ok (.getfield 94, 3) := by decide +kernel
theorem dX10_goesDay_81 : decode cX10_goesDay 81 = .ok (.iload_n 1, 1) := by decide +kernel
theorem dX10_goesDay_82 : decode cX10_goesDay 82 = .ok (.ior, 1) := by decide +kernel
theorem dX10_goesDay_83 : decode cX10_goesDay 83 = .ok (.putfield 94, 3) := by decide +kernel
theorem dX10_goesDay_86 : decode cX10_goesDay 86 = .ok (.return_, 1) := by decide +kernel
theorem dX10_goes_0 : decode cX10_goes 0 = .ok (.iconst 0, 1) := by decide +kernel
theorem dX10_goes_1 : decode cX10_goes 1 = .ok (.istore_n 2, 1) := by decide +kernel
theorem dX10_goes_2 : decode cX10_goes 2 = .ok (.iload_n 2, 1) := by decide +kernel
theorem dX10_goes_3 : decode cX10_goes 3 = .ok (.iload_n 1, 1) := by decide +kernel
theorem dX10_goes_4 : decode cX10_goes 4 = .ok (.if_icmp .ge 13, 3) := by decide +kernel
theorem dX10_goes_7 : decode cX10_goes 7 = .ok (.aload_n 0, 1) := by decide +kernel
theorem dX10_goes_8 : decode cX10_goes 8 = .ok (.invokevirtual 156, 3) := by decide +kernel
theorem dX10_goes_11 : decode cX10_goes 11 = .ok (.iinc 2 1, 3) := by decide +kernel
theorem dX10_goes_14 : decode cX10_goes 14 = .ok (.goto (-12), 3) := by decide +kernel
theorem dX10_goes_17 : decode cX10_goes 17 = .ok (.return_, 1) := by decide +kernel
theorem dX10_lostIn_0 : decode cX10_lostIn 0 = .ok (.aload_n 0, 1) := by decide +kernel
theorem dX10_lostIn_1 : decode cX10_lostIn 1 = .ok (.invokevirtual 159, 3) := by decide +kernel
theorem dX10_lostIn_4 : decode cX10_lostIn 4 = .ok (.aload_n 0, 1) := by decide +kernel
theorem dX10_lostIn_5 : decode cX10_lostIn 5 = .ok (.iload_n 1, 1) := by decide +kernel
theorem dX10_lostIn_6 : decode cX10_lostIn 6 = .ok (.invokevirtual 106, 3) := by decide +kernel
theorem dX10_lostIn_9 : decode cX10_lostIn 9 = .ok (.aload_n 0, 1) := by decide +kernel
theorem dX10_lostIn_10 : decode cX10_lostIn 10 = .ok (.getfield 94, 3) := by decide +kernel
theorem dX10_lostIn_13 : decode cX10_lostIn 13 = .ok (.istore_n 2, 1) := by decide +kernel
theorem dX10_lostIn_14 : decode cX10_lostIn 14 = .ok (.aload_n 0, 1) := by decide +kernel
theorem dX10_lostIn_15 : decode cX10_lostIn 15 = .ok (.invokevirtual 162, 3) := by decide +kernel
theorem dX10_lostIn_18 : decode cX10_lostIn 18 = .ok (.iload_n 2, 1) := by decide +kernel
theorem dX10_lostIn_19 : decode cX10_lostIn 19 = .ok (.ireturn, 1) := by decide +kernel
theorem dX10_lostWhen_0 : decode cX10_lostWhen 0 = .ok (.aload_n 0, 1) := by decide +kernel
theorem dX10_lostWhen_1 : decode cX10_lostWhen 1 = .ok (.invokevirtual 159, 3) := by decide +kernel
theorem dX10_lostWhen_4 : decode cX10_lostWhen 4 = .ok (.bipush (-9), 2) := by decide +kernel
theorem dX10_lostWhen_6 : decode cX10_lostWhen 6 = .ok (.istore_n 3, 1) := by decide +kernel
theorem dX10_lostWhen_7 : decode cX10_lostWhen 7 = .ok (.iconst 0, 1) := by decide +kernel
theorem dX10_lostWhen_8 : decode cX10_lostWhen 8 = .ok (.istore 4, 2) := by decide +kernel
theorem dX10_lostWhen_10 : decode cX10_lostWhen 10 = .ok (.iload 4, 2) := by decide +kernel
theorem dX10_lostWhen_12 : decode cX10_lostWhen 12 = .ok (.iload_n 2, 1) := by decide +kernel
theorem dX10_lostWhen_13 : decode cX10_lostWhen 13 = .ok (.if_icmp .gt 36, 3) := by decide +kernel
theorem dX10_lostWhen_16 : decode cX10_lostWhen 16 = .ok (.iload_n 3, 1) := by decide +kernel
theorem dX10_lostWhen_17 : decode cX10_lostWhen 17 = .ok (.ifCond .ge 32, 3) := by decide +kernel
theorem dX10_lostWhen_20 : decode cX10_lostWhen 20 = .ok (.aload_n 0, 1) := by decide +kernel
theorem dX10_lostWhen_21 : decode cX10_lostWhen 21 = .ok (.getfield 94, 3) := by decide +kernel
theorem dX10_lostWhen_24 : decode cX10_lostWhen 24 = .ok (.iload_n 1, 1) := by decide +kernel
theorem dX10_lostWhen_25 : decode cX10_lostWhen 25 = .ok (.invokestatic 52, 3) := by decide +kernel
theorem dX10_lostWhen_28 : decode cX10_lostWhen 28 = .ok (.ifCond .eq 8, 3) := by decide +kernel
theorem dX10_lostWhen_31 : decode cX10_lostWhen 31 = .ok (.iload 4, 2) := by decide +kernel
theorem dX10_lostWhen_33 : decode cX10_lostWhen 33 = .ok (.goto 5, 3) := by decide +kernel
theorem dX10_lostWhen_36 : decode cX10_lostWhen 36 = .ok (.bipush (-9), 2) := by decide +kernel
theorem dX10_lostWhen_38 : decode cX10_lostWhen 38 = .ok (.istore_n 3, 1) := by decide +kernel
theorem dX10_lostWhen_39 : decode cX10_lostWhen 39 = .ok (.aload_n 0, 1) := by decide +kernel
theorem dX10_lostWhen_40 : decode cX10_lostWhen 40 = .ok (.invokevirtual 156, 3) := by decide +kernel
theorem dX10_lostWhen_43 : decode cX10_lostWhen 43 = .ok (.iinc 4 1, 3) := by decide +kernel
theorem dX10_lostWhen_46 : decode cX10_lostWhen 46 = .ok (.goto (-36), 3) := by decide +kernel
theorem dX10_lostWhen_49 : decode cX10_lostWhen 49 = .ok (.aload_n 0, 1) := by decide +kernel
theorem dX10_lostWhen_50 : decode cX10_lostWhen 50 = .ok (.invokevirtual 162, 3) := by decide +kernel
theorem dX10_lostWhen_53 : decode cX10_lostWhen 53 = .ok (.iload_n 3, 1) := by decide +kernel
theorem dX10_lostWhen_54 : decode cX10_lostWhen 54 = .ok (.ireturn, 1) := by decide +kernel
theorem dX10_lostWith_0 : decode cX10_lostWith 0 = .ok (.aload_n 0, 1) := by decide +kernel
theorem dX10_lostWith_1 : decode cX10_lostWith 1 = .ok (.getfield 94, 3) := by decide +kernel
theorem dX10_lostWith_4 : decode cX10_lostWith 4 = .ok (.istore_n 3, 1) := by decide +kernel
theorem dX10_lostWith_5 : decode cX10_lostWith 5 = .ok (.aload_n 0, 1) := by decide +kernel
theorem dX10_lostWith_6 : decode cX10_lostWith 6 = .ok (.dup, 1) := by decide +kernel
theorem dX10_lostWith_7 : decode cX10_lostWith 7 = .ok (.getfield 94, 3) := by decide +kernel
theorem dX10_lostWith_10 : decode cX10_lostWith 10 = .ok (.iload_n 1, 1) := by decide +kernel
theorem dX10_lostWith_11 : decode cX10_lostWith 11 = .ok (.ior, 1) := by decide +kernel
theorem dX10_lostWith_12 : decode cX10_lostWith 12 = .ok (.putfield 94, 3) := by decide +kernel
theorem dX10_lostWith_15 : decode cX10_lostWith 15 = .ok (.aload_n 0, 1) := by decide +kernel
theorem dX10_lostWith_16 : decode cX10_lostWith 16 = .ok (.iload_n 2, 1) := by decide +kernel
theorem dX10_lostWith_17 : decode cX10_lostWith 17 = .ok (.invokevirtual 165, 3) := by decide +kernel
theorem dX10_lostWith_20 : decode cX10_lostWith 20 = .ok (.istore 4, 2) := by decide +kernel
theorem dX10_lostWith_22 : decode cX10_lostWith 22 = .ok (.aload_n 0, 1) := by decide +kernel
theorem dX10_lostWith_23 : decode cX10_lostWith 23 = .ok (.iload_n 3, 1) := by decide +kernel
theorem dX10_lostWith_24 : decode cX10_lostWith 24 = .ok (.putfield 94, 3) := by decide +kernel
theorem dX10_lostWith_27 : decode cX10_lostWith 27 = .ok (.iload 4, 2) := by decide +kernel
theorem dX10_lostWith_29 : decode cX10_lostWith 29 = .ok (.ireturn, 1) := by decide +kernel
theorem dX10_depthOf_0 : decode cX10_depthOf 0 = .ok (.iconst 0, 1) := by decide +kernel
theorem dX10_depthOf_1 : decode cX10_depthOf 1 = .ok (.istore_n 2, 1) := by decide +kernel
theorem dX10_depthOf_2 : decode cX10_depthOf 2 = .ok (.iload_n 2, 1) := by decide +kernel
theorem dX10_depthOf_3 : decode cX10_depthOf 3 = .ok (.aload_n 0, 1) := by decide +kernel
theorem dX10_depthOf_4 : decode cX10_depthOf 4 = .ok (.getfield 46, 3) := by decide +kernel
theorem dX10_depthOf_7 : decode cX10_depthOf 7 = .ok (.if_icmp .ge 16, 3) := by decide +kernel
theorem dX10_depthOf_10 : decode cX10_depthOf 10 = .ok (.aload_n 0, 1) := by decide +kernel
theorem dX10_depthOf_11 : decode cX10_depthOf 11 = .ok (.getfield 37, 3) := by decide +kernel
theorem dX10_depthOf_14 : decode cX10_depthOf 14 = .ok (.iload_n 2, 1) := by decide +kernel
theorem dX10_depthOf_15 : decode cX10_depthOf 15 = .ok (.iconst 0, 1) := by decide +kernel
theorem dX10_depthOf_16 : decode cX10_depthOf 16 = .ok (.iastore, 1) := by decide +kernel
theorem dX10_depthOf_17 : decode cX10_depthOf 17 = .ok (.iinc 2 1, 3) := by decide +kernel
theorem dX10_depthOf_20 : decode cX10_depthOf 20 = .ok (.goto (-18), 3) := by decide +kernel
theorem dX10_depthOf_23 : decode cX10_depthOf 23 = .ok (.iconst 0, 1) := by decide +kernel
theorem dX10_depthOf_24 : decode cX10_depthOf 24 = .ok (.istore_n 2, 1) := by decide +kernel
theorem dX10_depthOf_25 : decode cX10_depthOf 25 = .ok (.iload_n 2, 1) := by decide +kernel
theorem dX10_depthOf_26 : decode cX10_depthOf 26 = .ok (.iload_n 1, 1) := by decide +kernel
theorem dX10_depthOf_27 : decode cX10_depthOf 27 = .ok (.if_icmp .gt 66, 3) := by decide +kernel
theorem dX10_depthOf_30 : decode cX10_depthOf 30 = .ok (.iconst 0, 1) := by decide +kernel
theorem dX10_depthOf_31 : decode cX10_depthOf 31 = .ok (.istore_n 3, 1) := by decide +kernel
theorem dX10_depthOf_32 : decode cX10_depthOf 32 = .ok (.iload_n 3, 1) := by decide +kernel
theorem dX10_depthOf_33 : decode cX10_depthOf 33 = .ok (.iload_n 2, 1) := by decide +kernel
theorem dX10_depthOf_34 : decode cX10_depthOf 34 = .ok (.if_icmp .ge 53, 3) := by decide +kernel
theorem dX10_depthOf_37 : decode cX10_depthOf 37 = .ok (.aload_n 0, 1) := by decide +kernel
theorem dX10_depthOf_38 : decode cX10_depthOf 38 = .ok (.getfield 19, 3) := by decide +kernel
theorem dX10_depthOf_41 : decode cX10_depthOf 41 = .ok (.iload_n 2, 1) := by decide +kernel
theorem dX10_depthOf_42 : decode cX10_depthOf 42 = .ok (.iaload, 1) := by decide +kernel
theorem dX10_depthOf_43 : decode cX10_depthOf 43 = .ok (.iload_n 3, 1) := by decide +kernel
theorem dX10_depthOf_44 : decode cX10_depthOf 44 = .ok (.invokestatic 52, 3) := by decide +kernel
theorem dX10_depthOf_47 : decode cX10_depthOf 47 = .ok (.ifCond .eq 34, 3) := by decide +kernel
theorem dX10_depthOf_50 : decode cX10_depthOf 50 = .ok (.aload_n 0, 1) := by decide +kernel
theorem dX10_depthOf_51 : decode cX10_depthOf 51 = .ok (.getfield 37, 3) := by decide +kernel
theorem dX10_depthOf_54 : decode cX10_depthOf 54 = .ok (.iload_n 3, 1) := by decide +kernel
theorem dX10_depthOf_55 : decode cX10_depthOf 55 = .ok (.iaload, 1) := by decide +kernel
theorem dX10_depthOf_56 : decode cX10_depthOf 56 = .ok (.iconst 1, 1) := by decide +kernel
theorem dX10_depthOf_57 : decode cX10_depthOf 57 = .ok (.iadd, 1) := by decide +kernel
theorem dX10_depthOf_58 : decode cX10_depthOf 58 = .ok (.aload_n 0, 1) := by decide +kernel
theorem dX10_depthOf_59 : decode cX10_depthOf 59 = .ok (.getfield 37, 3) := by decide +kernel
theorem dX10_depthOf_62 : decode cX10_depthOf 62 = .ok (.iload_n 2, 1) := by decide +kernel
theorem dX10_depthOf_63 : decode cX10_depthOf 63 = .ok (.iaload, 1) := by decide +kernel
theorem dX10_depthOf_64 : decode cX10_depthOf 64 = .ok (.if_icmp .le 17, 3) := by decide +kernel
theorem dX10_depthOf_67 : decode cX10_depthOf 67 = .ok (.aload_n 0, 1) := by decide +kernel
theorem dX10_depthOf_68 : decode cX10_depthOf 68 = .ok (.getfield 37, 3) := by decide +kernel
theorem dX10_depthOf_71 : decode cX10_depthOf 71 = .ok (.iload_n 2, 1) := by decide +kernel
theorem dX10_depthOf_72 : decode cX10_depthOf 72 = .ok (.aload_n 0, 1) := by decide +kernel
theorem dX10_depthOf_73 : decode cX10_depthOf 73 = .ok (.getfield 37, 3) := by decide +kernel
theorem dX10_depthOf_76 : decode cX10_depthOf 76 = .ok (.iload_n 3, 1) := by decide +kernel
theorem dX10_depthOf_77 : decode cX10_depthOf 77 = .ok (.iaload, 1) := by decide +kernel
theorem dX10_depthOf_78 : decode cX10_depthOf 78 = .ok (.iconst 1, 1) := by decide +kernel
theorem dX10_depthOf_79 : decode cX10_depthOf 79 = .ok (.iadd, 1) := by decide +kernel
theorem dX10_depthOf_80 : decode cX10_depthOf 80 = .ok (.iastore, 1) := by decide +kernel
theorem dX10_depthOf_81 : decode cX10_depthOf 81 = .ok (.iinc 3 1, 3) := by decide +kernel
theorem dX10_depthOf_84 : decode cX10_depthOf 84 = .ok (.goto (-52), 3) := by decide +kernel
theorem dX10_depthOf_87 : decode cX10_depthOf 87 = .ok (.iinc 2 1, 3) := by decide +kernel
theorem dX10_depthOf_90 : decode cX10_depthOf 90 = .ok (.goto (-65), 3) := by decide +kernel
theorem dX10_depthOf_93 : decode cX10_depthOf 93 = .ok (.aload_n 0, 1) := by decide +kernel
theorem dX10_depthOf_94 : decode cX10_depthOf 94 = .ok (.getfield 37, 3) := by decide +kernel
theorem dX10_depthOf_97 : decode cX10_depthOf 97 = .ok (.iload_n 1, 1) := by decide +kernel
theorem dX10_depthOf_98 : decode cX10_depthOf 98 = .ok (.iaload, 1) := by decide +kernel
theorem dX10_depthOf_99 : decode cX10_depthOf 99 = .ok (.ireturn, 1) := by decide +kernel
theorem dX10_thing_0 : decode cX10_thing 0 = .ok (.aload_n 0, 1) := by decide +kernel
theorem dX10_thing_1 : decode cX10_thing 1 = .ok (.iload_n 1, 1) := by decide +kernel
theorem dX10_thing_2 : decode cX10_thing 2 = .ok (.invokevirtual 100, 3) := by decide +kernel
theorem dX10_thing_5 : decode cX10_thing 5 = .ok (.ifCond .ne 9, 3) := by decide +kernel
theorem dX10_thing_8 : decode cX10_thing 8 = .ok (.aload_n 0, 1) := by decide +kernel
theorem dX10_thing_9 : decode cX10_thing 9 = .ok (.iconst (-1), 1) := by decide +kernel
theorem dX10_thing_10 : decode cX10_thing 10 = .ok (.invokevirtual 63, 3) := by decide +kernel
theorem dX10_thing_13 : decode cX10_thing 13 = .ok (.ireturn, 1) := by decide +kernel
theorem dX10_thing_14 : decode cX10_thing 14 = .ok (.iload_n 2, 1) := by decide +kernel
theorem dX10_thing_15 : decode cX10_thing 15 = .ok (.tableswitch 82 0 5 #[37, 44, 51, 58, 67, 76], 37) := by decide +kernel
theorem dX10_thing_52 : decode cX10_thing 52 = .ok (.aload_n 0, 1) := by decide +kernel
theorem dX10_thing_53 : decode cX10_thing 53 = .ok (.getfield 13, 3) := by decide +kernel
theorem dX10_thing_56 : decode cX10_thing 56 = .ok (.iload_n 1, 1) := by decide +kernel
theorem dX10_thing_57 : decode cX10_thing 57 = .ok (.iaload, 1) := by decide +kernel
theorem dX10_thing_58 : decode cX10_thing 58 = .ok (.ireturn, 1) := by decide +kernel
theorem dX10_thing_59 : decode cX10_thing 59 = .ok (.aload_n 0, 1) := by decide +kernel
theorem dX10_thing_60 : decode cX10_thing 60 = .ok (.getfield 16, 3) := by decide +kernel
theorem dX10_thing_63 : decode cX10_thing 63 = .ok (.iload_n 1, 1) := by decide +kernel
theorem dX10_thing_64 : decode cX10_thing 64 = .ok (.iaload, 1) := by decide +kernel
theorem dX10_thing_65 : decode cX10_thing 65 = .ok (.ireturn, 1) := by decide +kernel
theorem dX10_thing_66 : decode cX10_thing 66 = .ok (.aload_n 0, 1) := by decide +kernel
theorem dX10_thing_67 : decode cX10_thing 67 = .ok (.getfield 19, 3) := by decide +kernel
theorem dX10_thing_70 : decode cX10_thing 70 = .ok (.iload_n 1, 1) := by decide +kernel
theorem dX10_thing_71 : decode cX10_thing 71 = .ok (.iaload, 1) := by decide +kernel
theorem dX10_thing_72 : decode cX10_thing 72 = .ok (.ireturn, 1) := by decide +kernel
theorem dX10_thing_73 : decode cX10_thing 73 = .ok (.aload_n 0, 1) := by decide +kernel
theorem dX10_thing_74 : decode cX10_thing 74 = .ok (.getfield 94, 3) := by decide +kernel
theorem dX10_thing_77 : decode cX10_thing 77 = .ok (.iload_n 1, 1) := by decide +kernel
theorem dX10_thing_78 : decode cX10_thing 78 = .ok (.ishr, 1) := by decide +kernel
theorem dX10_thing_79 : decode cX10_thing 79 = .ok (.iconst 1, 1) := by decide +kernel
theorem dX10_thing_80 : decode cX10_thing 80 = .ok (.iand, 1) := by decide +kernel
theorem dX10_thing_81 : decode cX10_thing 81 = .ok (.ireturn, 1) := by decide +kernel
theorem dX10_thing_82 : decode cX10_thing 82 = .ok (.aload_n 0, 1) := by decide +kernel
theorem dX10_thing_83 : decode cX10_thing 83 = .ok (.getfield 97, 3) := by decide +kernel
theorem dX10_thing_86 : decode cX10_thing 86 = .ok (.iload_n 1, 1) := by decide +kernel
theorem dX10_thing_87 : decode cX10_thing 87 = .ok (.ishr, 1) := by decide +kernel
theorem dX10_thing_88 : decode cX10_thing 88 = .ok (.iconst 1, 1) := by decide +kernel
theorem dX10_thing_89 : decode cX10_thing 89 = .ok (.iand, 1) := by decide +kernel
theorem dX10_thing_90 : decode cX10_thing 90 = .ok (.ireturn, 1) := by decide +kernel
theorem dX10_thing_91 : decode cX10_thing 91 = .ok (.aload_n 0, 1) := by decide +kernel
theorem dX10_thing_92 : decode cX10_thing 92 = .ok (.iload_n 1, 1) := by decide +kernel
theorem dX10_thing_93 : decode cX10_thing 93 = .ok (.invokevirtual 168, 3) := by decide +kernel
theorem dX10_thing_96 : decode cX10_thing 96 = .ok (.ireturn, 1) := by decide +kernel
theorem dX10_thing_97 : decode cX10_thing 97 = .ok (.aload_n 0, 1) := by decide +kernel
theorem dX10_thing_98 : decode cX10_thing 98 = .ok (.bipush (-2), 2) := by decide +kernel
theorem dX10_thing_100 : decode cX10_thing 100 = .ok (.invokevirtual 63, 3) := by decide +kernel
theorem dX10_thing_103 : decode cX10_thing 103 = .ok (.ireturn, 1) := by decide +kernel
theorem dX10_causes_0 : decode cX10_causes 0 = .ok (.aload_n 0, 1) := by decide +kernel
theorem dX10_causes_1 : decode cX10_causes 1 = .ok (.iload_n 1, 1) := by decide +kernel
theorem dX10_causes_2 : decode cX10_causes 2 = .ok (.invokevirtual 100, 3) := by decide +kernel
theorem dX10_causes_5 : decode cX10_causes 5 = .ok (.ifCond .eq 11, 3) := by decide +kernel
theorem dX10_causes_8 : decode cX10_causes 8 = .ok (.aload_n 0, 1) := by decide +kernel
theorem dX10_causes_9 : decode cX10_causes 9 = .ok (.iload_n 2, 1) := by decide +kernel
theorem dX10_causes_10 : decode cX10_causes 10 = .ok (.invokevirtual 100, 3) := by decide +kernel
theorem dX10_causes_13 : decode cX10_causes 13 = .ok (.ifCond .ne 7, 3) := by decide +kernel
theorem dX10_causes_16 : decode cX10_causes 16 = .ok (.iconst (-1), 1) := by decide +kernel
theorem dX10_causes_17 : decode cX10_causes 17 = .ok (.goto 14, 3) := by decide +kernel
theorem dX10_causes_20 : decode cX10_causes 20 = .ok (.iload_n 2, 1) := by decide +kernel
theorem dX10_causes_21 : decode cX10_causes 21 = .ok (.iload_n 1, 1) := by decide +kernel
theorem dX10_causes_22 : decode cX10_causes 22 = .ok (.if_icmp .lt 8, 3) := by decide +kernel
theorem dX10_causes_25 : decode cX10_causes 25 = .ok (.bipush (-3), 2) := by decide +kernel
theorem dX10_causes_27 : decode cX10_causes 27 = .ok (.goto 4, 3) := by decide +kernel
theorem dX10_causes_30 : decode cX10_causes 30 = .ok (.iconst 0, 1) := by decide +kernel
theorem dX10_causes_31 : decode cX10_causes 31 = .ok (.istore_n 3, 1) := by decide +kernel
theorem dX10_causes_32 : decode cX10_causes 32 = .ok (.iload_n 3, 1) := by decide +kernel
theorem dX10_causes_33 : decode cX10_causes 33 = .ok (.ifCond .eq 9, 3) := by decide +kernel
theorem dX10_causes_36 : decode cX10_causes 36 = .ok (.aload_n 0, 1) := by decide +kernel
theorem dX10_causes_37 : decode cX10_causes 37 = .ok (.iload_n 3, 1) := by decide +kernel
theorem dX10_causes_38 : decode cX10_causes 38 = .ok (.invokevirtual 63, 3) := by decide +kernel
theorem dX10_causes_41 : decode cX10_causes 41 = .ok (.ireturn, 1) := by decide +kernel
theorem dX10_causes_42 : decode cX10_causes 42 = .ok (.aload_n 0, 1) := by decide +kernel
theorem dX10_causes_43 : decode cX10_causes 43 = .ok (.getfield 19, 3) := by decide +kernel
theorem dX10_causes_46 : decode cX10_causes 46 = .ok (.iload_n 1, 1) := by decide +kernel
theorem dX10_causes_47 : decode cX10_causes 47 = .ok (.dup2, 1) := by decide +kernel
theorem dX10_causes_48 : decode cX10_causes 48 = .ok (.iaload, 1) := by decide +kernel
theorem dX10_causes_49 : decode cX10_causes 49 = .ok (.iconst 1, 1) := by decide +kernel
theorem dX10_causes_50 : decode cX10_causes 50 = .ok (.iload_n 2, 1) := by decide +kernel
theorem dX10_causes_51 : decode cX10_causes 51 = .ok (.ishl, 1) := by decide +kernel
theorem dX10_causes_52 : decode cX10_causes 52 = .ok (.ixor, 1) := by decide +kernel
theorem dX10_causes_53 : decode cX10_causes 53 = .ok (.iastore, 1) := by decide +kernel
theorem dX10_causes_54 : decode cX10_causes 54 = .ok (.aload_n 0, 1) := by decide +kernel
theorem dX10_causes_55 : decode cX10_causes 55 = .ok (.getfield 19, 3) := by decide +kernel
theorem dX10_causes_58 : decode cX10_causes 58 = .ok (.iload_n 1, 1) := by decide +kernel
theorem dX10_causes_59 : decode cX10_causes 59 = .ok (.iaload, 1) := by decide +kernel
theorem dX10_causes_60 : decode cX10_causes 60 = .ok (.ireturn, 1) := by decide +kernel
theorem dX10_loses_0 : decode cX10_loses 0 = .ok (.aload_n 0, 1) := by decide +kernel
theorem dX10_loses_1 : decode cX10_loses 1 = .ok (.iload_n 1, 1) := by decide +kernel
theorem dX10_loses_2 : decode cX10_loses 2 = .ok (.invokevirtual 100, 3) := by decide +kernel
theorem dX10_loses_5 : decode cX10_loses 5 = .ok (.ifCond .ne 7, 3) := by decide +kernel
theorem dX10_loses_8 : decode cX10_loses 8 = .ok (.iconst (-1), 1) := by decide +kernel
theorem dX10_loses_9 : decode cX10_loses 9 = .ok (.goto 25, 3) := by decide +kernel
theorem dX10_loses_12 : decode cX10_loses 12 = .ok (.aload_n 0, 1) := by decide +kernel
theorem dX10_loses_13 : decode cX10_loses 13 = .ok (.getfield 94, 3) := by decide +kernel
theorem dX10_loses_16 : decode cX10_loses 16 = .ok (.aload_n 0, 1) := by decide +kernel
theorem dX10_loses_17 : decode cX10_loses 17 = .ok (.getfield 97, 3) := by decide +kernel
theorem dX10_loses_20 : decode cX10_loses 20 = .ok (.ior, 1) := by decide +kernel
theorem dX10_loses_21 : decode cX10_loses 21 = .ok (.iload_n 1, 1) := by decide +kernel
theorem dX10_loses_22 : decode cX10_loses 22 = .ok (.invokestatic 52, 3) := by decide +kernel
theorem dX10_loses_25 : decode cX10_loses 25 = .ok (.ifCond .eq 8, 3) := by decide +kernel
theorem dX10_loses_28 : decode cX10_loses 28 = .ok (.bipush (-3), 2) := by decide +kernel
theorem dX10_loses_30 : decode cX10_loses 30 = .ok (.goto 4, 3) := by decide +kernel
theorem dX10_loses_33 : decode cX10_loses 33 = .ok (.iconst 0, 1) := by decide +kernel
theorem dX10_loses_34 : decode cX10_loses 34 = .ok (.istore_n 2, 1) := by decide +kernel
theorem dX10_loses_35 : decode cX10_loses 35 = .ok (.iload_n 2, 1) := by decide +kernel
theorem dX10_loses_36 : decode cX10_loses 36 = .ok (.ifCond .eq 9, 3) := by decide +kernel
theorem dX10_loses_39 : decode cX10_loses 39 = .ok (.aload_n 0, 1) := by decide +kernel
theorem dX10_loses_40 : decode cX10_loses 40 = .ok (.iload_n 2, 1) := by decide +kernel
theorem dX10_loses_41 : decode cX10_loses 41 = .ok (.invokevirtual 63, 3) := by decide +kernel
theorem dX10_loses_44 : decode cX10_loses 44 = .ok (.ireturn, 1) := by decide +kernel
theorem dX10_loses_45 : decode cX10_loses 45 = .ok (.aload_n 0, 1) := by decide +kernel
theorem dX10_loses_46 : decode cX10_loses 46 = .ok (.dup, 1) := by decide +kernel
theorem dX10_loses_47 : decode cX10_loses 47 = .ok (.getfield 94, 3) := by decide +kernel
theorem dX10_loses_50 : decode cX10_loses 50 = .ok (.iconst 1, 1) := by decide +kernel
theorem dX10_loses_51 : decode cX10_loses 51 = .ok (.iload_n 1, 1) := by decide +kernel
theorem dX10_loses_52 : decode cX10_loses 52 = .ok (.ishl, 1) := by decide +kernel
theorem dX10_loses_53 : decode cX10_loses 53 = .ok (.ior, 1) := by decide +kernel
theorem dX10_loses_54 : decode cX10_loses 54 = .ok (.putfield 94, 3) := by decide +kernel
theorem dX10_loses_57 : decode cX10_loses 57 = .ok (.aload_n 0, 1) := by decide +kernel
theorem dX10_loses_58 : decode cX10_loses 58 = .ok (.getfield 94, 3) := by decide +kernel
theorem dX10_loses_61 : decode cX10_loses 61 = .ok (.invokestatic 150, 3) := by decide +kernel
theorem dX10_loses_64 : decode cX10_loses 64 = .ok (.ireturn, 1) := by decide +kernel
theorem dX10_mends_0 : decode cX10_mends 0 = .ok (.aload_n 0, 1) := by decide +kernel
theorem dX10_mends_1 : decode cX10_mends 1 = .ok (.iload_n 1, 1) := by decide +kernel
theorem dX10_mends_2 : decode cX10_mends 2 = .ok (.invokevirtual 100, 3) := by decide +kernel
theorem dX10_mends_5 : decode cX10_mends 5 = .ok (.ifCond .ne 7, 3) := by decide +kernel
theorem dX10_mends_8 : decode cX10_mends 8 = .ok (.iconst (-1), 1) := by decide +kernel
theorem dX10_mends_9 : decode cX10_mends 9 = .ok (.goto 20, 3) := by decide +kernel
theorem dX10_mends_12 : decode cX10_mends 12 = .ok (.aload_n 0, 1) := by decide +kernel
theorem dX10_mends_13 : decode cX10_mends 13 = .ok (.getfield 94, 3) := by decide +kernel
theorem dX10_mends_16 : decode cX10_mends 16 = .ok (.iload_n 1, 1) := by decide +kernel
theorem dX10_mends_17 : decode cX10_mends 17 = .ok (.invokestatic 52, 3) := by decide +kernel
theorem dX10_mends_20 : decode cX10_mends 20 = .ok (.ifCond .ne 8, 3) := by decide +kernel
theorem dX10_mends_23 : decode cX10_mends 23 = .ok (.bipush (-3), 2) := by decide +kernel
theorem dX10_mends_25 : decode cX10_mends 25 = .ok (.goto 4, 3) := by decide +kernel
theorem dX10_mends_28 : decode cX10_mends 28 = .ok (.iconst 0, 1) := by decide +kernel
theorem dX10_mends_29 : decode cX10_mends 29 = .ok (.istore_n 2, 1) := by decide +kernel
theorem dX10_mends_30 : decode cX10_mends 30 = .ok (.iload_n 2, 1) := by decide +kernel
theorem dX10_mends_31 : decode cX10_mends 31 = .ok (.ifCond .eq 9, 3) := by decide +kernel
theorem dX10_mends_34 : decode cX10_mends 34 = .ok (.aload_n 0, 1) := by decide +kernel
theorem dX10_mends_35 : decode cX10_mends 35 = .ok (.iload_n 2, 1) := by decide +kernel
theorem dX10_mends_36 : decode cX10_mends 36 = .ok (.invokevirtual 63, 3) := by decide +kernel
theorem dX10_mends_39 : decode cX10_mends 39 = .ok (.ireturn, 1) := by decide +kernel
theorem dX10_mends_40 : decode cX10_mends 40 = .ok (.aload_n 0, 1) := by decide +kernel
theorem dX10_mends_41 : decode cX10_mends 41 = .ok (.dup, 1) := by decide +kernel
theorem dX10_mends_42 : decode cX10_mends 42 = .ok (.getfield 94, 3) := by decide +kernel
theorem dX10_mends_45 : decode cX10_mends 45 = .ok (.iconst 1, 1) := by decide +kernel
theorem dX10_mends_46 : decode cX10_mends 46 = .ok (.iload_n 1, 1) := by decide +kernel
theorem dX10_mends_47 : decode cX10_mends 47 = .ok (.ishl, 1) := by decide +kernel
theorem dX10_mends_48 : decode cX10_mends 48 = .ok (.iconst (-1), 1) := by decide +kernel
theorem dX10_mends_49 : decode cX10_mends 49 = .ok (.ixor, 1) := by decide +kernel
theorem dX10_mends_50 : decode cX10_mends 50 = .ok (.iand, 1) := by decide +kernel
theorem dX10_mends_51 : decode cX10_mends 51 = .ok (.putfield 94, 3) := by decide +kernel
theorem dX10_mends_54 : decode cX10_mends 54 = .ok (.aload_n 0, 1) := by decide +kernel
theorem dX10_mends_55 : decode cX10_mends 55 = .ok (.getfield 94, 3) := by decide +kernel
theorem dX10_mends_58 : decode cX10_mends 58 = .ok (.invokestatic 150, 3) := by decide +kernel
theorem dX10_mends_61 : decode cX10_mends 61 = .ok (.ireturn, 1) := by decide +kernel
theorem dX10_guards_0 : decode cX10_guards 0 = .ok (.aload_n 0, 1) := by decide +kernel
theorem dX10_guards_1 : decode cX10_guards 1 = .ok (.iload_n 1, 1) := by decide +kernel
theorem dX10_guards_2 : decode cX10_guards 2 = .ok (.invokevirtual 100, 3) := by decide +kernel
theorem dX10_guards_5 : decode cX10_guards 5 = .ok (.ifCond .ne 9, 3) := by decide +kernel
theorem dX10_guards_8 : decode cX10_guards 8 = .ok (.aload_n 0, 1) := by decide +kernel
theorem dX10_guards_9 : decode cX10_guards 9 = .ok (.iconst (-1), 1) := by decide +kernel
theorem dX10_guards_10 : decode cX10_guards 10 = .ok (.invokevirtual 63, 3) := by decide +kernel
theorem dX10_guards_13 : decode cX10_guards 13 = .ok (.ireturn, 1) := by decide +kernel
theorem dX10_guards_14 : decode cX10_guards 14 = .ok (.aload_n 0, 1) := by decide +kernel
theorem dX10_guards_15 : decode cX10_guards 15 = .ok (.dup, 1) := by decide +kernel
theorem dX10_guards_16 : decode cX10_guards 16 = .ok (.getfield 97, 3) := by decide +kernel
theorem dX10_guards_19 : decode cX10_guards 19 = .ok (.iconst 1, 1) := by decide +kernel
theorem dX10_guards_20 : decode cX10_guards 20 = .ok (.iload_n 1, 1) := by decide +kernel
theorem dX10_guards_21 : decode cX10_guards 21 = .ok (.ishl, 1) := by decide +kernel
theorem dX10_guards_22 : decode cX10_guards 22 = .ok (.ixor, 1) := by decide +kernel
theorem dX10_guards_23 : decode cX10_guards 23 = .ok (.putfield 97, 3) := by decide +kernel
theorem dX10_guards_26 : decode cX10_guards 26 = .ok (.aload_n 0, 1) := by decide +kernel
theorem dX10_guards_27 : decode cX10_guards 27 = .ok (.getfield 97, 3) := by decide +kernel
theorem dX10_guards_30 : decode cX10_guards 30 = .ok (.iload_n 1, 1) := by decide +kernel
theorem dX10_guards_31 : decode cX10_guards 31 = .ok (.ishr, 1) := by decide +kernel
theorem dX10_guards_32 : decode cX10_guards 32 = .ok (.iconst 1, 1) := by decide +kernel
theorem dX10_guards_33 : decode cX10_guards 33 = .ok (.iand, 1) := by decide +kernel
theorem dX10_guards_34 : decode cX10_guards 34 = .ok (.ireturn, 1) := by decide +kernel
theorem dX10_turn_0 : decode cX10_turn 0 = .ok (.aload_n 0, 1) := by decide +kernel
theorem dX10_turn_1 : decode cX10_turn 1 = .ok (.iload_n 1, 1) := by decide +kernel
theorem dX10_turn_2 : decode cX10_turn 2 = .ok (.invokevirtual 100, 3) := by decide +kernel
theorem dX10_turn_5 : decode cX10_turn 5 = .ok (.ifCond .ne 7, 3) := by decide +kernel
theorem dX10_turn_8 : decode cX10_turn 8 = .ok (.iconst (-1), 1) := by decide +kernel
theorem dX10_turn_9 : decode cX10_turn 9 = .ok (.goto 24, 3) := by decide +kernel
theorem dX10_turn_12 : decode cX10_turn 12 = .ok (.iload_n 2, 1) := by decide +kernel
theorem dX10_turn_13 : decode cX10_turn 13 = .ok (.iconst 0, 1) := by decide +kernel
theorem dX10_turn_14 : decode cX10_turn 14 = .ok (.iconst 5, 1) := by decide +kernel
theorem dX10_turn_15 : decode cX10_turn 15 = .ok (.invokestatic 74, 3) := by decide +kernel
theorem dX10_turn_18 : decode cX10_turn 18 = .ok (.ifCond .ne 8, 3) := by decide +kernel
theorem dX10_turn_21 : decode cX10_turn 21 = .ok (.bipush (-2), 2) := by decide +kernel
theorem dX10_turn_23 : decode cX10_turn 23 = .ok (.goto 10, 3) := by decide +kernel
theorem dX10_turn_26 : decode cX10_turn 26 = .ok (.iload_n 3, 1) := by decide +kernel
theorem dX10_turn_27 : decode cX10_turn 27 = .ok (.iconst 0, 1) := by decide +kernel
theorem dX10_turn_28 : decode cX10_turn 28 = .ok (.bipush 9, 2) := by decide +kernel
theorem dX10_turn_30 : decode cX10_turn 30 = .ok (.invokestatic 56, 3) := by decide +kernel
theorem dX10_turn_33 : decode cX10_turn 33 = .ok (.istore 4, 2) := by decide +kernel
theorem dX10_turn_35 : decode cX10_turn 35 = .ok (.iload 4, 2) := by decide +kernel
theorem dX10_turn_37 : decode cX10_turn 37 = .ok (.ifCond .eq 10, 3) := by decide +kernel
theorem dX10_turn_40 : decode cX10_turn 40 = .ok (.aload_n 0, 1) := by decide +kernel
theorem dX10_turn_41 : decode cX10_turn 41 = .ok (.iload 4, 2) := by decide +kernel
theorem dX10_turn_43 : decode cX10_turn 43 = .ok (.invokevirtual 63, 3) := by decide +kernel
theorem dX10_turn_46 : decode cX10_turn 46 = .ok (.ireturn, 1) := by decide +kernel
theorem dX10_turn_47 : decode cX10_turn 47 = .ok (.bipush 10, 2) := by decide +kernel
theorem dX10_turn_49 : decode cX10_turn 49 = .ok (.aload_n 0, 1) := by decide +kernel
theorem dX10_turn_50 : decode cX10_turn 50 = .ok (.getfield 13, 3) := by decide +kernel
theorem dX10_turn_53 : decode cX10_turn 53 = .ok (.iload_n 1, 1) := by decide +kernel
theorem dX10_turn_54 : decode cX10_turn 54 = .ok (.iaload, 1) := by decide +kernel
theorem dX10_turn_55 : decode cX10_turn 55 = .ok (.imul, 1) := by decide +kernel
theorem dX10_turn_56 : decode cX10_turn 56 = .ok (.aload_n 0, 1) := by decide +kernel
theorem dX10_turn_57 : decode cX10_turn 57 = .ok (.getfield 16, 3) := by decide +kernel
theorem dX10_turn_60 : decode cX10_turn 60 = .ok (.iload_n 1, 1) := by decide +kernel
theorem dX10_turn_61 : decode cX10_turn 61 = .ok (.iaload, 1) := by decide +kernel
theorem dX10_turn_62 : decode cX10_turn 62 = .ok (.iadd, 1) := by decide +kernel
theorem dX10_turn_63 : decode cX10_turn 63 = .ok (.istore 5, 2) := by decide +kernel
theorem dX10_turn_65 : decode cX10_turn 65 = .ok (.aload_n 0, 1) := by decide +kernel
theorem dX10_turn_66 : decode cX10_turn 66 = .ok (.getfield 13, 3) := by decide +kernel
theorem dX10_turn_69 : decode cX10_turn 69 = .ok (.iload_n 1, 1) := by decide +kernel
theorem dX10_turn_70 : decode cX10_turn 70 = .ok (.iload_n 2, 1) := by decide +kernel
theorem dX10_turn_71 : decode cX10_turn 71 = .ok (.iastore, 1) := by decide +kernel
theorem dX10_turn_72 : decode cX10_turn 72 = .ok (.aload_n 0, 1) := by decide +kernel
theorem dX10_turn_73 : decode cX10_turn 73 = .ok (.getfield 16, 3) := by decide +kernel
theorem dX10_turn_76 : decode cX10_turn 76 = .ok (.iload_n 1, 1) := by decide +kernel
theorem dX10_turn_77 : decode cX10_turn 77 = .ok (.iload_n 3, 1) := by decide +kernel
theorem dX10_turn_78 : decode cX10_turn 78 = .ok (.iastore, 1) := by decide +kernel
theorem dX10_turn_79 : decode cX10_turn 79 = .ok (.iload 5, 2) := by decide +kernel
theorem dX10_turn_81 : decode cX10_turn 81 = .ok (.ireturn, 1) := by decide +kernel
theorem dX10_days_0 : decode cX10_days 0 = .ok (.iload_n 1, 1) := by decide +kernel
theorem dX10_days_1 : decode cX10_days 1 = .ok (.iconst 1, 1) := by decide +kernel
theorem dX10_days_2 : decode cX10_days 2 = .ok (.bipush 60, 2) := by decide +kernel
theorem dX10_days_4 : decode cX10_days 4 = .ok (.invokestatic 56, 3) := by decide +kernel
theorem dX10_days_7 : decode cX10_days 7 = .ok (.istore_n 2, 1) := by decide +kernel
theorem dX10_days_8 : decode cX10_days 8 = .ok (.iload_n 2, 1) := by decide +kernel
theorem dX10_days_9 : decode cX10_days 9 = .ok (.ifCond .ne 18, 3) := by decide +kernel
theorem dX10_days_12 : decode cX10_days 12 = .ok (.aload_n 0, 1) := by decide +kernel
theorem dX10_days_13 : decode cX10_days 13 = .ok (.getfield 103, 3) := by decide +kernel
theorem dX10_days_16 : decode cX10_days 16 = .ok (.iload_n 1, 1) := by decide +kernel
theorem dX10_days_17 : decode cX10_days 17 = .ok (.iadd, 1) := by decide +kernel
theorem dX10_days_18 : decode cX10_days 18 = .ok (.sipush 999, 3) := by decide +kernel
theorem dX10_days_21 : decode cX10_days 21 = .ok (.if_icmp .le 6, 3) := by decide +kernel
theorem dX10_days_24 : decode cX10_days 24 = .ok (.bipush (-6), 2) := by decide +kernel
theorem dX10_days_26 : decode cX10_days 26 = .ok (.istore_n 2, 1) := by decide +kernel
theorem dX10_days_27 : decode cX10_days 27 = .ok (.iload_n 2, 1) := by decide +kernel
theorem dX10_days_28 : decode cX10_days 28 = .ok (.ifCond .eq 9, 3) := by decide +kernel
theorem dX10_days_31 : decode cX10_days 31 = .ok (.aload_n 0, 1) := by decide +kernel
theorem dX10_days_32 : decode cX10_days 32 = .ok (.iload_n 2, 1) := by decide +kernel
theorem dX10_days_33 : decode cX10_days 33 = .ok (.invokevirtual 63, 3) := by decide +kernel
theorem dX10_days_36 : decode cX10_days 36 = .ok (.ireturn, 1) := by decide +kernel
theorem dX10_days_37 : decode cX10_days 37 = .ok (.aload_n 0, 1) := by decide +kernel
theorem dX10_days_38 : decode cX10_days 38 = .ok (.iload_n 1, 1) := by decide +kernel
theorem dX10_days_39 : decode cX10_days 39 = .ok (.invokevirtual 106, 3) := by decide +kernel
theorem dX10_days_42 : decode cX10_days 42 = .ok (.aload_n 0, 1) := by decide +kernel
theorem dX10_days_43 : decode cX10_days 43 = .ok (.getfield 94, 3) := by decide +kernel
theorem dX10_days_46 : decode cX10_days 46 = .ok (.invokestatic 150, 3) := by decide +kernel
theorem dX10_days_49 : decode cX10_days 49 = .ok (.ireturn, 1) := by decide +kernel
theorem dX10_lostThen_0 : decode cX10_lostThen 0 = .ok (.iload_n 1, 1) := by decide +kernel
theorem dX10_lostThen_1 : decode cX10_lostThen 1 = .ok (.iconst 0, 1) := by decide +kernel
theorem dX10_lostThen_2 : decode cX10_lostThen 2 = .ok (.bipush 60, 2) := by decide +kernel
theorem dX10_lostThen_4 : decode cX10_lostThen 4 = .ok (.invokestatic 56, 3) := by decide +kernel
theorem dX10_lostThen_7 : decode cX10_lostThen 7 = .ok (.istore_n 2, 1) := by decide +kernel
theorem dX10_lostThen_8 : decode cX10_lostThen 8 = .ok (.iload_n 2, 1) := by decide +kernel
theorem dX10_lostThen_9 : decode cX10_lostThen 9 = .ok (.ifCond .eq 11, 3) := by decide +kernel
theorem dX10_lostThen_12 : decode cX10_lostThen 12 = .ok (.aload_n 0, 1) := by decide +kernel
theorem dX10_lostThen_13 : decode cX10_lostThen 13 = .ok (.iload_n 2, 1) := by decide +kernel
theorem dX10_lostThen_14 : decode cX10_lostThen 14 = .ok (.invokevirtual 63, 3) := by decide +kernel
theorem dX10_lostThen_17 : decode cX10_lostThen 17 = .ok (.goto 8, 3) := by decide +kernel
theorem dX10_lostThen_20 : decode cX10_lostThen 20 = .ok (.aload_n 0, 1) := by decide +kernel
theorem dX10_lostThen_21 : decode cX10_lostThen 21 = .ok (.iload_n 1, 1) := by decide +kernel
theorem dX10_lostThen_22 : decode cX10_lostThen 22 = .ok (.invokevirtual 165, 3) := by decide +kernel
theorem dX10_lostThen_25 : decode cX10_lostThen 25 = .ok (.ireturn, 1) := by decide +kernel
theorem dX10_when_0 : decode cX10_when 0 = .ok (.aload_n 0, 1) := by decide +kernel
theorem dX10_when_1 : decode cX10_when 1 = .ok (.iload_n 1, 1) := by decide +kernel
theorem dX10_when_2 : decode cX10_when 2 = .ok (.invokevirtual 100, 3) := by decide +kernel
theorem dX10_when_5 : decode cX10_when 5 = .ok (.ifCond .eq 13, 3) := by decide +kernel
theorem dX10_when_8 : decode cX10_when 8 = .ok (.aload_n 0, 1) := by decide +kernel
theorem dX10_when_9 : decode cX10_when 9 = .ok (.iload_n 1, 1) := by decide +kernel
theorem dX10_when_10 : decode cX10_when 10 = .ok (.bipush 60, 2) := by decide +kernel
theorem dX10_when_12 : decode cX10_when 12 = .ok (.invokevirtual 171, 3) := by decide +kernel
theorem dX10_when_15 : decode cX10_when 15 = .ok (.goto 8, 3) := by decide +kernel
theorem dX10_when_18 : decode cX10_when 18 = .ok (.aload_n 0, 1) := by decide +kernel
theorem dX10_when_19 : decode cX10_when 19 = .ok (.iconst (-1), 1) := by decide +kernel
theorem dX10_when_20 : decode cX10_when 20 = .ok (.invokevirtual 63, 3) := by decide +kernel
theorem dX10_when_23 : decode cX10_when 23 = .ok (.ireturn, 1) := by decide +kernel
theorem dX10_nextOne_0 : decode cX10_nextOne 0 = .ok (.bipush (-9), 2) := by decide +kernel
theorem dX10_nextOne_2 : decode cX10_nextOne 2 = .ok (.istore_n 1, 1) := by decide +kernel
theorem dX10_nextOne_3 : decode cX10_nextOne 3 = .ok (.aload_n 0, 1) := by decide +kernel
theorem dX10_nextOne_4 : decode cX10_nextOne 4 = .ok (.bipush (-9), 2) := by decide +kernel
theorem dX10_nextOne_6 : decode cX10_nextOne 6 = .ok (.putfield 175, 3) := by decide +kernel
theorem dX10_nextOne_9 : decode cX10_nextOne 9 = .ok (.iconst 0, 1) := by decide +kernel
theorem dX10_nextOne_10 : decode cX10_nextOne 10 = .ok (.istore_n 2, 1) := by decide +kernel
theorem dX10_nextOne_11 : decode cX10_nextOne 11 = .ok (.iload_n 2, 1) := by decide +kernel
theorem dX10_nextOne_12 : decode cX10_nextOne 12 = .ok (.aload_n 0, 1) := by decide +kernel
theorem dX10_nextOne_13 : decode cX10_nextOne 13 = .ok (.getfield 46, 3) := by decide +kernel
theorem dX10_nextOne_16 : decode cX10_nextOne 16 = .ok (.if_icmp .ge 43, 3) := by decide +kernel
theorem dX10_nextOne_19 : decode cX10_nextOne 19 = .ok (.aload_n 0, 1) := by decide +kernel
theorem dX10_nextOne_20 : decode cX10_nextOne 20 = .ok (.iload_n 2, 1) := by decide +kernel
theorem dX10_nextOne_21 : decode cX10_nextOne 21 = .ok (.bipush 60, 2) := by decide +kernel
theorem dX10_nextOne_23 : decode cX10_nextOne 23 = .ok (.invokevirtual 171, 3) := by decide +kernel
theorem dX10_nextOne_26 : decode cX10_nextOne 26 = .ok (.istore_n 3, 1) := by decide +kernel
theorem dX10_nextOne_27 : decode cX10_nextOne 27 = .ok (.iload_n 3, 1) := by decide +kernel
theorem dX10_nextOne_28 : decode cX10_nextOne 28 = .ok (.ifCond .le 25, 3) := by decide +kernel
theorem dX10_nextOne_31 : decode cX10_nextOne 31 = .ok (.iload_n 1, 1) := by decide +kernel
theorem dX10_nextOne_32 : decode cX10_nextOne 32 = .ok (.ifCond .lt 14, 3) := by decide +kernel
theorem dX10_nextOne_35 : decode cX10_nextOne 35 = .ok (.iload_n 3, 1) := by decide +kernel
theorem dX10_nextOne_36 : decode cX10_nextOne 36 = .ok (.aload_n 0, 1) := by decide +kernel
theorem dX10_nextOne_37 : decode cX10_nextOne 37 = .ok (.getfield 175, 3) := by decide +kernel
theorem dX10_nextOne_40 : decode cX10_nextOne 40 = .ok (.if_icmp .lt 6, 3) := by decide +kernel
theorem dX10_nextOne_43 : decode cX10_nextOne 43 = .ok (.goto 10, 3) := by decide +kernel
theorem dX10_nextOne_46 : decode cX10_nextOne 46 = .ok (.iload_n 2, 1) := by decide +kernel
theorem dX10_nextOne_47 : decode cX10_nextOne 47 = .ok (.istore_n 1, 1) := by decide +kernel
theorem dX10_nextOne_48 : decode cX10_nextOne 48 = .ok (.aload_n 0, 1) := by decide +kernel
theorem dX10_nextOne_49 : decode cX10_nextOne 49 = .ok (.iload_n 3, 1) := by decide +kernel
theorem dX10_nextOne_50 : decode cX10_nextOne 50 = .ok (.putfield 175, 3) := by decide +kernel
theorem dX10_nextOne_53 : decode cX10_nextOne 53 = .ok (.iinc 2 1, 3) := by decide +kernel
theorem dX10_nextOne_56 : decode cX10_nextOne 56 = .ok (.goto (-45), 3) := by decide +kernel
theorem dX10_nextOne_59 : decode cX10_nextOne 59 = .ok (.iload_n 1, 1) := by decide +kernel
theorem dX10_nextOne_60 : decode cX10_nextOne 60 = .ok (.ireturn, 1) := by decide +kernel
theorem dX10_still_0 : decode cX10_still 0 = .ok (.iconst 0, 1) := by decide +kernel
theorem dX10_still_1 : decode cX10_still 1 = .ok (.istore_n 1, 1) := by decide +kernel
theorem dX10_still_2 : decode cX10_still 2 = .ok (.iload_n 1, 1) := by decide +kernel
theorem dX10_still_3 : decode cX10_still 3 = .ok (.bipush 60, 2) := by decide +kernel
theorem dX10_still_5 : decode cX10_still 5 = .ok (.if_icmp .gt 27, 3) := by decide +kernel
theorem dX10_still_8 : decode cX10_still 8 = .ok (.aload_n 0, 1) := by decide +kernel
theorem dX10_still_9 : decode cX10_still 9 = .ok (.iload_n 1, 1) := by decide +kernel
theorem dX10_still_10 : decode cX10_still 10 = .ok (.invokevirtual 165, 3) := by decide +kernel
theorem dX10_still_13 : decode cX10_still 13 = .ok (.aload_n 0, 1) := by decide +kernel
theorem dX10_still_14 : decode cX10_still 14 = .ok (.iload_n 1, 1) := by decide +kernel
theorem dX10_still_15 : decode cX10_still 15 = .ok (.bipush 12, 2) := by decide +kernel
theorem dX10_still_17 : decode cX10_still 17 = .ok (.iadd, 1) := by decide +kernel
theorem dX10_still_18 : decode cX10_still 18 = .ok (.invokevirtual 165, 3) := by decide +kernel
theorem dX10_still_21 : decode cX10_still 21 = .ok (.if_icmp .ne 5, 3) := by decide +kernel
theorem dX10_still_24 : decode cX10_still 24 = .ok (.iload_n 1, 1) := by decide +kernel
theorem dX10_still_25 : decode cX10_still 25 = .ok (.ireturn, 1) := by decide +kernel
theorem dX10_still_26 : decode cX10_still 26 = .ok (.iinc 1 1, 3) := by decide +kernel
theorem dX10_still_29 : decode cX10_still 29 = .ok (.goto (-27), 3) := by decide +kernel
theorem dX10_still_32 : decode cX10_still 32 = .ok (.bipush (-9), 2) := by decide +kernel
theorem dX10_still_34 : decode cX10_still 34 = .ok (.ireturn, 1) := by decide +kernel
theorem dX10_next__0 : decode cX10_next_ 0 = .ok (.iload_n 1, 1) := by decide +kernel
theorem dX10_next__1 : decode cX10_next_ 1 = .ok (.iconst 0, 1) := by decide +kernel
theorem dX10_next__2 : decode cX10_next_ 2 = .ok (.iconst 2, 1) := by decide +kernel
theorem dX10_next__3 : decode cX10_next_ 3 = .ok (.invokestatic 74, 3) := by decide +kernel
theorem dX10_next__6 : decode cX10_next_ 6 = .ok (.ifCond .ne 10, 3) := by decide +kernel
theorem dX10_next__9 : decode cX10_next_ 9 = .ok (.aload_n 0, 1) := by decide +kernel
theorem dX10_next__10 : decode cX10_next_ 10 = .ok (.bipush (-2), 2) := by decide +kernel
theorem dX10_next__12 : decode cX10_next_ 12 = .ok (.invokevirtual 63, 3) := by decide +kernel
theorem dX10_next__15 : decode cX10_next_ 15 = .ok (.ireturn, 1) := by decide +kernel
theorem dX10_next__16 : decode cX10_next_ 16 = .ok (.iload_n 1, 1) := by decide +kernel
theorem dX10_next__17 : decode cX10_next_ 17 = .ok (.iconst 2, 1) := by decide +kernel
theorem dX10_next__18 : decode cX10_next_ 18 = .ok (.if_icmp .ne 8, 3) := by decide +kernel
theorem dX10_next__21 : decode cX10_next_ 21 = .ok (.aload_n 0, 1) := by decide +kernel
theorem dX10_next__22 : decode cX10_next_ 22 = .ok (.invokevirtual 178, 3) := by decide +kernel
theorem dX10_next__25 : decode cX10_next_ 25 = .ok (.ireturn, 1) := by decide +kernel
theorem dX10_next__26 : decode cX10_next_ 26 = .ok (.aload_n 0, 1) := by decide +kernel
theorem dX10_next__27 : decode cX10_next_ 27 = .ok (.invokevirtual 181, 3) := by decide +kernel
theorem dX10_next__30 : decode cX10_next_ 30 = .ok (.istore_n 2, 1) := by decide +kernel
theorem dX10_next__31 : decode cX10_next_ 31 = .ok (.iload_n 1, 1) := by decide +kernel
theorem dX10_next__32 : decode cX10_next_ 32 = .ok (.ifCond .ne 7, 3) := by decide +kernel
theorem dX10_next__35 : decode cX10_next_ 35 = .ok (.iload_n 2, 1) := by decide +kernel
theorem dX10_next__36 : decode cX10_next_ 36 = .ok (.goto 7, 3) := by decide +kernel
theorem dX10_next__39 : decode cX10_next_ 39 = .ok (.aload_n 0, 1) := by decide +kernel
theorem dX10_next__40 : decode cX10_next_ 40 = .ok (.getfield 175, 3) := by decide +kernel
theorem dX10_next__43 : decode cX10_next_ 43 = .ok (.ireturn, 1) := by decide +kernel
theorem dX10_rootsOf_0 : decode cX10_rootsOf 0 = .ok (.iconst 1, 1) := by decide +kernel
theorem dX10_rootsOf_1 : decode cX10_rootsOf 1 = .ok (.iload_n 1, 1) := by decide +kernel
theorem dX10_rootsOf_2 : decode cX10_rootsOf 2 = .ok (.ishl, 1) := by decide +kernel
theorem dX10_rootsOf_3 : decode cX10_rootsOf 3 = .ok (.istore_n 2, 1) := by decide +kernel
theorem dX10_rootsOf_4 : decode cX10_rootsOf 4 = .ok (.iload_n 1, 1) := by decide +kernel
theorem dX10_rootsOf_5 : decode cX10_rootsOf 5 = .ok (.istore_n 3, 1) := by decide +kernel
theorem dX10_rootsOf_6 : decode cX10_rootsOf 6 = .ok (.iload_n 3, 1) := by decide +kernel
theorem dX10_rootsOf_7 : decode cX10_rootsOf 7 = .ok (.ifCond .lt 30, 3) := by decide +kernel
theorem dX10_rootsOf_10 : decode cX10_rootsOf 10 = .ok (.iload_n 2, 1) := by decide +kernel
theorem dX10_rootsOf_11 : decode cX10_rootsOf 11 = .ok (.iload_n 2, 1) := by decide +kernel
theorem dX10_rootsOf_12 : decode cX10_rootsOf 12 = .ok (.iload_n 3, 1) := by decide +kernel
theorem dX10_rootsOf_13 : decode cX10_rootsOf 13 = .ok (.invokestatic 52, 3) := by decide +kernel
theorem dX10_rootsOf_16 : decode cX10_rootsOf 16 = .ok (.ifCond .eq 12, 3) := by decide +kernel
theorem dX10_rootsOf_19 : decode cX10_rootsOf 19 = .ok (.aload_n 0, 1) := by decide +kernel
theorem dX10_rootsOf_20 : decode cX10_rootsOf 20 = .ok (.getfield 19, 3) := by decide +kernel
theorem dX10_rootsOf_23 : decode cX10_rootsOf 23 = .ok (.iload_n 3, 1) := by decide +kernel
theorem dX10_rootsOf_24 : decode cX10_rootsOf 24 = .ok (.iaload, 1) := by decide +kernel
theorem dX10_rootsOf_25 : decode cX10_rootsOf 25 = .ok (.goto 4, 3) := by decide +kernel
theorem dX10_rootsOf_28 : decode cX10_rootsOf 28 = .ok (.iconst 0, 1) := by decide +kernel
theorem dX10_rootsOf_29 : decode cX10_rootsOf 29 = .ok (.ior, 1) := by decide +kernel
theorem dX10_rootsOf_30 : decode cX10_rootsOf 30 = .ok (.istore_n 2, 1) := by decide +kernel
theorem dX10_rootsOf_31 : decode cX10_rootsOf 31 = .ok (.iinc 3 (-1), 3) := by decide +kernel
theorem dX10_rootsOf_34 : decode cX10_rootsOf 34 = .ok (.goto (-28), 3) := by decide +kernel
theorem dX10_rootsOf_37 : decode cX10_rootsOf 37 = .ok (.iload_n 2, 1) := by decide +kernel
theorem dX10_rootsOf_38 : decode cX10_rootsOf 38 = .ok (.iconst 1, 1) := by decide +kernel
theorem dX10_rootsOf_39 : decode cX10_rootsOf 39 = .ok (.iload_n 1, 1) := by decide +kernel
theorem dX10_rootsOf_40 : decode cX10_rootsOf 40 = .ok (.ishl, 1) := by decide +kernel
theorem dX10_rootsOf_41 : decode cX10_rootsOf 41 = .ok (.iconst (-1), 1) := by decide +kernel
theorem dX10_rootsOf_42 : decode cX10_rootsOf 42 = .ok (.ixor, 1) := by decide +kernel
theorem dX10_rootsOf_43 : decode cX10_rootsOf 43 = .ok (.iand, 1) := by decide +kernel
theorem dX10_rootsOf_44 : decode cX10_rootsOf 44 = .ok (.ireturn, 1) := by decide +kernel
theorem dX10_fruitsOf_0 : decode cX10_fruitsOf 0 = .ok (.iconst 0, 1) := by decide +kernel
theorem dX10_fruitsOf_1 : decode cX10_fruitsOf 1 = .ok (.istore_n 2, 1) := by decide +kernel
theorem dX10_fruitsOf_2 : decode cX10_fruitsOf 2 = .ok (.iload_n 1, 1) := by decide +kernel
theorem dX10_fruitsOf_3 : decode cX10_fruitsOf 3 = .ok (.iconst 1, 1) := by decide +kernel
theorem dX10_fruitsOf_4 : decode cX10_fruitsOf 4 = .ok (.iadd, 1) := by decide +kernel
theorem dX10_fruitsOf_5 : decode cX10_fruitsOf 5 = .ok (.istore_n 3, 1) := by decide +kernel
