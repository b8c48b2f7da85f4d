theorem dX9_mean_38 : decode cX9_mean 38 = .ok (.lreturn, 1) := by decide +kernel
theorem dX9_whatWas_0 : decode cX9_whatWas 0 = .ok (.aload_n 0, 1) := by decide +kernel
theorem dX9_whatWas_1 : decode cX9_whatWas 1 = .ok (.getfield 10, 3) := by decide +kernel
theorem dX9_whatWas_4 : decode cX9_whatWas 4 = .ok (.iload_n 1, 1) := by decide +kernel
theorem dX9_whatWas_5 : decode cX9_whatWas 5 = .ok (.invokevirtual 77, 3) := by decide +kernel
theorem dX9_whatWas_8 : decode cX9_whatWas 8 = .ok (.ifCond .ne 9, 3) := by decide +kernel
theorem dX9_whatWas_11 : decode cX9_whatWas 11 = .ok (.aload_n 0, 1) := by decide +kernel
theorem dX9_whatWas_12 : decode cX9_whatWas 12 = .ok (.iconst (-1), 1) := by decide +kernel
theorem dX9_whatWas_13 : decode cX9_whatWas 13 = .ok (.invokevirtual 51, 3) := by decide +kernel
theorem dX9_whatWas_16 : decode cX9_whatWas 16 = .ok (.ireturn, 1) := by decide +kernel
theorem dX9_whatWas_17 : decode cX9_whatWas 17 = .ok (.iload_n 2, 1) := by decide +kernel
theorem dX9_whatWas_18 : decode cX9_whatWas 18 = .ok (.invokestatic 153, 3) := by decide +kernel
theorem dX9_whatWas_21 : decode cX9_whatWas 21 = .ok (.ifCond .ne 10, 3) := by decide +kernel
theorem dX9_whatWas_24 : decode cX9_whatWas 24 = .ok (.aload_n 0, 1) := by decide +kernel
theorem dX9_whatWas_25 : decode cX9_whatWas 25 = .ok (.bipush (-2), 2) := by decide +kernel
theorem dX9_whatWas_27 : decode cX9_whatWas 27 = .ok (.invokevirtual 51, 3) := by decide +kernel
theorem dX9_whatWas_30 : decode cX9_whatWas 30 = .ok (.ireturn, 1) := by decide +kernel
theorem dX9_whatWas_31 : decode cX9_whatWas 31 = .ok (.iload_n 2, 1) := by decide +kernel
theorem dX9_whatWas_32 : decode cX9_whatWas 32 = .ok (.ifCond .ne 11, 3) := by decide +kernel
theorem dX9_whatWas_35 : decode cX9_whatWas 35 = .ok (.aload_n 0, 1) := by decide +kernel
theorem dX9_whatWas_36 : decode cX9_whatWas 36 = .ok (.iload_n 1, 1) := by decide +kernel
theorem dX9_whatWas_37 : decode cX9_whatWas 37 = .ok (.invokevirtual 249, 3) := by decide +kernel
theorem dX9_whatWas_40 : decode cX9_whatWas 40 = .ok (.goto 8, 3) := by decide +kernel
theorem dX9_whatWas_43 : decode cX9_whatWas 43 = .ok (.aload_n 0, 1) := by decide +kernel
theorem dX9_whatWas_44 : decode cX9_whatWas 44 = .ok (.iload_n 1, 1) := by decide +kernel
theorem dX9_whatWas_45 : decode cX9_whatWas 45 = .ok (.invokevirtual 252, 3) := by decide +kernel
theorem dX9_whatWas_48 : decode cX9_whatWas 48 = .ok (.ireturn, 1) := by decide +kernel
theorem dX9_row_0 : decode cX9_row 0 = .ok (.iload_n 1, 1) := by decide +kernel
theorem dX9_row_1 : decode cX9_row 1 = .ok (.ifCond .ge 10, 3) := by decide +kernel
theorem dX9_row_4 : decode cX9_row 4 = .ok (.aload_n 0, 1) := by decide +kernel
theorem dX9_row_5 : decode cX9_row 5 = .ok (.bipush (-4), 2) := by decide +kernel
theorem dX9_row_7 : decode cX9_row 7 = .ok (.invokevirtual 51, 3) := by decide +kernel
theorem dX9_row_10 : decode cX9_row 10 = .ok (.ireturn, 1) := by decide +kernel
theorem dX9_row_11 : decode cX9_row 11 = .ok (.iload_n 1, 1) := by decide +kernel
theorem dX9_row_12 : decode cX9_row 12 = .ok (.bipush 99, 2) := by decide +kernel
theorem dX9_row_14 : decode cX9_row 14 = .ok (.if_icmp .gt 13, 3) := by decide +kernel
theorem dX9_row_17 : decode cX9_row 17 = .ok (.aload_n 0, 1) := by decide +kernel
theorem dX9_row_18 : decode cX9_row 18 = .ok (.getfield 32, 3) := by decide +kernel
theorem dX9_row_21 : decode cX9_row 21 = .ok (.invokevirtual 255, 3) := by decide +kernel
theorem dX9_row_24 : decode cX9_row 24 = .ok (.ifCond .eq 10, 3) := by decide +kernel
theorem dX9_row_27 : decode cX9_row 27 = .ok (.aload_n 0, 1) := by decide +kernel
theorem dX9_row_28 : decode cX9_row 28 = .ok (.bipush (-6), 2) := by decide +kernel
theorem dX9_row_30 : decode cX9_row 30 = .ok (.invokevirtual 51, 3) := by decide +kernel
theorem dX9_row_33 : decode cX9_row 33 = .ok (.ireturn, 1) := by decide +kernel
theorem dX9_row_34 : decode cX9_row 34 = .ok (.aload_n 0, 1) := by decide +kernel
theorem dX9_row_35 : decode cX9_row 35 = .ok (.getfield 32, 3) := by decide +kernel
theorem dX9_row_38 : decode cX9_row 38 = .ok (.iload_n 1, 1) := by decide +kernel
theorem dX9_row_39 : decode cX9_row 39 = .ok (.invokevirtual 256, 3) := by decide +kernel
theorem dX9_row_42 : decode cX9_row 42 = .ok (.ireturn, 1) := by decide +kernel
theorem dX9_judge_0 : decode cX9_judge 0 = .ok (.aload_n 0, 1) := by decide +kernel
theorem dX9_judge_1 : decode cX9_judge 1 = .ok (.invokevirtual 257, 3) := by decide +kernel
theorem dX9_judge_4 : decode cX9_judge 4 = .ok (.istore_n 1, 1) := by decide +kernel
theorem dX9_judge_5 : decode cX9_judge 5 = .ok (.aload_n 0, 1) := by decide +kernel
theorem dX9_judge_6 : decode cX9_judge 6 = .ok (.getfield 32, 3) := by decide +kernel
theorem dX9_judge_9 : decode cX9_judge 9 = .ok (.invokevirtual 260, 3) := by decide +kernel
theorem dX9_judge_12 : decode cX9_judge 12 = .ok (.iload_n 1, 1) := by decide +kernel
theorem dX9_judge_13 : decode cX9_judge 13 = .ok (.ireturn, 1) := by decide +kernel
theorem dX9_clear_0 : decode cX9_clear 0 = .ok (.aload_n 0, 1) := by decide +kernel
theorem dX9_clear_1 : decode cX9_clear 1 = .ok (.getfield 32, 3) := by decide +kernel
theorem dX9_clear_4 : decode cX9_clear 4 = .ok (.getfield 261, 3) := by decide +kernel
theorem dX9_clear_7 : decode cX9_clear 7 = .ok (.istore_n 1, 1) := by decide +kernel
theorem dX9_clear_8 : decode cX9_clear 8 = .ok (.aload_n 0, 1) := by decide +kernel
theorem dX9_clear_9 : decode cX9_clear 9 = .ok (.getfield 32, 3) := by decide +kernel
theorem dX9_clear_12 : decode cX9_clear 12 = .ok (.invokevirtual 260, 3) := by decide +kernel
theorem dX9_clear_15 : decode cX9_clear 15 = .ok (.iload_n 1, 1) := by decide +kernel
theorem dX9_clear_16 : decode cX9_clear 16 = .ok (.ireturn, 1) := by decide +kernel
theorem dX9_lots_0 : decode cX9_lots 0 = .ok (.iload_n 1, 1) := by decide +kernel
theorem dX9_lots_1 : decode cX9_lots 1 = .ok (.iconst 1, 1) := by decide +kernel
theorem dX9_lots_2 : decode cX9_lots 2 = .ok (.bipush 20, 2) := by decide +kernel
theorem dX9_lots_4 : decode cX9_lots 4 = .ok (.invokestatic 124, 3) := by decide +kernel
theorem dX9_lots_7 : decode cX9_lots 7 = .ok (.istore 4, 2) := by decide +kernel
theorem dX9_lots_9 : decode cX9_lots 9 = .ok (.iload 4, 2) := by decide +kernel
theorem dX9_lots_11 : decode cX9_lots 11 = .ok (.ifCond .eq 10, 3) := by decide +kernel
theorem dX9_lots_14 : decode cX9_lots 14 = .ok (.aload_n 0, 1) := by decide +kernel
theorem dX9_lots_15 : decode cX9_lots 15 = .ok (.iload 4, 2) := by decide +kernel
theorem dX9_lots_17 : decode cX9_lots 17 = .ok (.invokevirtual 51, 3) := by decide +kernel
theorem dX9_lots_20 : decode cX9_lots 20 = .ok (.ireturn, 1) := by decide +kernel
theorem dX9_lots_21 : decode cX9_lots 21 = .ok (.iload_n 3, 1) := by decide +kernel
theorem dX9_lots_22 : decode cX9_lots 22 = .ok (.invokestatic 153, 3) := by decide +kernel
theorem dX9_lots_25 : decode cX9_lots 25 = .ok (.ifCond .ne 10, 3) := by decide +kernel
theorem dX9_lots_28 : decode cX9_lots 28 = .ok (.aload_n 0, 1) := by decide +kernel
theorem dX9_lots_29 : decode cX9_lots 29 = .ok (.bipush (-2), 2) := by decide +kernel
theorem dX9_lots_31 : decode cX9_lots 31 = .ok (.invokevirtual 51, 3) := by decide +kernel
theorem dX9_lots_34 : decode cX9_lots 34 = .ok (.ireturn, 1) := by decide +kernel
theorem dX9_lots_35 : decode cX9_lots 35 = .ok (.aload_n 0, 1) := by decide +kernel
theorem dX9_lots_36 : decode cX9_lots 36 = .ok (.getfield 10, 3) := by decide +kernel
theorem dX9_lots_39 : decode cX9_lots 39 = .ok (.getfield 240, 3) := by decide +kernel
theorem dX9_lots_42 : decode cX9_lots 42 = .ok (.ifCond .ne 10, 3) := by decide +kernel
theorem dX9_lots_45 : decode cX9_lots 45 = .ok (.aload_n 0, 1) := by decide +kernel
theorem dX9_lots_46 : decode cX9_lots 46 = .ok (.bipush (-3), 2) := by decide +kernel
theorem dX9_lots_48 : decode cX9_lots 48 = .ok (.invokevirtual 51, 3) := by decide +kernel
theorem dX9_lots_51 : decode cX9_lots 51 = .ok (.ireturn, 1) := by decide +kernel
theorem dX9_lots_52 : decode cX9_lots 52 = .ok (.aload_n 0, 1) := by decide +kernel
theorem dX9_lots_53 : decode cX9_lots 53 = .ok (.getfield 39, 3) := by decide +kernel
theorem dX9_lots_56 : decode cX9_lots 56 = .ok (.aload_n 0, 1) := by decide +kernel
theorem dX9_lots_57 : decode cX9_lots 57 = .ok (.getfield 10, 3) := by decide +kernel
theorem dX9_lots_60 : decode cX9_lots 60 = .ok (.iload_n 1, 1) := by decide +kernel
theorem dX9_lots_61 : decode cX9_lots 61 = .ok (.iload_n 2, 1) := by decide +kernel
theorem dX9_lots_62 : decode cX9_lots 62 = .ok (.iload_n 3, 1) := by decide +kernel
theorem dX9_lots_63 : decode cX9_lots 63 = .ok (.ifCond .ne 13, 3) := by decide +kernel
theorem dX9_lots_66 : decode cX9_lots 66 = .ok (.aload_n 0, 1) := by decide +kernel
theorem dX9_lots_67 : decode cX9_lots 67 = .ok (.getfield 10, 3) := by decide +kernel
theorem dX9_lots_70 : decode cX9_lots 70 = .ok (.invokevirtual 206, 3) := by decide +kernel
theorem dX9_lots_73 : decode cX9_lots 73 = .ok (.goto 14, 3) := by decide +kernel
theorem dX9_lots_76 : decode cX9_lots 76 = .ok (.iconst 1, 1) := by decide +kernel
theorem dX9_lots_77 : decode cX9_lots 77 = .ok (.aload_n 0, 1) := by decide +kernel
theorem dX9_lots_78 : decode cX9_lots 78 = .ok (.getfield 10, 3) := by decide +kernel
theorem dX9_lots_81 : decode cX9_lots 81 = .ok (.getfield 240, 3) := by decide +kernel
theorem dX9_lots_84 : decode cX9_lots 84 = .ok (.iconst 1, 1) := by decide +kernel
theorem dX9_lots_85 : decode cX9_lots 85 = .ok (.isub, 1) := by decide +kernel
theorem dX9_lots_86 : decode cX9_lots 86 = .ok (.ishl, 1) := by decide +kernel
theorem dX9_lots_87 : decode cX9_lots 87 = .ok (.invokevirtual 262, 3) := by decide +kernel
theorem dX9_lots_90 : decode cX9_lots 90 = .ok (.ireturn, 1) := by decide +kernel
theorem dX9_image_0 : decode cX9_image 0 = .ok (.aload_n 0, 1) := by decide +kernel
theorem dX9_image_1 : decode cX9_image 1 = .ok (.getfield 19, 3) := by decide +kernel
theorem dX9_image_4 : decode cX9_image 4 = .ok (.aload_n 0, 1) := by decide +kernel
theorem dX9_image_5 : decode cX9_image 5 = .ok (.getfield 10, 3) := by decide +kernel
theorem dX9_image_8 : decode cX9_image 8 = .ok (.invokevirtual 66, 3) := by decide +kernel
theorem dX9_image_11 : decode cX9_image 11 = .ok (.aload_n 0, 1) := by decide +kernel
theorem dX9_image_12 : decode cX9_image 12 = .ok (.iconst 1, 1) := by decide +kernel
theorem dX9_image_13 : decode cX9_image 13 = .ok (.putfield 47, 3) := by decide +kernel
theorem dX9_image_16 : decode cX9_image 16 = .ok (.aload_n 0, 1) := by decide +kernel
theorem dX9_image_17 : decode cX9_image 17 = .ok (.getfield 10, 3) := by decide +kernel
theorem dX9_image_20 : decode cX9_image 20 = .ok (.getfield 265, 3) := by decide +kernel
theorem dX9_image_23 : decode cX9_image 23 = .ok (.ireturn, 1) := by decide +kernel
theorem dX9_on_0 : decode cX9_on 0 = .ok (.aload_n 0, 1) := by decide +kernel
theorem dX9_on_1 : decode cX9_on 1 = .ok (.getfield 47, 3) := by decide +kernel
theorem dX9_on_4 : decode cX9_on 4 = .ok (.ifCond .ne 10, 3) := by decide +kernel
theorem dX9_on_7 : decode cX9_on 7 = .ok (.aload_n 0, 1) := by decide +kernel
theorem dX9_on_8 : decode cX9_on 8 = .ok (.bipush (-3), 2) := by decide +kernel
theorem dX9_on_10 : decode cX9_on 10 = .ok (.invokevirtual 51, 3) := by decide +kernel
theorem dX9_on_13 : decode cX9_on 13 = .ok (.ireturn, 1) := by decide +kernel
theorem dX9_on_14 : decode cX9_on 14 = .ok (.aload_n 0, 1) := by decide +kernel
theorem dX9_on_15 : decode cX9_on 15 = .ok (.getfield 10, 3) := by decide +kernel
theorem dX9_on_18 : decode cX9_on 18 = .ok (.aload_n 0, 1) := by decide +kernel
theorem dX9_on_19 : decode cX9_on 19 = .ok (.getfield 19, 3) := by decide +kernel
theorem dX9_on_22 : decode cX9_on 22 = .ok (.invokevirtual 66, 3) := by decide +kernel
theorem dX9_on_25 : decode cX9_on 25 = .ok (.aload_n 0, 1) := by decide +kernel
theorem dX9_on_26 : decode cX9_on 26 = .ok (.getfield 10, 3) := by decide +kernel
theorem dX9_on_29 : decode cX9_on 29 = .ok (.getfield 265, 3) := by decide +kernel
theorem dX9_on_32 : decode cX9_on 32 = .ok (.ireturn, 1) := by decide +kernel
theorem dX9_count_0 : decode cX9_count 0 = .ok (.iload_n 1, 1) := by decide +kernel
theorem dX9_count_1 : decode cX9_count 1 = .ok (.tableswitch 124 0 7 #[47, 55, 63, 71, 79, 87, 108, 116], 47) := by decide +kernel
theorem dX9_count_48 : decode cX9_count 48 = .ok (.aload_n 0, 1) := by decide +kernel
theorem dX9_count_49 : decode cX9_count 49 = .ok (.getfield 10, 3) := by decide +kernel
theorem dX9_count_52 : decode cX9_count 52 = .ok (.getfield 240, 3) := by decide +kernel
theorem dX9_count_55 : decode cX9_count 55 = .ok (.ireturn, 1) := by decide +kernel
theorem dX9_count_56 : decode cX9_count 56 = .ok (.aload_n 0, 1) := by decide +kernel
theorem dX9_count_57 : decode cX9_count 57 = .ok (.getfield 10, 3) := by decide +kernel
theorem dX9_count_60 : decode cX9_count 60 = .ok (.getfield 265, 3) := by decide +kernel
theorem dX9_count_63 : decode cX9_count 63 = .ok (.ireturn, 1) := by decide +kernel
theorem dX9_count_64 : decode cX9_count 64 = .ok (.aload_n 0, 1) := by decide +kernel
theorem dX9_count_65 : decode cX9_count 65 = .ok (.getfield 10, 3) := by decide +kernel
theorem dX9_count_68 : decode cX9_count 68 = .ok (.getfield 106, 3) := by decide +kernel
theorem dX9_count_71 : decode cX9_count 71 = .ok (.ireturn, 1) := by decide +kernel
theorem dX9_count_72 : decode cX9_count 72 = .ok (.aload_n 0, 1) := by decide +kernel
theorem dX9_count_73 : decode cX9_count 73 = .ok (.getfield 10, 3) := by decide +kernel
theorem dX9_count_76 : decode cX9_count 76 = .ok (.getfield 268, 3) := by decide +kernel
theorem dX9_count_79 : decode cX9_count 79 = .ok (.ireturn, 1) := by decide +kernel
theorem dX9_count_80 : decode cX9_count 80 = .ok (.aload_n 0, 1) := by decide +kernel
theorem dX9_count_81 : decode cX9_count 81 = .ok (.getfield 10, 3) := by decide +kernel
theorem dX9_count_84 : decode cX9_count 84 = .ok (.invokevirtual 237, 3) := by decide +kernel
theorem dX9_count_87 : decode cX9_count 87 = .ok (.ireturn, 1) := by decide +kernel
theorem dX9_count_88 : decode cX9_count 88 = .ok (.aload_n 0, 1) := by decide +kernel
theorem dX9_count_89 : decode cX9_count 89 = .ok (.getfield 10, 3) := by decide +kernel
theorem dX9_count_92 : decode cX9_count 92 = .ok (.invokevirtual 162, 3) := by decide +kernel
theorem dX9_count_95 : decode cX9_count 95 = .ok (.aload_n 0, 1) := by decide +kernel
theorem dX9_count_96 : decode cX9_count 96 = .ok (.getfield 10, 3) := by decide +kernel
theorem dX9_count_99 : decode cX9_count 99 = .ok (.getfield 106, 3) := by decide +kernel
theorem dX9_count_102 : decode cX9_count 102 = .ok (.iconst (-1), 1) := by decide +kernel
theorem dX9_count_103 : decode cX9_count 103 = .ok (.ixor, 1) := by decide +kernel
theorem dX9_count_104 : decode cX9_count 104 = .ok (.iand, 1) := by decide +kernel
theorem dX9_count_105 : decode cX9_count 105 = .ok (.invokestatic 110, 3) := by decide +kernel
theorem dX9_count_108 : decode cX9_count 108 = .ok (.ireturn, 1) := by decide +kernel
theorem dX9_count_109 : decode cX9_count 109 = .ok (.aload_n 0, 1) := by decide +kernel
theorem dX9_count_110 : decode cX9_count 110 = .ok (.getfield 32, 3) := by decide +kernel
theorem dX9_count_113 : decode cX9_count 113 = .ok (.getfield 261, 3) := by decide +kernel
theorem dX9_count_116 : decode cX9_count 116 = .ok (.ireturn, 1) := by decide +kernel
theorem dX9_count_117 : decode cX9_count 117 = .ok (.aload_n 0, 1) := by decide +kernel
theorem dX9_count_118 : decode cX9_count 118 = .ok (.getfield 25, 3) := by decide +kernel
theorem dX9_count_121 : decode cX9_count 121 = .ok (.getfield 271, 3) := by decide +kernel
theorem dX9_count_124 : decode cX9_count 124 = .ok (.ireturn, 1) := by decide +kernel
theorem dX9_count_125 : decode cX9_count 125 = .ok (.iload_n 1, 1) := by decide +kernel
theorem dX9_count_126 : decode cX9_count 126 = .ok (.bipush 10, 2) := by decide +kernel
theorem dX9_count_128 : decode cX9_count 128 = .ok (.if_icmp .le 21, 3) := by decide +kernel
theorem dX9_count_131 : decode cX9_count 131 = .ok (.iload_n 1, 1) := by decide +kernel
theorem dX9_count_132 : decode cX9_count 132 = .ok (.bipush 16, 2) := by decide +kernel
theorem dX9_count_134 : decode cX9_count 134 = .ok (.if_icmp .gt 15, 3) := by decide +kernel
theorem dX9_count_137 : decode cX9_count 137 = .ok (.aload_n 0, 1) := by decide +kernel
theorem dX9_count_138 : decode cX9_count 138 = .ok (.getfield 43, 3) := by decide +kernel
theorem dX9_count_141 : decode cX9_count 141 = .ok (.iload_n 1, 1) := by decide +kernel
theorem dX9_count_142 : decode cX9_count 142 = .ok (.bipush 10, 2) := by decide +kernel
theorem dX9_count_144 : decode cX9_count 144 = .ok (.isub, 1) := by decide +kernel
theorem dX9_count_145 : decode cX9_count 145 = .ok (.iaload, 1) := by decide +kernel
theorem dX9_count_146 : decode cX9_count 146 = .ok (.goto 5, 3) := by decide +kernel
theorem dX9_count_149 : decode cX9_count 149 = .ok (.bipush (-9), 2) := by decide +kernel
theorem dX9_count_151 : decode cX9_count 151 = .ok (.ireturn, 1) := by decide +kernel
theorem dX9_refuse_0 : decode cX9_refuse 0 = .ok (.iload_n 1, 1) := by decide +kernel
theorem dX9_refuse_1 : decode cX9_refuse 1 = .ok (.ineg, 1) := by decide +kernel
theorem dX9_refuse_2 : decode cX9_refuse 2 = .ok (.istore_n 2, 1) := by decide +kernel
theorem dX9_refuse_3 : decode cX9_refuse 3 = .ok (.iload_n 2, 1) := by decide +kernel
theorem dX9_refuse_4 : decode cX9_refuse 4 = .ok (.ifCond .le 22, 3) := by decide +kernel
theorem dX9_refuse_7 : decode cX9_refuse 7 = .ok (.iload_n 2, 1) := by decide +kernel
theorem dX9_refuse_8 : decode cX9_refuse 8 = .ok (.aload_n 0, 1) := by decide +kernel
theorem dX9_refuse_9 : decode cX9_refuse 9 = .ok (.getfield 43, 3) := by decide +kernel
theorem dX9_refuse_12 : decode cX9_refuse 12 = .ok (.arraylength, 1) := by decide +kernel
theorem dX9_refuse_13 : decode cX9_refuse 13 = .ok (.if_icmp .ge 13, 3) := by decide +kernel
theorem dX9_refuse_16 : decode cX9_refuse 16 = .ok (.aload_n 0, 1) := by decide +kernel
theorem dX9_refuse_17 : decode cX9_refuse 17 = .ok (.getfield 43, 3) := by decide +kernel
theorem dX9_refuse_20 : decode cX9_refuse 20 = .ok (.iload_n 2, 1) := by decide +kernel
theorem dX9_refuse_21 : decode cX9_refuse 21 = .ok (.dup2, 1) := by decide +kernel
theorem dX9_refuse_22 : decode cX9_refuse 22 = .ok (.iaload, 1) := by decide +kernel
theorem dX9_refuse_23 : decode cX9_refuse 23 = .ok (.iconst 1, 1) := by decide +kernel
theorem dX9_refuse_24 : decode cX9_refuse 24 = .ok (.iadd, 1) := by decide +kernel
theorem dX9_refuse_25 : decode cX9_refuse 25 = .ok (.iastore, 1) := by decide +kernel
theorem dX9_refuse_26 : decode cX9_refuse 26 = .ok (.iload_n 1, 1) := by decide +kernel
theorem dX9_refuse_27 : decode cX9_refuse 27 = .ok (.ireturn, 1) := by decide +kernel
theorem dX9_refuseLong_0 : decode cX9_refuseLong 0 = .ok (.ldc2_w 272, 3) := by decide +kernel
theorem dX9_refuseLong_3 : decode cX9_refuseLong 3 = .ok (.aload_n 0, 1) := by decide +kernel
theorem dX9_refuseLong_4 : decode cX9_refuseLong 4 = .ok (.iload_n 1, 1) := by decide +kernel
theorem dX9_refuseLong_5 : decode cX9_refuseLong 5 = .ok (.invokevirtual 51, 3) := by decide +kernel
theorem dX9_refuseLong_8 : decode cX9_refuseLong 8 = .ok (.i2l, 1) := by decide +kernel
theorem dX9_refuseLong_9 : decode cX9_refuseLong 9 = .ok (.lsub, 1) := by decide +kernel
theorem dX9_refuseLong_10 : decode cX9_refuseLong 10 = .ok (.lreturn, 1) := by decide +kernel
theorem dX9_outside_0 : decode cX9_outside 0 = .ok (.iload_n 0, 1) := by decide +kernel
theorem dX9_outside_1 : decode cX9_outside 1 = .ok (.iload_n 1, 1) := by decide +kernel
theorem dX9_outside_2 : decode cX9_outside 2 = .ok (.if_icmp .ge 6, 3) := by decide +kernel
theorem dX9_outside_5 : decode cX9_outside 5 = .ok (.bipush (-4), 2) := by decide +kernel
theorem dX9_outside_7 : decode cX9_outside 7 = .ok (.ireturn, 1) := by decide +kernel
theorem dX9_outside_8 : decode cX9_outside 8 = .ok (.iload_n 0, 1) := by decide +kernel
theorem dX9_outside_9 : decode cX9_outside 9 = .ok (.iload_n 2, 1) := by decide +kernel
theorem dX9_outside_10 : decode cX9_outside 10 = .ok (.if_icmp .le 8, 3) := by decide +kernel
theorem dX9_outside_13 : decode cX9_outside 13 = .ok (.bipush (-6), 2) := by decide +kernel
theorem dX9_outside_15 : decode cX9_outside 15 = .ok (.goto 4, 3) := by decide +kernel
theorem dX9_outside_18 : decode cX9_outside 18 = .ok (.iconst 0, 1) := by decide +kernel
theorem dX9_outside_19 : decode cX9_outside 19 = .ok (.ireturn, 1) := by decide +kernel
theorem dX9_isPart_0 : decode cX9_isPart 0 = .ok (.iload_n 0, 1) := by decide +kernel
theorem dX9_isPart_1 : decode cX9_isPart 1 = .ok (.ifCond .eq 8, 3) := by decide +kernel
theorem dX9_isPart_4 : decode cX9_isPart 4 = .ok (.iload_n 0, 1) := by decide +kernel
theorem dX9_isPart_5 : decode cX9_isPart 5 = .ok (.iconst 1, 1) := by decide +kernel
theorem dX9_isPart_6 : decode cX9_isPart 6 = .ok (.if_icmp .ne 7, 3) := by decide +kernel
theorem dX9_isPart_9 : decode cX9_isPart 9 = .ok (.iconst 1, 1) := by decide +kernel
theorem dX9_isPart_10 : decode cX9_isPart 10 = .ok (.goto 4, 3) := by decide +kernel
theorem dX9_isPart_13 : decode cX9_isPart 13 = .ok (.iconst 0, 1) := by decide +kernel
theorem dX9_isPart_14 : decode cX9_isPart 14 = .ok (.ireturn, 1) := by decide +kernel
theorem dX9_kindsBySuchNumbers_0 : decode cX9_kindsBySuchNumbers 0 = .ok (.aload_n 0, 1) := by decide +kernel
theorem dX9_kindsBySuchNumbers_1 : decode cX9_kindsBySuchNumbers 1 = .ok (.getfield 16, 3) := by decide +kernel
theorem dX9_kindsBySuchNumbers_4 : decode cX9_kindsBySuchNumbers 4 = .ok (.aload_n 0, 1) := by decide +kernel
theorem dX9_kindsBySuchNumbers_5 : decode cX9_kindsBySuchNumbers 5 = .ok (.getfield 10, 3) := by decide +kernel
theorem dX9_kindsBySuchNumbers_8 : decode cX9_kindsBySuchNumbers 8 = .ok (.invokevirtual 66, 3) := by decide +kernel
theorem dX9_kindsBySuchNumbers_11 : decode cX9_kindsBySuchNumbers 11 = .ok (.iconst 0, 1) := by decide +kernel
theorem dX9_kindsBySuchNumbers_12 : decode cX9_kindsBySuchNumbers 12 = .ok (.istore_n 2, 1) := by decide +kernel
theorem dX9_kindsBySuchNumbers_13 : decode cX9_kindsBySuchNumbers 13 = .ok (.iconst 0, 1) := by decide +kernel
theorem dX9_kindsBySuchNumbers_14 : decode cX9_kindsBySuchNumbers 14 = .ok (.istore_n 3, 1) := by decide +kernel
theorem dX9_kindsBySuchNumbers_15 : decode cX9_kindsBySuchNumbers 15 = .ok (.iload_n 3, 1) := by decide +kernel
theorem dX9_kindsBySuchNumbers_16 : decode cX9_kindsBySuchNumbers 16 = .ok (.bipush 6, 2) := by decide +kernel
theorem dX9_kindsBySuchNumbers_18 : decode cX9_kindsBySuchNumbers 18 = .ok (.if_icmp .ge 38, 3) := by decide +kernel
theorem dX9_kindsBySuchNumbers_21 : decode cX9_kindsBySuchNumbers 21 = .ok (.aload_n 0, 1) := by decide +kernel
theorem dX9_kindsBySuchNumbers_22 : decode cX9_kindsBySuchNumbers 22 = .ok (.getfield 16, 3) := by decide +kernel
theorem dX9_kindsBySuchNumbers_25 : decode cX9_kindsBySuchNumbers 25 = .ok (.iload_n 1, 1) := by decide +kernel
theorem dX9_kindsBySuchNumbers_26 : decode cX9_kindsBySuchNumbers 26 = .ok (.iload_n 3, 1) := by decide +kernel
theorem dX9_kindsBySuchNumbers_27 : decode cX9_kindsBySuchNumbers 27 = .ok (.invokevirtual 128, 3) := by decide +kernel
theorem dX9_kindsBySuchNumbers_30 : decode cX9_kindsBySuchNumbers 30 = .ok (.aload_n 0, 1) := by decide +kernel
theorem dX9_kindsBySuchNumbers_31 : decode cX9_kindsBySuchNumbers 31 = .ok (.getfield 32, 3) := by decide +kernel
theorem dX9_kindsBySuchNumbers_34 : decode cX9_kindsBySuchNumbers 34 = .ok (.aload_n 0, 1) := by decide +kernel
theorem dX9_kindsBySuchNumbers_35 : decode cX9_kindsBySuchNumbers 35 = .ok (.getfield 16, 3) := by decide +kernel
theorem dX9_kindsBySuchNumbers_38 : decode cX9_kindsBySuchNumbers 38 = .ok (.invokevirtual 274, 3) := by decide +kernel
theorem dX9_kindsBySuchNumbers_41 : decode cX9_kindsBySuchNumbers 41 = .ok (.ifCond .eq 9, 3) := by decide +kernel
theorem dX9_kindsBySuchNumbers_44 : decode cX9_kindsBySuchNumbers 44 = .ok (.iload_n 2, 1) := by decide +kernel
theorem dX9_kindsBySuchNumbers_45 : decode cX9_kindsBySuchNumbers 45 = .ok (.iconst 1, 1) := by decide +kernel
theorem dX9_kindsBySuchNumbers_46 : decode cX9_kindsBySuchNumbers 46 = .ok (.iload_n 3, 1) := by decide +kernel
theorem dX9_kindsBySuchNumbers_47 : decode cX9_kindsBySuchNumbers 47 = .ok (.ishl, 1) := by decide +kernel
theorem dX9_kindsBySuchNumbers_48 : decode cX9_kindsBySuchNumbers 48 = .ok (.ior, 1) := by decide +kernel
theorem dX9_kindsBySuchNumbers_49 : decode cX9_kindsBySuchNumbers 49 = .ok (.istore_n 2, 1) := by decide +kernel
theorem dX9_kindsBySuchNumbers_50 : decode cX9_kindsBySuchNumbers 50 = .ok (.iinc 3 1, 3) := by decide +kernel
theorem dX9_kindsBySuchNumbers_53 : decode cX9_kindsBySuchNumbers 53 = .ok (.goto (-38), 3) := by decide +kernel
theorem dX9_kindsBySuchNumbers_56 : decode cX9_kindsBySuchNumbers 56 = .ok (.iload_n 2, 1) := by decide +kernel
theorem dX9_kindsBySuchNumbers_57 : decode cX9_kindsBySuchNumbers 57 = .ok (.ireturn, 1) := by decide +kernel
theorem dX9_figuresBySuchNumbers_0 : decode cX9_figuresBySuchNumbers 0 = .ok (.aload_n 0, 1) := by decide +kernel
theorem dX9_figuresBySuchNumbers_1 : decode cX9_figuresBySuchNumbers 1 = .ok (.getfield 16, 3) := by decide +kernel
theorem dX9_figuresBySuchNumbers_4 : decode cX9_figuresBySuchNumbers 4 = .ok (.aload_n 0, 1) := by decide +kernel
theorem dX9_figuresBySuchNumbers_5 : decode cX9_figuresBySuchNumbers 5 = .ok (.getfield 10, 3) := by decide +kernel
theorem dX9_figuresBySuchNumbers_8 : decode cX9_figuresBySuchNumbers 8 = .ok (.invokevirtual 66, 3) := by decide +kernel
theorem dX9_figuresBySuchNumbers_11 : decode cX9_figuresBySuchNumbers 11 = .ok (.iconst 0, 1) := by decide +kernel
theorem dX9_figuresBySuchNumbers_12 : decode cX9_figuresBySuchNumbers 12 = .ok (.istore_n 2, 1) := by decide +kernel
theorem dX9_figuresBySuchNumbers_13 : decode cX9_figuresBySuchNumbers 13 = .ok (.iconst 0, 1) := by decide +kernel
theorem dX9_figuresBySuchNumbers_14 : decode cX9_figuresBySuchNumbers 14 = .ok (.istore_n 3, 1) := by decide +kernel
theorem dX9_figuresBySuchNumbers_15 : decode cX9_figuresBySuchNumbers 15 = .ok (.iload_n 3, 1) := by decide +kernel
theorem dX9_figuresBySuchNumbers_16 : decode cX9_figuresBySuchNumbers 16 = .ok (.bipush 9, 2) := by decide +kernel
theorem dX9_figuresBySuchNumbers_18 : decode cX9_figuresBySuchNumbers 18 = .ok (.if_icmp .gt 38, 3) := by decide +kernel
theorem dX9_figuresBySuchNumbers_21 : decode cX9_figuresBySuchNumbers 21 = .ok (.aload_n 0, 1) := by decide +kernel
theorem dX9_figuresBySuchNumbers_22 : decode cX9_figuresBySuchNumbers 22 = .ok (.getfield 16, 3) := by decide +kernel
theorem dX9_figuresBySuchNumbers_25 : decode cX9_figuresBySuchNumbers 25 = .ok (.iload_n 1, 1) := by decide +kernel
theorem dX9_figuresBySuchNumbers_26 : decode cX9_figuresBySuchNumbers 26 = .ok (.iload_n 3, 1) := by decide +kernel
theorem dX9_figuresBySuchNumbers_27 : decode cX9_figuresBySuchNumbers 27 = .ok (.invokevirtual 132, 3) := by decide +kernel
theorem dX9_figuresBySuchNumbers_30 : decode cX9_figuresBySuchNumbers 30 = .ok (.aload_n 0, 1) := by decide +kernel
theorem dX9_figuresBySuchNumbers_31 : decode cX9_figuresBySuchNumbers 31 = .ok (.getfield 32, 3) := by decide +kernel
theorem dX9_figuresBySuchNumbers_34 : decode cX9_figuresBySuchNumbers 34 = .ok (.aload_n 0, 1) := by decide +kernel
theorem dX9_figuresBySuchNumbers_35 : decode cX9_figuresBySuchNumbers 35 = .ok (.getfield 16, 3) := by decide +kernel
theorem dX9_figuresBySuchNumbers_38 : decode cX9_figuresBySuchNumbers 38 = .ok (.invokevirtual 274, 3) := by decide +kernel
theorem dX9_figuresBySuchNumbers_41 : decode cX9_figuresBySuchNumbers 41 = .ok (.ifCond .eq 9, 3) := by decide +kernel
theorem dX9_figuresBySuchNumbers_44 : decode cX9_figuresBySuchNumbers 44 = .ok (.iload_n 2, 1) := by decide +kernel
theorem dX9_figuresBySuchNumbers_45 : decode cX9_figuresBySuchNumbers 45 = .ok (.iconst 1, 1) := by decide +kernel
theorem dX9_figuresBySuchNumbers_46 : decode cX9_figuresBySuchNumbers 46 = .ok (.iload_n 3, 1) := by decide +kernel
theorem dX9_figuresBySuchNumbers_47 : decode cX9_figuresBySuchNumbers 47 = .ok (.ishl, 1) := by decide +kernel
theorem dX9_figuresBySuchNumbers_48 : decode cX9_figuresBySuchNumbers 48 = .ok (.ior, 1) := by decide +kernel
theorem dX9_figuresBySuchNumbers_49 : decode cX9_figuresBySuchNumbers 49 = .ok (.istore_n 2, 1) := by decide +kernel
theorem dX9_figuresBySuchNumbers_50 : decode cX9_figuresBySuchNumbers 50 = .ok (.iinc 3 1, 3) := by decide +kernel
theorem dX9_figuresBySuchNumbers_53 : decode cX9_figuresBySuchNumbers 53 = .ok (.goto (-38), 3) := by decide +kernel
theorem dX9_figuresBySuchNumbers_56 : decode cX9_figuresBySuchNumbers 56 = .ok (.iload_n 2, 1) := by decide +kernel
theorem dX9_figuresBySuchNumbers_57 : decode cX9_figuresBySuchNumbers 57 = .ok (.ireturn, 1) := by decide +kernel
theorem dX9_firstMisjudged_0 : decode cX9_firstMisjudged 0 = .ok (.iconst 0, 1) := by decide +kernel
theorem dX9_firstMisjudged_1 : decode cX9_firstMisjudged 1 = .ok (.istore_n 1, 1) := by decide +kernel
theorem dX9_firstMisjudged_2 : decode cX9_firstMisjudged 2 = .ok (.iload_n 1, 1) := by decide +kernel
theorem dX9_firstMisjudged_3 : decode cX9_firstMisjudged 3 = .ok (.aload_n 0, 1) := by decide +kernel
theorem dX9_firstMisjudged_4 : decode cX9_firstMisjudged 4 = .ok (.getfield 32, 3) := by decide +kernel
theorem dX9_firstMisjudged_7 : decode cX9_firstMisjudged 7 = .ok (.getfield 261, 3) := by decide +kernel
theorem dX9_firstMisjudged_10 : decode cX9_firstMisjudged 10 = .ok (.if_icmp .ge 63, 3) := by decide +kernel
theorem dX9_firstMisjudged_13 : decode cX9_firstMisjudged 13 = .ok (.aload_n 0, 1) := by decide +kernel
theorem dX9_firstMisjudged_14 : decode cX9_firstMisjudged 14 = .ok (.getfield 10, 3) := by decide +kernel
theorem dX9_firstMisjudged_17 : decode cX9_firstMisjudged 17 = .ok (.iload_n 1, 1) := by decide +kernel
theorem dX9_firstMisjudged_18 : decode cX9_firstMisjudged 18 = .ok (.invokevirtual 77, 3) := by decide +kernel
theorem dX9_firstMisjudged_21 : decode cX9_firstMisjudged 21 = .ok (.ifCond .ne 5, 3) := by decide +kernel
theorem dX9_firstMisjudged_24 : decode cX9_firstMisjudged 24 = .ok (.iload_n 1, 1) := by decide +kernel
theorem dX9_firstMisjudged_25 : decode cX9_firstMisjudged 25 = .ok (.ireturn, 1) := by decide +kernel
theorem dX9_firstMisjudged_26 : decode cX9_firstMisjudged 26 = .ok (.aload_n 0, 1) := by decide +kernel
theorem dX9_firstMisjudged_27 : decode cX9_firstMisjudged 27 = .ok (.getfield 10, 3) := by decide +kernel
theorem dX9_firstMisjudged_30 : decode cX9_firstMisjudged 30 = .ok (.iload_n 1, 1) := by decide +kernel
theorem dX9_firstMisjudged_31 : decode cX9_firstMisjudged 31 = .ok (.aload_n 0, 1) := by decide +kernel
theorem dX9_firstMisjudged_32 : decode cX9_firstMisjudged 32 = .ok (.getfield 10, 3) := by decide +kernel
theorem dX9_firstMisjudged_35 : decode cX9_firstMisjudged 35 = .ok (.getfield 106, 3) := by decide +kernel
theorem dX9_firstMisjudged_38 : decode cX9_firstMisjudged 38 = .ok (.invokestatic 144, 3) := by decide +kernel
theorem dX9_firstMisjudged_41 : decode cX9_firstMisjudged 41 = .ok (.istore_n 2, 1) := by decide +kernel
theorem dX9_firstMisjudged_42 : decode cX9_firstMisjudged 42 = .ok (.aload_n 0, 1) := by decide +kernel
theorem dX9_firstMisjudged_43 : decode cX9_firstMisjudged 43 = .ok (.getfield 32, 3) := by decide +kernel
theorem dX9_firstMisjudged_46 : decode cX9_firstMisjudged 46 = .ok (.iload_n 1, 1) := by decide +kernel
theorem dX9_firstMisjudged_47 : decode cX9_firstMisjudged 47 = .ok (.invokevirtual 278, 3) := by decide +kernel
theorem dX9_firstMisjudged_50 : decode cX9_firstMisjudged 50 = .ok (.iload_n 2, 1) := by decide +kernel
theorem dX9_firstMisjudged_51 : decode cX9_firstMisjudged 51 = .ok (.bipush (-9), 2) := by decide +kernel
theorem dX9_firstMisjudged_53 : decode cX9_firstMisjudged 53 = .ok (.if_icmp .ne 8, 3) := by decide +kernel
theorem dX9_firstMisjudged_56 : decode cX9_firstMisjudged 56 = .ok (.bipush 99, 2) := by decide +kernel
theorem dX9_firstMisjudged_58 : decode cX9_firstMisjudged 58 = .ok (.goto 4, 3) := by decide +kernel
theorem dX9_firstMisjudged_61 : decode cX9_firstMisjudged 61 = .ok (.iload_n 2, 1) := by decide +kernel
theorem dX9_firstMisjudged_62 : decode cX9_firstMisjudged 62 = .ok (.if_icmp .eq 5, 3) := by decide +kernel
theorem dX9_firstMisjudged_65 : decode cX9_firstMisjudged 65 = .ok (.iload_n 1, 1) := by decide +kernel
theorem dX9_firstMisjudged_66 : decode cX9_firstMisjudged 66 = .ok (.ireturn, 1) := by decide +kernel
theorem dX9_firstMisjudged_67 : decode cX9_firstMisjudged 67 = .ok (.iinc 1 1, 3) := by decide +kernel
theorem dX9_firstMisjudged_70 : decode cX9_firstMisjudged 70 = .ok (.goto (-68), 3) := by decide +kernel
theorem dX9_firstMisjudged_73 : decode cX9_firstMisjudged 73 = .ok (.bipush (-9), 2) := by decide +kernel
theorem dX9_firstMisjudged_75 : decode cX9_firstMisjudged 75 = .ok (.ireturn, 1) := by decide +kernel
theorem dX10_init_0 : decode cX10_init 0 = .ok (.aload_n 0, 1) := by decide +kernel
theorem dX10_init_1 : decode cX10_init 1 = .ok (.invokespecial 1, 3) := by decide +kernel
theorem dX10_init_4 : decode cX10_init 4 = .ok (.aload_n 0, 1) := by decide +kernel
theorem dX10_init_5 : decode cX10_init 5 = .ok (.bipush 7, 2) := by decide +kernel
theorem dX10_init_7 : decode cX10_init 7 = .ok (.newarray .int, 2) := by decide +kernel
theorem dX10_init_9 : decode cX10_init 9 = .ok (.putfield 7, 3) := by decide +kernel
theorem dX10_init_12 : decode cX10_init 12 = .ok (.aload_n 0, 1) := by decide +kernel
theorem dX10_init_13 : decode cX10_init 13 = .ok (.bipush 9, 2) := by decide +kernel
theorem dX10_init_15 : decode cX10_init 15 = .ok (.newarray .int, 2) := by decide +kernel
theorem dX10_init_17 : decode cX10_init 17 = .ok (.putfield 13, 3) := by decide +kernel
theorem dX10_init_20 : decode cX10_init 20 = .ok (.aload_n 0, 1) := by decide +kernel
theorem dX10_init_21 : decode cX10_init 21 = .ok (.bipush 9, 2) := by decide +kernel
theorem dX10_init_23 : decode cX10_init 23 = .ok (.newarray .int, 2) := by decide +kernel
theorem dX10_init_25 : decode cX10_init 25 = .ok (.putfield 16, 3) := by decide +kernel
theorem dX10_init_28 : decode cX10_init 28 = .ok (.aload_n 0, 1) := by decide +kernel
theorem dX10_init_29 : decode cX10_init 29 = .ok (.bipush 9, 2) := by decide +kernel
theorem dX10_init_31 : decode cX10_init 31 = .ok (.newarray .int, 2) := by decide +kernel
theorem dX10_init_33 : decode cX10_init 33 = .ok (.putfield 19, 3) := by decide +kernel
theorem dX10_init_36 : decode cX10_init 36 = .ok (.aload_n 0, 1) := by decide +kernel
theorem dX10_init_37 : decode cX10_init 37 = .ok (.bipush 96, 2) := by decide +kernel
theorem dX10_init_39 : decode cX10_init 39 = .ok (.newarray .int, 2) := by decide +kernel
theorem dX10_init_41 : decode cX10_init 41 = .ok (.putfield 22, 3) := by decide +kernel
theorem dX10_init_44 : decode cX10_init 44 = .ok (.aload_n 0, 1) := by decide +kernel
theorem dX10_init_45 : decode cX10_init 45 = .ok (.bipush 48, 2) := by decide +kernel
theorem dX10_init_47 : decode cX10_init 47 = .ok (.newarray .int, 2) := by decide +kernel
theorem dX10_init_49 : decode cX10_init 49 = .ok (.putfield 25, 3) := by decide +kernel
theorem dX10_init_52 : decode cX10_init 52 = .ok (.aload_n 0, 1) := by decide +kernel
theorem dX10_init_53 : decode cX10_init 53 = .ok (.bipush 48, 2) := by decide +kernel
theorem dX10_init_55 : decode cX10_init 55 = .ok (.newarray .int, 2) := by decide +kernel
theorem dX10_init_57 : decode cX10_init 57 = .ok (.putfield 28, 3) := by decide +kernel
theorem dX10_init_60 : decode cX10_init 60 = .ok (.aload_n 0, 1) := by decide +kernel
theorem dX10_init_61 : decode cX10_init 61 = .ok (.bipush 96, 2) := by decide +kernel
theorem dX10_init_63 : decode cX10_init 63 = .ok (.newarray .int, 2) := by decide +kernel
theorem dX10_init_65 : decode cX10_init 65 = .ok (.putfield 31, 3) := by decide +kernel
theorem dX10_init_68 : decode cX10_init 68 = .ok (.aload_n 0, 1) := by decide +kernel
theorem dX10_init_69 : decode cX10_init 69 = .ok (.bipush 93, 2) := by decide +kernel
theorem dX10_init_71 : decode cX10_init 71 = .ok (.newarray .int, 2) := by decide +kernel
theorem dX10_init_73 : decode cX10_init 73 = .ok (.putfield 34, 3) := by decide +kernel
theorem dX10_init_76 : decode cX10_init 76 = .ok (.aload_n 0, 1) := by decide +kernel
theorem dX10_init_77 : decode cX10_init 77 = .ok (.bipush 9, 2) := by decide +kernel
theorem dX10_init_79 : decode cX10_init 79 = .ok (.newarray .int, 2) := by decide +kernel
theorem dX10_init_81 : decode cX10_init 81 = .ok (.putfield 37, 3) := by decide +kernel
theorem dX10_init_84 : decode cX10_init 84 = .ok (.aload_n 0, 1) := by decide +kernel
theorem dX10_init_85 : decode cX10_init 85 = .ok (.iconst 4, 1) := by decide +kernel
theorem dX10_init_86 : decode cX10_init 86 = .ok (.newarray .int, 2) := by decide +kernel
theorem dX10_init_88 : decode cX10_init 88 = .ok (.putfield 40, 3) := by decide +kernel
theorem dX10_init_91 : decode cX10_init 91 = .ok (.aload_n 0, 1) := by decide +kernel
theorem dX10_init_92 : decode cX10_init 92 = .ok (.bipush 16, 2) := by decide +kernel
theorem dX10_init_94 : decode cX10_init 94 = .ok (.newarray .int, 2) := by decide +kernel
theorem dX10_init_96 : decode cX10_init 96 = .ok (.putfield 43, 3) := by decide +kernel
theorem dX10_init_99 : decode cX10_init 99 = .ok (.aload_n 0, 1) := by decide +kernel
theorem dX10_init_100 : decode cX10_init 100 = .ok (.iconst 0, 1) := by decide +kernel
theorem dX10_init_101 : decode cX10_init 101 = .ok (.putfield 46, 3) := by decide +kernel
theorem dX10_init_104 : decode cX10_init 104 = .ok (.return_, 1) := by decide +kernel
theorem dX10_no_0 : decode cX10_no 0 = .ok (.aload_n 0, 1) := by decide +kernel
theorem dX10_no_1 : decode cX10_no 1 = .ok (.getfield 7, 3) := by decide +kernel
theorem dX10_no_4 : decode cX10_no 4 = .ok (.iload_n 1, 1) := by decide +kernel
theorem dX10_no_5 : decode cX10_no 5 = .ok (.ineg, 1) := by decide +kernel
theorem dX10_no_6 : decode cX10_no 6 = .ok (.dup2, 1) := by decide +kernel
theorem dX10_no_7 : decode cX10_no 7 = .ok (.iaload, 1) := by decide +kernel
theorem dX10_no_8 : decode cX10_no 8 = .ok (.iconst 1, 1) := by decide +kernel
theorem dX10_no_9 : decode cX10_no 9 = .ok (.iadd, 1) := by decide +kernel
theorem dX10_no_10 : decode cX10_no 10 = .ok (.iastore, 1) := by decide +kernel
theorem dX10_no_11 : decode cX10_no 11 = .ok (.iload_n 1, 1) := by decide +kernel
theorem dX10_no_12 : decode cX10_no 12 = .ok (.ireturn, 1) := by decide +kernel
theorem dX10_lowestOf_0 : decode cX10_lowestOf 0 = .ok (.aload_n 0, 1) := by decide +kernel
theorem dX10_lowestOf_1 : decode cX10_lowestOf 1 = .ok (.getfield 7, 3) := by decide +kernel
theorem dX10_lowestOf_4 : decode cX10_lowestOf 4 = .ok (.iload_n 1, 1) := by decide +kernel
theorem dX10_lowestOf_5 : decode cX10_lowestOf 5 = .ok (.ineg, 1) := by decide +kernel
theorem dX10_lowestOf_6 : decode cX10_lowestOf 6 = .ok (.dup2, 1) := by decide +kernel
theorem dX10_lowestOf_7 : decode cX10_lowestOf 7 = .ok (.iaload, 1) := by decide +kernel
theorem dX10_lowestOf_8 : decode cX10_lowestOf 8 = .ok (.iconst 1, 1) := by decide +kernel
theorem dX10_lowestOf_9 : decode cX10_lowestOf 9 = .ok (.iadd, 1) := by decide +kernel
theorem dX10_lowestOf_10 : decode cX10_lowestOf 10 = .ok (.iastore, 1) := by decide +kernel
theorem dX10_lowestOf_11 : decode cX10_lowestOf 11 = .ok (.ldc2_w 50, 3) := by decide +kernel
theorem dX10_lowestOf_14 : decode cX10_lowestOf 14 = .ok (.iload_n 1, 1) := by decide +kernel
theorem dX10_lowestOf_15 : decode cX10_lowestOf 15 = .ok (.i2l, 1) := by decide +kernel
theorem dX10_lowestOf_16 : decode cX10_lowestOf 16 = .ok (.lsub, 1) := by decide +kernel
theorem dX10_lowestOf_17 : decode cX10_lowestOf 17 = .ok (.lreturn, 1) := by decide +kernel
theorem dX10_isIn_0 : decode cX10_isIn 0 = .ok (.iload_n 0, 1) := by decide +kernel
theorem dX10_isIn_1 : decode cX10_isIn 1 = .ok (.iload_n 1, 1) := by decide +kernel
theorem dX10_isIn_2 : decode cX10_isIn 2 = .ok (.if_icmp .lt 12, 3) := by decide +kernel
theorem dX10_isIn_5 : decode cX10_isIn 5 = .ok (.iload_n 0, 1) := by decide +kernel
theorem dX10_isIn_6 : decode cX10_isIn 6 = .ok (.iload_n 2, 1) := by decide +kernel
theorem dX10_isIn_7 : decode cX10_isIn 7 = .ok (.if_icmp .gt 7, 3) := by decide +kernel
theorem dX10_isIn_10 : decode cX10_isIn 10 = .ok (.iconst 1, 1) := by decide +kernel
theorem dX10_isIn_11 : decode cX10_isIn 11 = .ok (.goto 4, 3) := by decide +kernel
theorem dX10_isIn_14 : decode cX10_isIn 14 = .ok (.iconst 0, 1) := by decide +kernel
theorem dX10_isIn_15 : decode cX10_isIn 15 = .ok (.ireturn, 1) := by decide +kernel
theorem dX10_bound_0 : decode cX10_bound 0 = .ok (.iload_n 0, 1) := by decide +kernel
theorem dX10_bound_1 : decode cX10_bound 1 = .ok (.iload_n 1, 1) := by decide +kernel
theorem dX10_bound_2 : decode cX10_bound 2 = .ok (.if_icmp .ge 8, 3) := by decide +kernel
theorem dX10_bound_5 : decode cX10_bound 5 = .ok (.bipush (-4), 2) := by decide +kernel
theorem dX10_bound_7 : decode cX10_bound 7 = .ok (.goto 14, 3) := by decide +kernel
theorem dX10_bound_10 : decode cX10_bound 10 = .ok (.iload_n 0, 1) := by decide +kernel
theorem dX10_bound_11 : decode cX10_bound 11 = .ok (.iload_n 2, 1) := by decide +kernel
theorem dX10_bound_12 : decode cX10_bound 12 = .ok (.if_icmp .le 8, 3) := by decide +kernel
theorem dX10_bound_15 : decode cX10_bound 15 = .ok (.bipush (-6), 2) := by decide +kernel
theorem dX10_bound_17 : decode cX10_bound 17 = .ok (.goto 4, 3) := by decide +kernel
theorem dX10_bound_20 : decode cX10_bound 20 = .ok (.iconst 0, 1) := by decide +kernel
theorem dX10_bound_21 : decode cX10_bound 21 = .ok (.ireturn, 1) := by decide +kernel
theorem dX10_has_0 : decode cX10_has 0 = .ok (.iload_n 0, 1) := by decide +kernel
theorem dX10_has_1 : decode cX10_has 1 = .ok (.iload_n 1, 1) := by decide +kernel
theorem dX10_has_2 : decode cX10_has 2 = .ok (.ishr, 1) := by decide +kernel
theorem dX10_has_3 : decode cX10_has 3 = .ok (.iconst 1, 1) := by decide +kernel
theorem dX10_has_4 : decode cX10_has 4 = .ok (.iand, 1) := by decide +kernel
theorem dX10_has_5 : decode cX10_has 5 = .ok (.iconst 1, 1) := by decide +kernel
theorem dX10_has_6 : decode cX10_has 6 = .ok (.if_icmp .ne 7, 3) := by decide +kernel
theorem dX10_has_9 : decode cX10_has 9 = .ok (.iconst 1, 1) := by decide +kernel
theorem dX10_has_10 : decode cX10_has 10 = .ok (.goto 4, 3) := by decide +kernel
theorem dX10_has_13 : decode cX10_has 13 = .ok (.iconst 0, 1) := by decide +kernel
theorem dX10_has_14 : decode cX10_has 14 = .ok (.ireturn, 1) := by decide +kernel
theorem dX10_bits_0 : decode cX10_bits 0 = .ok (.iconst 0, 1) := by decide +kernel
theorem dX10_bits_1 : decode cX10_bits 1 = .ok (.istore_n 1, 1) := by decide +kernel
theorem dX10_bits_2 : decode cX10_bits 2 = .ok (.iconst 0, 1) := by decide +kernel
theorem dX10_bits_3 : decode cX10_bits 3 = .ok (.istore_n 2, 1) := by decide +kernel
theorem dX10_bits_4 : decode cX10_bits 4 = .ok (.iload_n 2, 1) := by decide +kernel
theorem dX10_bits_5 : decode cX10_bits 5 = .ok (.bipush 31, 2) := by decide +kernel
theorem dX10_bits_7 : decode cX10_bits 7 = .ok (.if_icmp .ge 17, 3) := by decide +kernel
theorem dX10_bits_10 : decode cX10_bits 10 = .ok (.iload_n 1, 1) := by decide +kernel
theorem dX10_bits_11 : decode cX10_bits 11 = .ok (.iload_n 0, 1) := by decide +kernel
theorem dX10_bits_12 : decode cX10_bits 12 = .ok (.iload_n 2, 1) := by decide +kernel
theorem dX10_bits_13 : decode cX10_bits 13 = .ok (.ishr, 1) := by decide +kernel
theorem dX10_bits_14 : decode cX10_bits 14 = .ok (.iconst 1, 1) := by decide +kernel
theorem dX10_bits_15 : decode cX10_bits 15 = .ok (.iand, 1) := by decide +kernel
theorem dX10_bits_16 : decode cX10_bits 16 = .ok (.iadd, 1) := by decide +kernel
theorem dX10_bits_17 : decode cX10_bits 17 = .ok (.istore_n 1, 1) := by decide +kernel
theorem dX10_bits_18 : decode cX10_bits 18 = .ok (.iinc 2 1, 3) := by decide +kernel
theorem dX10_bits_21 : decode cX10_bits 21 = .ok (.goto (-17), 3) := by decide +kernel
theorem dX10_bits_24 : decode cX10_bits 24 = .ok (.iload_n 1, 1) := by decide +kernel
theorem dX10_bits_25 : decode cX10_bits 25 = .ok (.ireturn, 1) := by decide +kernel
theorem dX10_nth_0 : decode cX10_nth 0 = .ok (.iload_n 1, 1) := by decide +kernel
theorem dX10_nth_1 : decode cX10_nth 1 = .ok (.istore_n 2, 1) := by decide +kernel
theorem dX10_nth_2 : decode cX10_nth 2 = .ok (.iconst 0, 1) := by decide +kernel
theorem dX10_nth_3 : decode cX10_nth 3 = .ok (.istore_n 3, 1) := by decide +kernel
theorem dX10_nth_4 : decode cX10_nth 4 = .ok (.iload_n 0, 1) := by decide +kernel
theorem dX10_nth_5 : decode cX10_nth 5 = .ok (.iload_n 3, 1) := by decide +kernel
theorem dX10_nth_6 : decode cX10_nth 6 = .ok (.invokestatic 52, 3) := by decide +kernel
theorem dX10_nth_9 : decode cX10_nth 9 = .ok (.ifCond .eq 7, 3) := by decide +kernel
theorem dX10_nth_12 : decode cX10_nth 12 = .ok (.iload_n 2, 1) := by decide +kernel
theorem dX10_nth_13 : decode cX10_nth 13 = .ok (.ifCond .le 25, 3) := by decide +kernel
theorem dX10_nth_16 : decode cX10_nth 16 = .ok (.iload_n 2, 1) := by decide +kernel
theorem dX10_nth_17 : decode cX10_nth 17 = .ok (.iload_n 0, 1) := by decide +kernel
theorem dX10_nth_18 : decode cX10_nth 18 = .ok (.iload_n 3, 1) := by decide +kernel
theorem dX10_nth_19 : decode cX10_nth 19 = .ok (.invokestatic 52, 3) := by decide +kernel
theorem dX10_nth_22 : decode cX10_nth 22 = .ok (.ifCond .eq 7, 3) := by decide +kernel
theorem dX10_nth_25 : decode cX10_nth 25 = .ok (.iconst 1, 1) := by decide +kernel
theorem dX10_nth_26 : decode cX10_nth 26 = .ok (.goto 4, 3) := by decide +kernel
theorem dX10_nth_29 : decode cX10_nth 29 = .ok (.iconst 0, 1) := by decide +kernel
theorem dX10_nth_30 : decode cX10_nth 30 = .ok (.isub, 1) := by decide +kernel
theorem dX10_nth_31 : decode cX10_nth 31 = .ok (.istore_n 2, 1) := by decide +kernel
theorem dX10_nth_32 : decode cX10_nth 32 = .ok (.iinc 3 1, 3) := by decide +kernel
theorem dX10_nth_35 : decode cX10_nth 35 = .ok (.goto (-31), 3) := by decide +kernel
theorem dX10_nth_38 : decode cX10_nth 38 = .ok (.iload_n 3, 1) := by decide +kernel
theorem dX10_nth_39 : decode cX10_nth 39 = .ok (.ireturn, 1) := by decide +kernel
theorem dX10_isThing_0 : decode cX10_isThing 0 = .ok (.iload_n 1, 1) := by decide +kernel
theorem dX10_isThing_1 : decode cX10_isThing 1 = .ok (.ifCond .lt 15, 3) := by decide +kernel
theorem dX10_isThing_4 : decode cX10_isThing 4 = .ok (.iload_n 1, 1) := by decide +kernel
theorem dX10_isThing_5 : decode cX10_isThing 5 = .ok (.aload_n 0, 1) := by decide +kernel
theorem dX10_isThing_6 : decode cX10_isThing 6 = .ok (.getfield 46, 3) := by decide +kernel
theorem dX10_isThing_9 : decode cX10_isThing 9 = .ok (.if_icmp .ge 7, 3) := by decide +kernel
theorem dX10_isThing_12 : decode cX10_isThing 12 = .ok (.iconst 1, 1) := by decide +kernel
theorem dX10_isThing_13 : decode cX10_isThing 13 = .ok (.goto 4, 3) := by decide +kernel
theorem dX10_isThing_16 : decode cX10_isThing 16 = .ok (.iconst 0, 1) := by decide +kernel
theorem dX10_isThing_17 : decode cX10_isThing 17 = .ok (.ireturn, 1) := by decide +kernel
theorem dX10_all_0 : decode cX10_all 0 = .ok (.iconst 1, 1) := by decide +kernel
theorem dX10_all_1 : decode cX10_all 1 = .ok (.aload_n 0, 1) := by decide +kernel
theorem dX10_all_2 : decode cX10_all 2 = .ok (.getfield 46, 3) := by decide +kernel
theorem dX10_all_5 : decode cX10_all 5 = .ok (.ishl, 1) := by decide +kernel
theorem dX10_all_6 : decode cX10_all 6 = .ok (.iconst 1, 1) := by decide +kernel
theorem dX10_all_7 : decode cX10_all 7 = .ok (.isub, 1) := by decide +kernel
theorem dX10_all_8 : decode cX10_all 8 = .ok (.ireturn, 1) := by decide +kernel
theorem dX10_letter_0 : decode cX10_letter 0 = .ok (.iload_n 1, 1) := by decide +kernel
theorem dX10_letter_1 : decode cX10_letter 1 = .ok (.iconst 0, 1) := by decide +kernel
theorem dX10_letter_2 : decode cX10_letter 2 = .ok (.sipush 255, 3) := by decide +kernel
theorem dX10_letter_5 : decode cX10_letter 5 = .ok (.invokestatic 56, 3) := by decide +kernel
theorem dX10_letter_8 : decode cX10_letter 8 = .ok (.istore_n 2, 1) := by decide +kernel
theorem dX10_letter_9 : decode cX10_letter 9 = .ok (.iload_n 2, 1) := by decide +kernel
theorem dX10_letter_10 : decode cX10_letter 10 = .ok (.ifCond .ne 15, 3) := by decide +kernel
theorem dX10_letter_13 : decode cX10_letter 13 = .ok (.aload_n 0, 1) := by decide +kernel
theorem dX10_letter_14 : decode cX10_letter 14 = .ok (.getfield 60, 3) := by decide +kernel
theorem dX10_letter_17 : decode cX10_letter 17 = .ok (.bipush 96, 2) := by decide +kernel
theorem dX10_letter_19 : decode cX10_letter 19 = .ok (.if_icmp .ne 6, 3) := by decide +kernel
theorem dX10_letter_22 : decode cX10_letter 22 = .ok (.bipush (-6), 2) := by decide +kernel
theorem dX10_letter_24 : decode cX10_letter 24 = .ok (.istore_n 2, 1) := by decide +kernel
theorem dX10_letter_25 : decode cX10_letter 25 = .ok (.iload_n 2, 1) := by decide +kernel
theorem dX10_letter_26 : decode cX10_letter 26 = .ok (.ifCond .eq 9, 3) := by decide +kernel
theorem dX10_letter_29 : decode cX10_letter 29 = .ok (.aload_n 0, 1) := by decide +kernel
theorem dX10_letter_30 : decode cX10_letter 30 = .ok (.iload_n 2, 1) := by decide +kernel
theorem dX10_letter_31 : decode cX10_letter 31 = .ok (.invokevirtual 63, 3) := by decide +kernel
theorem dX10_letter_34 : decode cX10_letter 34 = .ok (.ireturn, 1) := by decide +kernel
theorem dX10_letter_35 : decode cX10_letter 35 = .ok (.aload_n 0, 1) := by decide +kernel
theorem dX10_letter_36 : decode cX10_letter 36 = .ok (.getfield 22, 3) := by decide +kernel
theorem dX10_letter_39 : decode cX10_letter 39 = .ok (.aload_n 0, 1) := by decide +kernel
theorem dX10_letter_40 : decode cX10_letter 40 = .ok (.getfield 60, 3) := by decide +kernel
theorem dX10_letter_43 : decode cX10_letter 43 = .ok (.iload_n 1, 1) := by decide +kernel
theorem dX10_letter_44 : decode cX10_letter 44 = .ok (.iastore, 1) := by decide +kernel
theorem dX10_letter_45 : decode cX10_letter 45 = .ok (.aload_n 0, 1) := by decide +kernel
theorem dX10_letter_46 : decode cX10_letter 46 = .ok (.dup, 1) := by decide +kernel
theorem dX10_letter_47 : decode cX10_letter 47 = .ok (.getfield 60, 3) := by decide +kernel
theorem dX10_letter_50 : decode cX10_letter 50 = .ok (.iconst 1, 1) := by decide +kernel
theorem dX10_letter_51 : decode cX10_letter 51 = .ok (.iadd, 1) := by decide +kernel
theorem dX10_letter_52 : decode cX10_letter 52 = .ok (.putfield 60, 3) := by decide +kernel
theorem dX10_letter_55 : decode cX10_letter 55 = .ok (.aload_n 0, 1) := by decide +kernel
theorem dX10_letter_56 : decode cX10_letter 56 = .ok (.getfield 60, 3) := by decide +kernel
theorem dX10_letter_59 : decode cX10_letter 59 = .ok (.ireturn, 1) := by decide +kernel
theorem dX10_next_0 : decode cX10_next 0 = .ok (.aload_n 0, 1) := by decide +kernel
theorem dX10_next_1 : decode cX10_next 1 = .ok (.getfield 67, 3) := by decide +kernel
theorem dX10_next_4 : decode cX10_next 4 = .ok (.aload_n 0, 1) := by decide +kernel
theorem dX10_next_5 : decode cX10_next 5 = .ok (.getfield 60, 3) := by decide +kernel
theorem dX10_next_8 : decode cX10_next 8 = .ok (.if_icmp .ge 15, 3) := by decide +kernel
theorem dX10_next_11 : decode cX10_next 11 = .ok (.aload_n 0, 1) := by decide +kernel
theorem dX10_next_12 : decode cX10_next 12 = .ok (.getfield 22, 3) := by decide +kernel
theorem dX10_next_15 : decode cX10_next 15 = .ok (.aload_n 0, 1) := by decide +kernel
theorem dX10_next_16 : decode cX10_next 16 = .ok (.getfield 67, 3) := by decide +kernel
theorem dX10_next_19 : decode cX10_next 19 = .ok (.iaload, 1) := by decide +kernel
theorem dX10_next_20 : decode cX10_next 20 = .ok (.goto 4, 3) := by decide +kernel
theorem dX10_next_23 : decode cX10_next 23 = .ok (.iconst (-1), 1) := by decide +kernel
theorem dX10_next_24 : decode cX10_next 24 = .ok (.ireturn, 1) := by decide +kernel
theorem dX10_readsDigits_0 : decode cX10_readsDigits 0 = .ok (.iconst 0, 1) := by decide +kernel
theorem dX10_readsDigits_1 : decode cX10_readsDigits 1 = .ok (.istore_n 3, 1) := by decide +kernel
theorem dX10_readsDigits_2 : decode cX10_readsDigits 2 = .ok (.iconst 0, 1) := by decide +kernel
theorem dX10_readsDigits_3 : decode cX10_readsDigits 3 = .ok (.istore 4, 2) := by decide +kernel
theorem dX10_readsDigits_5 : decode cX10_readsDigits 5 = .ok (.iload 4, 2) := by decide +kernel
theorem dX10_readsDigits_7 : decode cX10_readsDigits 7 = .ok (.iload_n 2, 1) := by decide +kernel
theorem dX10_readsDigits_8 : decode cX10_readsDigits 8 = .ok (.if_icmp .ge 48, 3) := by decide +kernel
theorem dX10_readsDigits_11 : decode cX10_readsDigits 11 = .ok (.aload_n 0, 1) := by decide +kernel
theorem dX10_readsDigits_12 : decode cX10_readsDigits 12 = .ok (.invokevirtual 70, 3) := by decide +kernel
theorem dX10_readsDigits_15 : decode cX10_readsDigits 15 = .ok (.bipush 48, 2) := by decide +kernel
theorem dX10_readsDigits_17 : decode cX10_readsDigits 17 = .ok (.bipush 57, 2) := by decide +kernel
theorem dX10_readsDigits_19 : decode cX10_readsDigits 19 = .ok (.invokestatic 74, 3) := by decide +kernel
theorem dX10_readsDigits_22 : decode cX10_readsDigits 22 = .ok (.ifCond .ne 5, 3) := by decide +kernel
theorem dX10_readsDigits_25 : decode cX10_readsDigits 25 = .ok (.iconst 0, 1) := by decide +kernel
theorem dX10_readsDigits_26 : decode cX10_readsDigits 26 = .ok (.ireturn, 1) := by decide +kernel
theorem dX10_readsDigits_27 : decode cX10_readsDigits 27 = .ok (.bipush 10, 2) := by decide +kernel
theorem dX10_readsDigits_29 : decode cX10_readsDigits 29 = .ok (.iload_n 3, 1) := by decide +kernel
theorem dX10_readsDigits_30 : decode cX10_readsDigits 30 = .ok (.imul, 1) := by decide +kernel
theorem dX10_readsDigits_31 : decode cX10_readsDigits 31 = .ok (.aload_n 0, 1) := by decide +kernel
theorem dX10_readsDigits_32 : decode cX10_readsDigits 32 = .ok (.invokevirtual 70, 3) := by decide +kernel
theorem dX10_readsDigits_35 : decode cX10_readsDigits 35 = .ok (.iadd, 1) := by decide +kernel
theorem dX10_readsDigits_36 : decode cX10_readsDigits 36 = .ok (.bipush 48, 2) := by decide +kernel
theorem dX10_readsDigits_38 : decode cX10_readsDigits 38 = .ok (.isub, 1) := by decide +kernel
theorem dX10_readsDigits_39 : decode cX10_readsDigits 39 = .ok (.istore_n 3, 1) := by decide +kernel
theorem dX10_readsDigits_40 : decode cX10_readsDigits 40 = .ok (.aload_n 0, 1) := by decide +kernel
theorem dX10_readsDigits_41 : decode cX10_readsDigits 41 = .ok (.dup, 1) := by decide +kernel
theorem dX10_readsDigits_42 : decode cX10_readsDigits 42 = .ok (.getfield 67, 3) := by decide +kernel
theorem dX10_readsDigits_45 : decode cX10_readsDigits 45 = .ok (.iconst 1, 1) := by decide +kernel
theorem dX10_readsDigits_46 : decode cX10_readsDigits 46 = .ok (.iadd, 1) := by decide +kernel
theorem dX10_readsDigits_47 : decode cX10_readsDigits 47 = .ok (.putfield 67, 3) := by decide +kernel
theorem dX10_readsDigits_50 : decode cX10_readsDigits 50 = .ok (.iinc 4 1, 3) := by decide +kernel
theorem dX10_readsDigits_53 : decode cX10_readsDigits 53 = .ok (.goto (-48), 3) := by decide +kernel
theorem dX10_readsDigits_56 : decode cX10_readsDigits 56 = .ok (.aload_n 0, 1) := by decide +kernel
theorem dX10_readsDigits_57 : decode cX10_readsDigits 57 = .ok (.getfield 31, 3) := by decide +kernel
theorem dX10_readsDigits_60 : decode cX10_readsDigits 60 = .ok (.iload_n 1, 1) := by decide +kernel
theorem dX10_readsDigits_61 : decode cX10_readsDigits 61 = .ok (.iload_n 3, 1) := by decide +kernel
theorem dX10_readsDigits_62 : decode cX10_readsDigits 62 = .ok (.iastore, 1) := by decide +kernel
theorem dX10_readsDigits_63 : decode cX10_readsDigits 63 = .ok (.iconst 1, 1) := by decide +kernel
theorem dX10_readsDigits_64 : decode cX10_readsDigits 64 = .ok (.ireturn, 1) := by decide +kernel
theorem dX10_kindOf_0 : decode cX10_kindOf 0 = .ok (.iload_n 0, 1) := by decide +kernel
theorem dX10_kindOf_1 : decode cX10_kindOf 1 = .ok (.bipush 110, 2) := by decide +kernel
theorem dX10_kindOf_3 : decode cX10_kindOf 3 = .ok (.if_icmp .ne 7, 3) := by decide +kernel
theorem dX10_kindOf_6 : decode cX10_kindOf 6 = .ok (.iconst 0, 1) := by decide +kernel
theorem dX10_kindOf_7 : decode cX10_kindOf 7 = .ok (.goto 54, 3) := by decide +kernel
theorem dX10_kindOf_10 : decode cX10_kindOf 10 = .ok (.iload_n 0, 1) := by decide +kernel
theorem dX10_kindOf_11 : decode cX10_kindOf 11 = .ok (.bipush 115, 2) := by decide +kernel
theorem dX10_kindOf_13 : decode cX10_kindOf 13 = .ok (.if_icmp .ne 7, 3) := by decide +kernel
theorem dX10_kindOf_16 : decode cX10_kindOf 16 = .ok (.iconst 1, 1) := by decide +kernel
theorem dX10_kindOf_17 : decode cX10_kindOf 17 = .ok (.goto 44, 3) := by decide +kernel
theorem dX10_kindOf_20 : decode cX10_kindOf 20 = .ok (.iload_n 0, 1) := by decide +kernel
theorem dX10_kindOf_21 : decode cX10_kindOf 21 = .ok (.bipush 104, 2) := by decide +kernel
theorem dX10_kindOf_23 : decode cX10_kindOf 23 = .ok (.if_icmp .ne 7, 3) := by decide +kernel
theorem dX10_kindOf_26 : decode cX10_kindOf 26 = .ok (.iconst 2, 1) := by decide +kernel
theorem dX10_kindOf_27 : decode cX10_kindOf 27 = .ok (.goto 34, 3) := by decide +kernel
theorem dX10_kindOf_30 : decode cX10_kindOf 30 = .ok (.iload_n 0, 1) := by decide +kernel
theorem dX10_kindOf_31 : decode cX10_kindOf 31 = .ok (.bipush 98, 2) := by decide +kernel
theorem dX10_kindOf_33 : decode cX10_kindOf 33 = .ok (.if_icmp .ne 7, 3) := by decide +kernel
theorem dX10_kindOf_36 : decode cX10_kindOf 36 = .ok (.iconst 3, 1) := by decide +kernel
theorem dX10_kindOf_37 : decode cX10_kindOf 37 = .ok (.goto 24, 3) := by decide +kernel
theorem dX10_kindOf_40 : decode cX10_kindOf 40 = .ok (.iload_n 0, 1) := by decide +kernel
theorem dX10_kindOf_41 : decode cX10_kindOf 41 = .ok (.bipush 107, 2) := by decide +kernel
theorem dX10_kindOf_43 : decode cX10_kindOf 43 = .ok (.if_icmp .ne 7, 3) := by decide +kernel
theorem dX10_kindOf_46 : decode cX10_kindOf 46 = .ok (.iconst 4, 1) := by decide +kernel
theorem dX10_kindOf_47 : decode cX10_kindOf 47 = .ok (.goto 14, 3) := by decide +kernel
theorem dX10_kindOf_50 : decode cX10_kindOf 50 = .ok (.iload_n 0, 1) := by decide +kernel
theorem dX10_kindOf_51 : decode cX10_kindOf 51 = .ok (.bipush 119, 2) := by decide +kernel
theorem dX10_kindOf_53 : decode cX10_kindOf 53 = .ok (.if_icmp .ne 7, 3) := by decide +kernel
theorem dX10_kindOf_56 : decode cX10_kindOf 56 = .ok (.iconst 5, 1) := by decide +kernel
theorem dX10_kindOf_57 : decode cX10_kindOf 57 = .ok (.goto 4, 3) := by decide +kernel
theorem dX10_kindOf_60 : decode cX10_kindOf 60 = .ok (.iconst (-1), 1) := by decide +kernel
theorem dX10_kindOf_61 : decode cX10_kindOf 61 = .ok (.ireturn, 1) := by decide +kernel
theorem dX10_readsThing_0 : decode cX10_readsThing 0 = .ok (.aload_n 0, 1) := by decide +kernel
theorem dX10_readsThing_1 : decode cX10_readsThing 1 = .ok (.getfield 31, 3) := by decide +kernel
theorem dX10_readsThing_4 : decode cX10_readsThing 4 = .ok (.iload_n 1, 1) := by decide +kernel
theorem dX10_readsThing_5 : decode cX10_readsThing 5 = .ok (.aload_n 0, 1) := by decide +kernel
theorem dX10_readsThing_6 : decode cX10_readsThing 6 = .ok (.invokevirtual 70, 3) := by decide +kernel
theorem dX10_readsThing_9 : decode cX10_readsThing 9 = .ok (.invokestatic 78, 3) := by decide +kernel
theorem dX10_readsThing_12 : decode cX10_readsThing 12 = .ok (.iastore, 1) := by decide +kernel
theorem dX10_readsThing_13 : decode cX10_readsThing 13 = .ok (.aload_n 0, 1) := by decide +kernel
theorem dX10_readsThing_14 : decode cX10_readsThing 14 = .ok (.getfield 31, 3) := by decide +kernel
theorem dX10_readsThing_17 : decode cX10_readsThing 17 = .ok (.iload_n 1, 1) := by decide +kernel
theorem dX10_readsThing_18 : decode cX10_readsThing 18 = .ok (.iaload, 1) := by decide +kernel
theorem dX10_readsThing_19 : decode cX10_readsThing 19 = .ok (.ifCond .ge 5, 3) := by decide +kernel
theorem dX10_readsThing_22 : decode cX10_readsThing 22 = .ok (.iconst 0, 1) := by decide +kernel
theorem dX10_readsThing_23 : decode cX10_readsThing 23 = .ok (.ireturn, 1) := by decide +kernel
theorem dX10_readsThing_24 : decode cX10_readsThing 24 = .ok (.aload_n 0, 1) := by decide +kernel
theorem dX10_readsThing_25 : decode cX10_readsThing 25 = .ok (.dup, 1) := by decide +kernel
theorem dX10_readsThing_26 : decode cX10_readsThing 26 = .ok (.getfield 67, 3) := by decide +kernel
theorem dX10_readsThing_29 : decode cX10_readsThing 29 = .ok (.iconst 1, 1) := by decide +kernel
theorem dX10_readsThing_30 : decode cX10_readsThing 30 = .ok (.iadd, 1) := by decide +kernel
theorem dX10_readsThing_31 : decode cX10_readsThing 31 = .ok (.putfield 67, 3) := by decide +kernel
theorem dX10_readsThing_34 : decode cX10_readsThing 34 = .ok (.aload_n 0, 1) := by decide +kernel
theorem dX10_readsThing_35 : decode cX10_readsThing 35 = .ok (.iload_n 1, 1) := by decide +kernel
theorem dX10_readsThing_36 : decode cX10_readsThing 36 = .ok (.iconst 1, 1) := by decide +kernel
theorem dX10_readsThing_37 : decode cX10_readsThing 37 = .ok (.iadd, 1) := by decide +kernel
theorem dX10_readsThing_38 : decode cX10_readsThing 38 = .ok (.iconst 1, 1) := by decide +kernel
theorem dX10_readsThing_39 : decode cX10_readsThing 39 = .ok (.invokevirtual 81, 3) := by decide +kernel
theorem dX10_readsThing_42 : decode cX10_readsThing 42 = .ok (.ireturn, 1) := by decide +kernel
theorem dX10_readsAll_0 : decode cX10_readsAll 0 = .ok (.iload_n 1, 1) := by decide +kernel
theorem dX10_readsAll_1 : decode cX10_readsAll 1 = .ok (.lookupswitch 74 #[(99, 41), (100, 67), (116, 35)], 35) := by decide +kernel
theorem dX10_readsAll_36 : decode cX10_readsAll 36 = .ok (.aload_n 0, 1) := by decide +kernel
theorem dX10_readsAll_37 : decode cX10_readsAll 37 = .ok (.iload_n 2, 1) := by decide +kernel
theorem dX10_readsAll_38 : decode cX10_readsAll 38 = .ok (.invokevirtual 84, 3) := by decide +kernel
theorem dX10_readsAll_41 : decode cX10_readsAll 41 = .ok (.ireturn, 1) := by decide +kernel
theorem dX10_readsAll_42 : decode cX10_readsAll 42 = .ok (.aload_n 0, 1) := by decide +kernel
theorem dX10_readsAll_43 : decode cX10_readsAll 43 = .ok (.iload_n 2, 1) := by decide +kernel
theorem dX10_readsAll_44 : decode cX10_readsAll 44 = .ok (.iconst 1, 1) := by decide +kernel
theorem dX10_readsAll_45 : decode cX10_readsAll 45 = .ok (.invokevirtual 81, 3) := by decide +kernel
theorem dX10_readsAll_48 : decode cX10_readsAll 48 = .ok (.ifCond .eq 18, 3) := by decide +kernel
theorem dX10_readsAll_51 : decode cX10_readsAll 51 = .ok (.aload_n 0, 1) := by decide +kernel
theorem dX10_readsAll_52 : decode cX10_readsAll 52 = .ok (.iload_n 2, 1) := by decide +kernel
theorem dX10_readsAll_53 : decode cX10_readsAll 53 = .ok (.iconst 1, 1) := by decide +kernel
theorem dX10_readsAll_54 : decode cX10_readsAll 54 = .ok (.iadd, 1) := by decide +kernel
theorem dX10_readsAll_55 : decode cX10_readsAll 55 = .ok (.iconst 1, 1) := by decide +kernel
theorem dX10_readsAll_56 : decode cX10_readsAll 56 = .ok (.invokevirtual 81, 3) := by decide +kernel
theorem dX10_readsAll_59 : decode cX10_readsAll 59 = .ok (.ifCond .eq 7, 3) := by decide +kernel
theorem dX10_readsAll_62 : decode cX10_readsAll 62 = .ok (.iconst 1, 1) := by decide +kernel
theorem dX10_readsAll_63 : decode cX10_readsAll 63 = .ok (.goto 4, 3) := by decide +kernel
theorem dX10_readsAll_66 : decode cX10_readsAll 66 = .ok (.iconst 0, 1) := by decide +kernel
theorem dX10_readsAll_67 : decode cX10_readsAll 67 = .ok (.ireturn, 1) := by decide +kernel
theorem dX10_readsAll_68 : decode cX10_readsAll 68 = .ok (.aload_n 0, 1) := by decide +kernel
theorem dX10_readsAll_69 : decode cX10_readsAll 69 = .ok (.iload_n 2, 1) := by decide +kernel
theorem dX10_readsAll_70 : decode cX10_readsAll 70 = .ok (.iconst 2, 1) := by decide +kernel
theorem dX10_readsAll_71 : decode cX10_readsAll 71 = .ok (.invokevirtual 81, 3) := by decide +kernel
theorem dX10_readsAll_74 : decode cX10_readsAll 74 = .ok (.ireturn, 1) := by decide +kernel
theorem dX10_readsAll_75 : decode cX10_readsAll 75 = .ok (.aload_n 0, 1) := by decide +kernel
theorem dX10_readsAll_76 : decode cX10_readsAll 76 = .ok (.iload_n 2, 1) := by decide +kernel
theorem dX10_readsAll_77 : decode cX10_readsAll 77 = .ok (.iconst 1, 1) := by decide +kernel
theorem dX10_readsAll_78 : decode cX10_readsAll 78 = .ok (.invokevirtual 81, 3) := by decide +kernel
theorem dX10_readsAll_81 : decode cX10_readsAll 81 = .ok (.ireturn, 1) := by decide +kernel
theorem dX10_statement_0 : decode cX10_statement 0 = .ok (.aload_n 0, 1) := by decide +kernel
theorem dX10_statement_1 : decode cX10_statement 1 = .ok (.invokevirtual 70, 3) := by decide +kernel
theorem dX10_statement_4 : decode cX10_statement 4 = .ok (.istore_n 1, 1) := by decide +kernel
theorem dX10_statement_5 : decode cX10_statement 5 = .ok (.iload_n 1, 1) := by decide +kernel
theorem dX10_statement_6 : decode cX10_statement 6 = .ok (.bipush 116, 2) := by decide +kernel
theorem dX10_statement_8 : decode cX10_statement 8 = .ok (.if_icmp .eq 35, 3) := by decide +kernel
theorem dX10_statement_11 : decode cX10_statement 11 = .ok (.iload_n 1, 1) := by decide +kernel
theorem dX10_statement_12 : decode cX10_statement 12 = .ok (.bipush 99, 2) := by decide +kernel
theorem dX10_statement_14 : decode cX10_statement 14 = .ok (.if_icmp .eq 29, 3) := by decide +kernel
theorem dX10_statement_17 : decode cX10_statement 17 = .ok (.iload_n 1, 1) := by decide +kernel
theorem dX10_statement_18 : decode cX10_statement 18 = .ok (.bipush 108, 2) := by decide +kernel
theorem dX10_statement_20 : decode cX10_statement 20 = .ok (.if_icmp .eq 23, 3) := by decide +kernel
theorem dX10_statement_23 : decode cX10_statement 23 = .ok (.iload_n 1, 1) := by decide +kernel
theorem dX10_statement_24 : decode cX10_statement 24 = .ok (.bipush 109, 2) := by decide +kernel
theorem dX10_statement_26 : decode cX10_statement 26 = .ok (.if_icmp .eq 17, 3) := by decide +kernel
theorem dX10_statement_29 : decode cX10_statement 29 = .ok (.iload_n 1, 1) := by decide +kernel
theorem dX10_statement_30 : decode cX10_statement 30 = .ok (.bipush 103, 2) := by decide +kernel
theorem dX10_statement_32 : decode cX10_statement 32 = .ok (.if_icmp .eq 11, 3) := by decide +kernel
theorem dX10_statement_35 : decode cX10_statement 35 = .ok (.iload_n 1, 1) := by decide +kernel
theorem dX10_statement_36 : decode cX10_statement 36 = .ok (.bipush 100, 2) := by decide +kernel
theorem dX10_statement_38 : decode cX10_statement 38 = .ok (.if_icmp .eq 5, 3) := by decide +kernel
theorem dX10_statement_41 : decode cX10_statement 41 = .ok (.iconst 0, 1) := by decide +kernel
theorem dX10_statement_42 : decode cX10_statement 42 = .ok (.ireturn, 1) := by decide +kernel
theorem dX10_statement_43 : decode cX10_statement 43 = .ok (.aload_n 0, 1) := by decide +kernel
theorem dX10_statement_44 : decode cX10_statement 44 = .ok (.getfield 25, 3) := by decide +kernel
theorem dX10_statement_47 : decode cX10_statement 47 = .ok (.aload_n 0, 1) := by decide +kernel
theorem dX10_statement_48 : decode cX10_statement 48 = .ok (.getfield 88, 3) := by decide +kernel
theorem dX10_statement_51 : decode cX10_statement 51 = .ok (.iload_n 1, 1) := by decide +kernel
theorem dX10_statement_52 : decode cX10_statement 52 = .ok (.iastore, 1) := by decide +kernel
theorem dX10_statement_53 : decode cX10_statement 53 = .ok (.aload_n 0, 1) := by decide +kernel
theorem dX10_statement_54 : decode cX10_statement 54 = .ok (.getfield 28, 3) := by decide +kernel
theorem dX10_statement_57 : decode cX10_statement 57 = .ok (.aload_n 0, 1) := by decide +kernel
theorem dX10_statement_58 : decode cX10_statement 58 = .ok (.getfield 88, 3) := by decide +kernel
theorem dX10_statement_61 : decode cX10_statement 61 = .ok (.aload_n 0, 1) := by decide +kernel
theorem dX10_statement_62 : decode cX10_statement 62 = .ok (.getfield 67, 3) := by decide +kernel
theorem dX10_statement_65 : decode cX10_statement 65 = .ok (.iastore, 1) := by decide +kernel
theorem dX10_statement_66 : decode cX10_statement 66 = .ok (.aload_n 0, 1) := by decide +kernel
theorem dX10_statement_67 : decode cX10_statement 67 = .ok (.dup, 1) := by decide +kernel
theorem dX10_statement_68 : decode cX10_statement 68 = .ok (.getfield 67, 3) := by decide +kernel
theorem dX10_statement_71 : decode cX10_statement 71 = .ok (.iconst 1, 1) := by decide +kernel
theorem dX10_statement_72 : decode cX10_statement 72 = .ok (.iadd, 1) := by decide +kernel
theorem dX10_statement_73 : decode cX10_statement 73 = .ok (.putfield 67, 3) := by decide +kernel
theorem dX10_statement_76 : decode cX10_statement 76 = .ok (.aload_n 0, 1) := by decide +kernel
theorem dX10_statement_77 : decode cX10_statement 77 = .ok (.iload_n 1, 1) := by decide +kernel
theorem dX10_statement_78 : decode cX10_statement 78 = .ok (.iconst 2, 1) := by decide +kernel
theorem dX10_statement_79 : decode cX10_statement 79 = .ok (.aload_n 0, 1) := by decide +kernel
theorem dX10_statement_80 : decode cX10_statement 80 = .ok (.getfield 88, 3) := by decide +kernel
theorem dX10_statement_83 : decode cX10_statement 83 = .ok (.imul, 1) := by decide +kernel
theorem dX10_statement_84 : decode cX10_statement 84 = .ok (.invokevirtual 91, 3) := by decide +kernel
theorem dX10_statement_87 : decode cX10_statement 87 = .ok (.ifCond .eq 12, 3) := by decide +kernel
theorem dX10_statement_90 : decode cX10_statement 90 = .ok (.aload_n 0, 1) := by decide +kernel
theorem dX10_statement_91 : decode cX10_statement 91 = .ok (.invokevirtual 70, 3) := by decide +kernel
theorem dX10_statement_94 : decode cX10_statement 94 = .ok (.bipush 59, 2) := by decide +kernel
theorem dX10_statement_96 : decode cX10_statement 96 = .ok (.if_icmp .eq 5, 3) := by decide +kernel
theorem dX10_statement_99 : decode cX10_statement 99 = .ok (.iconst 0, 1) := by decide +kernel
theorem dX10_statement_100 : decode cX10_statement 100 = .ok (.ireturn, 1) := by decide +kernel
theorem dX10_statement_101 : decode cX10_statement 101 = .ok (.aload_n 0, 1) := by decide +kernel
theorem dX10_statement_102 : decode cX10_statement 102 = .ok (.dup, 1) := by decide +kernel
theorem dX10_statement_103 : decode cX10_statement 103 = .ok (.getfield 67, 3) := by decide +kernel
theorem dX10_statement_106 : decode cX10_statement 106 = .ok (.iconst 1, 1) := by decide +kernel
theorem dX10_statement_107 : decode cX10_statement 107 = .ok (.iadd, 1) := by decide +kernel
theorem dX10_statement_108 : decode cX10_statement 108 = .ok (.putfield 67, 3) := by decide +kernel
theorem dX10_statement_111 : decode cX10_statement 111 = .ok (.iconst 1, 1) := by decide +kernel
theorem dX10_statement_112 : decode cX10_statement 112 = .ok (.ireturn, 1) := by decide +kernel
theorem dX10_comesThing_0 : decode cX10_comesThing 0 = .ok (.aload_n 0, 1) := by decide +kernel
theorem dX10_comesThing_1 : decode cX10_comesThing 1 = .ok (.getfield 46, 3) := by decide +kernel
theorem dX10_comesThing_4 : decode cX10_comesThing 4 = .ok (.bipush 9, 2) := by decide +kernel
theorem dX10_comesThing_6 : decode cX10_comesThing 6 = .ok (.if_icmp .ne 5, 3) := by decide +kernel
theorem dX10_comesThing_9 : decode cX10_comesThing 9 = .ok (.iconst 0, 1) := by decide +kernel
theorem dX10_comesThing_10 : decode cX10_comesThing 10 = .ok (.ireturn, 1) := by decide +kernel
theorem dX10_comesThing_11 : decode cX10_comesThing 11 = .ok (.aload_n 0, 1) := by decide +kernel
theorem dX10_comesThing_12 : decode cX10_comesThing 12 = .ok (.getfield 13, 3) := by decide +kernel
theorem dX10_comesThing_15 : decode cX10_comesThing 15 = .ok (.aload_n 0, 1) := by decide +kernel
theorem dX10_comesThing_16 : decode cX10_comesThing 16 = .ok (.getfield 46, 3) := by decide +kernel
theorem dX10_comesThing_19 : decode cX10_comesThing 19 = .ok (.iload_n 1, 1) := by decide +kernel
theorem dX10_comesThing_20 : decode cX10_comesThing 20 = .ok (.iastore, 1) := by decide +kernel
theorem dX10_comesThing_21 : decode cX10_comesThing 21 = .ok (.aload_n 0, 1) := by decide +kernel
theorem dX10_comesThing_22 : decode cX10_comesThing 22 = .ok (.getfield 16, 3) := by decide +kernel
theorem dX10_comesThing_25 : decode cX10_comesThing 25 = .ok (.aload_n 0, 1) := by decide +kernel
theorem dX10_comesThing_26 : decode cX10_comesThing 26 = .ok (.getfield 46, 3) := by decide +kernel
theorem dX10_comesThing_29 : decode cX10_comesThing 29 = .ok (.iload_n 2, 1) := by decide +kernel
theorem dX10_comesThing_30 : decode cX10_comesThing 30 = .ok (.iastore, 1) := by decide +kernel
theorem dX10_comesThing_31 : decode cX10_comesThing 31 = .ok (.aload_n 0, 1) := by decide +kernel
theorem dX10_comesThing_32 : decode cX10_comesThing 32 = .ok (.getfield 19, 3) := by decide +kernel
theorem dX10_comesThing_35 : decode cX10_comesThing 35 = .ok (.aload_n 0, 1) := by decide +kernel
theorem dX10_comesThing_36 : decode cX10_comesThing 36 = .ok (.getfield 46, 3) := by decide +kernel
theorem dX10_comesThing_39 : decode cX10_comesThing 39 = .ok (.iconst 0, 1) := by decide +kernel
theorem dX10_comesThing_40 : decode cX10_comesThing 40 = .ok (.iastore, 1) := by decide +kernel
theorem dX10_comesThing_41 : decode cX10_comesThing 41 = .ok (.aload_n 0, 1) := by decide +kernel
theorem dX10_comesThing_42 : decode cX10_comesThing 42 = .ok (.dup, 1) := by decide +kernel
theorem dX10_comesThing_43 : decode cX10_comesThing 43 = .ok (.getfield 94, 3) := by decide +kernel
theorem dX10_comesThing_46 : decode cX10_comesThing 46 = .ok (.iconst 1, 1) := by decide +kernel
theorem dX10_comesThing_47 : decode cX10_comesThing 47 = .ok (.aload_n 0, 1) := by decide +kernel
theorem dX10_comesThing_48 : decode cX10_comesThing 48 = .ok (.getfield 46, 3) := by decide +kernel
theorem dX10_comesThing_51 : decode cX10_comesThing 51 = .ok (.ishl, 1) := by decide +kernel
theorem dX10_comesThing_52 : decode cX10_comesThing 52 = .ok (.iconst (-1), 1) := by decide +kernel
theorem dX10_comesThing_53 : decode cX10_comesThing 53 = .ok (.ixor, 1) := by decide +kernel
theorem dX10_comesThing_54 : decode cX10_comesThing 54 = .ok (.iand, 1) := by decide +kernel
theorem dX10_comesThing_55 : decode cX10_comesThing 55 = .ok (.putfield 94, 3) := by decide +kernel
theorem dX10_comesThing_58 : decode cX10_comesThing 58 = .ok (.aload_n 0, 1) := by decide +kernel
theorem dX10_comesThing_59 : decode cX10_comesThing 59 = .ok (.dup, 1) := by decide +kernel
theorem dX10_comesThing_60 : decode cX10_comesThing 60 = .ok (.getfield 97, 3) := by decide +kernel
theorem dX10_comesThing_63 : decode cX10_comesThing 63 = .ok (.iconst 1, 1) := by decide +kernel
theorem dX10_comesThing_64 : decode cX10_comesThing 64 = .ok (.aload_n 0, 1) := by decide +kernel
theorem dX10_comesThing_65 : decode cX10_comesThing 65 = .ok (.getfield 46, 3) := by decide +kernel
theorem dX10_comesThing_68 : decode cX10_comesThing 68 = .ok (.ishl, 1) := by decide +kernel
theorem dX10_comesThing_69 : decode cX10_comesThing 69 = .ok (.iconst (-1), 1) := by decide +kernel
theorem dX10_comesThing_70 : decode cX10_comesThing 70 = .ok (.ixor, 1) := by decide +kernel
theorem dX10_comesThing_71 : decode cX10_comesThing 71 = .ok (.iand, 1) := by decide +kernel
theorem dX10_comesThing_72 : decode cX10_comesThing 72 = .ok (.putfield 97, 3) := by decide +kernel
theorem dX10_comesThing_75 : decode cX10_comesThing 75 = .ok (.aload_n 0, 1) := by decide +kernel
theorem dX10_comesThing_76 : decode cX10_comesThing 76 = .ok (.dup, 1) := by decide +kernel
theorem dX10_comesThing_77 : decode cX10_comesThing 77 = .ok (.getfield 46, 3) := by decide +kernel
theorem dX10_comesThing_80 : decode cX10_comesThing 80 = .ok (.iconst 1, 1) := by decide +kernel
theorem dX10_comesThing_81 : decode cX10_comesThing 81 = .ok (.iadd, 1) := by decide +kernel
theorem dX10_comesThing_82 : decode cX10_comesThing 82 = .ok (.putfield 46, 3) := by decide +kernel
theorem dX10_comesThing_85 : decode cX10_comesThing 85 = .ok (.iconst 1, 1) := by decide +kernel
theorem dX10_comesThing_86 : decode cX10_comesThing 86 = .ok (.ireturn, 1) := by decide +kernel
theorem dX10_comesCause_0 : decode cX10_comesCause 0 = .ok (.aload_n 0, 1) := by decide +kernel
theorem dX10_comesCause_1 : decode cX10_comesCause 1 = .ok (.iload_n 1, 1) := by decide +kernel
theorem dX10_comesCause_2 : decode cX10_comesCause 2 = .ok (.invokevirtual 100, 3) := by decide +kernel
theorem dX10_comesCause_5 : decode cX10_comesCause 5 = .ok (.ifCond .eq 8, 3) := by decide +kernel
theorem dX10_comesCause_8 : decode cX10_comesCause 8 = .ok (.iload_n 2, 1) := by decide +kernel
theorem dX10_comesCause_9 : decode cX10_comesCause 9 = .ok (.iload_n 1, 1) := by decide +kernel
theorem dX10_comesCause_10 : decode cX10_comesCause 10 = .ok (.if_icmp .lt 5, 3) := by decide +kernel
theorem dX10_comesCause_13 : decode cX10_comesCause 13 = .ok (.iconst 0, 1) := by decide +kernel
theorem dX10_comesCause_14 : decode cX10_comesCause 14 = .ok (.ireturn, 1) := by decide +kernel
theorem dX10_comesCause_15 : decode cX10_comesCause 15 = .ok (.aload_n 0, 1) := by decide +kernel
theorem dX10_comesCause_16 : decode cX10_comesCause 16 = .ok (.getfield 19, 3) := by decide +kernel
theorem dX10_comesCause_19 : decode cX10_comesCause 19 = .ok (.iload_n 1, 1) := by decide +kernel
theorem dX10_comesCause_20 : decode cX10_comesCause 20 = .ok (.dup2, 1) := by decide +kernel
theorem dX10_comesCause_21 : decode cX10_comesCause 21 = .ok (.iaload, 1) := by decide +kernel
theorem dX10_comesCause_22 : decode cX10_comesCause 22 = .ok (.iconst 1, 1) := by decide +kernel
theorem dX10_comesCause_23 : decode cX10_comesCause 23 = .ok (.iload_n 2, 1) := by decide +kernel
theorem dX10_comesCause_24 : decode cX10_comesCause 24 = .ok (.ishl, 1) := by decide +kernel
theorem dX10_comesCause_25 : decode cX10_comesCause 25 = .ok (.ixor, 1) := by decide +kernel
theorem dX10_comesCause_26 : decode cX10_comesCause 26 = .ok (.iastore, 1) := by decide +kernel
theorem dX10_comesCause_27 : decode cX10_comesCause 27 = .ok (.iconst 1, 1) := by decide +kernel
theorem dX10_comesCause_28 : decode cX10_comesCause 28 = .ok (.ireturn, 1) := by decide +kernel
theorem dX10_comesOf_0 : decode cX10_comesOf 0 = .ok (.aload_n 0, 1) := by decide +kernel
theorem dX10_comesOf_1 : decode cX10_comesOf 1 = .ok (.iload_n 2, 1) := by decide +kernel
theorem dX10_comesOf_2 : decode cX10_comesOf 2 = .ok (.invokevirtual 100, 3) := by decide +kernel
theorem dX10_comesOf_5 : decode cX10_comesOf 5 = .ok (.ifCond .eq 20, 3) := by decide +kernel
theorem dX10_comesOf_8 : decode cX10_comesOf 8 = .ok (.iload_n 1, 1) := by decide +kernel
theorem dX10_comesOf_9 : decode cX10_comesOf 9 = .ok (.bipush 108, 2) := by decide +kernel
theorem dX10_comesOf_11 : decode cX10_comesOf 11 = .ok (.if_icmp .ne 16, 3) := by decide +kernel
theorem dX10_comesOf_14 : decode cX10_comesOf 14 = .ok (.aload_n 0, 1) := by decide +kernel
theorem dX10_comesOf_15 : decode cX10_comesOf 15 = .ok (.getfield 97, 3) := by decide +kernel
theorem dX10_comesOf_18 : decode cX10_comesOf 18 = .ok (.iload_n 2, 1) := by decide +kernel
theorem dX10_comesOf_19 : decode cX10_comesOf 19 = .ok (.invokestatic 52, 3) := by decide +kernel
theorem dX10_comesOf_22 : decode cX10_comesOf 22 = .ok (.ifCond .eq 5, 3) := by decide +kernel
theorem dX10_comesOf_25 : decode cX10_comesOf 25 = .ok (.iconst 0, 1) := by decide +kernel
theorem dX10_comesOf_26 : decode cX10_comesOf 26 = .ok (.ireturn, 1) := by decide +kernel
theorem dX10_comesOf_27 : decode cX10_comesOf 27 = .ok (.iload_n 1, 1) := by decide +kernel
theorem dX10_comesOf_28 : decode cX10_comesOf 28 = .ok (.bipush 108, 2) := by decide +kernel
theorem dX10_comesOf_30 : decode cX10_comesOf 30 = .ok (.if_icmp .ne 18, 3) := by decide +kernel
theorem dX10_comesOf_33 : decode cX10_comesOf 33 = .ok (.aload_n 0, 1) := by decide +kernel
theorem dX10_comesOf_34 : decode cX10_comesOf 34 = .ok (.dup, 1) := by decide +kernel
theorem dX10_comesOf_35 : decode cX10_comesOf 35 = .ok (.getfield 94, 3) := by decide +kernel
theorem dX10_comesOf_38 : decode cX10_comesOf 38 = .ok (.iconst 1, 1) := by decide +kernel
theorem dX10_comesOf_39 : decode cX10_comesOf 39 = .ok (.iload_n 2, 1) := by decide +kernel
theorem dX10_comesOf_40 : decode cX10_comesOf 40 = .ok (.ishl, 1) := by decide +kernel
theorem dX10_comesOf_41 : decode cX10_comesOf 41 = .ok (.ior, 1) := by decide +kernel
theorem dX10_comesOf_42 : decode cX10_comesOf 42 = .ok (.putfield 94, 3) := by decide +kernel
theorem dX10_comesOf_45 : decode cX10_comesOf 45 = .ok (.goto 38, 3) := by decide +kernel
theorem dX10_comesOf_48 : decode cX10_comesOf 48 = .ok (.iload_n 1, 1) := by decide +kernel
theorem dX10_comesOf_49 : decode cX10_comesOf 49 = .ok (.bipush 109, 2) := by decide +kernel
theorem dX10_comesOf_51 : decode cX10_comesOf 51 = .ok (.if_icmp .ne 20, 3) := by decide +kernel
theorem dX10_comesOf_54 : decode cX10_comesOf 54 = .ok (.aload_n 0, 1) := by decide +kernel
theorem dX10_comesOf_55 : decode cX10_comesOf 55 = .ok (.dup, 1) := by decide +kernel
theorem dX10_comesOf_56 : decode cX10_comesOf 56 = .ok (.getfield 94, 3) := by decide +kernel
theorem dX10_comesOf_59 : decode cX10_comesOf 59 = .ok (.iconst 1, 1) := by decide +kernel
theorem dX10_comesOf_60 : decode cX10_comesOf 60 = .ok (.iload_n 2, 1) := by decide +kernel
theorem dX10_comesOf_61 : decode cX10_comesOf 61 = .ok (.ishl, 1) := by decide +kernel
theorem dX10_comesOf_62 : decode cX10_comesOf 62 = .ok (.iconst (-1), 1) := by decide +kernel
theorem dX10_comesOf_63 : decode cX10_comesOf 63 = .ok (.ixor, 1) := by decide +kernel
theorem dX10_comesOf_64 : decode cX10_comesOf 64 = .ok (.iand, 1) := by decide +kernel
theorem dX10_comesOf_65 : decode cX10_comesOf 65 = .ok (.putfield 94, 3) := by decide +kernel
theorem dX10_comesOf_68 : decode cX10_comesOf 68 = .ok (.goto 15, 3) := by decide +kernel
theorem dX10_comesOf_71 : decode cX10_comesOf 71 = .ok (.aload_n 0, 1) := by decide +kernel
theorem dX10_comesOf_72 : decode cX10_comesOf 72 = .ok (.dup, 1) := by decide +kernel
theorem dX10_comesOf_73 : decode cX10_comesOf 73 = .ok (.getfield 97, 3) := by decide +kernel
theorem dX10_comesOf_76 : decode cX10_comesOf 76 = .ok (.iconst 1, 1) := by decide +kernel
theorem dX10_comesOf_77 : decode cX10_comesOf 77 = .ok (.iload_n 2, 1) := by decide +kernel
theorem dX10_comesOf_78 : decode cX10_comesOf 78 = .ok (.ishl, 1) := by decide +kernel
theorem dX10_comesOf_79 : decode cX10_comesOf 79 = .ok (.ixor, 1) := by decide +kernel
theorem dX10_comesOf_80 : decode cX10_comesOf 80 = .ok (.putfield 97, 3) := by decide +kernel
theorem dX10_comesOf_83 : decode cX10_comesOf 83 = .ok (.iconst 1, 1) := by decide +kernel
theorem dX10_comesOf_84 : decode cX10_comesOf 84 = .ok (.ireturn, 1) := by decide +kernel
theorem dX10_comesDays_0 : decode cX10_comesDays 0 = .ok (.iload_n 1, 1) := by decide +kernel
theorem dX10_comesDays_1 : decode cX10_comesDays 1 = .ok (.iconst 1, 1) := by decide +kernel
theorem dX10_comesDays_2 : decode cX10_comesDays 2 = .ok (.bipush 60, 2) := by decide +kernel
theorem dX10_comesDays_4 : decode cX10_comesDays 4 = .ok (.invokestatic 74, 3) := by decide +kernel
theorem dX10_comesDays_7 : decode cX10_comesDays 7 = .ok (.ifCond .eq 15, 3) := by decide +kernel
theorem dX10_comesDays_10 : decode cX10_comesDays 10 = .ok (.aload_n 0, 1) := by decide +kernel
theorem dX10_comesDays_11 : decode cX10_comesDays 11 = .ok (.getfield 103, 3) := by decide +kernel
theorem dX10_comesDays_14 : decode cX10_comesDays 14 = .ok (.iload_n 1, 1) := by decide +kernel
theorem dX10_comesDays_15 : decode cX10_comesDays 15 = .ok (.iadd, 1) := by decide +kernel
theorem dX10_comesDays_16 : decode cX10_comesDays 16 = .ok (.sipush 999, 3) := by decide +kernel
theorem dX10_comesDays_19 : decode cX10_comesDays 19 = .ok (.if_icmp .le 5, 3) := by decide +kernel
theorem dX10_comesDays_22 : decode cX10_comesDays 22 = .ok (.iconst 0, 1) := by decide +kernel
