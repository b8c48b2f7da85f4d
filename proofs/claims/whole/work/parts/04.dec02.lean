theorem dX8_faultOfForm_81 : decode cX8_faultOfForm 81 = .ok (.ifCond .ne 9, 3) := by decide +kernel
theorem dX8_faultOfForm_84 : decode cX8_faultOfForm 84 = .ok (.sipush (-1000), 3) := by decide +kernel
theorem dX8_faultOfForm_87 : decode cX8_faultOfForm 87 = .ok (.goto 4, 3) := by decide +kernel
theorem dX8_faultOfForm_90 : decode cX8_faultOfForm 90 = .ok (.iconst 0, 1) := by decide +kernel
theorem dX8_faultOfForm_91 : decode cX8_faultOfForm 91 = .ok (.ireturn, 1) := by decide +kernel
theorem dX8_goesOn_0 : decode cX8_goesOn 0 = .ok (.iload_n 1, 1) := by decide +kernel
theorem dX8_goesOn_1 : decode cX8_goesOn 1 = .ok (.iload_n 2, 1) := by decide +kernel
theorem dX8_goesOn_2 : decode cX8_goesOn 2 = .ok (.iconst 1, 1) := by decide +kernel
theorem dX8_goesOn_3 : decode cX8_goesOn 3 = .ok (.isub, 1) := by decide +kernel
theorem dX8_goesOn_4 : decode cX8_goesOn 4 = .ok (.if_icmp .ne 15, 3) := by decide +kernel
theorem dX8_goesOn_7 : decode cX8_goesOn 7 = .ok (.iload_n 3, 1) := by decide +kernel
theorem dX8_goesOn_8 : decode cX8_goesOn 8 = .ok (.bipush 59, 2) := by decide +kernel
theorem dX8_goesOn_10 : decode cX8_goesOn 10 = .ok (.if_icmp .ne 7, 3) := by decide +kernel
theorem dX8_goesOn_13 : decode cX8_goesOn 13 = .ok (.iconst 1, 1) := by decide +kernel
theorem dX8_goesOn_14 : decode cX8_goesOn 14 = .ok (.goto 4, 3) := by decide +kernel
theorem dX8_goesOn_17 : decode cX8_goesOn 17 = .ok (.iconst 0, 1) := by decide +kernel
theorem dX8_goesOn_18 : decode cX8_goesOn 18 = .ok (.ireturn, 1) := by decide +kernel
theorem dX8_goesOn_19 : decode cX8_goesOn 19 = .ok (.iload_n 0, 1) := by decide +kernel
theorem dX8_goesOn_20 : decode cX8_goesOn 20 = .ok (.bipush 116, 2) := by decide +kernel
theorem dX8_goesOn_22 : decode cX8_goesOn 22 = .ok (.if_icmp .ne 21, 3) := by decide +kernel
theorem dX8_goesOn_25 : decode cX8_goesOn 25 = .ok (.iload_n 1, 1) := by decide +kernel
theorem dX8_goesOn_26 : decode cX8_goesOn 26 = .ok (.iconst 1, 1) := by decide +kernel
theorem dX8_goesOn_27 : decode cX8_goesOn 27 = .ok (.if_icmp .ne 16, 3) := by decide +kernel
theorem dX8_goesOn_30 : decode cX8_goesOn 30 = .ok (.iload_n 3, 1) := by decide +kernel
theorem dX8_goesOn_31 : decode cX8_goesOn 31 = .ok (.invokestatic 32, 3) := by decide +kernel
theorem dX8_goesOn_34 : decode cX8_goesOn 34 = .ok (.ifCond .lt 7, 3) := by decide +kernel
theorem dX8_goesOn_37 : decode cX8_goesOn 37 = .ok (.iconst 1, 1) := by decide +kernel
theorem dX8_goesOn_38 : decode cX8_goesOn 38 = .ok (.goto 4, 3) := by decide +kernel
theorem dX8_goesOn_41 : decode cX8_goesOn 41 = .ok (.iconst 0, 1) := by decide +kernel
theorem dX8_goesOn_42 : decode cX8_goesOn 42 = .ok (.ireturn, 1) := by decide +kernel
theorem dX8_goesOn_43 : decode cX8_goesOn 43 = .ok (.iload_n 3, 1) := by decide +kernel
theorem dX8_goesOn_44 : decode cX8_goesOn 44 = .ok (.bipush 48, 2) := by decide +kernel
theorem dX8_goesOn_46 : decode cX8_goesOn 46 = .ok (.if_icmp .lt 13, 3) := by decide +kernel
theorem dX8_goesOn_49 : decode cX8_goesOn 49 = .ok (.iload_n 3, 1) := by decide +kernel
theorem dX8_goesOn_50 : decode cX8_goesOn 50 = .ok (.bipush 57, 2) := by decide +kernel
theorem dX8_goesOn_52 : decode cX8_goesOn 52 = .ok (.if_icmp .gt 7, 3) := by decide +kernel
theorem dX8_goesOn_55 : decode cX8_goesOn 55 = .ok (.iconst 1, 1) := by decide +kernel
theorem dX8_goesOn_56 : decode cX8_goesOn 56 = .ok (.goto 4, 3) := by decide +kernel
theorem dX8_goesOn_59 : decode cX8_goesOn 59 = .ok (.iconst 0, 1) := by decide +kernel
theorem dX8_goesOn_60 : decode cX8_goesOn 60 = .ok (.ireturn, 1) := by decide +kernel
theorem dX8_kindBy_0 : decode cX8_kindBy 0 = .ok (.iload_n 0, 1) := by decide +kernel
theorem dX8_kindBy_1 : decode cX8_kindBy 1 = .ok (.ifCond .ge 7, 3) := by decide +kernel
theorem dX8_kindBy_4 : decode cX8_kindBy 4 = .ok (.iconst (-1), 1) := by decide +kernel
theorem dX8_kindBy_5 : decode cX8_kindBy 5 = .ok (.goto 10, 3) := by decide +kernel
theorem dX8_kindBy_8 : decode cX8_kindBy 8 = .ok (.ldc 35, 2) := by decide +kernel
theorem dX8_kindBy_10 : decode cX8_kindBy 10 = .ok (.iload_n 0, 1) := by decide +kernel
theorem dX8_kindBy_11 : decode cX8_kindBy 11 = .ok (.i2c, 1) := by decide +kernel
theorem dX8_kindBy_12 : decode cX8_kindBy 12 = .ok (.invokevirtual 37, 3) := by decide +kernel
theorem dX8_kindBy_15 : decode cX8_kindBy 15 = .ok (.ireturn, 1) := by decide +kernel
theorem dX8_comeOver_0 : decode cX8_comeOver 0 = .ok (.iconst 0, 1) := by decide +kernel
theorem dX8_comeOver_1 : decode cX8_comeOver 1 = .ok (.istore_n 2, 1) := by decide +kernel
theorem dX8_comeOver_2 : decode cX8_comeOver 2 = .ok (.iconst 0, 1) := by decide +kernel
theorem dX8_comeOver_3 : decode cX8_comeOver 3 = .ok (.istore_n 3, 1) := by decide +kernel
theorem dX8_comeOver_4 : decode cX8_comeOver 4 = .ok (.iload_n 3, 1) := by decide +kernel
theorem dX8_comeOver_5 : decode cX8_comeOver 5 = .ok (.aload_n 0, 1) := by decide +kernel
theorem dX8_comeOver_6 : decode cX8_comeOver 6 = .ok (.getfield 13, 3) := by decide +kernel
theorem dX8_comeOver_9 : decode cX8_comeOver 9 = .ok (.if_icmp .ge 39, 3) := by decide +kernel
theorem dX8_comeOver_12 : decode cX8_comeOver 12 = .ok (.aload_n 0, 1) := by decide +kernel
theorem dX8_comeOver_13 : decode cX8_comeOver 13 = .ok (.iload_n 3, 1) := by decide +kernel
theorem dX8_comeOver_14 : decode cX8_comeOver 14 = .ok (.aload_n 1, 1) := by decide +kernel
theorem dX8_comeOver_15 : decode cX8_comeOver 15 = .ok (.invokevirtual 42, 3) := by decide +kernel
theorem dX8_comeOver_18 : decode cX8_comeOver 18 = .ok (.ifCond .ne 9, 3) := by decide +kernel
theorem dX8_comeOver_21 : decode cX8_comeOver 21 = .ok (.sipush (-2000), 3) := by decide +kernel
theorem dX8_comeOver_24 : decode cX8_comeOver 24 = .ok (.iload_n 3, 1) := by decide +kernel
theorem dX8_comeOver_25 : decode cX8_comeOver 25 = .ok (.isub, 1) := by decide +kernel
theorem dX8_comeOver_26 : decode cX8_comeOver 26 = .ok (.ireturn, 1) := by decide +kernel
theorem dX8_comeOver_27 : decode cX8_comeOver 27 = .ok (.iinc 2 1, 3) := by decide +kernel
theorem dX8_comeOver_30 : decode cX8_comeOver 30 = .ok (.iload_n 3, 1) := by decide +kernel
theorem dX8_comeOver_31 : decode cX8_comeOver 31 = .ok (.iconst 1, 1) := by decide +kernel
theorem dX8_comeOver_32 : decode cX8_comeOver 32 = .ok (.aload_n 0, 1) := by decide +kernel
theorem dX8_comeOver_33 : decode cX8_comeOver 33 = .ok (.iload_n 3, 1) := by decide +kernel
theorem dX8_comeOver_34 : decode cX8_comeOver 34 = .ok (.invokevirtual 21, 3) := by decide +kernel
theorem dX8_comeOver_37 : decode cX8_comeOver 37 = .ok (.invokestatic 25, 3) := by decide +kernel
theorem dX8_comeOver_40 : decode cX8_comeOver 40 = .ok (.invokestatic 46, 3) := by decide +kernel
theorem dX8_comeOver_43 : decode cX8_comeOver 43 = .ok (.iadd, 1) := by decide +kernel
theorem dX8_comeOver_44 : decode cX8_comeOver 44 = .ok (.istore_n 3, 1) := by decide +kernel
theorem dX8_comeOver_45 : decode cX8_comeOver 45 = .ok (.goto (-41), 3) := by decide +kernel
theorem dX8_comeOver_48 : decode cX8_comeOver 48 = .ok (.iload_n 2, 1) := by decide +kernel
theorem dX8_comeOver_49 : decode cX8_comeOver 49 = .ok (.ireturn, 1) := by decide +kernel
theorem dX8_comes_0 : decode cX8_comes 0 = .ok (.aload_n 0, 1) := by decide +kernel
theorem dX8_comes_1 : decode cX8_comes 1 = .ok (.iload_n 1, 1) := by decide +kernel
theorem dX8_comes_2 : decode cX8_comes 2 = .ok (.iconst 1, 1) := by decide +kernel
theorem dX8_comes_3 : decode cX8_comes 3 = .ok (.iadd, 1) := by decide +kernel
theorem dX8_comes_4 : decode cX8_comes 4 = .ok (.invokevirtual 21, 3) := by decide +kernel
theorem dX8_comes_7 : decode cX8_comes 7 = .ok (.bipush 48, 2) := by decide +kernel
theorem dX8_comes_9 : decode cX8_comes 9 = .ok (.isub, 1) := by decide +kernel
theorem dX8_comes_10 : decode cX8_comes 10 = .ok (.istore_n 3, 1) := by decide +kernel
theorem dX8_comes_11 : decode cX8_comes 11 = .ok (.aload_n 0, 1) := by decide +kernel
theorem dX8_comes_12 : decode cX8_comes 12 = .ok (.iload_n 1, 1) := by decide +kernel
theorem dX8_comes_13 : decode cX8_comes 13 = .ok (.iconst 2, 1) := by decide +kernel
theorem dX8_comes_14 : decode cX8_comes 14 = .ok (.iadd, 1) := by decide +kernel
theorem dX8_comes_15 : decode cX8_comes 15 = .ok (.invokevirtual 21, 3) := by decide +kernel
theorem dX8_comes_18 : decode cX8_comes 18 = .ok (.bipush 48, 2) := by decide +kernel
theorem dX8_comes_20 : decode cX8_comes 20 = .ok (.isub, 1) := by decide +kernel
theorem dX8_comes_21 : decode cX8_comes 21 = .ok (.istore 4, 2) := by decide +kernel
theorem dX8_comes_23 : decode cX8_comes 23 = .ok (.aload_n 0, 1) := by decide +kernel
theorem dX8_comes_24 : decode cX8_comes 24 = .ok (.iload_n 1, 1) := by decide +kernel
theorem dX8_comes_25 : decode cX8_comes 25 = .ok (.invokevirtual 21, 3) := by decide +kernel
theorem dX8_comes_28 : decode cX8_comes 28 = .ok (.tableswitch 143 99 116 #[105, 131, 143, 143, 125, 143, 143, 143, 143, 113, 119, 143, 143, 143, 143, 143, 143, 88], 88) := by decide +kernel
theorem dX8_comes_116 : decode cX8_comes 116 = .ok (.aload_n 2, 1) := by decide +kernel
theorem dX8_comes_117 : decode cX8_comes 117 = .ok (.aload_n 0, 1) := by decide +kernel
theorem dX8_comes_118 : decode cX8_comes 118 = .ok (.iload_n 1, 1) := by decide +kernel
theorem dX8_comes_119 : decode cX8_comes 119 = .ok (.iconst 1, 1) := by decide +kernel
theorem dX8_comes_120 : decode cX8_comes 120 = .ok (.iadd, 1) := by decide +kernel
theorem dX8_comes_121 : decode cX8_comes 121 = .ok (.invokevirtual 21, 3) := by decide +kernel
theorem dX8_comes_124 : decode cX8_comes 124 = .ok (.invokestatic 32, 3) := by decide +kernel
theorem dX8_comes_127 : decode cX8_comes 127 = .ok (.iload 4, 2) := by decide +kernel
theorem dX8_comes_129 : decode cX8_comes 129 = .ok (.invokevirtual 52, 3) := by decide +kernel
theorem dX8_comes_132 : decode cX8_comes 132 = .ok (.ireturn, 1) := by decide +kernel
theorem dX8_comes_133 : decode cX8_comes 133 = .ok (.aload_n 2, 1) := by decide +kernel
theorem dX8_comes_134 : decode cX8_comes 134 = .ok (.iload_n 3, 1) := by decide +kernel
theorem dX8_comes_135 : decode cX8_comes 135 = .ok (.iload 4, 2) := by decide +kernel
theorem dX8_comes_137 : decode cX8_comes 137 = .ok (.invokevirtual 58, 3) := by decide +kernel
theorem dX8_comes_140 : decode cX8_comes 140 = .ok (.ireturn, 1) := by decide +kernel
theorem dX8_comes_141 : decode cX8_comes 141 = .ok (.aload_n 2, 1) := by decide +kernel
theorem dX8_comes_142 : decode cX8_comes 142 = .ok (.iload_n 3, 1) := by decide +kernel
theorem dX8_comes_143 : decode cX8_comes 143 = .ok (.invokevirtual 61, 3) := by decide +kernel
theorem dX8_comes_146 : decode cX8_comes 146 = .ok (.ireturn, 1) := by decide +kernel
theorem dX8_comes_147 : decode cX8_comes 147 = .ok (.aload_n 2, 1) := by decide +kernel
theorem dX8_comes_148 : decode cX8_comes 148 = .ok (.iload_n 3, 1) := by decide +kernel
theorem dX8_comes_149 : decode cX8_comes 149 = .ok (.invokevirtual 65, 3) := by decide +kernel
theorem dX8_comes_152 : decode cX8_comes 152 = .ok (.ireturn, 1) := by decide +kernel
theorem dX8_comes_153 : decode cX8_comes 153 = .ok (.aload_n 2, 1) := by decide +kernel
theorem dX8_comes_154 : decode cX8_comes 154 = .ok (.iload_n 3, 1) := by decide +kernel
theorem dX8_comes_155 : decode cX8_comes 155 = .ok (.invokevirtual 68, 3) := by decide +kernel
theorem dX8_comes_158 : decode cX8_comes 158 = .ok (.ireturn, 1) := by decide +kernel
theorem dX8_comes_159 : decode cX8_comes 159 = .ok (.aload_n 2, 1) := by decide +kernel
theorem dX8_comes_160 : decode cX8_comes 160 = .ok (.bipush 10, 2) := by decide +kernel
theorem dX8_comes_162 : decode cX8_comes 162 = .ok (.iload_n 3, 1) := by decide +kernel
theorem dX8_comes_163 : decode cX8_comes 163 = .ok (.imul, 1) := by decide +kernel
theorem dX8_comes_164 : decode cX8_comes 164 = .ok (.iload 4, 2) := by decide +kernel
theorem dX8_comes_166 : decode cX8_comes 166 = .ok (.iadd, 1) := by decide +kernel
theorem dX8_comes_167 : decode cX8_comes 167 = .ok (.invokevirtual 71, 3) := by decide +kernel
theorem dX8_comes_170 : decode cX8_comes 170 = .ok (.ireturn, 1) := by decide +kernel
theorem dX8_comes_171 : decode cX8_comes 171 = .ok (.iconst 0, 1) := by decide +kernel
theorem dX8_comes_172 : decode cX8_comes 172 = .ok (.ireturn, 1) := by decide +kernel
theorem dX9_init_0 : decode cX9_init 0 = .ok (.aload_n 0, 1) := by decide +kernel
theorem dX9_init_1 : decode cX9_init 1 = .ok (.invokespecial 1, 3) := by decide +kernel
theorem dX9_init_4 : decode cX9_init 4 = .ok (.aload_n 0, 1) := by decide +kernel
theorem dX9_init_5 : decode cX9_init 5 = .ok (.new 7, 3) := by decide +kernel
theorem dX9_init_8 : decode cX9_init 8 = .ok (.dup, 1) := by decide +kernel
theorem dX9_init_9 : decode cX9_init 9 = .ok (.invokespecial 9, 3) := by decide +kernel
theorem dX9_init_12 : decode cX9_init 12 = .ok (.putfield 10, 3) := by decide +kernel
theorem dX9_init_15 : decode cX9_init 15 = .ok (.aload_n 0, 1) := by decide +kernel
theorem dX9_init_16 : decode cX9_init 16 = .ok (.new 7, 3) := by decide +kernel
theorem dX9_init_19 : decode cX9_init 19 = .ok (.dup, 1) := by decide +kernel
theorem dX9_init_20 : decode cX9_init 20 = .ok (.invokespecial 9, 3) := by decide +kernel
theorem dX9_init_23 : decode cX9_init 23 = .ok (.putfield 16, 3) := by decide +kernel
theorem dX9_init_26 : decode cX9_init 26 = .ok (.aload_n 0, 1) := by decide +kernel
theorem dX9_init_27 : decode cX9_init 27 = .ok (.new 7, 3) := by decide +kernel
theorem dX9_init_30 : decode cX9_init 30 = .ok (.dup, 1) := by decide +kernel
theorem dX9_init_31 : decode cX9_init 31 = .ok (.invokespecial 9, 3) := by decide +kernel
theorem dX9_init_34 : decode cX9_init 34 = .ok (.putfield 19, 3) := by decide +kernel
theorem dX9_init_37 : decode cX9_init 37 = .ok (.aload_n 0, 1) := by decide +kernel
theorem dX9_init_38 : decode cX9_init 38 = .ok (.new 22, 3) := by decide +kernel
theorem dX9_init_41 : decode cX9_init 41 = .ok (.dup, 1) := by decide +kernel
theorem dX9_init_42 : decode cX9_init 42 = .ok (.invokespecial 24, 3) := by decide +kernel
theorem dX9_init_45 : decode cX9_init 45 = .ok (.putfield 25, 3) := by decide +kernel
theorem dX9_init_48 : decode cX9_init 48 = .ok (.aload_n 0, 1) := by decide +kernel
theorem dX9_init_49 : decode cX9_init 49 = .ok (.new 29, 3) := by decide +kernel
theorem dX9_init_52 : decode cX9_init 52 = .ok (.dup, 1) := by decide +kernel
theorem dX9_init_53 : decode cX9_init 53 = .ok (.invokespecial 31, 3) := by decide +kernel
theorem dX9_init_56 : decode cX9_init 56 = .ok (.putfield 32, 3) := by decide +kernel
theorem dX9_init_59 : decode cX9_init 59 = .ok (.aload_n 0, 1) := by decide +kernel
theorem dX9_init_60 : decode cX9_init 60 = .ok (.new 36, 3) := by decide +kernel
theorem dX9_init_63 : decode cX9_init 63 = .ok (.dup, 1) := by decide +kernel
theorem dX9_init_64 : decode cX9_init 64 = .ok (.invokespecial 38, 3) := by decide +kernel
theorem dX9_init_67 : decode cX9_init 67 = .ok (.putfield 39, 3) := by decide +kernel
theorem dX9_init_70 : decode cX9_init 70 = .ok (.aload_n 0, 1) := by decide +kernel
theorem dX9_init_71 : decode cX9_init 71 = .ok (.bipush 7, 2) := by decide +kernel
theorem dX9_init_73 : decode cX9_init 73 = .ok (.newarray .int, 2) := by decide +kernel
theorem dX9_init_75 : decode cX9_init 75 = .ok (.putfield 43, 3) := by decide +kernel
theorem dX9_init_78 : decode cX9_init 78 = .ok (.aload_n 0, 1) := by decide +kernel
theorem dX9_init_79 : decode cX9_init 79 = .ok (.iconst 0, 1) := by decide +kernel
theorem dX9_init_80 : decode cX9_init 80 = .ok (.putfield 47, 3) := by decide +kernel
theorem dX9_init_83 : decode cX9_init 83 = .ok (.return_, 1) := by decide +kernel
theorem dX9_letter_0 : decode cX9_letter 0 = .ok (.iload_n 1, 1) := by decide +kernel
theorem dX9_letter_1 : decode cX9_letter 1 = .ok (.ifCond .ge 10, 3) := by decide +kernel
theorem dX9_letter_4 : decode cX9_letter 4 = .ok (.aload_n 0, 1) := by decide +kernel
theorem dX9_letter_5 : decode cX9_letter 5 = .ok (.bipush (-4), 2) := by decide +kernel
theorem dX9_letter_7 : decode cX9_letter 7 = .ok (.invokevirtual 51, 3) := by decide +kernel
theorem dX9_letter_10 : decode cX9_letter 10 = .ok (.ireturn, 1) := by decide +kernel
theorem dX9_letter_11 : decode cX9_letter 11 = .ok (.iload_n 1, 1) := by decide +kernel
theorem dX9_letter_12 : decode cX9_letter 12 = .ok (.sipush 255, 3) := by decide +kernel
theorem dX9_letter_15 : decode cX9_letter 15 = .ok (.if_icmp .gt 13, 3) := by decide +kernel
theorem dX9_letter_18 : decode cX9_letter 18 = .ok (.aload_n 0, 1) := by decide +kernel
theorem dX9_letter_19 : decode cX9_letter 19 = .ok (.getfield 25, 3) := by decide +kernel
theorem dX9_letter_22 : decode cX9_letter 22 = .ok (.invokevirtual 55, 3) := by decide +kernel
theorem dX9_letter_25 : decode cX9_letter 25 = .ok (.ifCond .eq 10, 3) := by decide +kernel
theorem dX9_letter_28 : decode cX9_letter 28 = .ok (.aload_n 0, 1) := by decide +kernel
theorem dX9_letter_29 : decode cX9_letter 29 = .ok (.bipush (-6), 2) := by decide +kernel
theorem dX9_letter_31 : decode cX9_letter 31 = .ok (.invokevirtual 51, 3) := by decide +kernel
theorem dX9_letter_34 : decode cX9_letter 34 = .ok (.ireturn, 1) := by decide +kernel
theorem dX9_letter_35 : decode cX9_letter 35 = .ok (.aload_n 0, 1) := by decide +kernel
theorem dX9_letter_36 : decode cX9_letter 36 = .ok (.getfield 25, 3) := by decide +kernel
theorem dX9_letter_39 : decode cX9_letter 39 = .ok (.iload_n 1, 1) := by decide +kernel
theorem dX9_letter_40 : decode cX9_letter 40 = .ok (.invokevirtual 59, 3) := by decide +kernel
theorem dX9_letter_43 : decode cX9_letter 43 = .ok (.ireturn, 1) := by decide +kernel
theorem dX9_state_0 : decode cX9_state 0 = .ok (.aload_n 0, 1) := by decide +kernel
theorem dX9_state_1 : decode cX9_state 1 = .ok (.getfield 25, 3) := by decide +kernel
theorem dX9_state_4 : decode cX9_state 4 = .ok (.invokevirtual 62, 3) := by decide +kernel
theorem dX9_state_7 : decode cX9_state 7 = .ok (.istore_n 1, 1) := by decide +kernel
theorem dX9_state_8 : decode cX9_state 8 = .ok (.iload_n 1, 1) := by decide +kernel
theorem dX9_state_9 : decode cX9_state 9 = .ok (.ifCond .ne 41, 3) := by decide +kernel
theorem dX9_state_12 : decode cX9_state 12 = .ok (.aload_n 0, 1) := by decide +kernel
theorem dX9_state_13 : decode cX9_state 13 = .ok (.getfield 16, 3) := by decide +kernel
theorem dX9_state_16 : decode cX9_state 16 = .ok (.aload_n 0, 1) := by decide +kernel
theorem dX9_state_17 : decode cX9_state 17 = .ok (.getfield 10, 3) := by decide +kernel
theorem dX9_state_20 : decode cX9_state 20 = .ok (.invokevirtual 66, 3) := by decide +kernel
theorem dX9_state_23 : decode cX9_state 23 = .ok (.aload_n 0, 1) := by decide +kernel
theorem dX9_state_24 : decode cX9_state 24 = .ok (.getfield 25, 3) := by decide +kernel
theorem dX9_state_27 : decode cX9_state 27 = .ok (.aload_n 0, 1) := by decide +kernel
theorem dX9_state_28 : decode cX9_state 28 = .ok (.getfield 16, 3) := by decide +kernel
theorem dX9_state_31 : decode cX9_state 31 = .ok (.invokevirtual 70, 3) := by decide +kernel
theorem dX9_state_34 : decode cX9_state 34 = .ok (.istore_n 1, 1) := by decide +kernel
theorem dX9_state_35 : decode cX9_state 35 = .ok (.iload_n 1, 1) := by decide +kernel
theorem dX9_state_36 : decode cX9_state 36 = .ok (.ifCond .le 14, 3) := by decide +kernel
theorem dX9_state_39 : decode cX9_state 39 = .ok (.aload_n 0, 1) := by decide +kernel
theorem dX9_state_40 : decode cX9_state 40 = .ok (.getfield 10, 3) := by decide +kernel
theorem dX9_state_43 : decode cX9_state 43 = .ok (.aload_n 0, 1) := by decide +kernel
theorem dX9_state_44 : decode cX9_state 44 = .ok (.getfield 16, 3) := by decide +kernel
theorem dX9_state_47 : decode cX9_state 47 = .ok (.invokevirtual 66, 3) := by decide +kernel
theorem dX9_state_50 : decode cX9_state 50 = .ok (.aload_n 0, 1) := by decide +kernel
theorem dX9_state_51 : decode cX9_state 51 = .ok (.getfield 25, 3) := by decide +kernel
theorem dX9_state_54 : decode cX9_state 54 = .ok (.invokevirtual 74, 3) := by decide +kernel
theorem dX9_state_57 : decode cX9_state 57 = .ok (.iload_n 1, 1) := by decide +kernel
theorem dX9_state_58 : decode cX9_state 58 = .ok (.ireturn, 1) := by decide +kernel
theorem dX9_thing_0 : decode cX9_thing 0 = .ok (.aload_n 0, 1) := by decide +kernel
theorem dX9_thing_1 : decode cX9_thing 1 = .ok (.getfield 10, 3) := by decide +kernel
theorem dX9_thing_4 : decode cX9_thing 4 = .ok (.iload_n 1, 1) := by decide +kernel
theorem dX9_thing_5 : decode cX9_thing 5 = .ok (.invokevirtual 77, 3) := by decide +kernel
theorem dX9_thing_8 : decode cX9_thing 8 = .ok (.ifCond .ne 9, 3) := by decide +kernel
theorem dX9_thing_11 : decode cX9_thing 11 = .ok (.aload_n 0, 1) := by decide +kernel
theorem dX9_thing_12 : decode cX9_thing 12 = .ok (.iconst (-1), 1) := by decide +kernel
theorem dX9_thing_13 : decode cX9_thing 13 = .ok (.invokevirtual 51, 3) := by decide +kernel
theorem dX9_thing_16 : decode cX9_thing 16 = .ok (.ireturn, 1) := by decide +kernel
theorem dX9_thing_17 : decode cX9_thing 17 = .ok (.iload_n 2, 1) := by decide +kernel
theorem dX9_thing_18 : decode cX9_thing 18 = .ok (.tableswitch 108 0 5 #[38, 47, 56, 65, 82, 99], 38) := by decide +kernel
theorem dX9_thing_56 : decode cX9_thing 56 = .ok (.aload_n 0, 1) := by decide +kernel
theorem dX9_thing_57 : decode cX9_thing 57 = .ok (.getfield 10, 3) := by decide +kernel
theorem dX9_thing_60 : decode cX9_thing 60 = .ok (.iload_n 1, 1) := by decide +kernel
theorem dX9_thing_61 : decode cX9_thing 61 = .ok (.invokevirtual 81, 3) := by decide +kernel
theorem dX9_thing_64 : decode cX9_thing 64 = .ok (.ireturn, 1) := by decide +kernel
theorem dX9_thing_65 : decode cX9_thing 65 = .ok (.aload_n 0, 1) := by decide +kernel
theorem dX9_thing_66 : decode cX9_thing 66 = .ok (.getfield 10, 3) := by decide +kernel
theorem dX9_thing_69 : decode cX9_thing 69 = .ok (.iload_n 1, 1) := by decide +kernel
theorem dX9_thing_70 : decode cX9_thing 70 = .ok (.invokevirtual 84, 3) := by decide +kernel
theorem dX9_thing_73 : decode cX9_thing 73 = .ok (.ireturn, 1) := by decide +kernel
theorem dX9_thing_74 : decode cX9_thing 74 = .ok (.aload_n 0, 1) := by decide +kernel
theorem dX9_thing_75 : decode cX9_thing 75 = .ok (.getfield 10, 3) := by decide +kernel
theorem dX9_thing_78 : decode cX9_thing 78 = .ok (.iload_n 1, 1) := by decide +kernel
theorem dX9_thing_79 : decode cX9_thing 79 = .ok (.invokevirtual 87, 3) := by decide +kernel
theorem dX9_thing_82 : decode cX9_thing 82 = .ok (.ireturn, 1) := by decide +kernel
theorem dX9_thing_83 : decode cX9_thing 83 = .ok (.aload_n 0, 1) := by decide +kernel
theorem dX9_thing_84 : decode cX9_thing 84 = .ok (.getfield 10, 3) := by decide +kernel
theorem dX9_thing_87 : decode cX9_thing 87 = .ok (.iload_n 1, 1) := by decide +kernel
theorem dX9_thing_88 : decode cX9_thing 88 = .ok (.invokevirtual 90, 3) := by decide +kernel
theorem dX9_thing_91 : decode cX9_thing 91 = .ok (.ifCond .eq 7, 3) := by decide +kernel
theorem dX9_thing_94 : decode cX9_thing 94 = .ok (.iconst 1, 1) := by decide +kernel
theorem dX9_thing_95 : decode cX9_thing 95 = .ok (.goto 4, 3) := by decide +kernel
theorem dX9_thing_98 : decode cX9_thing 98 = .ok (.iconst 0, 1) := by decide +kernel
theorem dX9_thing_99 : decode cX9_thing 99 = .ok (.ireturn, 1) := by decide +kernel
theorem dX9_thing_100 : decode cX9_thing 100 = .ok (.aload_n 0, 1) := by decide +kernel
theorem dX9_thing_101 : decode cX9_thing 101 = .ok (.getfield 10, 3) := by decide +kernel
theorem dX9_thing_104 : decode cX9_thing 104 = .ok (.iload_n 1, 1) := by decide +kernel
theorem dX9_thing_105 : decode cX9_thing 105 = .ok (.invokevirtual 93, 3) := by decide +kernel
theorem dX9_thing_108 : decode cX9_thing 108 = .ok (.ifCond .eq 7, 3) := by decide +kernel
theorem dX9_thing_111 : decode cX9_thing 111 = .ok (.iconst 1, 1) := by decide +kernel
theorem dX9_thing_112 : decode cX9_thing 112 = .ok (.goto 4, 3) := by decide +kernel
theorem dX9_thing_115 : decode cX9_thing 115 = .ok (.iconst 0, 1) := by decide +kernel
theorem dX9_thing_116 : decode cX9_thing 116 = .ok (.ireturn, 1) := by decide +kernel
theorem dX9_thing_117 : decode cX9_thing 117 = .ok (.aload_n 0, 1) := by decide +kernel
theorem dX9_thing_118 : decode cX9_thing 118 = .ok (.getfield 10, 3) := by decide +kernel
theorem dX9_thing_121 : decode cX9_thing 121 = .ok (.iload_n 1, 1) := by decide +kernel
theorem dX9_thing_122 : decode cX9_thing 122 = .ok (.invokevirtual 96, 3) := by decide +kernel
theorem dX9_thing_125 : decode cX9_thing 125 = .ok (.ireturn, 1) := by decide +kernel
theorem dX9_thing_126 : decode cX9_thing 126 = .ok (.aload_n 0, 1) := by decide +kernel
theorem dX9_thing_127 : decode cX9_thing 127 = .ok (.bipush (-2), 2) := by decide +kernel
theorem dX9_thing_129 : decode cX9_thing 129 = .ok (.invokevirtual 51, 3) := by decide +kernel
theorem dX9_thing_132 : decode cX9_thing 132 = .ok (.ireturn, 1) := by decide +kernel
theorem dX9_causes_0 : decode cX9_causes 0 = .ok (.aload_n 0, 1) := by decide +kernel
theorem dX9_causes_1 : decode cX9_causes 1 = .ok (.getfield 10, 3) := by decide +kernel
theorem dX9_causes_4 : decode cX9_causes 4 = .ok (.iload_n 1, 1) := by decide +kernel
theorem dX9_causes_5 : decode cX9_causes 5 = .ok (.invokevirtual 77, 3) := by decide +kernel
theorem dX9_causes_8 : decode cX9_causes 8 = .ok (.ifCond .eq 14, 3) := by decide +kernel
theorem dX9_causes_11 : decode cX9_causes 11 = .ok (.aload_n 0, 1) := by decide +kernel
theorem dX9_causes_12 : decode cX9_causes 12 = .ok (.getfield 10, 3) := by decide +kernel
theorem dX9_causes_15 : decode cX9_causes 15 = .ok (.iload_n 2, 1) := by decide +kernel
theorem dX9_causes_16 : decode cX9_causes 16 = .ok (.invokevirtual 77, 3) := by decide +kernel
theorem dX9_causes_19 : decode cX9_causes 19 = .ok (.ifCond .ne 9, 3) := by decide +kernel
theorem dX9_causes_22 : decode cX9_causes 22 = .ok (.aload_n 0, 1) := by decide +kernel
theorem dX9_causes_23 : decode cX9_causes 23 = .ok (.iconst (-1), 1) := by decide +kernel
theorem dX9_causes_24 : decode cX9_causes 24 = .ok (.invokevirtual 51, 3) := by decide +kernel
theorem dX9_causes_27 : decode cX9_causes 27 = .ok (.ireturn, 1) := by decide +kernel
theorem dX9_causes_28 : decode cX9_causes 28 = .ok (.aload_n 0, 1) := by decide +kernel
theorem dX9_causes_29 : decode cX9_causes 29 = .ok (.getfield 10, 3) := by decide +kernel
theorem dX9_causes_32 : decode cX9_causes 32 = .ok (.iload_n 1, 1) := by decide +kernel
theorem dX9_causes_33 : decode cX9_causes 33 = .ok (.iload_n 2, 1) := by decide +kernel
theorem dX9_causes_34 : decode cX9_causes 34 = .ok (.invokevirtual 99, 3) := by decide +kernel
theorem dX9_causes_37 : decode cX9_causes 37 = .ok (.ifCond .ne 10, 3) := by decide +kernel
theorem dX9_causes_40 : decode cX9_causes 40 = .ok (.aload_n 0, 1) := by decide +kernel
theorem dX9_causes_41 : decode cX9_causes 41 = .ok (.bipush (-3), 2) := by decide +kernel
theorem dX9_causes_43 : decode cX9_causes 43 = .ok (.invokevirtual 51, 3) := by decide +kernel
theorem dX9_causes_46 : decode cX9_causes 46 = .ok (.ireturn, 1) := by decide +kernel
theorem dX9_causes_47 : decode cX9_causes 47 = .ok (.aload_n 0, 1) := by decide +kernel
theorem dX9_causes_48 : decode cX9_causes 48 = .ok (.getfield 10, 3) := by decide +kernel
theorem dX9_causes_51 : decode cX9_causes 51 = .ok (.iload_n 1, 1) := by decide +kernel
theorem dX9_causes_52 : decode cX9_causes 52 = .ok (.invokevirtual 87, 3) := by decide +kernel
theorem dX9_causes_55 : decode cX9_causes 55 = .ok (.ireturn, 1) := by decide +kernel
theorem dX9_loses_0 : decode cX9_loses 0 = .ok (.aload_n 0, 1) := by decide +kernel
theorem dX9_loses_1 : decode cX9_loses 1 = .ok (.getfield 10, 3) := by decide +kernel
theorem dX9_loses_4 : decode cX9_loses 4 = .ok (.iload_n 1, 1) := by decide +kernel
theorem dX9_loses_5 : decode cX9_loses 5 = .ok (.invokevirtual 77, 3) := by decide +kernel
theorem dX9_loses_8 : decode cX9_loses 8 = .ok (.ifCond .ne 9, 3) := by decide +kernel
theorem dX9_loses_11 : decode cX9_loses 11 = .ok (.aload_n 0, 1) := by decide +kernel
theorem dX9_loses_12 : decode cX9_loses 12 = .ok (.iconst (-1), 1) := by decide +kernel
theorem dX9_loses_13 : decode cX9_loses 13 = .ok (.invokevirtual 51, 3) := by decide +kernel
theorem dX9_loses_16 : decode cX9_loses 16 = .ok (.ireturn, 1) := by decide +kernel
theorem dX9_loses_17 : decode cX9_loses 17 = .ok (.aload_n 0, 1) := by decide +kernel
theorem dX9_loses_18 : decode cX9_loses 18 = .ok (.getfield 10, 3) := by decide +kernel
theorem dX9_loses_21 : decode cX9_loses 21 = .ok (.iload_n 1, 1) := by decide +kernel
theorem dX9_loses_22 : decode cX9_loses 22 = .ok (.invokevirtual 90, 3) := by decide +kernel
theorem dX9_loses_25 : decode cX9_loses 25 = .ok (.ifCond .ne 14, 3) := by decide +kernel
theorem dX9_loses_28 : decode cX9_loses 28 = .ok (.aload_n 0, 1) := by decide +kernel
theorem dX9_loses_29 : decode cX9_loses 29 = .ok (.getfield 10, 3) := by decide +kernel
theorem dX9_loses_32 : decode cX9_loses 32 = .ok (.iload_n 1, 1) := by decide +kernel
theorem dX9_loses_33 : decode cX9_loses 33 = .ok (.invokevirtual 103, 3) := by decide +kernel
theorem dX9_loses_36 : decode cX9_loses 36 = .ok (.ifCond .ne 10, 3) := by decide +kernel
theorem dX9_loses_39 : decode cX9_loses 39 = .ok (.aload_n 0, 1) := by decide +kernel
theorem dX9_loses_40 : decode cX9_loses 40 = .ok (.bipush (-3), 2) := by decide +kernel
theorem dX9_loses_42 : decode cX9_loses 42 = .ok (.invokevirtual 51, 3) := by decide +kernel
theorem dX9_loses_45 : decode cX9_loses 45 = .ok (.ireturn, 1) := by decide +kernel
theorem dX9_loses_46 : decode cX9_loses 46 = .ok (.aload_n 0, 1) := by decide +kernel
theorem dX9_loses_47 : decode cX9_loses 47 = .ok (.getfield 10, 3) := by decide +kernel
theorem dX9_loses_50 : decode cX9_loses 50 = .ok (.getfield 106, 3) := by decide +kernel
theorem dX9_loses_53 : decode cX9_loses 53 = .ok (.invokestatic 110, 3) := by decide +kernel
theorem dX9_loses_56 : decode cX9_loses 56 = .ok (.ireturn, 1) := by decide +kernel
theorem dX9_mends_0 : decode cX9_mends 0 = .ok (.aload_n 0, 1) := by decide +kernel
theorem dX9_mends_1 : decode cX9_mends 1 = .ok (.getfield 10, 3) := by decide +kernel
theorem dX9_mends_4 : decode cX9_mends 4 = .ok (.iload_n 1, 1) := by decide +kernel
theorem dX9_mends_5 : decode cX9_mends 5 = .ok (.invokevirtual 77, 3) := by decide +kernel
theorem dX9_mends_8 : decode cX9_mends 8 = .ok (.ifCond .ne 9, 3) := by decide +kernel
theorem dX9_mends_11 : decode cX9_mends 11 = .ok (.aload_n 0, 1) := by decide +kernel
theorem dX9_mends_12 : decode cX9_mends 12 = .ok (.iconst (-1), 1) := by decide +kernel
theorem dX9_mends_13 : decode cX9_mends 13 = .ok (.invokevirtual 51, 3) := by decide +kernel
theorem dX9_mends_16 : decode cX9_mends 16 = .ok (.ireturn, 1) := by decide +kernel
theorem dX9_mends_17 : decode cX9_mends 17 = .ok (.aload_n 0, 1) := by decide +kernel
theorem dX9_mends_18 : decode cX9_mends 18 = .ok (.getfield 10, 3) := by decide +kernel
theorem dX9_mends_21 : decode cX9_mends 21 = .ok (.iload_n 1, 1) := by decide +kernel
theorem dX9_mends_22 : decode cX9_mends 22 = .ok (.invokevirtual 90, 3) := by decide +kernel
theorem dX9_mends_25 : decode cX9_mends 25 = .ok (.ifCond .eq 14, 3) := by decide +kernel
theorem dX9_mends_28 : decode cX9_mends 28 = .ok (.aload_n 0, 1) := by decide +kernel
theorem dX9_mends_29 : decode cX9_mends 29 = .ok (.getfield 10, 3) := by decide +kernel
theorem dX9_mends_32 : decode cX9_mends 32 = .ok (.iload_n 1, 1) := by decide +kernel
theorem dX9_mends_33 : decode cX9_mends 33 = .ok (.invokevirtual 115, 3) := by decide +kernel
theorem dX9_mends_36 : decode cX9_mends 36 = .ok (.ifCond .ne 10, 3) := by decide +kernel
theorem dX9_mends_39 : decode cX9_mends 39 = .ok (.aload_n 0, 1) := by decide +kernel
theorem dX9_mends_40 : decode cX9_mends 40 = .ok (.bipush (-3), 2) := by decide +kernel
theorem dX9_mends_42 : decode cX9_mends 42 = .ok (.invokevirtual 51, 3) := by decide +kernel
theorem dX9_mends_45 : decode cX9_mends 45 = .ok (.ireturn, 1) := by decide +kernel
theorem dX9_mends_46 : decode cX9_mends 46 = .ok (.aload_n 0, 1) := by decide +kernel
theorem dX9_mends_47 : decode cX9_mends 47 = .ok (.getfield 10, 3) := by decide +kernel
theorem dX9_mends_50 : decode cX9_mends 50 = .ok (.getfield 106, 3) := by decide +kernel
theorem dX9_mends_53 : decode cX9_mends 53 = .ok (.invokestatic 110, 3) := by decide +kernel
theorem dX9_mends_56 : decode cX9_mends 56 = .ok (.ireturn, 1) := by decide +kernel
theorem dX9_guards_0 : decode cX9_guards 0 = .ok (.aload_n 0, 1) := by decide +kernel
theorem dX9_guards_1 : decode cX9_guards 1 = .ok (.getfield 10, 3) := by decide +kernel
theorem dX9_guards_4 : decode cX9_guards 4 = .ok (.iload_n 1, 1) := by decide +kernel
theorem dX9_guards_5 : decode cX9_guards 5 = .ok (.invokevirtual 118, 3) := by decide +kernel
theorem dX9_guards_8 : decode cX9_guards 8 = .ok (.ifCond .ne 9, 3) := by decide +kernel
theorem dX9_guards_11 : decode cX9_guards 11 = .ok (.aload_n 0, 1) := by decide +kernel
theorem dX9_guards_12 : decode cX9_guards 12 = .ok (.iconst (-1), 1) := by decide +kernel
theorem dX9_guards_13 : decode cX9_guards 13 = .ok (.invokevirtual 51, 3) := by decide +kernel
theorem dX9_guards_16 : decode cX9_guards 16 = .ok (.ireturn, 1) := by decide +kernel
theorem dX9_guards_17 : decode cX9_guards 17 = .ok (.aload_n 0, 1) := by decide +kernel
theorem dX9_guards_18 : decode cX9_guards 18 = .ok (.getfield 10, 3) := by decide +kernel
theorem dX9_guards_21 : decode cX9_guards 21 = .ok (.iload_n 1, 1) := by decide +kernel
theorem dX9_guards_22 : decode cX9_guards 22 = .ok (.invokevirtual 93, 3) := by decide +kernel
theorem dX9_guards_25 : decode cX9_guards 25 = .ok (.ifCond .eq 7, 3) := by decide +kernel
theorem dX9_guards_28 : decode cX9_guards 28 = .ok (.iconst 1, 1) := by decide +kernel
theorem dX9_guards_29 : decode cX9_guards 29 = .ok (.goto 4, 3) := by decide +kernel
theorem dX9_guards_32 : decode cX9_guards 32 = .ok (.iconst 0, 1) := by decide +kernel
theorem dX9_guards_33 : decode cX9_guards 33 = .ok (.ireturn, 1) := by decide +kernel
theorem dX9_turn_0 : decode cX9_turn 0 = .ok (.aload_n 0, 1) := by decide +kernel
theorem dX9_turn_1 : decode cX9_turn 1 = .ok (.getfield 10, 3) := by decide +kernel
theorem dX9_turn_4 : decode cX9_turn 4 = .ok (.iload_n 1, 1) := by decide +kernel
theorem dX9_turn_5 : decode cX9_turn 5 = .ok (.invokevirtual 77, 3) := by decide +kernel
theorem dX9_turn_8 : decode cX9_turn 8 = .ok (.ifCond .ne 9, 3) := by decide +kernel
theorem dX9_turn_11 : decode cX9_turn 11 = .ok (.aload_n 0, 1) := by decide +kernel
theorem dX9_turn_12 : decode cX9_turn 12 = .ok (.iconst (-1), 1) := by decide +kernel
theorem dX9_turn_13 : decode cX9_turn 13 = .ok (.invokevirtual 51, 3) := by decide +kernel
theorem dX9_turn_16 : decode cX9_turn 16 = .ok (.ireturn, 1) := by decide +kernel
theorem dX9_turn_17 : decode cX9_turn 17 = .ok (.iload_n 2, 1) := by decide +kernel
theorem dX9_turn_18 : decode cX9_turn 18 = .ok (.invokestatic 121, 3) := by decide +kernel
theorem dX9_turn_21 : decode cX9_turn 21 = .ok (.ifCond .ne 10, 3) := by decide +kernel
theorem dX9_turn_24 : decode cX9_turn 24 = .ok (.aload_n 0, 1) := by decide +kernel
theorem dX9_turn_25 : decode cX9_turn 25 = .ok (.bipush (-2), 2) := by decide +kernel
theorem dX9_turn_27 : decode cX9_turn 27 = .ok (.invokevirtual 51, 3) := by decide +kernel
theorem dX9_turn_30 : decode cX9_turn 30 = .ok (.ireturn, 1) := by decide +kernel
theorem dX9_turn_31 : decode cX9_turn 31 = .ok (.iload_n 3, 1) := by decide +kernel
theorem dX9_turn_32 : decode cX9_turn 32 = .ok (.iconst 0, 1) := by decide +kernel
theorem dX9_turn_33 : decode cX9_turn 33 = .ok (.bipush 9, 2) := by decide +kernel
theorem dX9_turn_35 : decode cX9_turn 35 = .ok (.invokestatic 124, 3) := by decide +kernel
theorem dX9_turn_38 : decode cX9_turn 38 = .ok (.istore 4, 2) := by decide +kernel
theorem dX9_turn_40 : decode cX9_turn 40 = .ok (.iload 4, 2) := by decide +kernel
theorem dX9_turn_42 : decode cX9_turn 42 = .ok (.ifCond .eq 10, 3) := by decide +kernel
theorem dX9_turn_45 : decode cX9_turn 45 = .ok (.aload_n 0, 1) := by decide +kernel
theorem dX9_turn_46 : decode cX9_turn 46 = .ok (.iload 4, 2) := by decide +kernel
theorem dX9_turn_48 : decode cX9_turn 48 = .ok (.invokevirtual 51, 3) := by decide +kernel
theorem dX9_turn_51 : decode cX9_turn 51 = .ok (.ireturn, 1) := by decide +kernel
theorem dX9_turn_52 : decode cX9_turn 52 = .ok (.bipush 10, 2) := by decide +kernel
theorem dX9_turn_54 : decode cX9_turn 54 = .ok (.aload_n 0, 1) := by decide +kernel
theorem dX9_turn_55 : decode cX9_turn 55 = .ok (.getfield 10, 3) := by decide +kernel
theorem dX9_turn_58 : decode cX9_turn 58 = .ok (.iload_n 1, 1) := by decide +kernel
theorem dX9_turn_59 : decode cX9_turn 59 = .ok (.invokevirtual 81, 3) := by decide +kernel
theorem dX9_turn_62 : decode cX9_turn 62 = .ok (.imul, 1) := by decide +kernel
theorem dX9_turn_63 : decode cX9_turn 63 = .ok (.aload_n 0, 1) := by decide +kernel
theorem dX9_turn_64 : decode cX9_turn 64 = .ok (.getfield 10, 3) := by decide +kernel
theorem dX9_turn_67 : decode cX9_turn 67 = .ok (.iload_n 1, 1) := by decide +kernel
theorem dX9_turn_68 : decode cX9_turn 68 = .ok (.invokevirtual 84, 3) := by decide +kernel
theorem dX9_turn_71 : decode cX9_turn 71 = .ok (.iadd, 1) := by decide +kernel
theorem dX9_turn_72 : decode cX9_turn 72 = .ok (.istore 5, 2) := by decide +kernel
theorem dX9_turn_74 : decode cX9_turn 74 = .ok (.aload_n 0, 1) := by decide +kernel
theorem dX9_turn_75 : decode cX9_turn 75 = .ok (.getfield 10, 3) := by decide +kernel
theorem dX9_turn_78 : decode cX9_turn 78 = .ok (.iload_n 1, 1) := by decide +kernel
theorem dX9_turn_79 : decode cX9_turn 79 = .ok (.iload_n 2, 1) := by decide +kernel
theorem dX9_turn_80 : decode cX9_turn 80 = .ok (.invokevirtual 128, 3) := by decide +kernel
theorem dX9_turn_83 : decode cX9_turn 83 = .ok (.aload_n 0, 1) := by decide +kernel
theorem dX9_turn_84 : decode cX9_turn 84 = .ok (.getfield 10, 3) := by decide +kernel
theorem dX9_turn_87 : decode cX9_turn 87 = .ok (.iload_n 1, 1) := by decide +kernel
theorem dX9_turn_88 : decode cX9_turn 88 = .ok (.iload_n 3, 1) := by decide +kernel
theorem dX9_turn_89 : decode cX9_turn 89 = .ok (.invokevirtual 132, 3) := by decide +kernel
theorem dX9_turn_92 : decode cX9_turn 92 = .ok (.iload 5, 2) := by decide +kernel
theorem dX9_turn_94 : decode cX9_turn 94 = .ok (.ireturn, 1) := by decide +kernel
theorem dX9_days_0 : decode cX9_days 0 = .ok (.iload_n 1, 1) := by decide +kernel
theorem dX9_days_1 : decode cX9_days 1 = .ok (.iconst 1, 1) := by decide +kernel
theorem dX9_days_2 : decode cX9_days 2 = .ok (.bipush 60, 2) := by decide +kernel
theorem dX9_days_4 : decode cX9_days 4 = .ok (.invokestatic 124, 3) := by decide +kernel
theorem dX9_days_7 : decode cX9_days 7 = .ok (.istore_n 2, 1) := by decide +kernel
theorem dX9_days_8 : decode cX9_days 8 = .ok (.iload_n 2, 1) := by decide +kernel
theorem dX9_days_9 : decode cX9_days 9 = .ok (.ifCond .eq 9, 3) := by decide +kernel
theorem dX9_days_12 : decode cX9_days 12 = .ok (.aload_n 0, 1) := by decide +kernel
theorem dX9_days_13 : decode cX9_days 13 = .ok (.iload_n 2, 1) := by decide +kernel
theorem dX9_days_14 : decode cX9_days 14 = .ok (.invokevirtual 51, 3) := by decide +kernel
theorem dX9_days_17 : decode cX9_days 17 = .ok (.ireturn, 1) := by decide +kernel
theorem dX9_days_18 : decode cX9_days 18 = .ok (.aload_n 0, 1) := by decide +kernel
theorem dX9_days_19 : decode cX9_days 19 = .ok (.getfield 10, 3) := by decide +kernel
theorem dX9_days_22 : decode cX9_days 22 = .ok (.iload_n 1, 1) := by decide +kernel
theorem dX9_days_23 : decode cX9_days 23 = .ok (.invokevirtual 135, 3) := by decide +kernel
theorem dX9_days_26 : decode cX9_days 26 = .ok (.ifCond .ne 10, 3) := by decide +kernel
theorem dX9_days_29 : decode cX9_days 29 = .ok (.aload_n 0, 1) := by decide +kernel
theorem dX9_days_30 : decode cX9_days 30 = .ok (.bipush (-6), 2) := by decide +kernel
theorem dX9_days_32 : decode cX9_days 32 = .ok (.invokevirtual 51, 3) := by decide +kernel
theorem dX9_days_35 : decode cX9_days 35 = .ok (.ireturn, 1) := by decide +kernel
theorem dX9_days_36 : decode cX9_days 36 = .ok (.aload_n 0, 1) := by decide +kernel
theorem dX9_days_37 : decode cX9_days 37 = .ok (.getfield 10, 3) := by decide +kernel
theorem dX9_days_40 : decode cX9_days 40 = .ok (.getfield 106, 3) := by decide +kernel
theorem dX9_days_43 : decode cX9_days 43 = .ok (.invokestatic 110, 3) := by decide +kernel
theorem dX9_days_46 : decode cX9_days 46 = .ok (.ireturn, 1) := by decide +kernel
theorem dX9_lostThen_0 : decode cX9_lostThen 0 = .ok (.iload_n 1, 1) := by decide +kernel
theorem dX9_lostThen_1 : decode cX9_lostThen 1 = .ok (.iconst 0, 1) := by decide +kernel
theorem dX9_lostThen_2 : decode cX9_lostThen 2 = .ok (.bipush 60, 2) := by decide +kernel
theorem dX9_lostThen_4 : decode cX9_lostThen 4 = .ok (.invokestatic 124, 3) := by decide +kernel
theorem dX9_lostThen_7 : decode cX9_lostThen 7 = .ok (.istore_n 2, 1) := by decide +kernel
theorem dX9_lostThen_8 : decode cX9_lostThen 8 = .ok (.iload_n 2, 1) := by decide +kernel
theorem dX9_lostThen_9 : decode cX9_lostThen 9 = .ok (.ifCond .eq 11, 3) := by decide +kernel
theorem dX9_lostThen_12 : decode cX9_lostThen 12 = .ok (.aload_n 0, 1) := by decide +kernel
theorem dX9_lostThen_13 : decode cX9_lostThen 13 = .ok (.iload_n 2, 1) := by decide +kernel
theorem dX9_lostThen_14 : decode cX9_lostThen 14 = .ok (.invokevirtual 51, 3) := by decide +kernel
theorem dX9_lostThen_17 : decode cX9_lostThen 17 = .ok (.goto 18, 3) := by decide +kernel
theorem dX9_lostThen_20 : decode cX9_lostThen 20 = .ok (.aload_n 0, 1) := by decide +kernel
theorem dX9_lostThen_21 : decode cX9_lostThen 21 = .ok (.getfield 10, 3) := by decide +kernel
theorem dX9_lostThen_24 : decode cX9_lostThen 24 = .ok (.aload_n 0, 1) := by decide +kernel
theorem dX9_lostThen_25 : decode cX9_lostThen 25 = .ok (.getfield 10, 3) := by decide +kernel
theorem dX9_lostThen_28 : decode cX9_lostThen 28 = .ok (.getfield 106, 3) := by decide +kernel
theorem dX9_lostThen_31 : decode cX9_lostThen 31 = .ok (.iload_n 1, 1) := by decide +kernel
theorem dX9_lostThen_32 : decode cX9_lostThen 32 = .ok (.invokestatic 138, 3) := by decide +kernel
theorem dX9_lostThen_35 : decode cX9_lostThen 35 = .ok (.ireturn, 1) := by decide +kernel
theorem dX9_when_0 : decode cX9_when 0 = .ok (.aload_n 0, 1) := by decide +kernel
theorem dX9_when_1 : decode cX9_when 1 = .ok (.getfield 10, 3) := by decide +kernel
theorem dX9_when_4 : decode cX9_when 4 = .ok (.iload_n 1, 1) := by decide +kernel
theorem dX9_when_5 : decode cX9_when 5 = .ok (.invokevirtual 77, 3) := by decide +kernel
theorem dX9_when_8 : decode cX9_when 8 = .ok (.ifCond .eq 21, 3) := by decide +kernel
theorem dX9_when_11 : decode cX9_when 11 = .ok (.aload_n 0, 1) := by decide +kernel
theorem dX9_when_12 : decode cX9_when 12 = .ok (.getfield 10, 3) := by decide +kernel
theorem dX9_when_15 : decode cX9_when 15 = .ok (.iload_n 1, 1) := by decide +kernel
theorem dX9_when_16 : decode cX9_when 16 = .ok (.aload_n 0, 1) := by decide +kernel
theorem dX9_when_17 : decode cX9_when 17 = .ok (.getfield 10, 3) := by decide +kernel
theorem dX9_when_20 : decode cX9_when 20 = .ok (.getfield 106, 3) := by decide +kernel
theorem dX9_when_23 : decode cX9_when 23 = .ok (.invokestatic 144, 3) := by decide +kernel
theorem dX9_when_26 : decode cX9_when 26 = .ok (.goto 8, 3) := by decide +kernel
theorem dX9_when_29 : decode cX9_when 29 = .ok (.aload_n 0, 1) := by decide +kernel
theorem dX9_when_30 : decode cX9_when 30 = .ok (.iconst (-1), 1) := by decide +kernel
theorem dX9_when_31 : decode cX9_when 31 = .ok (.invokevirtual 51, 3) := by decide +kernel
theorem dX9_when_34 : decode cX9_when 34 = .ok (.ireturn, 1) := by decide +kernel
theorem dX9_next_0 : decode cX9_next 0 = .ok (.iload_n 1, 1) := by decide +kernel
theorem dX9_next_1 : decode cX9_next 1 = .ok (.tableswitch 78 0 2 #[27, 35, 70], 27) := by decide +kernel
theorem dX9_next_28 : decode cX9_next 28 = .ok (.aload_n 0, 1) := by decide +kernel
theorem dX9_next_29 : decode cX9_next 29 = .ok (.getfield 10, 3) := by decide +kernel
theorem dX9_next_32 : decode cX9_next 32 = .ok (.invokestatic 147, 3) := by decide +kernel
theorem dX9_next_35 : decode cX9_next 35 = .ok (.ireturn, 1) := by decide +kernel
theorem dX9_next_36 : decode cX9_next 36 = .ok (.aload_n 0, 1) := by decide +kernel
theorem dX9_next_37 : decode cX9_next 37 = .ok (.getfield 10, 3) := by decide +kernel
theorem dX9_next_40 : decode cX9_next 40 = .ok (.invokestatic 147, 3) := by decide +kernel
theorem dX9_next_43 : decode cX9_next 43 = .ok (.istore_n 2, 1) := by decide +kernel
theorem dX9_next_44 : decode cX9_next 44 = .ok (.iload_n 2, 1) := by decide +kernel
theorem dX9_next_45 : decode cX9_next 45 = .ok (.bipush (-9), 2) := by decide +kernel
theorem dX9_next_47 : decode cX9_next 47 = .ok (.if_icmp .ne 8, 3) := by decide +kernel
theorem dX9_next_50 : decode cX9_next 50 = .ok (.bipush (-9), 2) := by decide +kernel
theorem dX9_next_52 : decode cX9_next 52 = .ok (.goto 18, 3) := by decide +kernel
theorem dX9_next_55 : decode cX9_next 55 = .ok (.aload_n 0, 1) := by decide +kernel
theorem dX9_next_56 : decode cX9_next 56 = .ok (.getfield 10, 3) := by decide +kernel
theorem dX9_next_59 : decode cX9_next 59 = .ok (.iload_n 2, 1) := by decide +kernel
theorem dX9_next_60 : decode cX9_next 60 = .ok (.aload_n 0, 1) := by decide +kernel
theorem dX9_next_61 : decode cX9_next 61 = .ok (.getfield 10, 3) := by decide +kernel
theorem dX9_next_64 : decode cX9_next 64 = .ok (.getfield 106, 3) := by decide +kernel
theorem dX9_next_67 : decode cX9_next 67 = .ok (.invokestatic 144, 3) := by decide +kernel
theorem dX9_next_70 : decode cX9_next 70 = .ok (.ireturn, 1) := by decide +kernel
theorem dX9_next_71 : decode cX9_next 71 = .ok (.aload_n 0, 1) := by decide +kernel
theorem dX9_next_72 : decode cX9_next 72 = .ok (.getfield 10, 3) := by decide +kernel
theorem dX9_next_75 : decode cX9_next 75 = .ok (.invokestatic 150, 3) := by decide +kernel
theorem dX9_next_78 : decode cX9_next 78 = .ok (.ireturn, 1) := by decide +kernel
theorem dX9_next_79 : decode cX9_next 79 = .ok (.aload_n 0, 1) := by decide +kernel
theorem dX9_next_80 : decode cX9_next 80 = .ok (.bipush (-2), 2) := by decide +kernel
theorem dX9_next_82 : decode cX9_next 82 = .ok (.invokevirtual 51, 3) := by decide +kernel
theorem dX9_next_85 : decode cX9_next 85 = .ok (.ireturn, 1) := by decide +kernel
theorem dX9_roots_0 : decode cX9_roots 0 = .ok (.aload_n 0, 1) := by decide +kernel
theorem dX9_roots_1 : decode cX9_roots 1 = .ok (.getfield 10, 3) := by decide +kernel
theorem dX9_roots_4 : decode cX9_roots 4 = .ok (.iload_n 1, 1) := by decide +kernel
theorem dX9_roots_5 : decode cX9_roots 5 = .ok (.invokevirtual 77, 3) := by decide +kernel
theorem dX9_roots_8 : decode cX9_roots 8 = .ok (.ifCond .ne 9, 3) := by decide +kernel
theorem dX9_roots_11 : decode cX9_roots 11 = .ok (.aload_n 0, 1) := by decide +kernel
theorem dX9_roots_12 : decode cX9_roots 12 = .ok (.iconst (-1), 1) := by decide +kernel
theorem dX9_roots_13 : decode cX9_roots 13 = .ok (.invokevirtual 51, 3) := by decide +kernel
theorem dX9_roots_16 : decode cX9_roots 16 = .ok (.ireturn, 1) := by decide +kernel
theorem dX9_roots_17 : decode cX9_roots 17 = .ok (.iload_n 2, 1) := by decide +kernel
theorem dX9_roots_18 : decode cX9_roots 18 = .ok (.invokestatic 153, 3) := by decide +kernel
theorem dX9_roots_21 : decode cX9_roots 21 = .ok (.ifCond .ne 10, 3) := by decide +kernel
theorem dX9_roots_24 : decode cX9_roots 24 = .ok (.aload_n 0, 1) := by decide +kernel
theorem dX9_roots_25 : decode cX9_roots 25 = .ok (.bipush (-2), 2) := by decide +kernel
theorem dX9_roots_27 : decode cX9_roots 27 = .ok (.invokevirtual 51, 3) := by decide +kernel
theorem dX9_roots_30 : decode cX9_roots 30 = .ok (.ireturn, 1) := by decide +kernel
theorem dX9_roots_31 : decode cX9_roots 31 = .ok (.iload_n 2, 1) := by decide +kernel
theorem dX9_roots_32 : decode cX9_roots 32 = .ok (.ifCond .ne 14, 3) := by decide +kernel
theorem dX9_roots_35 : decode cX9_roots 35 = .ok (.aload_n 0, 1) := by decide +kernel
theorem dX9_roots_36 : decode cX9_roots 36 = .ok (.getfield 10, 3) := by decide +kernel
theorem dX9_roots_39 : decode cX9_roots 39 = .ok (.iload_n 1, 1) := by decide +kernel
theorem dX9_roots_40 : decode cX9_roots 40 = .ok (.invokevirtual 156, 3) := by decide +kernel
theorem dX9_roots_43 : decode cX9_roots 43 = .ok (.goto 11, 3) := by decide +kernel
theorem dX9_roots_46 : decode cX9_roots 46 = .ok (.aload_n 0, 1) := by decide +kernel
theorem dX9_roots_47 : decode cX9_roots 47 = .ok (.getfield 10, 3) := by decide +kernel
theorem dX9_roots_50 : decode cX9_roots 50 = .ok (.iload_n 1, 1) := by decide +kernel
theorem dX9_roots_51 : decode cX9_roots 51 = .ok (.invokevirtual 159, 3) := by decide +kernel
theorem dX9_roots_54 : decode cX9_roots 54 = .ok (.ireturn, 1) := by decide +kernel
theorem dX9_nails_0 : decode cX9_nails 0 = .ok (.aload_n 0, 1) := by decide +kernel
theorem dX9_nails_1 : decode cX9_nails 1 = .ok (.getfield 10, 3) := by decide +kernel
theorem dX9_nails_4 : decode cX9_nails 4 = .ok (.invokevirtual 162, 3) := by decide +kernel
theorem dX9_nails_7 : decode cX9_nails 7 = .ok (.ireturn, 1) := by decide +kernel
theorem dX9_guard_0 : decode cX9_guard 0 = .ok (.aload_n 0, 1) := by decide +kernel
theorem dX9_guard_1 : decode cX9_guard 1 = .ok (.getfield 10, 3) := by decide +kernel
theorem dX9_guard_4 : decode cX9_guard 4 = .ok (.iload_n 1, 1) := by decide +kernel
theorem dX9_guard_5 : decode cX9_guard 5 = .ok (.invokevirtual 77, 3) := by decide +kernel
theorem dX9_guard_8 : decode cX9_guard 8 = .ok (.ifCond .ne 9, 3) := by decide +kernel
theorem dX9_guard_11 : decode cX9_guard 11 = .ok (.aload_n 0, 1) := by decide +kernel
theorem dX9_guard_12 : decode cX9_guard 12 = .ok (.iconst (-1), 1) := by decide +kernel
theorem dX9_guard_13 : decode cX9_guard 13 = .ok (.invokevirtual 51, 3) := by decide +kernel
theorem dX9_guard_16 : decode cX9_guard 16 = .ok (.ireturn, 1) := by decide +kernel
theorem dX9_guard_17 : decode cX9_guard 17 = .ok (.iload_n 2, 1) := by decide +kernel
theorem dX9_guard_18 : decode cX9_guard 18 = .ok (.iconst 0, 1) := by decide +kernel
theorem dX9_guard_19 : decode cX9_guard 19 = .ok (.bipush 30, 2) := by decide +kernel
theorem dX9_guard_21 : decode cX9_guard 21 = .ok (.invokestatic 124, 3) := by decide +kernel
theorem dX9_guard_24 : decode cX9_guard 24 = .ok (.istore_n 3, 1) := by decide +kernel
theorem dX9_guard_25 : decode cX9_guard 25 = .ok (.iload_n 3, 1) := by decide +kernel
theorem dX9_guard_26 : decode cX9_guard 26 = .ok (.ifCond .eq 11, 3) := by decide +kernel
theorem dX9_guard_29 : decode cX9_guard 29 = .ok (.aload_n 0, 1) := by decide +kernel
theorem dX9_guard_30 : decode cX9_guard 30 = .ok (.iload_n 3, 1) := by decide +kernel
theorem dX9_guard_31 : decode cX9_guard 31 = .ok (.invokevirtual 51, 3) := by decide +kernel
theorem dX9_guard_34 : decode cX9_guard 34 = .ok (.goto 12, 3) := by decide +kernel
theorem dX9_guard_37 : decode cX9_guard 37 = .ok (.aload_n 0, 1) := by decide +kernel
theorem dX9_guard_38 : decode cX9_guard 38 = .ok (.getfield 10, 3) := by decide +kernel
theorem dX9_guard_41 : decode cX9_guard 41 = .ok (.iload_n 1, 1) := by decide +kernel
theorem dX9_guard_42 : decode cX9_guard 42 = .ok (.iload_n 2, 1) := by decide +kernel
theorem dX9_guard_43 : decode cX9_guard 43 = .ok (.invokestatic 165, 3) := by decide +kernel
theorem dX9_guard_46 : decode cX9_guard 46 = .ok (.ireturn, 1) := by decide +kernel
theorem dX9_weak_0 : decode cX9_weak 0 = .ok (.iload_n 1, 1) := by decide +kernel
theorem dX9_weak_1 : decode cX9_weak 1 = .ok (.iconst 0, 1) := by decide +kernel
theorem dX9_weak_2 : decode cX9_weak 2 = .ok (.bipush 30, 2) := by decide +kernel
theorem dX9_weak_4 : decode cX9_weak 4 = .ok (.invokestatic 124, 3) := by decide +kernel
theorem dX9_weak_7 : decode cX9_weak 7 = .ok (.istore_n 2, 1) := by decide +kernel
theorem dX9_weak_8 : decode cX9_weak 8 = .ok (.iload_n 2, 1) := by decide +kernel
theorem dX9_weak_9 : decode cX9_weak 9 = .ok (.ifCond .eq 11, 3) := by decide +kernel
theorem dX9_weak_12 : decode cX9_weak 12 = .ok (.aload_n 0, 1) := by decide +kernel
theorem dX9_weak_13 : decode cX9_weak 13 = .ok (.iload_n 2, 1) := by decide +kernel
theorem dX9_weak_14 : decode cX9_weak 14 = .ok (.invokevirtual 51, 3) := by decide +kernel
theorem dX9_weak_17 : decode cX9_weak 17 = .ok (.goto 11, 3) := by decide +kernel
theorem dX9_weak_20 : decode cX9_weak 20 = .ok (.aload_n 0, 1) := by decide +kernel
theorem dX9_weak_21 : decode cX9_weak 21 = .ok (.getfield 10, 3) := by decide +kernel
theorem dX9_weak_24 : decode cX9_weak 24 = .ok (.iload_n 1, 1) := by decide +kernel
theorem dX9_weak_25 : decode cX9_weak 25 = .ok (.invokestatic 168, 3) := by decide +kernel
theorem dX9_weak_28 : decode cX9_weak 28 = .ok (.ireturn, 1) := by decide +kernel
theorem dX9_tack_0 : decode cX9_tack 0 = .ok (.aload_n 0, 1) := by decide +kernel
theorem dX9_tack_1 : decode cX9_tack 1 = .ok (.getfield 10, 3) := by decide +kernel
theorem dX9_tack_4 : decode cX9_tack 4 = .ok (.iload_n 1, 1) := by decide +kernel
theorem dX9_tack_5 : decode cX9_tack 5 = .ok (.invokevirtual 77, 3) := by decide +kernel
theorem dX9_tack_8 : decode cX9_tack 8 = .ok (.ifCond .eq 14, 3) := by decide +kernel
theorem dX9_tack_11 : decode cX9_tack 11 = .ok (.aload_n 0, 1) := by decide +kernel
theorem dX9_tack_12 : decode cX9_tack 12 = .ok (.getfield 10, 3) := by decide +kernel
theorem dX9_tack_15 : decode cX9_tack 15 = .ok (.iload_n 1, 1) := by decide +kernel
theorem dX9_tack_16 : decode cX9_tack 16 = .ok (.invokestatic 172, 3) := by decide +kernel
theorem dX9_tack_19 : decode cX9_tack 19 = .ok (.goto 8, 3) := by decide +kernel
theorem dX9_tack_22 : decode cX9_tack 22 = .ok (.aload_n 0, 1) := by decide +kernel
theorem dX9_tack_23 : decode cX9_tack 23 = .ok (.iconst (-1), 1) := by decide +kernel
theorem dX9_tack_24 : decode cX9_tack 24 = .ok (.invokevirtual 51, 3) := by decide +kernel
theorem dX9_tack_27 : decode cX9_tack 27 = .ok (.ireturn, 1) := by decide +kernel
theorem dX9_worst_0 : decode cX9_worst 0 = .ok (.iload_n 1, 1) := by decide +kernel
theorem dX9_worst_1 : decode cX9_worst 1 = .ok (.iconst 0, 1) := by decide +kernel
theorem dX9_worst_2 : decode cX9_worst 2 = .ok (.bipush 30, 2) := by decide +kernel
theorem dX9_worst_4 : decode cX9_worst 4 = .ok (.invokestatic 124, 3) := by decide +kernel
theorem dX9_worst_7 : decode cX9_worst 7 = .ok (.istore_n 2, 1) := by decide +kernel
theorem dX9_worst_8 : decode cX9_worst 8 = .ok (.iload_n 2, 1) := by decide +kernel
theorem dX9_worst_9 : decode cX9_worst 9 = .ok (.ifCond .eq 11, 3) := by decide +kernel
theorem dX9_worst_12 : decode cX9_worst 12 = .ok (.aload_n 0, 1) := by decide +kernel
theorem dX9_worst_13 : decode cX9_worst 13 = .ok (.iload_n 2, 1) := by decide +kernel
theorem dX9_worst_14 : decode cX9_worst 14 = .ok (.invokevirtual 51, 3) := by decide +kernel
theorem dX9_worst_17 : decode cX9_worst 17 = .ok (.goto 11, 3) := by decide +kernel
theorem dX9_worst_20 : decode cX9_worst 20 = .ok (.aload_n 0, 1) := by decide +kernel
theorem dX9_worst_21 : decode cX9_worst 21 = .ok (.getfield 10, 3) := by decide +kernel
theorem dX9_worst_24 : decode cX9_worst 24 = .ok (.iload_n 1, 1) := by decide +kernel
theorem dX9_worst_25 : decode cX9_worst 25 = .ok (.invokestatic 175, 3) := by decide +kernel
theorem dX9_worst_28 : decode cX9_worst 28 = .ok (.ireturn, 1) := by decide +kernel
theorem dX9_fewest_0 : decode cX9_fewest 0 = .ok (.aload_n 0, 1) := by decide +kernel
theorem dX9_fewest_1 : decode cX9_fewest 1 = .ok (.getfield 10, 3) := by decide +kernel
theorem dX9_fewest_4 : decode cX9_fewest 4 = .ok (.iload_n 1, 1) := by decide +kernel
theorem dX9_fewest_5 : decode cX9_fewest 5 = .ok (.invokevirtual 77, 3) := by decide +kernel
theorem dX9_fewest_8 : decode cX9_fewest 8 = .ok (.ifCond .eq 14, 3) := by decide +kernel
theorem dX9_fewest_11 : decode cX9_fewest 11 = .ok (.aload_n 0, 1) := by decide +kernel
theorem dX9_fewest_12 : decode cX9_fewest 12 = .ok (.getfield 10, 3) := by decide +kernel
theorem dX9_fewest_15 : decode cX9_fewest 15 = .ok (.iload_n 1, 1) := by decide +kernel
theorem dX9_fewest_16 : decode cX9_fewest 16 = .ok (.invokestatic 178, 3) := by decide +kernel
theorem dX9_fewest_19 : decode cX9_fewest 19 = .ok (.goto 8, 3) := by decide +kernel
theorem dX9_fewest_22 : decode cX9_fewest 22 = .ok (.aload_n 0, 1) := by decide +kernel
theorem dX9_fewest_23 : decode cX9_fewest 23 = .ok (.iconst (-1), 1) := by decide +kernel
theorem dX9_fewest_24 : decode cX9_fewest 24 = .ok (.invokevirtual 51, 3) := by decide +kernel
theorem dX9_fewest_27 : decode cX9_fewest 27 = .ok (.ireturn, 1) := by decide +kernel
theorem dX9_blame_0 : decode cX9_blame 0 = .ok (.aload_n 0, 1) := by decide +kernel
theorem dX9_blame_1 : decode cX9_blame 1 = .ok (.getfield 10, 3) := by decide +kernel
theorem dX9_blame_4 : decode cX9_blame 4 = .ok (.iload_n 1, 1) := by decide +kernel
theorem dX9_blame_5 : decode cX9_blame 5 = .ok (.invokevirtual 77, 3) := by decide +kernel
theorem dX9_blame_8 : decode cX9_blame 8 = .ok (.ifCond .eq 14, 3) := by decide +kernel
theorem dX9_blame_11 : decode cX9_blame 11 = .ok (.aload_n 0, 1) := by decide +kernel
theorem dX9_blame_12 : decode cX9_blame 12 = .ok (.getfield 10, 3) := by decide +kernel
theorem dX9_blame_15 : decode cX9_blame 15 = .ok (.iload_n 2, 1) := by decide +kernel
theorem dX9_blame_16 : decode cX9_blame 16 = .ok (.invokevirtual 77, 3) := by decide +kernel
theorem dX9_blame_19 : decode cX9_blame 19 = .ok (.ifCond .ne 9, 3) := by decide +kernel
theorem dX9_blame_22 : decode cX9_blame 22 = .ok (.aload_n 0, 1) := by decide +kernel
theorem dX9_blame_23 : decode cX9_blame 23 = .ok (.iconst (-1), 1) := by decide +kernel
theorem dX9_blame_24 : decode cX9_blame 24 = .ok (.invokevirtual 181, 3) := by decide +kernel
theorem dX9_blame_27 : decode cX9_blame 27 = .ok (.lreturn, 1) := by decide +kernel
theorem dX9_blame_28 : decode cX9_blame 28 = .ok (.aload_n 0, 1) := by decide +kernel
theorem dX9_blame_29 : decode cX9_blame 29 = .ok (.getfield 10, 3) := by decide +kernel
theorem dX9_blame_32 : decode cX9_blame 32 = .ok (.invokestatic 185, 3) := by decide +kernel
theorem dX9_blame_35 : decode cX9_blame 35 = .ok (.istore 4, 2) := by decide +kernel
theorem dX9_blame_37 : decode cX9_blame 37 = .ok (.iload 4, 2) := by decide +kernel
theorem dX9_blame_39 : decode cX9_blame 39 = .ok (.iconst 1, 1) := by decide +kernel
theorem dX9_blame_40 : decode cX9_blame 40 = .ok (.iload_n 1, 1) := by decide +kernel
theorem dX9_blame_41 : decode cX9_blame 41 = .ok (.ishl, 1) := by decide +kernel
theorem dX9_blame_42 : decode cX9_blame 42 = .ok (.iand, 1) := by decide +kernel
theorem dX9_blame_43 : decode cX9_blame 43 = .ok (.ifCond .ne 10, 3) := by decide +kernel
theorem dX9_blame_46 : decode cX9_blame 46 = .ok (.aload_n 0, 1) := by decide +kernel
theorem dX9_blame_47 : decode cX9_blame 47 = .ok (.bipush (-3), 2) := by decide +kernel
theorem dX9_blame_49 : decode cX9_blame 49 = .ok (.invokevirtual 181, 3) := by decide +kernel
theorem dX9_blame_52 : decode cX9_blame 52 = .ok (.lreturn, 1) := by decide +kernel
theorem dX9_blame_53 : decode cX9_blame 53 = .ok (.iload_n 3, 1) := by decide +kernel
theorem dX9_blame_54 : decode cX9_blame 54 = .ok (.invokestatic 153, 3) := by decide +kernel
theorem dX9_blame_57 : decode cX9_blame 57 = .ok (.ifCond .ne 10, 3) := by decide +kernel
theorem dX9_blame_60 : decode cX9_blame 60 = .ok (.aload_n 0, 1) := by decide +kernel
theorem dX9_blame_61 : decode cX9_blame 61 = .ok (.bipush (-2), 2) := by decide +kernel
theorem dX9_blame_63 : decode cX9_blame 63 = .ok (.invokevirtual 181, 3) := by decide +kernel
theorem dX9_blame_66 : decode cX9_blame 66 = .ok (.lreturn, 1) := by decide +kernel
theorem dX9_blame_67 : decode cX9_blame 67 = .ok (.aload_n 0, 1) := by decide +kernel
theorem dX9_blame_68 : decode cX9_blame 68 = .ok (.getfield 10, 3) := by decide +kernel
theorem dX9_blame_71 : decode cX9_blame 71 = .ok (.iload_n 1, 1) := by decide +kernel
theorem dX9_blame_72 : decode cX9_blame 72 = .ok (.iload_n 2, 1) := by decide +kernel
theorem dX9_blame_73 : decode cX9_blame 73 = .ok (.invokestatic 190, 3) := by decide +kernel
theorem dX9_blame_76 : decode cX9_blame 76 = .ok (.iload 4, 2) := by decide +kernel
theorem dX9_blame_78 : decode cX9_blame 78 = .ok (.invokestatic 110, 3) := by decide +kernel
theorem dX9_blame_81 : decode cX9_blame 81 = .ok (.invokestatic 194, 3) := by decide +kernel
theorem dX9_blame_84 : decode cX9_blame 84 = .ok (.iload_n 3, 1) := by decide +kernel
theorem dX9_blame_85 : decode cX9_blame 85 = .ok (.invokestatic 197, 3) := by decide +kernel
theorem dX9_blame_88 : decode cX9_blame 88 = .ok (.lreturn, 1) := by decide +kernel
theorem dX9_saved_0 : decode cX9_saved 0 = .ok (.aload_n 0, 1) := by decide +kernel
theorem dX9_saved_1 : decode cX9_saved 1 = .ok (.getfield 10, 3) := by decide +kernel
theorem dX9_saved_4 : decode cX9_saved 4 = .ok (.iload_n 1, 1) := by decide +kernel
theorem dX9_saved_5 : decode cX9_saved 5 = .ok (.invokevirtual 77, 3) := by decide +kernel
theorem dX9_saved_8 : decode cX9_saved 8 = .ok (.ifCond .ne 9, 3) := by decide +kernel
theorem dX9_saved_11 : decode cX9_saved 11 = .ok (.aload_n 0, 1) := by decide +kernel
theorem dX9_saved_12 : decode cX9_saved 12 = .ok (.iconst (-1), 1) := by decide +kernel
theorem dX9_saved_13 : decode cX9_saved 13 = .ok (.invokevirtual 51, 3) := by decide +kernel
theorem dX9_saved_16 : decode cX9_saved 16 = .ok (.ireturn, 1) := by decide +kernel
theorem dX9_saved_17 : decode cX9_saved 17 = .ok (.iload_n 2, 1) := by decide +kernel
theorem dX9_saved_18 : decode cX9_saved 18 = .ok (.iconst 0, 1) := by decide +kernel
theorem dX9_saved_19 : decode cX9_saved 19 = .ok (.bipush 30, 2) := by decide +kernel
theorem dX9_saved_21 : decode cX9_saved 21 = .ok (.invokestatic 124, 3) := by decide +kernel
theorem dX9_saved_24 : decode cX9_saved 24 = .ok (.istore_n 3, 1) := by decide +kernel
theorem dX9_saved_25 : decode cX9_saved 25 = .ok (.iload_n 3, 1) := by decide +kernel
theorem dX9_saved_26 : decode cX9_saved 26 = .ok (.ifCond .eq 11, 3) := by decide +kernel
theorem dX9_saved_29 : decode cX9_saved 29 = .ok (.aload_n 0, 1) := by decide +kernel
theorem dX9_saved_30 : decode cX9_saved 30 = .ok (.iload_n 3, 1) := by decide +kernel
theorem dX9_saved_31 : decode cX9_saved 31 = .ok (.invokevirtual 51, 3) := by decide +kernel
theorem dX9_saved_34 : decode cX9_saved 34 = .ok (.goto 12, 3) := by decide +kernel
theorem dX9_saved_37 : decode cX9_saved 37 = .ok (.aload_n 0, 1) := by decide +kernel
theorem dX9_saved_38 : decode cX9_saved 38 = .ok (.getfield 10, 3) := by decide +kernel
theorem dX9_saved_41 : decode cX9_saved 41 = .ok (.iload_n 1, 1) := by decide +kernel
theorem dX9_saved_42 : decode cX9_saved 42 = .ok (.iload_n 2, 1) := by decide +kernel
theorem dX9_saved_43 : decode cX9_saved 43 = .ok (.invokestatic 203, 3) := by decide +kernel
theorem dX9_saved_46 : decode cX9_saved 46 = .ok (.ireturn, 1) := by decide +kernel
theorem dX9_hooks_0 : decode cX9_hooks 0 = .ok (.iload_n 1, 1) := by decide +kernel
theorem dX9_hooks_1 : decode cX9_hooks 1 = .ok (.invokestatic 153, 3) := by decide +kernel
theorem dX9_hooks_4 : decode cX9_hooks 4 = .ok (.ifCond .ne 10, 3) := by decide +kernel
theorem dX9_hooks_7 : decode cX9_hooks 7 = .ok (.aload_n 0, 1) := by decide +kernel
theorem dX9_hooks_8 : decode cX9_hooks 8 = .ok (.bipush (-2), 2) := by decide +kernel
theorem dX9_hooks_10 : decode cX9_hooks 10 = .ok (.invokevirtual 51, 3) := by decide +kernel
theorem dX9_hooks_13 : decode cX9_hooks 13 = .ok (.ireturn, 1) := by decide +kernel
theorem dX9_hooks_14 : decode cX9_hooks 14 = .ok (.iload_n 1, 1) := by decide +kernel
theorem dX9_hooks_15 : decode cX9_hooks 15 = .ok (.ifCond .ne 29, 3) := by decide +kernel
theorem dX9_hooks_18 : decode cX9_hooks 18 = .ok (.aload_n 0, 1) := by decide +kernel
theorem dX9_hooks_19 : decode cX9_hooks 19 = .ok (.getfield 10, 3) := by decide +kernel
theorem dX9_hooks_22 : decode cX9_hooks 22 = .ok (.aload_n 0, 1) := by decide +kernel
theorem dX9_hooks_23 : decode cX9_hooks 23 = .ok (.getfield 10, 3) := by decide +kernel
theorem dX9_hooks_26 : decode cX9_hooks 26 = .ok (.getfield 106, 3) := by decide +kernel
theorem dX9_hooks_29 : decode cX9_hooks 29 = .ok (.iconst 1, 1) := by decide +kernel
theorem dX9_hooks_30 : decode cX9_hooks 30 = .ok (.invokestatic 138, 3) := by decide +kernel
theorem dX9_hooks_33 : decode cX9_hooks 33 = .ok (.aload_n 0, 1) := by decide +kernel
theorem dX9_hooks_34 : decode cX9_hooks 34 = .ok (.getfield 10, 3) := by decide +kernel
theorem dX9_hooks_37 : decode cX9_hooks 37 = .ok (.getfield 106, 3) := by decide +kernel
theorem dX9_hooks_40 : decode cX9_hooks 40 = .ok (.iconst (-1), 1) := by decide +kernel
theorem dX9_hooks_41 : decode cX9_hooks 41 = .ok (.ixor, 1) := by decide +kernel
theorem dX9_hooks_42 : decode cX9_hooks 42 = .ok (.iand, 1) := by decide +kernel
theorem dX9_hooks_43 : decode cX9_hooks 43 = .ok (.ireturn, 1) := by decide +kernel
theorem dX9_hooks_44 : decode cX9_hooks 44 = .ok (.aload_n 0, 1) := by decide +kernel
theorem dX9_hooks_45 : decode cX9_hooks 45 = .ok (.getfield 10, 3) := by decide +kernel
theorem dX9_hooks_48 : decode cX9_hooks 48 = .ok (.invokevirtual 206, 3) := by decide +kernel
theorem dX9_hooks_51 : decode cX9_hooks 51 = .ok (.aload_n 0, 1) := by decide +kernel
theorem dX9_hooks_52 : decode cX9_hooks 52 = .ok (.getfield 10, 3) := by decide +kernel
theorem dX9_hooks_55 : decode cX9_hooks 55 = .ok (.aload_n 0, 1) := by decide +kernel
theorem dX9_hooks_56 : decode cX9_hooks 56 = .ok (.getfield 10, 3) := by decide +kernel
theorem dX9_hooks_59 : decode cX9_hooks 59 = .ok (.getfield 106, 3) := by decide +kernel
theorem dX9_hooks_62 : decode cX9_hooks 62 = .ok (.bipush 60, 2) := by decide +kernel
theorem dX9_hooks_64 : decode cX9_hooks 64 = .ok (.invokestatic 138, 3) := by decide +kernel
theorem dX9_hooks_67 : decode cX9_hooks 67 = .ok (.iconst (-1), 1) := by decide +kernel
theorem dX9_hooks_68 : decode cX9_hooks 68 = .ok (.ixor, 1) := by decide +kernel
theorem dX9_hooks_69 : decode cX9_hooks 69 = .ok (.iand, 1) := by decide +kernel
theorem dX9_hooks_70 : decode cX9_hooks 70 = .ok (.ireturn, 1) := by decide +kernel
theorem dX9_key_0 : decode cX9_key 0 = .ok (.aload_n 0, 1) := by decide +kernel
theorem dX9_key_1 : decode cX9_key 1 = .ok (.getfield 10, 3) := by decide +kernel
theorem dX9_key_4 : decode cX9_key 4 = .ok (.invokevirtual 209, 3) := by decide +kernel
theorem dX9_key_7 : decode cX9_key 7 = .ok (.ireturn, 1) := by decide +kernel
theorem dX9_twins_0 : decode cX9_twins 0 = .ok (.iload_n 1, 1) := by decide +kernel
theorem dX9_twins_1 : decode cX9_twins 1 = .ok (.invokestatic 153, 3) := by decide +kernel
theorem dX9_twins_4 : decode cX9_twins 4 = .ok (.ifCond .ne 10, 3) := by decide +kernel
theorem dX9_twins_7 : decode cX9_twins 7 = .ok (.aload_n 0, 1) := by decide +kernel
theorem dX9_twins_8 : decode cX9_twins 8 = .ok (.bipush (-2), 2) := by decide +kernel
theorem dX9_twins_10 : decode cX9_twins 10 = .ok (.invokevirtual 51, 3) := by decide +kernel
theorem dX9_twins_13 : decode cX9_twins 13 = .ok (.ireturn, 1) := by decide +kernel
theorem dX9_twins_14 : decode cX9_twins 14 = .ok (.iload_n 1, 1) := by decide +kernel
theorem dX9_twins_15 : decode cX9_twins 15 = .ok (.ifCond .ne 13, 3) := by decide +kernel
theorem dX9_twins_18 : decode cX9_twins 18 = .ok (.aload_n 0, 1) := by decide +kernel
theorem dX9_twins_19 : decode cX9_twins 19 = .ok (.getfield 10, 3) := by decide +kernel
theorem dX9_twins_22 : decode cX9_twins 22 = .ok (.invokevirtual 212, 3) := by decide +kernel
theorem dX9_twins_25 : decode cX9_twins 25 = .ok (.goto 10, 3) := by decide +kernel
theorem dX9_twins_28 : decode cX9_twins 28 = .ok (.aload_n 0, 1) := by decide +kernel
theorem dX9_twins_29 : decode cX9_twins 29 = .ok (.getfield 10, 3) := by decide +kernel
theorem dX9_twins_32 : decode cX9_twins 32 = .ok (.invokevirtual 215, 3) := by decide +kernel
theorem dX9_twins_35 : decode cX9_twins 35 = .ok (.ireturn, 1) := by decide +kernel
theorem dX9_two_0 : decode cX9_two 0 = .ok (.aload_n 0, 1) := by decide +kernel
theorem dX9_two_1 : decode cX9_two 1 = .ok (.getfield 10, 3) := by decide +kernel
theorem dX9_two_4 : decode cX9_two 4 = .ok (.iload_n 1, 1) := by decide +kernel
theorem dX9_two_5 : decode cX9_two 5 = .ok (.invokevirtual 77, 3) := by decide +kernel
theorem dX9_two_8 : decode cX9_two 8 = .ok (.ifCond .eq 19, 3) := by decide +kernel
theorem dX9_two_11 : decode cX9_two 11 = .ok (.aload_n 0, 1) := by decide +kernel
theorem dX9_two_12 : decode cX9_two 12 = .ok (.getfield 10, 3) := by decide +kernel
theorem dX9_two_15 : decode cX9_two 15 = .ok (.iload_n 2, 1) := by decide +kernel
theorem dX9_two_16 : decode cX9_two 16 = .ok (.invokevirtual 77, 3) := by decide +kernel
theorem dX9_two_19 : decode cX9_two 19 = .ok (.ifCond .eq 8, 3) := by decide +kernel
theorem dX9_two_22 : decode cX9_two 22 = .ok (.iload_n 1, 1) := by decide +kernel
theorem dX9_two_23 : decode cX9_two 23 = .ok (.iload_n 2, 1) := by decide +kernel
theorem dX9_two_24 : decode cX9_two 24 = .ok (.if_icmp .ne 9, 3) := by decide +kernel
theorem dX9_two_27 : decode cX9_two 27 = .ok (.aload_n 0, 1) := by decide +kernel
theorem dX9_two_28 : decode cX9_two 28 = .ok (.iconst (-1), 1) := by decide +kernel
theorem dX9_two_29 : decode cX9_two 29 = .ok (.invokevirtual 51, 3) := by decide +kernel
theorem dX9_two_32 : decode cX9_two 32 = .ok (.ireturn, 1) := by decide +kernel
theorem dX9_two_33 : decode cX9_two 33 = .ok (.iload_n 3, 1) := by decide +kernel
theorem dX9_two_34 : decode cX9_two 34 = .ok (.iconst 0, 1) := by decide +kernel
theorem dX9_two_35 : decode cX9_two 35 = .ok (.bipush 30, 2) := by decide +kernel
theorem dX9_two_37 : decode cX9_two 37 = .ok (.invokestatic 124, 3) := by decide +kernel
theorem dX9_two_40 : decode cX9_two 40 = .ok (.istore 4, 2) := by decide +kernel
theorem dX9_two_42 : decode cX9_two 42 = .ok (.iload 4, 2) := by decide +kernel
theorem dX9_two_44 : decode cX9_two 44 = .ok (.ifCond .eq 10, 3) := by decide +kernel
theorem dX9_two_47 : decode cX9_two 47 = .ok (.aload_n 0, 1) := by decide +kernel
theorem dX9_two_48 : decode cX9_two 48 = .ok (.iload 4, 2) := by decide +kernel
theorem dX9_two_50 : decode cX9_two 50 = .ok (.invokevirtual 51, 3) := by decide +kernel
theorem dX9_two_53 : decode cX9_two 53 = .ok (.ireturn, 1) := by decide +kernel
theorem dX9_two_54 : decode cX9_two 54 = .ok (.iconst 1, 1) := by decide +kernel
theorem dX9_two_55 : decode cX9_two 55 = .ok (.iload_n 1, 1) := by decide +kernel
theorem dX9_two_56 : decode cX9_two 56 = .ok (.ishl, 1) := by decide +kernel
theorem dX9_two_57 : decode cX9_two 57 = .ok (.iconst 1, 1) := by decide +kernel
theorem dX9_two_58 : decode cX9_two 58 = .ok (.iload_n 2, 1) := by decide +kernel
theorem dX9_two_59 : decode cX9_two 59 = .ok (.ishl, 1) := by decide +kernel
theorem dX9_two_60 : decode cX9_two 60 = .ok (.ior, 1) := by decide +kernel
theorem dX9_two_61 : decode cX9_two 61 = .ok (.istore 5, 2) := by decide +kernel
theorem dX9_two_63 : decode cX9_two 63 = .ok (.aload_n 0, 1) := by decide +kernel
theorem dX9_two_64 : decode cX9_two 64 = .ok (.getfield 10, 3) := by decide +kernel
theorem dX9_two_67 : decode cX9_two 67 = .ok (.invokevirtual 218, 3) := by decide +kernel
theorem dX9_two_70 : decode cX9_two 70 = .ok (.iload 5, 2) := by decide +kernel
theorem dX9_two_72 : decode cX9_two 72 = .ok (.iand, 1) := by decide +kernel
theorem dX9_two_73 : decode cX9_two 73 = .ok (.iload 5, 2) := by decide +kernel
theorem dX9_two_75 : decode cX9_two 75 = .ok (.if_icmp .eq 10, 3) := by decide +kernel
theorem dX9_two_78 : decode cX9_two 78 = .ok (.aload_n 0, 1) := by decide +kernel
theorem dX9_two_79 : decode cX9_two 79 = .ok (.bipush (-3), 2) := by decide +kernel
theorem dX9_two_81 : decode cX9_two 81 = .ok (.invokevirtual 51, 3) := by decide +kernel
theorem dX9_two_84 : decode cX9_two 84 = .ok (.ireturn, 1) := by decide +kernel
theorem dX9_two_85 : decode cX9_two 85 = .ok (.aload_n 0, 1) := by decide +kernel
theorem dX9_two_86 : decode cX9_two 86 = .ok (.getfield 10, 3) := by decide +kernel
theorem dX9_two_89 : decode cX9_two 89 = .ok (.iload_n 1, 1) := by decide +kernel
theorem dX9_two_90 : decode cX9_two 90 = .ok (.iload_n 2, 1) := by decide +kernel
theorem dX9_two_91 : decode cX9_two 91 = .ok (.iload_n 3, 1) := by decide +kernel
theorem dX9_two_92 : decode cX9_two 92 = .ok (.invokestatic 221, 3) := by decide +kernel
theorem dX9_two_95 : decode cX9_two 95 = .ok (.ireturn, 1) := by decide +kernel
theorem dX9_boys_0 : decode cX9_boys 0 = .ok (.aload_n 0, 1) := by decide +kernel
theorem dX9_boys_1 : decode cX9_boys 1 = .ok (.getfield 10, 3) := by decide +kernel
theorem dX9_boys_4 : decode cX9_boys 4 = .ok (.iload_n 1, 1) := by decide +kernel
theorem dX9_boys_5 : decode cX9_boys 5 = .ok (.invokevirtual 77, 3) := by decide +kernel
theorem dX9_boys_8 : decode cX9_boys 8 = .ok (.ifCond .eq 14, 3) := by decide +kernel
theorem dX9_boys_11 : decode cX9_boys 11 = .ok (.aload_n 0, 1) := by decide +kernel
theorem dX9_boys_12 : decode cX9_boys 12 = .ok (.getfield 10, 3) := by decide +kernel
theorem dX9_boys_15 : decode cX9_boys 15 = .ok (.iload_n 2, 1) := by decide +kernel
theorem dX9_boys_16 : decode cX9_boys 16 = .ok (.invokevirtual 77, 3) := by decide +kernel
theorem dX9_boys_19 : decode cX9_boys 19 = .ok (.ifCond .ne 9, 3) := by decide +kernel
theorem dX9_boys_22 : decode cX9_boys 22 = .ok (.aload_n 0, 1) := by decide +kernel
theorem dX9_boys_23 : decode cX9_boys 23 = .ok (.iconst (-1), 1) := by decide +kernel
theorem dX9_boys_24 : decode cX9_boys 24 = .ok (.invokevirtual 181, 3) := by decide +kernel
theorem dX9_boys_27 : decode cX9_boys 27 = .ok (.lreturn, 1) := by decide +kernel
theorem dX9_boys_28 : decode cX9_boys 28 = .ok (.iload_n 3, 1) := by decide +kernel
theorem dX9_boys_29 : decode cX9_boys 29 = .ok (.ifCond .lt 9, 3) := by decide +kernel
theorem dX9_boys_32 : decode cX9_boys 32 = .ok (.iload 4, 2) := by decide +kernel
theorem dX9_boys_34 : decode cX9_boys 34 = .ok (.iconst 2, 1) := by decide +kernel
theorem dX9_boys_35 : decode cX9_boys 35 = .ok (.if_icmp .ge 10, 3) := by decide +kernel
theorem dX9_boys_38 : decode cX9_boys 38 = .ok (.aload_n 0, 1) := by decide +kernel
theorem dX9_boys_39 : decode cX9_boys 39 = .ok (.bipush (-4), 2) := by decide +kernel
theorem dX9_boys_41 : decode cX9_boys 41 = .ok (.invokevirtual 181, 3) := by decide +kernel
theorem dX9_boys_44 : decode cX9_boys 44 = .ok (.lreturn, 1) := by decide +kernel
theorem dX9_boys_45 : decode cX9_boys 45 = .ok (.iload_n 3, 1) := by decide +kernel
theorem dX9_boys_46 : decode cX9_boys 46 = .ok (.bipush 6, 2) := by decide +kernel
theorem dX9_boys_48 : decode cX9_boys 48 = .ok (.if_icmp .gt 10, 3) := by decide +kernel
theorem dX9_boys_51 : decode cX9_boys 51 = .ok (.iload 4, 2) := by decide +kernel
theorem dX9_boys_53 : decode cX9_boys 53 = .ok (.bipush 20, 2) := by decide +kernel
theorem dX9_boys_55 : decode cX9_boys 55 = .ok (.if_icmp .le 10, 3) := by decide +kernel
theorem dX9_boys_58 : decode cX9_boys 58 = .ok (.aload_n 0, 1) := by decide +kernel
theorem dX9_boys_59 : decode cX9_boys 59 = .ok (.bipush (-6), 2) := by decide +kernel
theorem dX9_boys_61 : decode cX9_boys 61 = .ok (.invokevirtual 181, 3) := by decide +kernel
theorem dX9_boys_64 : decode cX9_boys 64 = .ok (.lreturn, 1) := by decide +kernel
theorem dX9_boys_65 : decode cX9_boys 65 = .ok (.iload 5, 2) := by decide +kernel
theorem dX9_boys_67 : decode cX9_boys 67 = .ok (.invokestatic 153, 3) := by decide +kernel
theorem dX9_boys_70 : decode cX9_boys 70 = .ok (.ifCond .ne 10, 3) := by decide +kernel
theorem dX9_boys_73 : decode cX9_boys 73 = .ok (.aload_n 0, 1) := by decide +kernel
theorem dX9_boys_74 : decode cX9_boys 74 = .ok (.bipush (-2), 2) := by decide +kernel
theorem dX9_boys_76 : decode cX9_boys 76 = .ok (.invokevirtual 181, 3) := by decide +kernel
theorem dX9_boys_79 : decode cX9_boys 79 = .ok (.lreturn, 1) := by decide +kernel
theorem dX9_boys_80 : decode cX9_boys 80 = .ok (.aload_n 0, 1) := by decide +kernel
theorem dX9_boys_81 : decode cX9_boys 81 = .ok (.getfield 10, 3) := by decide +kernel
theorem dX9_boys_84 : decode cX9_boys 84 = .ok (.iload_n 1, 1) := by decide +kernel
theorem dX9_boys_85 : decode cX9_boys 85 = .ok (.iload_n 2, 1) := by decide +kernel
theorem dX9_boys_86 : decode cX9_boys 86 = .ok (.iload_n 3, 1) := by decide +kernel
theorem dX9_boys_87 : decode cX9_boys 87 = .ok (.iload 4, 2) := by decide +kernel
theorem dX9_boys_89 : decode cX9_boys 89 = .ok (.invokestatic 229, 3) := by decide +kernel
theorem dX9_boys_92 : decode cX9_boys 92 = .ok (.iload 4, 2) := by decide +kernel
theorem dX9_boys_94 : decode cX9_boys 94 = .ok (.iload_n 3, 1) := by decide +kernel
theorem dX9_boys_95 : decode cX9_boys 95 = .ok (.invokestatic 233, 3) := by decide +kernel
theorem dX9_boys_98 : decode cX9_boys 98 = .ok (.iload 5, 2) := by decide +kernel
theorem dX9_boys_100 : decode cX9_boys 100 = .ok (.invokestatic 197, 3) := by decide +kernel
theorem dX9_boys_103 : decode cX9_boys 103 = .ok (.lreturn, 1) := by decide +kernel
theorem dX9_mean_0 : decode cX9_mean 0 = .ok (.iload_n 1, 1) := by decide +kernel
theorem dX9_mean_1 : decode cX9_mean 1 = .ok (.invokestatic 153, 3) := by decide +kernel
theorem dX9_mean_4 : decode cX9_mean 4 = .ok (.ifCond .ne 10, 3) := by decide +kernel
theorem dX9_mean_7 : decode cX9_mean 7 = .ok (.aload_n 0, 1) := by decide +kernel
theorem dX9_mean_8 : decode cX9_mean 8 = .ok (.bipush (-2), 2) := by decide +kernel
theorem dX9_mean_10 : decode cX9_mean 10 = .ok (.invokevirtual 181, 3) := by decide +kernel
theorem dX9_mean_13 : decode cX9_mean 13 = .ok (.lreturn, 1) := by decide +kernel
theorem dX9_mean_14 : decode cX9_mean 14 = .ok (.aload_n 0, 1) := by decide +kernel
theorem dX9_mean_15 : decode cX9_mean 15 = .ok (.getfield 10, 3) := by decide +kernel
theorem dX9_mean_18 : decode cX9_mean 18 = .ok (.invokevirtual 237, 3) := by decide +kernel
theorem dX9_mean_21 : decode cX9_mean 21 = .ok (.i2l, 1) := by decide +kernel
theorem dX9_mean_22 : decode cX9_mean 22 = .ok (.iconst 1, 1) := by decide +kernel
theorem dX9_mean_23 : decode cX9_mean 23 = .ok (.aload_n 0, 1) := by decide +kernel
theorem dX9_mean_24 : decode cX9_mean 24 = .ok (.getfield 10, 3) := by decide +kernel
theorem dX9_mean_27 : decode cX9_mean 27 = .ok (.getfield 240, 3) := by decide +kernel
theorem dX9_mean_30 : decode cX9_mean 30 = .ok (.invokestatic 243, 3) := by decide +kernel
theorem dX9_mean_33 : decode cX9_mean 33 = .ok (.i2l, 1) := by decide +kernel
theorem dX9_mean_34 : decode cX9_mean 34 = .ok (.iload_n 1, 1) := by decide +kernel
theorem dX9_mean_35 : decode cX9_mean 35 = .ok (.invokestatic 197, 3) := by decide +kernel
