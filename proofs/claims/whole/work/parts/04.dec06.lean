theorem dX10_two_251 : decode cX10_two 251 = .ok (.ireturn, 1) := by decide +kernel
theorem dX10_boys_0 : decode cX10_boys 0 = .ok (.aload_n 0, 1) := by decide +kernel
theorem dX10_boys_1 : decode cX10_boys 1 = .ok (.iload_n 1, 1) := by decide +kernel
theorem dX10_boys_2 : decode cX10_boys 2 = .ok (.invokevirtual 100, 3) := by decide +kernel
theorem dX10_boys_5 : decode cX10_boys 5 = .ok (.ifCond .eq 11, 3) := by decide +kernel
theorem dX10_boys_8 : decode cX10_boys 8 = .ok (.aload_n 0, 1) := by decide +kernel
theorem dX10_boys_9 : decode cX10_boys 9 = .ok (.iload_n 2, 1) := by decide +kernel
theorem dX10_boys_10 : decode cX10_boys 10 = .ok (.invokevirtual 100, 3) := by decide +kernel
theorem dX10_boys_13 : decode cX10_boys 13 = .ok (.ifCond .ne 7, 3) := by decide +kernel
theorem dX10_boys_16 : decode cX10_boys 16 = .ok (.iconst (-1), 1) := by decide +kernel
theorem dX10_boys_17 : decode cX10_boys 17 = .ok (.goto 52, 3) := by decide +kernel
theorem dX10_boys_20 : decode cX10_boys 20 = .ok (.iload_n 3, 1) := by decide +kernel
theorem dX10_boys_21 : decode cX10_boys 21 = .ok (.ifCond .lt 9, 3) := by decide +kernel
theorem dX10_boys_24 : decode cX10_boys 24 = .ok (.iload 4, 2) := by decide +kernel
theorem dX10_boys_26 : decode cX10_boys 26 = .ok (.iconst 2, 1) := by decide +kernel
theorem dX10_boys_27 : decode cX10_boys 27 = .ok (.if_icmp .ge 8, 3) := by decide +kernel
theorem dX10_boys_30 : decode cX10_boys 30 = .ok (.bipush (-4), 2) := by decide +kernel
theorem dX10_boys_32 : decode cX10_boys 32 = .ok (.goto 37, 3) := by decide +kernel
theorem dX10_boys_35 : decode cX10_boys 35 = .ok (.iload_n 3, 1) := by decide +kernel
theorem dX10_boys_36 : decode cX10_boys 36 = .ok (.bipush 6, 2) := by decide +kernel
theorem dX10_boys_38 : decode cX10_boys 38 = .ok (.if_icmp .gt 10, 3) := by decide +kernel
theorem dX10_boys_41 : decode cX10_boys 41 = .ok (.iload 4, 2) := by decide +kernel
theorem dX10_boys_43 : decode cX10_boys 43 = .ok (.bipush 20, 2) := by decide +kernel
theorem dX10_boys_45 : decode cX10_boys 45 = .ok (.if_icmp .le 8, 3) := by decide +kernel
theorem dX10_boys_48 : decode cX10_boys 48 = .ok (.bipush (-6), 2) := by decide +kernel
theorem dX10_boys_50 : decode cX10_boys 50 = .ok (.goto 19, 3) := by decide +kernel
theorem dX10_boys_53 : decode cX10_boys 53 = .ok (.iload 5, 2) := by decide +kernel
theorem dX10_boys_55 : decode cX10_boys 55 = .ok (.iconst 0, 1) := by decide +kernel
theorem dX10_boys_56 : decode cX10_boys 56 = .ok (.iconst 1, 1) := by decide +kernel
theorem dX10_boys_57 : decode cX10_boys 57 = .ok (.invokestatic 74, 3) := by decide +kernel
theorem dX10_boys_60 : decode cX10_boys 60 = .ok (.ifCond .ne 8, 3) := by decide +kernel
theorem dX10_boys_63 : decode cX10_boys 63 = .ok (.bipush (-2), 2) := by decide +kernel
theorem dX10_boys_65 : decode cX10_boys 65 = .ok (.goto 4, 3) := by decide +kernel
theorem dX10_boys_68 : decode cX10_boys 68 = .ok (.iconst 0, 1) := by decide +kernel
theorem dX10_boys_69 : decode cX10_boys 69 = .ok (.istore 6, 2) := by decide +kernel
theorem dX10_boys_71 : decode cX10_boys 71 = .ok (.iload 6, 2) := by decide +kernel
theorem dX10_boys_73 : decode cX10_boys 73 = .ok (.ifCond .eq 10, 3) := by decide +kernel
theorem dX10_boys_76 : decode cX10_boys 76 = .ok (.aload_n 0, 1) := by decide +kernel
theorem dX10_boys_77 : decode cX10_boys 77 = .ok (.iload 6, 2) := by decide +kernel
theorem dX10_boys_79 : decode cX10_boys 79 = .ok (.invokevirtual 218, 3) := by decide +kernel
theorem dX10_boys_82 : decode cX10_boys 82 = .ok (.lreturn, 1) := by decide +kernel
theorem dX10_boys_83 : decode cX10_boys 83 = .ok (.lconst 0, 1) := by decide +kernel
theorem dX10_boys_84 : decode cX10_boys 84 = .ok (.lstore 7, 2) := by decide +kernel
theorem dX10_boys_86 : decode cX10_boys 86 = .ok (.lconst 1, 1) := by decide +kernel
theorem dX10_boys_87 : decode cX10_boys 87 = .ok (.lstore 9, 2) := by decide +kernel
theorem dX10_boys_89 : decode cX10_boys 89 = .ok (.iconst 0, 1) := by decide +kernel
theorem dX10_boys_90 : decode cX10_boys 90 = .ok (.istore 11, 2) := by decide +kernel
theorem dX10_boys_92 : decode cX10_boys 92 = .ok (.iload 11, 2) := by decide +kernel
theorem dX10_boys_94 : decode cX10_boys 94 = .ok (.iload_n 3, 1) := by decide +kernel
theorem dX10_boys_95 : decode cX10_boys 95 = .ok (.if_icmp .ge 17, 3) := by decide +kernel
theorem dX10_boys_98 : decode cX10_boys 98 = .ok (.lload 9, 2) := by decide +kernel
theorem dX10_boys_100 : decode cX10_boys 100 = .ok (.iload 4, 2) := by decide +kernel
theorem dX10_boys_102 : decode cX10_boys 102 = .ok (.i2l, 1) := by decide +kernel
theorem dX10_boys_103 : decode cX10_boys 103 = .ok (.lmul, 1) := by decide +kernel
theorem dX10_boys_104 : decode cX10_boys 104 = .ok (.lstore 9, 2) := by decide +kernel
theorem dX10_boys_106 : decode cX10_boys 106 = .ok (.iinc 11 1, 3) := by decide +kernel
theorem dX10_boys_109 : decode cX10_boys 109 = .ok (.goto (-17), 3) := by decide +kernel
theorem dX10_boys_112 : decode cX10_boys 112 = .ok (.iconst 0, 1) := by decide +kernel
theorem dX10_boys_113 : decode cX10_boys 113 = .ok (.istore 11, 2) := by decide +kernel
theorem dX10_boys_115 : decode cX10_boys 115 = .ok (.iload 11, 2) := by decide +kernel
theorem dX10_boys_117 : decode cX10_boys 117 = .ok (.iconst 1, 1) := by decide +kernel
theorem dX10_boys_118 : decode cX10_boys 118 = .ok (.iload_n 3, 1) := by decide +kernel
theorem dX10_boys_119 : decode cX10_boys 119 = .ok (.ishl, 1) := by decide +kernel
theorem dX10_boys_120 : decode cX10_boys 120 = .ok (.if_icmp .ge 109, 3) := by decide +kernel
theorem dX10_boys_123 : decode cX10_boys 123 = .ok (.aload_n 0, 1) := by decide +kernel
theorem dX10_boys_124 : decode cX10_boys 124 = .ok (.invokevirtual 159, 3) := by decide +kernel
theorem dX10_boys_127 : decode cX10_boys 127 = .ok (.lconst 1, 1) := by decide +kernel
theorem dX10_boys_128 : decode cX10_boys 128 = .ok (.lstore 12, 2) := by decide +kernel
theorem dX10_boys_130 : decode cX10_boys 130 = .ok (.iconst 0, 1) := by decide +kernel
theorem dX10_boys_131 : decode cX10_boys 131 = .ok (.istore 14, 2) := by decide +kernel
theorem dX10_boys_133 : decode cX10_boys 133 = .ok (.iload 14, 2) := by decide +kernel
theorem dX10_boys_135 : decode cX10_boys 135 = .ok (.iload_n 3, 1) := by decide +kernel
theorem dX10_boys_136 : decode cX10_boys 136 = .ok (.if_icmp .ge 61, 3) := by decide +kernel
theorem dX10_boys_139 : decode cX10_boys 139 = .ok (.lload 12, 2) := by decide +kernel
theorem dX10_boys_141 : decode cX10_boys 141 = .ok (.iload 11, 2) := by decide +kernel
theorem dX10_boys_143 : decode cX10_boys 143 = .ok (.iload 14, 2) := by decide +kernel
theorem dX10_boys_145 : decode cX10_boys 145 = .ok (.invokestatic 52, 3) := by decide +kernel
theorem dX10_boys_148 : decode cX10_boys 148 = .ok (.ifCond .eq 7, 3) := by decide +kernel
theorem dX10_boys_151 : decode cX10_boys 151 = .ok (.lconst 1, 1) := by decide +kernel
theorem dX10_boys_152 : decode cX10_boys 152 = .ok (.goto 8, 3) := by decide +kernel
theorem dX10_boys_155 : decode cX10_boys 155 = .ok (.iload 4, 2) := by decide +kernel
theorem dX10_boys_157 : decode cX10_boys 157 = .ok (.iconst 1, 1) := by decide +kernel
theorem dX10_boys_158 : decode cX10_boys 158 = .ok (.isub, 1) := by decide +kernel
theorem dX10_boys_159 : decode cX10_boys 159 = .ok (.i2l, 1) := by decide +kernel
theorem dX10_boys_160 : decode cX10_boys 160 = .ok (.lmul, 1) := by decide +kernel
theorem dX10_boys_161 : decode cX10_boys 161 = .ok (.lstore 12, 2) := by decide +kernel
theorem dX10_boys_163 : decode cX10_boys 163 = .ok (.iload 11, 2) := by decide +kernel
theorem dX10_boys_165 : decode cX10_boys 165 = .ok (.iload 14, 2) := by decide +kernel
theorem dX10_boys_167 : decode cX10_boys 167 = .ok (.invokestatic 52, 3) := by decide +kernel
theorem dX10_boys_170 : decode cX10_boys 170 = .ok (.ifCond .eq 17, 3) := by decide +kernel
theorem dX10_boys_173 : decode cX10_boys 173 = .ok (.aload_n 0, 1) := by decide +kernel
theorem dX10_boys_174 : decode cX10_boys 174 = .ok (.dup, 1) := by decide +kernel
theorem dX10_boys_175 : decode cX10_boys 175 = .ok (.getfield 94, 3) := by decide +kernel
theorem dX10_boys_178 : decode cX10_boys 178 = .ok (.iconst 1, 1) := by decide +kernel
theorem dX10_boys_179 : decode cX10_boys 179 = .ok (.iload_n 1, 1) := by decide +kernel
theorem dX10_boys_180 : decode cX10_boys 180 = .ok (.ishl, 1) := by decide +kernel
theorem dX10_boys_181 : decode cX10_boys 181 = .ok (.iconst (-1), 1) := by decide +kernel
theorem dX10_boys_182 : decode cX10_boys 182 = .ok (.ixor, 1) := by decide +kernel
theorem dX10_boys_183 : decode cX10_boys 183 = .ok (.iand, 1) := by decide +kernel
theorem dX10_boys_184 : decode cX10_boys 184 = .ok (.putfield 94, 3) := by decide +kernel
theorem dX10_boys_187 : decode cX10_boys 187 = .ok (.aload_n 0, 1) := by decide +kernel
theorem dX10_boys_188 : decode cX10_boys 188 = .ok (.invokevirtual 156, 3) := by decide +kernel
theorem dX10_boys_191 : decode cX10_boys 191 = .ok (.iinc 14 1, 3) := by decide +kernel
theorem dX10_boys_194 : decode cX10_boys 194 = .ok (.goto (-61), 3) := by decide +kernel
theorem dX10_boys_197 : decode cX10_boys 197 = .ok (.lload 7, 2) := by decide +kernel
theorem dX10_boys_199 : decode cX10_boys 199 = .ok (.aload_n 0, 1) := by decide +kernel
theorem dX10_boys_200 : decode cX10_boys 200 = .ok (.getfield 94, 3) := by decide +kernel
theorem dX10_boys_203 : decode cX10_boys 203 = .ok (.iload_n 2, 1) := by decide +kernel
theorem dX10_boys_204 : decode cX10_boys 204 = .ok (.invokestatic 52, 3) := by decide +kernel
theorem dX10_boys_207 : decode cX10_boys 207 = .ok (.ifCond .eq 8, 3) := by decide +kernel
theorem dX10_boys_210 : decode cX10_boys 210 = .ok (.lload 12, 2) := by decide +kernel
theorem dX10_boys_212 : decode cX10_boys 212 = .ok (.goto 4, 3) := by decide +kernel
theorem dX10_boys_215 : decode cX10_boys 215 = .ok (.lconst 0, 1) := by decide +kernel
theorem dX10_boys_216 : decode cX10_boys 216 = .ok (.ladd, 1) := by decide +kernel
theorem dX10_boys_217 : decode cX10_boys 217 = .ok (.lstore 7, 2) := by decide +kernel
theorem dX10_boys_219 : decode cX10_boys 219 = .ok (.aload_n 0, 1) := by decide +kernel
theorem dX10_boys_220 : decode cX10_boys 220 = .ok (.invokevirtual 162, 3) := by decide +kernel
theorem dX10_boys_223 : decode cX10_boys 223 = .ok (.iinc 11 1, 3) := by decide +kernel
theorem dX10_boys_226 : decode cX10_boys 226 = .ok (.goto (-111), 3) := by decide +kernel
theorem dX10_boys_229 : decode cX10_boys 229 = .ok (.lload 7, 2) := by decide +kernel
theorem dX10_boys_231 : decode cX10_boys 231 = .ok (.lload 9, 2) := by decide +kernel
theorem dX10_boys_233 : decode cX10_boys 233 = .ok (.iload 5, 2) := by decide +kernel
theorem dX10_boys_235 : decode cX10_boys 235 = .ok (.invokestatic 226, 3) := by decide +kernel
theorem dX10_boys_238 : decode cX10_boys 238 = .ok (.lreturn, 1) := by decide +kernel
theorem dX10_allCauses_0 : decode cX10_allCauses 0 = .ok (.iconst 0, 1) := by decide +kernel
theorem dX10_allCauses_1 : decode cX10_allCauses 1 = .ok (.istore_n 1, 1) := by decide +kernel
theorem dX10_allCauses_2 : decode cX10_allCauses 2 = .ok (.iconst 0, 1) := by decide +kernel
theorem dX10_allCauses_3 : decode cX10_allCauses 3 = .ok (.istore_n 2, 1) := by decide +kernel
theorem dX10_allCauses_4 : decode cX10_allCauses 4 = .ok (.iload_n 2, 1) := by decide +kernel
theorem dX10_allCauses_5 : decode cX10_allCauses 5 = .ok (.aload_n 0, 1) := by decide +kernel
theorem dX10_allCauses_6 : decode cX10_allCauses 6 = .ok (.getfield 46, 3) := by decide +kernel
theorem dX10_allCauses_9 : decode cX10_allCauses 9 = .ok (.if_icmp .ge 21, 3) := by decide +kernel
theorem dX10_allCauses_12 : decode cX10_allCauses 12 = .ok (.iload_n 1, 1) := by decide +kernel
theorem dX10_allCauses_13 : decode cX10_allCauses 13 = .ok (.aload_n 0, 1) := by decide +kernel
theorem dX10_allCauses_14 : decode cX10_allCauses 14 = .ok (.getfield 19, 3) := by decide +kernel
theorem dX10_allCauses_17 : decode cX10_allCauses 17 = .ok (.iload_n 2, 1) := by decide +kernel
theorem dX10_allCauses_18 : decode cX10_allCauses 18 = .ok (.iaload, 1) := by decide +kernel
theorem dX10_allCauses_19 : decode cX10_allCauses 19 = .ok (.invokestatic 150, 3) := by decide +kernel
theorem dX10_allCauses_22 : decode cX10_allCauses 22 = .ok (.iadd, 1) := by decide +kernel
theorem dX10_allCauses_23 : decode cX10_allCauses 23 = .ok (.istore_n 1, 1) := by decide +kernel
theorem dX10_allCauses_24 : decode cX10_allCauses 24 = .ok (.iinc 2 1, 3) := by decide +kernel
theorem dX10_allCauses_27 : decode cX10_allCauses 27 = .ok (.goto (-23), 3) := by decide +kernel
theorem dX10_allCauses_30 : decode cX10_allCauses 30 = .ok (.iload_n 1, 1) := by decide +kernel
theorem dX10_allCauses_31 : decode cX10_allCauses 31 = .ok (.ireturn, 1) := by decide +kernel
theorem dX10_mean_0 : decode cX10_mean 0 = .ok (.iload_n 1, 1) := by decide +kernel
theorem dX10_mean_1 : decode cX10_mean 1 = .ok (.iconst 0, 1) := by decide +kernel
theorem dX10_mean_2 : decode cX10_mean 2 = .ok (.iconst 1, 1) := by decide +kernel
theorem dX10_mean_3 : decode cX10_mean 3 = .ok (.invokestatic 74, 3) := by decide +kernel
theorem dX10_mean_6 : decode cX10_mean 6 = .ok (.ifCond .ne 10, 3) := by decide +kernel
theorem dX10_mean_9 : decode cX10_mean 9 = .ok (.aload_n 0, 1) := by decide +kernel
theorem dX10_mean_10 : decode cX10_mean 10 = .ok (.bipush (-2), 2) := by decide +kernel
theorem dX10_mean_12 : decode cX10_mean 12 = .ok (.invokevirtual 218, 3) := by decide +kernel
theorem dX10_mean_15 : decode cX10_mean 15 = .ok (.lreturn, 1) := by decide +kernel
theorem dX10_mean_16 : decode cX10_mean 16 = .ok (.aload_n 0, 1) := by decide +kernel
theorem dX10_mean_17 : decode cX10_mean 17 = .ok (.getfield 46, 3) := by decide +kernel
theorem dX10_mean_20 : decode cX10_mean 20 = .ok (.ifCond .ne 8, 3) := by decide +kernel
theorem dX10_mean_23 : decode cX10_mean 23 = .ok (.iload_n 1, 1) := by decide +kernel
theorem dX10_mean_24 : decode cX10_mean 24 = .ok (.i2l, 1) := by decide +kernel
theorem dX10_mean_25 : decode cX10_mean 25 = .ok (.goto 17, 3) := by decide +kernel
theorem dX10_mean_28 : decode cX10_mean 28 = .ok (.aload_n 0, 1) := by decide +kernel
theorem dX10_mean_29 : decode cX10_mean 29 = .ok (.invokevirtual 230, 3) := by decide +kernel
theorem dX10_mean_32 : decode cX10_mean 32 = .ok (.i2l, 1) := by decide +kernel
theorem dX10_mean_33 : decode cX10_mean 33 = .ok (.aload_n 0, 1) := by decide +kernel
theorem dX10_mean_34 : decode cX10_mean 34 = .ok (.getfield 46, 3) := by decide +kernel
theorem dX10_mean_37 : decode cX10_mean 37 = .ok (.i2l, 1) := by decide +kernel
theorem dX10_mean_38 : decode cX10_mean 38 = .ok (.iload_n 1, 1) := by decide +kernel
theorem dX10_mean_39 : decode cX10_mean 39 = .ok (.invokestatic 226, 3) := by decide +kernel
theorem dX10_mean_42 : decode cX10_mean 42 = .ok (.lreturn, 1) := by decide +kernel
theorem dX10_isSo_0 : decode cX10_isSo 0 = .ok (.aload_n 0, 1) := by decide +kernel
theorem dX10_isSo_1 : decode cX10_isSo 1 = .ok (.invokevirtual 159, 3) := by decide +kernel
theorem dX10_isSo_4 : decode cX10_isSo 4 = .ok (.iconst 1, 1) := by decide +kernel
theorem dX10_isSo_5 : decode cX10_isSo 5 = .ok (.istore_n 1, 1) := by decide +kernel
theorem dX10_isSo_6 : decode cX10_isSo 6 = .ok (.iconst 0, 1) := by decide +kernel
theorem dX10_isSo_7 : decode cX10_isSo 7 = .ok (.istore_n 2, 1) := by decide +kernel
theorem dX10_isSo_8 : decode cX10_isSo 8 = .ok (.iload_n 2, 1) := by decide +kernel
theorem dX10_isSo_9 : decode cX10_isSo 9 = .ok (.aload_n 0, 1) := by decide +kernel
theorem dX10_isSo_10 : decode cX10_isSo 10 = .ok (.getfield 233, 3) := by decide +kernel
theorem dX10_isSo_13 : decode cX10_isSo 13 = .ok (.if_icmp .ge 39, 3) := by decide +kernel
theorem dX10_isSo_16 : decode cX10_isSo 16 = .ok (.iload_n 1, 1) := by decide +kernel
theorem dX10_isSo_17 : decode cX10_isSo 17 = .ok (.ifCond .eq 35, 3) := by decide +kernel
theorem dX10_isSo_20 : decode cX10_isSo 20 = .ok (.aload_n 0, 1) := by decide +kernel
theorem dX10_isSo_21 : decode cX10_isSo 21 = .ok (.getfield 94, 3) := by decide +kernel
theorem dX10_isSo_24 : decode cX10_isSo 24 = .ok (.invokestatic 150, 3) := by decide +kernel
theorem dX10_isSo_27 : decode cX10_isSo 27 = .ok (.aload_n 0, 1) := by decide +kernel
theorem dX10_isSo_28 : decode cX10_isSo 28 = .ok (.getfield 43, 3) := by decide +kernel
theorem dX10_isSo_31 : decode cX10_isSo 31 = .ok (.iload_n 2, 1) := by decide +kernel
theorem dX10_isSo_32 : decode cX10_isSo 32 = .ok (.iaload, 1) := by decide +kernel
theorem dX10_isSo_33 : decode cX10_isSo 33 = .ok (.if_icmp .ne 7, 3) := by decide +kernel
theorem dX10_isSo_36 : decode cX10_isSo 36 = .ok (.iconst 1, 1) := by decide +kernel
theorem dX10_isSo_37 : decode cX10_isSo 37 = .ok (.goto 4, 3) := by decide +kernel
theorem dX10_isSo_40 : decode cX10_isSo 40 = .ok (.iconst 0, 1) := by decide +kernel
theorem dX10_isSo_41 : decode cX10_isSo 41 = .ok (.istore_n 1, 1) := by decide +kernel
theorem dX10_isSo_42 : decode cX10_isSo 42 = .ok (.aload_n 0, 1) := by decide +kernel
theorem dX10_isSo_43 : decode cX10_isSo 43 = .ok (.invokevirtual 156, 3) := by decide +kernel
theorem dX10_isSo_46 : decode cX10_isSo 46 = .ok (.iinc 2 1, 3) := by decide +kernel
theorem dX10_isSo_49 : decode cX10_isSo 49 = .ok (.goto (-41), 3) := by decide +kernel
theorem dX10_isSo_52 : decode cX10_isSo 52 = .ok (.aload_n 0, 1) := by decide +kernel
theorem dX10_isSo_53 : decode cX10_isSo 53 = .ok (.invokevirtual 162, 3) := by decide +kernel
theorem dX10_isSo_56 : decode cX10_isSo 56 = .ok (.iload_n 1, 1) := by decide +kernel
theorem dX10_isSo_57 : decode cX10_isSo 57 = .ok (.ireturn, 1) := by decide +kernel
theorem dX10_bitsFor_0 : decode cX10_bitsFor 0 = .ok (.aload_n 1, 1) := by decide +kernel
theorem dX10_bitsFor_1 : decode cX10_bitsFor 1 = .ok (.iload_n 2, 1) := by decide +kernel
theorem dX10_bitsFor_2 : decode cX10_bitsFor 2 = .ok (.iaload, 1) := by decide +kernel
theorem dX10_bitsFor_3 : decode cX10_bitsFor 3 = .ok (.istore 4, 2) := by decide +kernel
theorem dX10_bitsFor_5 : decode cX10_bitsFor 5 = .ok (.iconst 0, 1) := by decide +kernel
theorem dX10_bitsFor_6 : decode cX10_bitsFor 6 = .ok (.istore 5, 2) := by decide +kernel
theorem dX10_bitsFor_8 : decode cX10_bitsFor 8 = .ok (.iconst 0, 1) := by decide +kernel
theorem dX10_bitsFor_9 : decode cX10_bitsFor 9 = .ok (.istore 6, 2) := by decide +kernel
theorem dX10_bitsFor_11 : decode cX10_bitsFor 11 = .ok (.iload 6, 2) := by decide +kernel
theorem dX10_bitsFor_13 : decode cX10_bitsFor 13 = .ok (.iload_n 3, 1) := by decide +kernel
theorem dX10_bitsFor_14 : decode cX10_bitsFor 14 = .ok (.if_icmp .ge 34, 3) := by decide +kernel
theorem dX10_bitsFor_17 : decode cX10_bitsFor 17 = .ok (.aload_n 1, 1) := by decide +kernel
theorem dX10_bitsFor_18 : decode cX10_bitsFor 18 = .ok (.iload_n 2, 1) := by decide +kernel
theorem dX10_bitsFor_19 : decode cX10_bitsFor 19 = .ok (.iload 6, 2) := by decide +kernel
theorem dX10_bitsFor_21 : decode cX10_bitsFor 21 = .ok (.iastore, 1) := by decide +kernel
theorem dX10_bitsFor_22 : decode cX10_bitsFor 22 = .ok (.iload 5, 2) := by decide +kernel
theorem dX10_bitsFor_24 : decode cX10_bitsFor 24 = .ok (.aload_n 0, 1) := by decide +kernel
theorem dX10_bitsFor_25 : decode cX10_bitsFor 25 = .ok (.invokevirtual 236, 3) := by decide +kernel
theorem dX10_bitsFor_28 : decode cX10_bitsFor 28 = .ok (.ifCond .eq 10, 3) := by decide +kernel
theorem dX10_bitsFor_31 : decode cX10_bitsFor 31 = .ok (.iconst 1, 1) := by decide +kernel
theorem dX10_bitsFor_32 : decode cX10_bitsFor 32 = .ok (.iload 6, 2) := by decide +kernel
theorem dX10_bitsFor_34 : decode cX10_bitsFor 34 = .ok (.ishl, 1) := by decide +kernel
theorem dX10_bitsFor_35 : decode cX10_bitsFor 35 = .ok (.goto 4, 3) := by decide +kernel
theorem dX10_bitsFor_38 : decode cX10_bitsFor 38 = .ok (.iconst 0, 1) := by decide +kernel
theorem dX10_bitsFor_39 : decode cX10_bitsFor 39 = .ok (.ior, 1) := by decide +kernel
theorem dX10_bitsFor_40 : decode cX10_bitsFor 40 = .ok (.istore 5, 2) := by decide +kernel
theorem dX10_bitsFor_42 : decode cX10_bitsFor 42 = .ok (.iinc 6 1, 3) := by decide +kernel
theorem dX10_bitsFor_45 : decode cX10_bitsFor 45 = .ok (.goto (-34), 3) := by decide +kernel
theorem dX10_bitsFor_48 : decode cX10_bitsFor 48 = .ok (.aload_n 1, 1) := by decide +kernel
theorem dX10_bitsFor_49 : decode cX10_bitsFor 49 = .ok (.iload_n 2, 1) := by decide +kernel
theorem dX10_bitsFor_50 : decode cX10_bitsFor 50 = .ok (.iload 4, 2) := by decide +kernel
theorem dX10_bitsFor_52 : decode cX10_bitsFor 52 = .ok (.iastore, 1) := by decide +kernel
theorem dX10_bitsFor_53 : decode cX10_bitsFor 53 = .ok (.iload 5, 2) := by decide +kernel
theorem dX10_bitsFor_55 : decode cX10_bitsFor 55 = .ok (.ireturn, 1) := by decide +kernel
theorem dX10_whatWas_0 : decode cX10_whatWas 0 = .ok (.aload_n 0, 1) := by decide +kernel
theorem dX10_whatWas_1 : decode cX10_whatWas 1 = .ok (.iload_n 1, 1) := by decide +kernel
theorem dX10_whatWas_2 : decode cX10_whatWas 2 = .ok (.invokevirtual 100, 3) := by decide +kernel
theorem dX10_whatWas_5 : decode cX10_whatWas 5 = .ok (.ifCond .ne 7, 3) := by decide +kernel
theorem dX10_whatWas_8 : decode cX10_whatWas 8 = .ok (.iconst (-1), 1) := by decide +kernel
theorem dX10_whatWas_9 : decode cX10_whatWas 9 = .ok (.goto 18, 3) := by decide +kernel
theorem dX10_whatWas_12 : decode cX10_whatWas 12 = .ok (.iload_n 2, 1) := by decide +kernel
theorem dX10_whatWas_13 : decode cX10_whatWas 13 = .ok (.iconst 0, 1) := by decide +kernel
theorem dX10_whatWas_14 : decode cX10_whatWas 14 = .ok (.iconst 1, 1) := by decide +kernel
theorem dX10_whatWas_15 : decode cX10_whatWas 15 = .ok (.invokestatic 74, 3) := by decide +kernel
theorem dX10_whatWas_18 : decode cX10_whatWas 18 = .ok (.ifCond .ne 8, 3) := by decide +kernel
theorem dX10_whatWas_21 : decode cX10_whatWas 21 = .ok (.bipush (-2), 2) := by decide +kernel
theorem dX10_whatWas_23 : decode cX10_whatWas 23 = .ok (.goto 4, 3) := by decide +kernel
theorem dX10_whatWas_26 : decode cX10_whatWas 26 = .ok (.iconst 0, 1) := by decide +kernel
theorem dX10_whatWas_27 : decode cX10_whatWas 27 = .ok (.istore_n 3, 1) := by decide +kernel
theorem dX10_whatWas_28 : decode cX10_whatWas 28 = .ok (.iload_n 3, 1) := by decide +kernel
theorem dX10_whatWas_29 : decode cX10_whatWas 29 = .ok (.ifCond .eq 9, 3) := by decide +kernel
theorem dX10_whatWas_32 : decode cX10_whatWas 32 = .ok (.aload_n 0, 1) := by decide +kernel
theorem dX10_whatWas_33 : decode cX10_whatWas 33 = .ok (.iload_n 3, 1) := by decide +kernel
theorem dX10_whatWas_34 : decode cX10_whatWas 34 = .ok (.invokevirtual 63, 3) := by decide +kernel
theorem dX10_whatWas_37 : decode cX10_whatWas 37 = .ok (.ireturn, 1) := by decide +kernel
theorem dX10_whatWas_38 : decode cX10_whatWas 38 = .ok (.iload_n 2, 1) := by decide +kernel
theorem dX10_whatWas_39 : decode cX10_whatWas 39 = .ok (.ifCond .ne 17, 3) := by decide +kernel
theorem dX10_whatWas_42 : decode cX10_whatWas 42 = .ok (.aload_n 0, 1) := by decide +kernel
theorem dX10_whatWas_43 : decode cX10_whatWas 43 = .ok (.aload_n 0, 1) := by decide +kernel
theorem dX10_whatWas_44 : decode cX10_whatWas 44 = .ok (.getfield 13, 3) := by decide +kernel
theorem dX10_whatWas_47 : decode cX10_whatWas 47 = .ok (.iload_n 1, 1) := by decide +kernel
theorem dX10_whatWas_48 : decode cX10_whatWas 48 = .ok (.bipush 6, 2) := by decide +kernel
theorem dX10_whatWas_50 : decode cX10_whatWas 50 = .ok (.invokevirtual 239, 3) := by decide +kernel
theorem dX10_whatWas_53 : decode cX10_whatWas 53 = .ok (.goto 14, 3) := by decide +kernel
theorem dX10_whatWas_56 : decode cX10_whatWas 56 = .ok (.aload_n 0, 1) := by decide +kernel
theorem dX10_whatWas_57 : decode cX10_whatWas 57 = .ok (.aload_n 0, 1) := by decide +kernel
theorem dX10_whatWas_58 : decode cX10_whatWas 58 = .ok (.getfield 16, 3) := by decide +kernel
theorem dX10_whatWas_61 : decode cX10_whatWas 61 = .ok (.iload_n 1, 1) := by decide +kernel
theorem dX10_whatWas_62 : decode cX10_whatWas 62 = .ok (.bipush 10, 2) := by decide +kernel
theorem dX10_whatWas_64 : decode cX10_whatWas 64 = .ok (.invokevirtual 239, 3) := by decide +kernel
theorem dX10_whatWas_67 : decode cX10_whatWas 67 = .ok (.ireturn, 1) := by decide +kernel
theorem dX10_row_0 : decode cX10_row 0 = .ok (.iload_n 1, 1) := by decide +kernel
theorem dX10_row_1 : decode cX10_row 1 = .ok (.iconst 0, 1) := by decide +kernel
theorem dX10_row_2 : decode cX10_row 2 = .ok (.bipush 99, 2) := by decide +kernel
theorem dX10_row_4 : decode cX10_row 4 = .ok (.invokestatic 56, 3) := by decide +kernel
theorem dX10_row_7 : decode cX10_row 7 = .ok (.istore_n 2, 1) := by decide +kernel
theorem dX10_row_8 : decode cX10_row 8 = .ok (.iload_n 2, 1) := by decide +kernel
theorem dX10_row_9 : decode cX10_row 9 = .ok (.ifCond .ne 15, 3) := by decide +kernel
theorem dX10_row_12 : decode cX10_row 12 = .ok (.aload_n 0, 1) := by decide +kernel
theorem dX10_row_13 : decode cX10_row 13 = .ok (.getfield 233, 3) := by decide +kernel
theorem dX10_row_16 : decode cX10_row 16 = .ok (.bipush 16, 2) := by decide +kernel
theorem dX10_row_18 : decode cX10_row 18 = .ok (.if_icmp .ne 6, 3) := by decide +kernel
theorem dX10_row_21 : decode cX10_row 21 = .ok (.bipush (-6), 2) := by decide +kernel
theorem dX10_row_23 : decode cX10_row 23 = .ok (.istore_n 2, 1) := by decide +kernel
theorem dX10_row_24 : decode cX10_row 24 = .ok (.iload_n 2, 1) := by decide +kernel
theorem dX10_row_25 : decode cX10_row 25 = .ok (.ifCond .eq 9, 3) := by decide +kernel
theorem dX10_row_28 : decode cX10_row 28 = .ok (.aload_n 0, 1) := by decide +kernel
theorem dX10_row_29 : decode cX10_row 29 = .ok (.iload_n 2, 1) := by decide +kernel
theorem dX10_row_30 : decode cX10_row 30 = .ok (.invokevirtual 63, 3) := by decide +kernel
theorem dX10_row_33 : decode cX10_row 33 = .ok (.ireturn, 1) := by decide +kernel
theorem dX10_row_34 : decode cX10_row 34 = .ok (.aload_n 0, 1) := by decide +kernel
theorem dX10_row_35 : decode cX10_row 35 = .ok (.getfield 43, 3) := by decide +kernel
theorem dX10_row_38 : decode cX10_row 38 = .ok (.aload_n 0, 1) := by decide +kernel
theorem dX10_row_39 : decode cX10_row 39 = .ok (.getfield 233, 3) := by decide +kernel
theorem dX10_row_42 : decode cX10_row 42 = .ok (.iload_n 1, 1) := by decide +kernel
theorem dX10_row_43 : decode cX10_row 43 = .ok (.iastore, 1) := by decide +kernel
theorem dX10_row_44 : decode cX10_row 44 = .ok (.aload_n 0, 1) := by decide +kernel
theorem dX10_row_45 : decode cX10_row 45 = .ok (.dup, 1) := by decide +kernel
theorem dX10_row_46 : decode cX10_row 46 = .ok (.getfield 233, 3) := by decide +kernel
theorem dX10_row_49 : decode cX10_row 49 = .ok (.iconst 1, 1) := by decide +kernel
theorem dX10_row_50 : decode cX10_row 50 = .ok (.iadd, 1) := by decide +kernel
theorem dX10_row_51 : decode cX10_row 51 = .ok (.putfield 233, 3) := by decide +kernel
theorem dX10_row_54 : decode cX10_row 54 = .ok (.aload_n 0, 1) := by decide +kernel
theorem dX10_row_55 : decode cX10_row 55 = .ok (.getfield 233, 3) := by decide +kernel
theorem dX10_row_58 : decode cX10_row 58 = .ok (.ireturn, 1) := by decide +kernel
theorem dX10_isTold_0 : decode cX10_isTold 0 = .ok (.aload_n 0, 1) := by decide +kernel
theorem dX10_isTold_1 : decode cX10_isTold 1 = .ok (.iload_n 1, 1) := by decide +kernel
theorem dX10_isTold_2 : decode cX10_isTold 2 = .ok (.bipush 60, 2) := by decide +kernel
theorem dX10_isTold_4 : decode cX10_isTold 4 = .ok (.invokevirtual 171, 3) := by decide +kernel
theorem dX10_isTold_7 : decode cX10_isTold 7 = .ok (.istore_n 3, 1) := by decide +kernel
theorem dX10_isTold_8 : decode cX10_isTold 8 = .ok (.iload_n 2, 1) := by decide +kernel
theorem dX10_isTold_9 : decode cX10_isTold 9 = .ok (.iload_n 3, 1) := by decide +kernel
theorem dX10_isTold_10 : decode cX10_isTold 10 = .ok (.ifCond .ge 8, 3) := by decide +kernel
theorem dX10_isTold_13 : decode cX10_isTold 13 = .ok (.bipush 99, 2) := by decide +kernel
theorem dX10_isTold_15 : decode cX10_isTold 15 = .ok (.goto 4, 3) := by decide +kernel
theorem dX10_isTold_18 : decode cX10_isTold 18 = .ok (.iload_n 3, 1) := by decide +kernel
theorem dX10_isTold_19 : decode cX10_isTold 19 = .ok (.if_icmp .ne 7, 3) := by decide +kernel
theorem dX10_isTold_22 : decode cX10_isTold 22 = .ok (.iconst 1, 1) := by decide +kernel
theorem dX10_isTold_23 : decode cX10_isTold 23 = .ok (.goto 4, 3) := by decide +kernel
theorem dX10_isTold_26 : decode cX10_isTold 26 = .ok (.iconst 0, 1) := by decide +kernel
theorem dX10_isTold_27 : decode cX10_isTold 27 = .ok (.ireturn, 1) := by decide +kernel
theorem dX10_judge_0 : decode cX10_judge 0 = .ok (.aload_n 0, 1) := by decide +kernel
theorem dX10_judge_1 : decode cX10_judge 1 = .ok (.getfield 233, 3) := by decide +kernel
theorem dX10_judge_4 : decode cX10_judge 4 = .ok (.istore_n 1, 1) := by decide +kernel
theorem dX10_judge_5 : decode cX10_judge 5 = .ok (.aload_n 0, 1) := by decide +kernel
theorem dX10_judge_6 : decode cX10_judge 6 = .ok (.iconst 0, 1) := by decide +kernel
theorem dX10_judge_7 : decode cX10_judge 7 = .ok (.putfield 233, 3) := by decide +kernel
theorem dX10_judge_10 : decode cX10_judge 10 = .ok (.iconst 0, 1) := by decide +kernel
theorem dX10_judge_11 : decode cX10_judge 11 = .ok (.istore_n 2, 1) := by decide +kernel
theorem dX10_judge_12 : decode cX10_judge 12 = .ok (.iload_n 2, 1) := by decide +kernel
theorem dX10_judge_13 : decode cX10_judge 13 = .ok (.iload_n 1, 1) := by decide +kernel
theorem dX10_judge_14 : decode cX10_judge 14 = .ok (.if_icmp .ge 33, 3) := by decide +kernel
theorem dX10_judge_17 : decode cX10_judge 17 = .ok (.iload_n 2, 1) := by decide +kernel
theorem dX10_judge_18 : decode cX10_judge 18 = .ok (.aload_n 0, 1) := by decide +kernel
theorem dX10_judge_19 : decode cX10_judge 19 = .ok (.getfield 46, 3) := by decide +kernel
theorem dX10_judge_22 : decode cX10_judge 22 = .ok (.if_icmp .ge 17, 3) := by decide +kernel
theorem dX10_judge_25 : decode cX10_judge 25 = .ok (.aload_n 0, 1) := by decide +kernel
theorem dX10_judge_26 : decode cX10_judge 26 = .ok (.iload_n 2, 1) := by decide +kernel
theorem dX10_judge_27 : decode cX10_judge 27 = .ok (.aload_n 0, 1) := by decide +kernel
theorem dX10_judge_28 : decode cX10_judge 28 = .ok (.getfield 43, 3) := by decide +kernel
theorem dX10_judge_31 : decode cX10_judge 31 = .ok (.iload_n 2, 1) := by decide +kernel
theorem dX10_judge_32 : decode cX10_judge 32 = .ok (.iaload, 1) := by decide +kernel
theorem dX10_judge_33 : decode cX10_judge 33 = .ok (.invokevirtual 243, 3) := by decide +kernel
theorem dX10_judge_36 : decode cX10_judge 36 = .ok (.ifCond .ne 5, 3) := by decide +kernel
theorem dX10_judge_39 : decode cX10_judge 39 = .ok (.iload_n 2, 1) := by decide +kernel
theorem dX10_judge_40 : decode cX10_judge 40 = .ok (.ireturn, 1) := by decide +kernel
theorem dX10_judge_41 : decode cX10_judge 41 = .ok (.iinc 2 1, 3) := by decide +kernel
theorem dX10_judge_44 : decode cX10_judge 44 = .ok (.goto (-32), 3) := by decide +kernel
theorem dX10_judge_47 : decode cX10_judge 47 = .ok (.bipush (-9), 2) := by decide +kernel
theorem dX10_judge_49 : decode cX10_judge 49 = .ok (.ireturn, 1) := by decide +kernel
theorem dX10_clear_0 : decode cX10_clear 0 = .ok (.aload_n 0, 1) := by decide +kernel
theorem dX10_clear_1 : decode cX10_clear 1 = .ok (.getfield 233, 3) := by decide +kernel
theorem dX10_clear_4 : decode cX10_clear 4 = .ok (.istore_n 1, 1) := by decide +kernel
theorem dX10_clear_5 : decode cX10_clear 5 = .ok (.aload_n 0, 1) := by decide +kernel
theorem dX10_clear_6 : decode cX10_clear 6 = .ok (.iconst 0, 1) := by decide +kernel
theorem dX10_clear_7 : decode cX10_clear 7 = .ok (.putfield 233, 3) := by decide +kernel
theorem dX10_clear_10 : decode cX10_clear 10 = .ok (.iload_n 1, 1) := by decide +kernel
theorem dX10_clear_11 : decode cX10_clear 11 = .ok (.ireturn, 1) := by decide +kernel
theorem dX10_draw_0 : decode cX10_draw 0 = .ok (.aload_n 0, 1) := by decide +kernel
theorem dX10_draw_1 : decode cX10_draw 1 = .ok (.aload_n 0, 1) := by decide +kernel
theorem dX10_draw_2 : decode cX10_draw 2 = .ok (.getfield 246, 3) := by decide +kernel
theorem dX10_draw_5 : decode cX10_draw 5 = .ok (.ldc 249, 2) := by decide +kernel
theorem dX10_draw_7 : decode cX10_draw 7 = .ok (.imul, 1) := by decide +kernel
theorem dX10_draw_8 : decode cX10_draw 8 = .ok (.ldc 250, 2) := by decide +kernel
theorem dX10_draw_10 : decode cX10_draw 10 = .ok (.iadd, 1) := by decide +kernel
theorem dX10_draw_11 : decode cX10_draw 11 = .ok (.putfield 246, 3) := by decide +kernel
theorem dX10_draw_14 : decode cX10_draw 14 = .ok (.aload_n 0, 1) := by decide +kernel
theorem dX10_draw_15 : decode cX10_draw 15 = .ok (.getfield 246, 3) := by decide +kernel
theorem dX10_draw_18 : decode cX10_draw 18 = .ok (.ldc 251, 2) := by decide +kernel
theorem dX10_draw_20 : decode cX10_draw 20 = .ok (.iand, 1) := by decide +kernel
theorem dX10_draw_21 : decode cX10_draw 21 = .ok (.sipush 256, 3) := by decide +kernel
theorem dX10_draw_24 : decode cX10_draw 24 = .ok (.idiv, 1) := by decide +kernel
theorem dX10_draw_25 : decode cX10_draw 25 = .ok (.iload_n 1, 1) := by decide +kernel
theorem dX10_draw_26 : decode cX10_draw 26 = .ok (.irem, 1) := by decide +kernel
theorem dX10_draw_27 : decode cX10_draw 27 = .ok (.ireturn, 1) := by decide +kernel
theorem dX10_lots_0 : decode cX10_lots 0 = .ok (.iload_n 1, 1) := by decide +kernel
theorem dX10_lots_1 : decode cX10_lots 1 = .ok (.iconst 1, 1) := by decide +kernel
theorem dX10_lots_2 : decode cX10_lots 2 = .ok (.bipush 20, 2) := by decide +kernel
theorem dX10_lots_4 : decode cX10_lots 4 = .ok (.invokestatic 56, 3) := by decide +kernel
theorem dX10_lots_7 : decode cX10_lots 7 = .ok (.istore 4, 2) := by decide +kernel
theorem dX10_lots_9 : decode cX10_lots 9 = .ok (.iload 4, 2) := by decide +kernel
theorem dX10_lots_11 : decode cX10_lots 11 = .ok (.ifCond .ne 32, 3) := by decide +kernel
theorem dX10_lots_14 : decode cX10_lots 14 = .ok (.iload_n 3, 1) := by decide +kernel
theorem dX10_lots_15 : decode cX10_lots 15 = .ok (.iconst 0, 1) := by decide +kernel
theorem dX10_lots_16 : decode cX10_lots 16 = .ok (.iconst 1, 1) := by decide +kernel
theorem dX10_lots_17 : decode cX10_lots 17 = .ok (.invokestatic 74, 3) := by decide +kernel
theorem dX10_lots_20 : decode cX10_lots 20 = .ok (.ifCond .ne 8, 3) := by decide +kernel
theorem dX10_lots_23 : decode cX10_lots 23 = .ok (.bipush (-2), 2) := by decide +kernel
theorem dX10_lots_25 : decode cX10_lots 25 = .ok (.goto 16, 3) := by decide +kernel
theorem dX10_lots_28 : decode cX10_lots 28 = .ok (.aload_n 0, 1) := by decide +kernel
theorem dX10_lots_29 : decode cX10_lots 29 = .ok (.getfield 46, 3) := by decide +kernel
theorem dX10_lots_32 : decode cX10_lots 32 = .ok (.ifCond .ne 8, 3) := by decide +kernel
theorem dX10_lots_35 : decode cX10_lots 35 = .ok (.bipush (-3), 2) := by decide +kernel
theorem dX10_lots_37 : decode cX10_lots 37 = .ok (.goto 4, 3) := by decide +kernel
theorem dX10_lots_40 : decode cX10_lots 40 = .ok (.iconst 0, 1) := by decide +kernel
theorem dX10_lots_41 : decode cX10_lots 41 = .ok (.istore 4, 2) := by decide +kernel
theorem dX10_lots_43 : decode cX10_lots 43 = .ok (.iload 4, 2) := by decide +kernel
theorem dX10_lots_45 : decode cX10_lots 45 = .ok (.ifCond .eq 10, 3) := by decide +kernel
theorem dX10_lots_48 : decode cX10_lots 48 = .ok (.aload_n 0, 1) := by decide +kernel
theorem dX10_lots_49 : decode cX10_lots 49 = .ok (.iload 4, 2) := by decide +kernel
theorem dX10_lots_51 : decode cX10_lots 51 = .ok (.invokevirtual 63, 3) := by decide +kernel
theorem dX10_lots_54 : decode cX10_lots 54 = .ok (.ireturn, 1) := by decide +kernel
theorem dX10_lots_55 : decode cX10_lots 55 = .ok (.aload_n 0, 1) := by decide +kernel
theorem dX10_lots_56 : decode cX10_lots 56 = .ok (.iload_n 2, 1) := by decide +kernel
theorem dX10_lots_57 : decode cX10_lots 57 = .ok (.putfield 246, 3) := by decide +kernel
theorem dX10_lots_60 : decode cX10_lots 60 = .ok (.iconst 0, 1) := by decide +kernel
theorem dX10_lots_61 : decode cX10_lots 61 = .ok (.istore 5, 2) := by decide +kernel
theorem dX10_lots_63 : decode cX10_lots 63 = .ok (.iconst 0, 1) := by decide +kernel
theorem dX10_lots_64 : decode cX10_lots 64 = .ok (.istore 6, 2) := by decide +kernel
theorem dX10_lots_66 : decode cX10_lots 66 = .ok (.iload 6, 2) := by decide +kernel
theorem dX10_lots_68 : decode cX10_lots 68 = .ok (.iload_n 1, 1) := by decide +kernel
theorem dX10_lots_69 : decode cX10_lots 69 = .ok (.if_icmp .ge 118, 3) := by decide +kernel
theorem dX10_lots_72 : decode cX10_lots 72 = .ok (.aload_n 0, 1) := by decide +kernel
theorem dX10_lots_73 : decode cX10_lots 73 = .ok (.invokevirtual 159, 3) := by decide +kernel
theorem dX10_lots_76 : decode cX10_lots 76 = .ok (.iconst 0, 1) := by decide +kernel
theorem dX10_lots_77 : decode cX10_lots 77 = .ok (.istore 7, 2) := by decide +kernel
theorem dX10_lots_79 : decode cX10_lots 79 = .ok (.iload 7, 2) := by decide +kernel
theorem dX10_lots_81 : decode cX10_lots 81 = .ok (.aload_n 0, 1) := by decide +kernel
theorem dX10_lots_82 : decode cX10_lots 82 = .ok (.getfield 46, 3) := by decide +kernel
theorem dX10_lots_85 : decode cX10_lots 85 = .ok (.if_icmp .ge 54, 3) := by decide +kernel
theorem dX10_lots_88 : decode cX10_lots 88 = .ok (.aload_n 0, 1) := by decide +kernel
theorem dX10_lots_89 : decode cX10_lots 89 = .ok (.getfield 19, 3) := by decide +kernel
theorem dX10_lots_92 : decode cX10_lots 92 = .ok (.iload 7, 2) := by decide +kernel
theorem dX10_lots_94 : decode cX10_lots 94 = .ok (.iaload, 1) := by decide +kernel
theorem dX10_lots_95 : decode cX10_lots 95 = .ok (.ifCond .ne 38, 3) := by decide +kernel
theorem dX10_lots_98 : decode cX10_lots 98 = .ok (.aload_n 0, 1) := by decide +kernel
theorem dX10_lots_99 : decode cX10_lots 99 = .ok (.aload_n 0, 1) := by decide +kernel
theorem dX10_lots_100 : decode cX10_lots 100 = .ok (.iconst 3, 1) := by decide +kernel
theorem dX10_lots_101 : decode cX10_lots 101 = .ok (.invokevirtual 252, 3) := by decide +kernel
theorem dX10_lots_104 : decode cX10_lots 104 = .ok (.ifCond .ne 15, 3) := by decide +kernel
theorem dX10_lots_107 : decode cX10_lots 107 = .ok (.aload_n 0, 1) := by decide +kernel
theorem dX10_lots_108 : decode cX10_lots 108 = .ok (.getfield 94, 3) := by decide +kernel
theorem dX10_lots_111 : decode cX10_lots 111 = .ok (.iconst 1, 1) := by decide +kernel
theorem dX10_lots_112 : decode cX10_lots 112 = .ok (.iload 7, 2) := by decide +kernel
theorem dX10_lots_114 : decode cX10_lots 114 = .ok (.ishl, 1) := by decide +kernel
theorem dX10_lots_115 : decode cX10_lots 115 = .ok (.ior, 1) := by decide +kernel
theorem dX10_lots_116 : decode cX10_lots 116 = .ok (.goto 14, 3) := by decide +kernel
theorem dX10_lots_119 : decode cX10_lots 119 = .ok (.aload_n 0, 1) := by decide +kernel
theorem dX10_lots_120 : decode cX10_lots 120 = .ok (.getfield 94, 3) := by decide +kernel
theorem dX10_lots_123 : decode cX10_lots 123 = .ok (.iconst 1, 1) := by decide +kernel
theorem dX10_lots_124 : decode cX10_lots 124 = .ok (.iload 7, 2) := by decide +kernel
theorem dX10_lots_126 : decode cX10_lots 126 = .ok (.ishl, 1) := by decide +kernel
theorem dX10_lots_127 : decode cX10_lots 127 = .ok (.iconst (-1), 1) := by decide +kernel
theorem dX10_lots_128 : decode cX10_lots 128 = .ok (.ixor, 1) := by decide +kernel
theorem dX10_lots_129 : decode cX10_lots 129 = .ok (.iand, 1) := by decide +kernel
theorem dX10_lots_130 : decode cX10_lots 130 = .ok (.putfield 94, 3) := by decide +kernel
theorem dX10_lots_133 : decode cX10_lots 133 = .ok (.iinc 7 1, 3) := by decide +kernel
theorem dX10_lots_136 : decode cX10_lots 136 = .ok (.goto (-57), 3) := by decide +kernel
theorem dX10_lots_139 : decode cX10_lots 139 = .ok (.aload_n 0, 1) := by decide +kernel
theorem dX10_lots_140 : decode cX10_lots 140 = .ok (.bipush 15, 2) := by decide +kernel
theorem dX10_lots_142 : decode cX10_lots 142 = .ok (.invokevirtual 106, 3) := by decide +kernel
theorem dX10_lots_145 : decode cX10_lots 145 = .ok (.iload 5, 2) := by decide +kernel
theorem dX10_lots_147 : decode cX10_lots 147 = .ok (.iload_n 3, 1) := by decide +kernel
theorem dX10_lots_148 : decode cX10_lots 148 = .ok (.ifCond .ne 13, 3) := by decide +kernel
theorem dX10_lots_151 : decode cX10_lots 151 = .ok (.aload_n 0, 1) := by decide +kernel
theorem dX10_lots_152 : decode cX10_lots 152 = .ok (.getfield 94, 3) := by decide +kernel
theorem dX10_lots_155 : decode cX10_lots 155 = .ok (.invokestatic 150, 3) := by decide +kernel
theorem dX10_lots_158 : decode cX10_lots 158 = .ok (.goto 16, 3) := by decide +kernel
theorem dX10_lots_161 : decode cX10_lots 161 = .ok (.aload_n 0, 1) := by decide +kernel
theorem dX10_lots_162 : decode cX10_lots 162 = .ok (.getfield 94, 3) := by decide +kernel
theorem dX10_lots_165 : decode cX10_lots 165 = .ok (.aload_n 0, 1) := by decide +kernel
theorem dX10_lots_166 : decode cX10_lots 166 = .ok (.getfield 46, 3) := by decide +kernel
theorem dX10_lots_169 : decode cX10_lots 169 = .ok (.iconst 1, 1) := by decide +kernel
theorem dX10_lots_170 : decode cX10_lots 170 = .ok (.isub, 1) := by decide +kernel
theorem dX10_lots_171 : decode cX10_lots 171 = .ok (.ishr, 1) := by decide +kernel
theorem dX10_lots_172 : decode cX10_lots 172 = .ok (.iconst 1, 1) := by decide +kernel
theorem dX10_lots_173 : decode cX10_lots 173 = .ok (.iand, 1) := by decide +kernel
theorem dX10_lots_174 : decode cX10_lots 174 = .ok (.iadd, 1) := by decide +kernel
theorem dX10_lots_175 : decode cX10_lots 175 = .ok (.istore 5, 2) := by decide +kernel
theorem dX10_lots_177 : decode cX10_lots 177 = .ok (.aload_n 0, 1) := by decide +kernel
theorem dX10_lots_178 : decode cX10_lots 178 = .ok (.invokevirtual 162, 3) := by decide +kernel
theorem dX10_lots_181 : decode cX10_lots 181 = .ok (.iinc 6 1, 3) := by decide +kernel
theorem dX10_lots_184 : decode cX10_lots 184 = .ok (.goto (-118), 3) := by decide +kernel
theorem dX10_lots_187 : decode cX10_lots 187 = .ok (.iload 5, 2) := by decide +kernel
theorem dX10_lots_189 : decode cX10_lots 189 = .ok (.ireturn, 1) := by decide +kernel
theorem dX10_count_0 : decode cX10_count 0 = .ok (.iload_n 1, 1) := by decide +kernel
theorem dX10_count_1 : decode cX10_count 1 = .ok (.bipush 11, 2) := by decide +kernel
theorem dX10_count_3 : decode cX10_count 3 = .ok (.bipush 16, 2) := by decide +kernel
theorem dX10_count_5 : decode cX10_count 5 = .ok (.invokestatic 74, 3) := by decide +kernel
theorem dX10_count_8 : decode cX10_count 8 = .ok (.ifCond .eq 13, 3) := by decide +kernel
theorem dX10_count_11 : decode cX10_count 11 = .ok (.aload_n 0, 1) := by decide +kernel
theorem dX10_count_12 : decode cX10_count 12 = .ok (.getfield 7, 3) := by decide +kernel
theorem dX10_count_15 : decode cX10_count 15 = .ok (.iload_n 1, 1) := by decide +kernel
theorem dX10_count_16 : decode cX10_count 16 = .ok (.bipush 10, 2) := by decide +kernel
theorem dX10_count_18 : decode cX10_count 18 = .ok (.isub, 1) := by decide +kernel
theorem dX10_count_19 : decode cX10_count 19 = .ok (.iaload, 1) := by decide +kernel
theorem dX10_count_20 : decode cX10_count 20 = .ok (.ireturn, 1) := by decide +kernel
theorem dX10_count_21 : decode cX10_count 21 = .ok (.iload_n 1, 1) := by decide +kernel
theorem dX10_count_22 : decode cX10_count 22 = .ok (.tableswitch 96 0 7 #[46, 51, 56, 61, 66, 71, 86, 91], 46) := by decide +kernel
theorem dX10_count_68 : decode cX10_count 68 = .ok (.aload_n 0, 1) := by decide +kernel
theorem dX10_count_69 : decode cX10_count 69 = .ok (.getfield 46, 3) := by decide +kernel
theorem dX10_count_72 : decode cX10_count 72 = .ok (.ireturn, 1) := by decide +kernel
theorem dX10_count_73 : decode cX10_count 73 = .ok (.aload_n 0, 1) := by decide +kernel
theorem dX10_count_74 : decode cX10_count 74 = .ok (.getfield 103, 3) := by decide +kernel
theorem dX10_count_77 : decode cX10_count 77 = .ok (.ireturn, 1) := by decide +kernel
theorem dX10_count_78 : decode cX10_count 78 = .ok (.aload_n 0, 1) := by decide +kernel
theorem dX10_count_79 : decode cX10_count 79 = .ok (.getfield 94, 3) := by decide +kernel
theorem dX10_count_82 : decode cX10_count 82 = .ok (.ireturn, 1) := by decide +kernel
theorem dX10_count_83 : decode cX10_count 83 = .ok (.aload_n 0, 1) := by decide +kernel
theorem dX10_count_84 : decode cX10_count 84 = .ok (.getfield 97, 3) := by decide +kernel
theorem dX10_count_87 : decode cX10_count 87 = .ok (.ireturn, 1) := by decide +kernel
theorem dX10_count_88 : decode cX10_count 88 = .ok (.aload_n 0, 1) := by decide +kernel
theorem dX10_count_89 : decode cX10_count 89 = .ok (.invokevirtual 230, 3) := by decide +kernel
theorem dX10_count_92 : decode cX10_count 92 = .ok (.ireturn, 1) := by decide +kernel
theorem dX10_count_93 : decode cX10_count 93 = .ok (.aload_n 0, 1) := by decide +kernel
theorem dX10_count_94 : decode cX10_count 94 = .ok (.invokevirtual 199, 3) := by decide +kernel
theorem dX10_count_97 : decode cX10_count 97 = .ok (.aload_n 0, 1) := by decide +kernel
theorem dX10_count_98 : decode cX10_count 98 = .ok (.getfield 94, 3) := by decide +kernel
theorem dX10_count_101 : decode cX10_count 101 = .ok (.iconst (-1), 1) := by decide +kernel
theorem dX10_count_102 : decode cX10_count 102 = .ok (.ixor, 1) := by decide +kernel
theorem dX10_count_103 : decode cX10_count 103 = .ok (.iand, 1) := by decide +kernel
theorem dX10_count_104 : decode cX10_count 104 = .ok (.invokestatic 150, 3) := by decide +kernel
theorem dX10_count_107 : decode cX10_count 107 = .ok (.ireturn, 1) := by decide +kernel
theorem dX10_count_108 : decode cX10_count 108 = .ok (.aload_n 0, 1) := by decide +kernel
theorem dX10_count_109 : decode cX10_count 109 = .ok (.getfield 233, 3) := by decide +kernel
theorem dX10_count_112 : decode cX10_count 112 = .ok (.ireturn, 1) := by decide +kernel
theorem dX10_count_113 : decode cX10_count 113 = .ok (.aload_n 0, 1) := by decide +kernel
theorem dX10_count_114 : decode cX10_count 114 = .ok (.getfield 60, 3) := by decide +kernel
theorem dX10_count_117 : decode cX10_count 117 = .ok (.ireturn, 1) := by decide +kernel
theorem dX10_count_118 : decode cX10_count 118 = .ok (.bipush (-9), 2) := by decide +kernel
theorem dX10_count_120 : decode cX10_count 120 = .ok (.ireturn, 1) := by decide +kernel
theorem dJ11_isValidCodePoint_9a6ad_0 : decode cJ11_isValidCodePoint_9a6ad 0 = .ok (.iload_n 0, 1) := by decide +kernel
theorem dJ11_isValidCodePoint_9a6ad_1 : decode cJ11_isValidCodePoint_9a6ad 1 = .ok (.bipush 16, 2) := by decide +kernel
theorem dJ11_isValidCodePoint_9a6ad_3 : decode cJ11_isValidCodePoint_9a6ad 3 = .ok (.iushr, 1) := by decide +kernel
theorem dJ11_isValidCodePoint_9a6ad_4 : decode cJ11_isValidCodePoint_9a6ad 4 = .ok (.istore_n 1, 1) := by decide +kernel
theorem dJ11_isValidCodePoint_9a6ad_5 : decode cJ11_isValidCodePoint_9a6ad 5 = .ok (.iload_n 1, 1) := by decide +kernel
theorem dJ11_isValidCodePoint_9a6ad_6 : decode cJ11_isValidCodePoint_9a6ad 6 = .ok (.bipush 17, 2) := by decide +kernel
theorem dJ11_isValidCodePoint_9a6ad_8 : decode cJ11_isValidCodePoint_9a6ad 8 = .ok (.if_icmp .ge 7, 3) := by decide +kernel
theorem dJ11_isValidCodePoint_9a6ad_11 : decode cJ11_isValidCodePoint_9a6ad 11 = .ok (.iconst 1, 1) := by decide +kernel
theorem dJ11_isValidCodePoint_9a6ad_12 : decode cJ11_isValidCodePoint_9a6ad 12 = .ok (.goto 4, 3) := by decide +kernel
theorem dJ11_isValidCodePoint_9a6ad_15 : decode cJ11_isValidCodePoint_9a6ad 15 = .ok (.iconst 0, 1) := by decide +kernel
theorem dJ11_isValidCodePoint_9a6ad_16 : decode cJ11_isValidCodePoint_9a6ad 16 = .ok (.ireturn, 1) := by decide +kernel
theorem dJ11_highSurrogate_5068e_0 : decode cJ11_highSurrogate_5068e 0 = .ok (.iload_n 0, 1) := by decide +kernel
theorem dJ11_highSurrogate_5068e_1 : decode cJ11_highSurrogate_5068e 1 = .ok (.bipush 10, 2) := by decide +kernel
theorem dJ11_highSurrogate_5068e_3 : decode cJ11_highSurrogate_5068e 3 = .ok (.iushr, 1) := by decide +kernel
theorem dJ11_highSurrogate_5068e_4 : decode cJ11_highSurrogate_5068e 4 = .ok (.ldc 110, 2) := by decide +kernel
theorem dJ11_highSurrogate_5068e_6 : decode cJ11_highSurrogate_5068e 6 = .ok (.iadd, 1) := by decide +kernel
theorem dJ11_highSurrogate_5068e_7 : decode cJ11_highSurrogate_5068e 7 = .ok (.i2c, 1) := by decide +kernel
theorem dJ11_highSurrogate_5068e_8 : decode cJ11_highSurrogate_5068e 8 = .ok (.ireturn, 1) := by decide +kernel
theorem dJ11_lowSurrogate_5068e_0 : decode cJ11_lowSurrogate_5068e 0 = .ok (.iload_n 0, 1) := by decide +kernel
theorem dJ11_lowSurrogate_5068e_1 : decode cJ11_lowSurrogate_5068e 1 = .ok (.sipush 1023, 3) := by decide +kernel
theorem dJ11_lowSurrogate_5068e_4 : decode cJ11_lowSurrogate_5068e 4 = .ok (.iand, 1) := by decide +kernel
theorem dJ11_lowSurrogate_5068e_5 : decode cJ11_lowSurrogate_5068e 5 = .ok (.ldc 76, 2) := by decide +kernel
theorem dJ11_lowSurrogate_5068e_7 : decode cJ11_lowSurrogate_5068e 7 = .ok (.iadd, 1) := by decide +kernel
theorem dJ11_lowSurrogate_5068e_8 : decode cJ11_lowSurrogate_5068e 8 = .ok (.i2c, 1) := by decide +kernel
theorem dJ11_lowSurrogate_5068e_9 : decode cJ11_lowSurrogate_5068e 9 = .ok (.ireturn, 1) := by decide +kernel
theorem dJ6_numberOfTrailingZeros_0f7a4_0 : decode cJ6_numberOfTrailingZeros_0f7a4 0 = .ok (.iload_n 0, 1) := by decide +kernel
theorem dJ6_numberOfTrailingZeros_0f7a4_1 : decode cJ6_numberOfTrailingZeros_0f7a4 1 = .ok (.iconst (-1), 1) := by decide +kernel
theorem dJ6_numberOfTrailingZeros_0f7a4_2 : decode cJ6_numberOfTrailingZeros_0f7a4 2 = .ok (.ixor, 1) := by decide +kernel
theorem dJ6_numberOfTrailingZeros_0f7a4_3 : decode cJ6_numberOfTrailingZeros_0f7a4 3 = .ok (.iload_n 0, 1) := by decide +kernel
theorem dJ6_numberOfTrailingZeros_0f7a4_4 : decode cJ6_numberOfTrailingZeros_0f7a4 4 = .ok (.iconst 1, 1) := by decide +kernel
theorem dJ6_numberOfTrailingZeros_0f7a4_5 : decode cJ6_numberOfTrailingZeros_0f7a4 5 = .ok (.isub, 1) := by decide +kernel
theorem dJ6_numberOfTrailingZeros_0f7a4_6 : decode cJ6_numberOfTrailingZeros_0f7a4 6 = .ok (.iand, 1) := by decide +kernel
theorem dJ6_numberOfTrailingZeros_0f7a4_7 : decode cJ6_numberOfTrailingZeros_0f7a4 7 = .ok (.istore_n 0, 1) := by decide +kernel
theorem dJ6_numberOfTrailingZeros_0f7a4_8 : decode cJ6_numberOfTrailingZeros_0f7a4 8 = .ok (.iload_n 0, 1) := by decide +kernel
theorem dJ6_numberOfTrailingZeros_0f7a4_9 : decode cJ6_numberOfTrailingZeros_0f7a4 9 = .ok (.ifCond .gt 8, 3) := by decide +kernel
theorem dJ6_numberOfTrailingZeros_0f7a4_12 : decode cJ6_numberOfTrailingZeros_0f7a4 12 = .ok (.iload_n 0, 1) := by decide +kernel
theorem dJ6_numberOfTrailingZeros_0f7a4_13 : decode cJ6_numberOfTrailingZeros_0f7a4 13 = .ok (.bipush 32, 2) := by decide +kernel
theorem dJ6_numberOfTrailingZeros_0f7a4_15 : decode cJ6_numberOfTrailingZeros_0f7a4 15 = .ok (.iand, 1) := by decide +kernel
theorem dJ6_numberOfTrailingZeros_0f7a4_16 : decode cJ6_numberOfTrailingZeros_0f7a4 16 = .ok (.ireturn, 1) := by decide +kernel
theorem dJ6_numberOfTrailingZeros_0f7a4_17 : decode cJ6_numberOfTrailingZeros_0f7a4 17 = .ok (.iconst 1, 1) := by decide +kernel
theorem dJ6_numberOfTrailingZeros_0f7a4_18 : decode cJ6_numberOfTrailingZeros_0f7a4 18 = .ok (.istore_n 1, 1) := by decide +kernel
theorem dJ6_numberOfTrailingZeros_0f7a4_19 : decode cJ6_numberOfTrailingZeros_0f7a4 19 = .ok (.iload_n 0, 1) := by decide +kernel
theorem dJ6_numberOfTrailingZeros_0f7a4_20 : decode cJ6_numberOfTrailingZeros_0f7a4 20 = .ok (.ldc_w 264, 3) := by decide +kernel
theorem dJ6_numberOfTrailingZeros_0f7a4_23 : decode cJ6_numberOfTrailingZeros_0f7a4 23 = .ok (.if_icmp .le 11, 3) := by decide +kernel
theorem dJ6_numberOfTrailingZeros_0f7a4_26 : decode cJ6_numberOfTrailingZeros_0f7a4 26 = .ok (.iinc 1 16, 3) := by decide +kernel
theorem dJ6_numberOfTrailingZeros_0f7a4_29 : decode cJ6_numberOfTrailingZeros_0f7a4 29 = .ok (.iload_n 0, 1) := by decide +kernel
theorem dJ6_numberOfTrailingZeros_0f7a4_30 : decode cJ6_numberOfTrailingZeros_0f7a4 30 = .ok (.bipush 16, 2) := by decide +kernel
theorem dJ6_numberOfTrailingZeros_0f7a4_32 : decode cJ6_numberOfTrailingZeros_0f7a4 32 = .ok (.iushr, 1) := by decide +kernel
theorem dJ6_numberOfTrailingZeros_0f7a4_33 : decode cJ6_numberOfTrailingZeros_0f7a4 33 = .ok (.istore_n 0, 1) := by decide +kernel
theorem dJ6_numberOfTrailingZeros_0f7a4_34 : decode cJ6_numberOfTrailingZeros_0f7a4 34 = .ok (.iload_n 0, 1) := by decide +kernel
theorem dJ6_numberOfTrailingZeros_0f7a4_35 : decode cJ6_numberOfTrailingZeros_0f7a4 35 = .ok (.sipush 256, 3) := by decide +kernel
theorem dJ6_numberOfTrailingZeros_0f7a4_38 : decode cJ6_numberOfTrailingZeros_0f7a4 38 = .ok (.if_icmp .le 11, 3) := by decide +kernel
theorem dJ6_numberOfTrailingZeros_0f7a4_41 : decode cJ6_numberOfTrailingZeros_0f7a4 41 = .ok (.iinc 1 8, 3) := by decide +kernel
theorem dJ6_numberOfTrailingZeros_0f7a4_44 : decode cJ6_numberOfTrailingZeros_0f7a4 44 = .ok (.iload_n 0, 1) := by decide +kernel
theorem dJ6_numberOfTrailingZeros_0f7a4_45 : decode cJ6_numberOfTrailingZeros_0f7a4 45 = .ok (.bipush 8, 2) := by decide +kernel
theorem dJ6_numberOfTrailingZeros_0f7a4_47 : decode cJ6_numberOfTrailingZeros_0f7a4 47 = .ok (.iushr, 1) := by decide +kernel
theorem dJ6_numberOfTrailingZeros_0f7a4_48 : decode cJ6_numberOfTrailingZeros_0f7a4 48 = .ok (.istore_n 0, 1) := by decide +kernel
theorem dJ6_numberOfTrailingZeros_0f7a4_49 : decode cJ6_numberOfTrailingZeros_0f7a4 49 = .ok (.iload_n 0, 1) := by decide +kernel
theorem dJ6_numberOfTrailingZeros_0f7a4_50 : decode cJ6_numberOfTrailingZeros_0f7a4 50 = .ok (.bipush 16, 2) := by decide +kernel
theorem dJ6_numberOfTrailingZeros_0f7a4_52 : decode cJ6_numberOfTrailingZeros_0f7a4 52 = .ok (.if_icmp .le 10, 3) := by decide +kernel
theorem dJ6_numberOfTrailingZeros_0f7a4_55 : decode cJ6_numberOfTrailingZeros_0f7a4 55 = .ok (.iinc 1 4, 3) := by decide +kernel
theorem dJ6_numberOfTrailingZeros_0f7a4_58 : decode cJ6_numberOfTrailingZeros_0f7a4 58 = .ok (.iload_n 0, 1) := by decide +kernel
theorem dJ6_numberOfTrailingZeros_0f7a4_59 : decode cJ6_numberOfTrailingZeros_0f7a4 59 = .ok (.iconst 4, 1) := by decide +kernel
theorem dJ6_numberOfTrailingZeros_0f7a4_60 : decode cJ6_numberOfTrailingZeros_0f7a4 60 = .ok (.iushr, 1) := by decide +kernel
theorem dJ6_numberOfTrailingZeros_0f7a4_61 : decode cJ6_numberOfTrailingZeros_0f7a4 61 = .ok (.istore_n 0, 1) := by decide +kernel
theorem dJ6_numberOfTrailingZeros_0f7a4_62 : decode cJ6_numberOfTrailingZeros_0f7a4 62 = .ok (.iload_n 0, 1) := by decide +kernel
theorem dJ6_numberOfTrailingZeros_0f7a4_63 : decode cJ6_numberOfTrailingZeros_0f7a4 63 = .ok (.iconst 4, 1) := by decide +kernel
theorem dJ6_numberOfTrailingZeros_0f7a4_64 : decode cJ6_numberOfTrailingZeros_0f7a4 64 = .ok (.if_icmp .le 10, 3) := by decide +kernel
theorem dJ6_numberOfTrailingZeros_0f7a4_67 : decode cJ6_numberOfTrailingZeros_0f7a4 67 = .ok (.iinc 1 2, 3) := by decide +kernel
theorem dJ6_numberOfTrailingZeros_0f7a4_70 : decode cJ6_numberOfTrailingZeros_0f7a4 70 = .ok (.iload_n 0, 1) := by decide +kernel
theorem dJ6_numberOfTrailingZeros_0f7a4_71 : decode cJ6_numberOfTrailingZeros_0f7a4 71 = .ok (.iconst 2, 1) := by decide +kernel
theorem dJ6_numberOfTrailingZeros_0f7a4_72 : decode cJ6_numberOfTrailingZeros_0f7a4 72 = .ok (.iushr, 1) := by decide +kernel
theorem dJ6_numberOfTrailingZeros_0f7a4_73 : decode cJ6_numberOfTrailingZeros_0f7a4 73 = .ok (.istore_n 0, 1) := by decide +kernel
theorem dJ6_numberOfTrailingZeros_0f7a4_74 : decode cJ6_numberOfTrailingZeros_0f7a4 74 = .ok (.iload_n 1, 1) := by decide +kernel
theorem dJ6_numberOfTrailingZeros_0f7a4_75 : decode cJ6_numberOfTrailingZeros_0f7a4 75 = .ok (.iload_n 0, 1) := by decide +kernel
theorem dJ6_numberOfTrailingZeros_0f7a4_76 : decode cJ6_numberOfTrailingZeros_0f7a4 76 = .ok (.iconst 1, 1) := by decide +kernel
theorem dJ6_numberOfTrailingZeros_0f7a4_77 : decode cJ6_numberOfTrailingZeros_0f7a4 77 = .ok (.iushr, 1) := by decide +kernel
theorem dJ6_numberOfTrailingZeros_0f7a4_78 : decode cJ6_numberOfTrailingZeros_0f7a4 78 = .ok (.iadd, 1) := by decide +kernel
theorem dJ6_numberOfTrailingZeros_0f7a4_79 : decode cJ6_numberOfTrailingZeros_0f7a4 79 = .ok (.ireturn, 1) := by decide +kernel
theorem dJ6_bitCount_0f7a4_0 : decode cJ6_bitCount_0f7a4 0 = .ok (.iload_n 0, 1) := by decide +kernel
theorem dJ6_bitCount_0f7a4_1 : decode cJ6_bitCount_0f7a4 1 = .ok (.iload_n 0, 1) := by decide +kernel
theorem dJ6_bitCount_0f7a4_2 : decode cJ6_bitCount_0f7a4 2 = .ok (.iconst 1, 1) := by decide +kernel
theorem dJ6_bitCount_0f7a4_3 : decode cJ6_bitCount_0f7a4 3 = .ok (.iushr, 1) := by decide +kernel
theorem dJ6_bitCount_0f7a4_4 : decode cJ6_bitCount_0f7a4 4 = .ok (.ldc_w 265, 3) := by decide +kernel
theorem dJ6_bitCount_0f7a4_7 : decode cJ6_bitCount_0f7a4 7 = .ok (.iand, 1) := by decide +kernel
theorem dJ6_bitCount_0f7a4_8 : decode cJ6_bitCount_0f7a4 8 = .ok (.isub, 1) := by decide +kernel
theorem dJ6_bitCount_0f7a4_9 : decode cJ6_bitCount_0f7a4 9 = .ok (.istore_n 0, 1) := by decide +kernel
theorem dJ6_bitCount_0f7a4_10 : decode cJ6_bitCount_0f7a4 10 = .ok (.iload_n 0, 1) := by decide +kernel
theorem dJ6_bitCount_0f7a4_11 : decode cJ6_bitCount_0f7a4 11 = .ok (.ldc_w 266, 3) := by decide +kernel
theorem dJ6_bitCount_0f7a4_14 : decode cJ6_bitCount_0f7a4 14 = .ok (.iand, 1) := by decide +kernel
theorem dJ6_bitCount_0f7a4_15 : decode cJ6_bitCount_0f7a4 15 = .ok (.iload_n 0, 1) := by decide +kernel
theorem dJ6_bitCount_0f7a4_16 : decode cJ6_bitCount_0f7a4 16 = .ok (.iconst 2, 1) := by decide +kernel
theorem dJ6_bitCount_0f7a4_17 : decode cJ6_bitCount_0f7a4 17 = .ok (.iushr, 1) := by decide +kernel
theorem dJ6_bitCount_0f7a4_18 : decode cJ6_bitCount_0f7a4 18 = .ok (.ldc_w 266, 3) := by decide +kernel
theorem dJ6_bitCount_0f7a4_21 : decode cJ6_bitCount_0f7a4 21 = .ok (.iand, 1) := by decide +kernel
theorem dJ6_bitCount_0f7a4_22 : decode cJ6_bitCount_0f7a4 22 = .ok (.iadd, 1) := by decide +kernel
theorem dJ6_bitCount_0f7a4_23 : decode cJ6_bitCount_0f7a4 23 = .ok (.istore_n 0, 1) := by decide +kernel
theorem dJ6_bitCount_0f7a4_24 : decode cJ6_bitCount_0f7a4 24 = .ok (.iload_n 0, 1) := by decide +kernel
theorem dJ6_bitCount_0f7a4_25 : decode cJ6_bitCount_0f7a4 25 = .ok (.iload_n 0, 1) := by decide +kernel
theorem dJ6_bitCount_0f7a4_26 : decode cJ6_bitCount_0f7a4 26 = .ok (.iconst 4, 1) := by decide +kernel
theorem dJ6_bitCount_0f7a4_27 : decode cJ6_bitCount_0f7a4 27 = .ok (.iushr, 1) := by decide +kernel
theorem dJ6_bitCount_0f7a4_28 : decode cJ6_bitCount_0f7a4 28 = .ok (.iadd, 1) := by decide +kernel
theorem dJ6_bitCount_0f7a4_29 : decode cJ6_bitCount_0f7a4 29 = .ok (.ldc_w 267, 3) := by decide +kernel
theorem dJ6_bitCount_0f7a4_32 : decode cJ6_bitCount_0f7a4 32 = .ok (.iand, 1) := by decide +kernel
theorem dJ6_bitCount_0f7a4_33 : decode cJ6_bitCount_0f7a4 33 = .ok (.istore_n 0, 1) := by decide +kernel
theorem dJ6_bitCount_0f7a4_34 : decode cJ6_bitCount_0f7a4 34 = .ok (.iload_n 0, 1) := by decide +kernel
theorem dJ6_bitCount_0f7a4_35 : decode cJ6_bitCount_0f7a4 35 = .ok (.iload_n 0, 1) := by decide +kernel
theorem dJ6_bitCount_0f7a4_36 : decode cJ6_bitCount_0f7a4 36 = .ok (.bipush 8, 2) := by decide +kernel
theorem dJ6_bitCount_0f7a4_38 : decode cJ6_bitCount_0f7a4 38 = .ok (.iushr, 1) := by decide +kernel
theorem dJ6_bitCount_0f7a4_39 : decode cJ6_bitCount_0f7a4 39 = .ok (.iadd, 1) := by decide +kernel
theorem dJ6_bitCount_0f7a4_40 : decode cJ6_bitCount_0f7a4 40 = .ok (.istore_n 0, 1) := by decide +kernel
theorem dJ6_bitCount_0f7a4_41 : decode cJ6_bitCount_0f7a4 41 = .ok (.iload_n 0, 1) := by decide +kernel
theorem dJ6_bitCount_0f7a4_42 : decode cJ6_bitCount_0f7a4 42 = .ok (.iload_n 0, 1) := by decide +kernel
theorem dJ6_bitCount_0f7a4_43 : decode cJ6_bitCount_0f7a4 43 = .ok (.bipush 16, 2) := by decide +kernel
theorem dJ6_bitCount_0f7a4_45 : decode cJ6_bitCount_0f7a4 45 = .ok (.iushr, 1) := by decide +kernel
theorem dJ6_bitCount_0f7a4_46 : decode cJ6_bitCount_0f7a4 46 = .ok (.iadd, 1) := by decide +kernel
theorem dJ6_bitCount_0f7a4_47 : decode cJ6_bitCount_0f7a4 47 = .ok (.istore_n 0, 1) := by decide +kernel
theorem dJ6_bitCount_0f7a4_48 : decode cJ6_bitCount_0f7a4 48 = .ok (.iload_n 0, 1) := by decide +kernel
theorem dJ6_bitCount_0f7a4_49 : decode cJ6_bitCount_0f7a4 49 = .ok (.bipush 63, 2) := by decide +kernel
theorem dJ6_bitCount_0f7a4_51 : decode cJ6_bitCount_0f7a4 51 = .ok (.iand, 1) := by decide +kernel
theorem dJ6_bitCount_0f7a4_52 : decode cJ6_bitCount_0f7a4 52 = .ok (.ireturn, 1) := by decide +kernel
theorem dJ9_max_7cf53_0 : decode cJ9_max_7cf53 0 = .ok (.iload_n 0, 1) := by decide +kernel
theorem dJ9_max_7cf53_1 : decode cJ9_max_7cf53 1 = .ok (.iload_n 1, 1) := by decide +kernel
theorem dJ9_max_7cf53_2 : decode cJ9_max_7cf53 2 = .ok (.if_icmp .lt 7, 3) := by decide +kernel
theorem dJ9_max_7cf53_5 : decode cJ9_max_7cf53 5 = .ok (.iload_n 0, 1) := by decide +kernel
theorem dJ9_max_7cf53_6 : decode cJ9_max_7cf53 6 = .ok (.goto 4, 3) := by decide +kernel
theorem dJ9_max_7cf53_9 : decode cJ9_max_7cf53 9 = .ok (.iload_n 1, 1) := by decide +kernel
theorem dJ9_max_7cf53_10 : decode cJ9_max_7cf53 10 = .ok (.ireturn, 1) := by decide +kernel
theorem dJ9_min_7cf53_0 : decode cJ9_min_7cf53 0 = .ok (.iload_n 0, 1) := by decide +kernel
theorem dJ9_min_7cf53_1 : decode cJ9_min_7cf53 1 = .ok (.iload_n 1, 1) := by decide +kernel
theorem dJ9_min_7cf53_2 : decode cJ9_min_7cf53 2 = .ok (.if_icmp .gt 7, 3) := by decide +kernel
theorem dJ9_min_7cf53_5 : decode cJ9_min_7cf53 5 = .ok (.iload_n 0, 1) := by decide +kernel
theorem dJ9_min_7cf53_6 : decode cJ9_min_7cf53 6 = .ok (.goto 4, 3) := by decide +kernel
theorem dJ9_min_7cf53_9 : decode cJ9_min_7cf53 9 = .ok (.iload_n 1, 1) := by decide +kernel
theorem dJ9_min_7cf53_10 : decode cJ9_min_7cf53 10 = .ok (.ireturn, 1) := by decide +kernel
theorem dJ0_length_8abf5_0 : decode cJ0_length_8abf5 0 = .ok (.aload_n 0, 1) := by decide +kernel
theorem dJ0_length_8abf5_1 : decode cJ0_length_8abf5 1 = .ok (.getfield 9, 3) := by decide +kernel
theorem dJ0_length_8abf5_4 : decode cJ0_length_8abf5 4 = .ok (.arraylength, 1) := by decide +kernel
theorem dJ0_length_8abf5_5 : decode cJ0_length_8abf5 5 = .ok (.aload_n 0, 1) := by decide +kernel
theorem dJ0_length_8abf5_6 : decode cJ0_length_8abf5 6 = .ok (.invokevirtual 335, 3) := by decide +kernel
theorem dJ0_length_8abf5_9 : decode cJ0_length_8abf5 9 = .ok (.ishr, 1) := by decide +kernel
theorem dJ0_length_8abf5_10 : decode cJ0_length_8abf5 10 = .ok (.ireturn, 1) := by decide +kernel
theorem dJ0_indexOf_0f7a4_0 : decode cJ0_indexOf_0f7a4 0 = .ok (.aload_n 0, 1) := by decide +kernel
theorem dJ0_indexOf_0f7a4_1 : decode cJ0_indexOf_0f7a4 1 = .ok (.iload_n 1, 1) := by decide +kernel
theorem dJ0_indexOf_0f7a4_2 : decode cJ0_indexOf_0f7a4 2 = .ok (.iconst 0, 1) := by decide +kernel
theorem dJ0_indexOf_0f7a4_3 : decode cJ0_indexOf_0f7a4 3 = .ok (.invokevirtual 633, 3) := by decide +kernel
theorem dJ0_indexOf_0f7a4_6 : decode cJ0_indexOf_0f7a4 6 = .ok (.ireturn, 1) := by decide +kernel
theorem dJ0_indexOf_7cf53_0 : decode cJ0_indexOf_7cf53 0 = .ok (.aload_n 0, 1) := by decide +kernel
theorem dJ0_indexOf_7cf53_1 : decode cJ0_indexOf_7cf53 1 = .ok (.invokevirtual 492, 3) := by decide +kernel
theorem dJ0_indexOf_7cf53_4 : decode cJ0_indexOf_7cf53 4 = .ok (.ifCond .eq 19, 3) := by decide +kernel
theorem dJ0_indexOf_7cf53_7 : decode cJ0_indexOf_7cf53 7 = .ok (.aload_n 0, 1) := by decide +kernel
theorem dJ0_indexOf_7cf53_8 : decode cJ0_indexOf_7cf53 8 = .ok (.getfield 9, 3) := by decide +kernel
theorem dJ0_indexOf_7cf53_11 : decode cJ0_indexOf_7cf53 11 = .ok (.iload_n 1, 1) := by decide +kernel
theorem dJ0_indexOf_7cf53_12 : decode cJ0_indexOf_7cf53 12 = .ok (.iload_n 2, 1) := by decide +kernel
theorem dJ0_indexOf_7cf53_13 : decode cJ0_indexOf_7cf53 13 = .ok (.aload_n 0, 1) := by decide +kernel
theorem dJ0_indexOf_7cf53_14 : decode cJ0_indexOf_7cf53 14 = .ok (.invokevirtual 505, 3) := by decide +kernel
theorem dJ0_indexOf_7cf53_17 : decode cJ0_indexOf_7cf53 17 = .ok (.invokestatic 637, 3) := by decide +kernel
theorem dJ0_indexOf_7cf53_20 : decode cJ0_indexOf_7cf53 20 = .ok (.goto 16, 3) := by decide +kernel
theorem dJ0_indexOf_7cf53_23 : decode cJ0_indexOf_7cf53 23 = .ok (.aload_n 0, 1) := by decide +kernel
theorem dJ0_indexOf_7cf53_24 : decode cJ0_indexOf_7cf53 24 = .ok (.getfield 9, 3) := by decide +kernel
theorem dJ0_indexOf_7cf53_27 : decode cJ0_indexOf_7cf53 27 = .ok (.iload_n 1, 1) := by decide +kernel
theorem dJ0_indexOf_7cf53_28 : decode cJ0_indexOf_7cf53 28 = .ok (.iload_n 2, 1) := by decide +kernel
theorem dJ0_indexOf_7cf53_29 : decode cJ0_indexOf_7cf53 29 = .ok (.aload_n 0, 1) := by decide +kernel
theorem dJ0_indexOf_7cf53_30 : decode cJ0_indexOf_7cf53 30 = .ok (.invokevirtual 505, 3) := by decide +kernel
theorem dJ0_indexOf_7cf53_33 : decode cJ0_indexOf_7cf53 33 = .ok (.invokestatic 640, 3) := by decide +kernel
theorem dJ0_indexOf_7cf53_36 : decode cJ0_indexOf_7cf53 36 = .ok (.ireturn, 1) := by decide +kernel
theorem dJ0_coder_7d493_0 : decode cJ0_coder_7d493 0 = .ok (.getstatic 38, 3) := by decide +kernel
theorem dJ0_coder_7d493_3 : decode cJ0_coder_7d493 3 = .ok (.ifCond .eq 10, 3) := by decide +kernel
theorem dJ0_coder_7d493_6 : decode cJ0_coder_7d493 6 = .ok (.aload_n 0, 1) := by decide +kernel
theorem dJ0_coder_7d493_7 : decode cJ0_coder_7d493 7 = .ok (.getfield 15, 3) := by decide +kernel
theorem dJ0_coder_7d493_10 : decode cJ0_coder_7d493 10 = .ok (.goto 4, 3) := by decide +kernel
theorem dJ0_coder_7d493_13 : decode cJ0_coder_7d493 13 = .ok (.iconst 1, 1) := by decide +kernel
theorem dJ0_coder_7d493_14 : decode cJ0_coder_7d493 14 = .ok (.ireturn, 1) := by decide +kernel
theorem dJ0_isLatin1_aae02_0 : decode cJ0_isLatin1_aae02 0 = .ok (.getstatic 38, 3) := by decide +kernel
theorem dJ0_isLatin1_aae02_3 : decode cJ0_isLatin1_aae02 3 = .ok (.ifCond .eq 14, 3) := by decide +kernel
theorem dJ0_isLatin1_aae02_6 : decode cJ0_isLatin1_aae02 6 = .ok (.aload_n 0, 1) := by decide +kernel
theorem dJ0_isLatin1_aae02_7 : decode cJ0_isLatin1_aae02 7 = .ok (.getfield 15, 3) := by decide +kernel
theorem dJ0_isLatin1_aae02_10 : decode cJ0_isLatin1_aae02 10 = .ok (.ifCond .ne 7, 3) := by decide +kernel
theorem dJ0_isLatin1_aae02_13 : decode cJ0_isLatin1_aae02 13 = .ok (.iconst 1, 1) := by decide +kernel
theorem dJ0_isLatin1_aae02_14 : decode cJ0_isLatin1_aae02 14 = .ok (.goto 4, 3) := by decide +kernel
theorem dJ0_isLatin1_aae02_17 : decode cJ0_isLatin1_aae02 17 = .ok (.iconst 0, 1) := by decide +kernel
theorem dJ0_isLatin1_aae02_18 : decode cJ0_isLatin1_aae02 18 = .ok (.ireturn, 1) := by decide +kernel
theorem dJ0_checkBoundsBeginEnd_23922_0 : decode cJ0_checkBoundsBeginEnd_23922 0 = .ok (.iload_n 0, 1) := by decide +kernel
theorem dJ0_checkBoundsBeginEnd_23922_1 : decode cJ0_checkBoundsBeginEnd_23922 1 = .ok (.iload_n 1, 1) := by decide +kernel
theorem dJ0_checkBoundsBeginEnd_23922_2 : decode cJ0_checkBoundsBeginEnd_23922 2 = .ok (.iload_n 2, 1) := by decide +kernel
theorem dJ0_checkBoundsBeginEnd_23922_3 : decode cJ0_checkBoundsBeginEnd_23922 3 = .ok (.getstatic 1053, 3) := by decide +kernel
theorem dJ0_checkBoundsBeginEnd_23922_6 : decode cJ0_checkBoundsBeginEnd_23922 6 = .ok (.invokestatic 1062, 3) := by decide +kernel
theorem dJ0_checkBoundsBeginEnd_23922_9 : decode cJ0_checkBoundsBeginEnd_23922 9 = .ok (.pop, 1) := by decide +kernel
theorem dJ0_checkBoundsBeginEnd_23922_10 : decode cJ0_checkBoundsBeginEnd_23922 10 = .ok (.return_, 1) := by decide +kernel
theorem dJ1_canEncode_9a6ad_0 : decode cJ1_canEncode_9a6ad 0 = .ok (.iload_n 0, 1) := by decide +kernel
theorem dJ1_canEncode_9a6ad_1 : decode cJ1_canEncode_9a6ad 1 = .ok (.ifCond .lt 14, 3) := by decide +kernel
theorem dJ1_canEncode_9a6ad_4 : decode cJ1_canEncode_9a6ad 4 = .ok (.iload_n 0, 1) := by decide +kernel
theorem dJ1_canEncode_9a6ad_5 : decode cJ1_canEncode_9a6ad 5 = .ok (.sipush 255, 3) := by decide +kernel
theorem dJ1_canEncode_9a6ad_8 : decode cJ1_canEncode_9a6ad 8 = .ok (.if_icmp .gt 7, 3) := by decide +kernel
theorem dJ1_canEncode_9a6ad_11 : decode cJ1_canEncode_9a6ad 11 = .ok (.iconst 1, 1) := by decide +kernel
theorem dJ1_canEncode_9a6ad_12 : decode cJ1_canEncode_9a6ad 12 = .ok (.goto 4, 3) := by decide +kernel
theorem dJ1_canEncode_9a6ad_15 : decode cJ1_canEncode_9a6ad 15 = .ok (.iconst 0, 1) := by decide +kernel
theorem dJ1_canEncode_9a6ad_16 : decode cJ1_canEncode_9a6ad 16 = .ok (.ireturn, 1) := by decide +kernel
theorem dJ1_indexOf_4cfef_0 : decode cJ1_indexOf_4cfef 0 = .ok (.iload_n 1, 1) := by decide +kernel
theorem dJ1_indexOf_4cfef_1 : decode cJ1_indexOf_4cfef 1 = .ok (.invokestatic 88, 3) := by decide +kernel
theorem dJ1_indexOf_4cfef_4 : decode cJ1_indexOf_4cfef 4 = .ok (.ifCond .ne 5, 3) := by decide +kernel
theorem dJ1_indexOf_4cfef_7 : decode cJ1_indexOf_4cfef 7 = .ok (.iconst (-1), 1) := by decide +kernel
theorem dJ1_indexOf_4cfef_8 : decode cJ1_indexOf_4cfef 8 = .ok (.ireturn, 1) := by decide +kernel
theorem dJ1_indexOf_4cfef_9 : decode cJ1_indexOf_4cfef 9 = .ok (.iload_n 2, 1) := by decide +kernel
theorem dJ1_indexOf_4cfef_10 : decode cJ1_indexOf_4cfef 10 = .ok (.iconst 0, 1) := by decide +kernel
theorem dJ1_indexOf_4cfef_11 : decode cJ1_indexOf_4cfef 11 = .ok (.invokestatic 92, 3) := by decide +kernel
theorem dJ1_indexOf_4cfef_14 : decode cJ1_indexOf_4cfef 14 = .ok (.istore_n 2, 1) := by decide +kernel
theorem dJ1_indexOf_4cfef_15 : decode cJ1_indexOf_4cfef 15 = .ok (.iload_n 3, 1) := by decide +kernel
theorem dJ1_indexOf_4cfef_16 : decode cJ1_indexOf_4cfef 16 = .ok (.aload_n 0, 1) := by decide +kernel
theorem dJ1_indexOf_4cfef_17 : decode cJ1_indexOf_4cfef 17 = .ok (.arraylength, 1) := by decide +kernel
theorem dJ1_indexOf_4cfef_18 : decode cJ1_indexOf_4cfef 18 = .ok (.invokestatic 38, 3) := by decide +kernel
theorem dJ1_indexOf_4cfef_21 : decode cJ1_indexOf_4cfef 21 = .ok (.istore_n 3, 1) := by decide +kernel
theorem dJ1_indexOf_4cfef_22 : decode cJ1_indexOf_4cfef 22 = .ok (.iload_n 2, 1) := by decide +kernel
theorem dJ1_indexOf_4cfef_23 : decode cJ1_indexOf_4cfef 23 = .ok (.iload_n 3, 1) := by decide +kernel
theorem dJ1_indexOf_4cfef_24 : decode cJ1_indexOf_4cfef 24 = .ok (.if_icmp .lt 5, 3) := by decide +kernel
theorem dJ1_indexOf_4cfef_27 : decode cJ1_indexOf_4cfef 27 = .ok (.iconst (-1), 1) := by decide +kernel
theorem dJ1_indexOf_4cfef_28 : decode cJ1_indexOf_4cfef 28 = .ok (.ireturn, 1) := by decide +kernel
theorem dJ1_indexOf_4cfef_29 : decode cJ1_indexOf_4cfef 29 = .ok (.aload_n 0, 1) := by decide +kernel
theorem dJ1_indexOf_4cfef_30 : decode cJ1_indexOf_4cfef 30 = .ok (.iload_n 1, 1) := by decide +kernel
theorem dJ1_indexOf_4cfef_31 : decode cJ1_indexOf_4cfef 31 = .ok (.iload_n 2, 1) := by decide +kernel
theorem dJ1_indexOf_4cfef_32 : decode cJ1_indexOf_4cfef 32 = .ok (.iload_n 3, 1) := by decide +kernel
theorem dJ1_indexOf_4cfef_33 : decode cJ1_indexOf_4cfef 33 = .ok (.invokestatic 95, 3) := by decide +kernel
theorem dJ1_indexOf_4cfef_36 : decode cJ1_indexOf_4cfef 36 = .ok (.ireturn, 1) := by decide +kernel
theorem dJ1_indexOfChar_4cfef_0 : decode cJ1_indexOfChar_4cfef 0 = .ok (.iload_n 1, 1) := by decide +kernel
theorem dJ1_indexOfChar_4cfef_1 : decode cJ1_indexOfChar_4cfef 1 = .ok (.i2b, 1) := by decide +kernel
theorem dJ1_indexOfChar_4cfef_2 : decode cJ1_indexOfChar_4cfef 2 = .ok (.istore 4, 2) := by decide +kernel
theorem dJ1_indexOfChar_4cfef_4 : decode cJ1_indexOfChar_4cfef 4 = .ok (.iload_n 2, 1) := by decide +kernel
theorem dJ1_indexOfChar_4cfef_5 : decode cJ1_indexOfChar_4cfef 5 = .ok (.istore 5, 2) := by decide +kernel
theorem dJ1_indexOfChar_4cfef_7 : decode cJ1_indexOfChar_4cfef 7 = .ok (.iload 5, 2) := by decide +kernel
theorem dJ1_indexOfChar_4cfef_9 : decode cJ1_indexOfChar_4cfef 9 = .ok (.iload_n 3, 1) := by decide +kernel
theorem dJ1_indexOfChar_4cfef_10 : decode cJ1_indexOfChar_4cfef 10 = .ok (.if_icmp .ge 21, 3) := by decide +kernel
theorem dJ1_indexOfChar_4cfef_13 : decode cJ1_indexOfChar_4cfef 13 = .ok (.aload_n 0, 1) := by decide +kernel
theorem dJ1_indexOfChar_4cfef_14 : decode cJ1_indexOfChar_4cfef 14 = .ok (.iload 5, 2) := by decide +kernel
theorem dJ1_indexOfChar_4cfef_16 : decode cJ1_indexOfChar_4cfef 16 = .ok (.baload, 1) := by decide +kernel
theorem dJ1_indexOfChar_4cfef_17 : decode cJ1_indexOfChar_4cfef 17 = .ok (.iload 4, 2) := by decide +kernel
theorem dJ1_indexOfChar_4cfef_19 : decode cJ1_indexOfChar_4cfef 19 = .ok (.if_icmp .ne 6, 3) := by decide +kernel
theorem dJ1_indexOfChar_4cfef_22 : decode cJ1_indexOfChar_4cfef 22 = .ok (.iload 5, 2) := by decide +kernel
theorem dJ1_indexOfChar_4cfef_24 : decode cJ1_indexOfChar_4cfef 24 = .ok (.ireturn, 1) := by decide +kernel
theorem dJ1_indexOfChar_4cfef_25 : decode cJ1_indexOfChar_4cfef 25 = .ok (.iinc 5 1, 3) := by decide +kernel
theorem dJ1_indexOfChar_4cfef_28 : decode cJ1_indexOfChar_4cfef 28 = .ok (.goto (-21), 3) := by decide +kernel
theorem dJ1_indexOfChar_4cfef_31 : decode cJ1_indexOfChar_4cfef 31 = .ok (.iconst (-1), 1) := by decide +kernel
theorem dJ1_indexOfChar_4cfef_32 : decode cJ1_indexOfChar_4cfef 32 = .ok (.ireturn, 1) := by decide +kernel
theorem dJ2_getChar_3b067_0 : decode cJ2_getChar_3b067 0 = .ok (.getstatic 44, 3) := by decide +kernel
theorem dJ2_getChar_3b067_3 : decode cJ2_getChar_3b067 3 = .ok (.ifCond .ne 25, 3) := by decide +kernel
theorem dJ2_getChar_3b067_6 : decode cJ2_getChar_3b067 6 = .ok (.iload_n 1, 1) := by decide +kernel
theorem dJ2_getChar_3b067_7 : decode cJ2_getChar_3b067 7 = .ok (.ifCond .lt 11, 3) := by decide +kernel
theorem dJ2_getChar_3b067_10 : decode cJ2_getChar_3b067 10 = .ok (.iload_n 1, 1) := by decide +kernel
theorem dJ2_getChar_3b067_11 : decode cJ2_getChar_3b067 11 = .ok (.aload_n 0, 1) := by decide +kernel
theorem dJ2_getChar_3b067_12 : decode cJ2_getChar_3b067 12 = .ok (.invokestatic 48, 3) := by decide +kernel
theorem dJ2_getChar_3b067_15 : decode cJ2_getChar_3b067 15 = .ok (.if_icmp .lt 13, 3) := by decide +kernel
theorem dJ2_getChar_3b067_18 : decode cJ2_getChar_3b067 18 = .ok (.new 52, 3) := by decide +kernel
theorem dJ2_getChar_3b067_21 : decode cJ2_getChar_3b067 21 = .ok (.dup, 1) := by decide +kernel
theorem dJ2_getChar_3b067_22 : decode cJ2_getChar_3b067 22 = .ok (.ldc 54, 2) := by decide +kernel
theorem dJ2_getChar_3b067_24 : decode cJ2_getChar_3b067 24 = .ok (.invokespecial 56, 3) := by decide +kernel
theorem dJ2_getChar_3b067_27 : decode cJ2_getChar_3b067 27 = .ok (.athrow, 1) := by decide +kernel
theorem dJ2_getChar_3b067_28 : decode cJ2_getChar_3b067 28 = .ok (.iload_n 1, 1) := by decide +kernel
theorem dJ2_getChar_3b067_29 : decode cJ2_getChar_3b067 29 = .ok (.iconst 1, 1) := by decide +kernel
theorem dJ2_getChar_3b067_30 : decode cJ2_getChar_3b067 30 = .ok (.ishl, 1) := by decide +kernel
theorem dJ2_getChar_3b067_31 : decode cJ2_getChar_3b067 31 = .ok (.istore_n 1, 1) := by decide +kernel
theorem dJ2_getChar_3b067_32 : decode cJ2_getChar_3b067 32 = .ok (.aload_n 0, 1) := by decide +kernel
theorem dJ2_getChar_3b067_33 : decode cJ2_getChar_3b067 33 = .ok (.iload_n 1, 1) := by decide +kernel
theorem dJ2_getChar_3b067_34 : decode cJ2_getChar_3b067 34 = .ok (.iinc 1 1, 3) := by decide +kernel
theorem dJ2_getChar_3b067_37 : decode cJ2_getChar_3b067 37 = .ok (.baload, 1) := by decide +kernel
theorem dJ2_getChar_3b067_38 : decode cJ2_getChar_3b067 38 = .ok (.sipush 255, 3) := by decide +kernel
theorem dJ2_getChar_3b067_41 : decode cJ2_getChar_3b067 41 = .ok (.iand, 1) := by decide +kernel
theorem dJ2_getChar_3b067_42 : decode cJ2_getChar_3b067 42 = .ok (.getstatic 59, 3) := by decide +kernel
theorem dJ2_getChar_3b067_45 : decode cJ2_getChar_3b067 45 = .ok (.ishl, 1) := by decide +kernel
theorem dJ2_getChar_3b067_46 : decode cJ2_getChar_3b067 46 = .ok (.aload_n 0, 1) := by decide +kernel
theorem dJ2_getChar_3b067_47 : decode cJ2_getChar_3b067 47 = .ok (.iload_n 1, 1) := by decide +kernel
theorem dJ2_getChar_3b067_48 : decode cJ2_getChar_3b067 48 = .ok (.baload, 1) := by decide +kernel
theorem dJ2_getChar_3b067_49 : decode cJ2_getChar_3b067 49 = .ok (.sipush 255, 3) := by decide +kernel
theorem dJ2_getChar_3b067_52 : decode cJ2_getChar_3b067 52 = .ok (.iand, 1) := by decide +kernel
theorem dJ2_getChar_3b067_53 : decode cJ2_getChar_3b067 53 = .ok (.getstatic 63, 3) := by decide +kernel
theorem dJ2_getChar_3b067_56 : decode cJ2_getChar_3b067 56 = .ok (.ishl, 1) := by decide +kernel
theorem dJ2_getChar_3b067_57 : decode cJ2_getChar_3b067 57 = .ok (.ior, 1) := by decide +kernel
theorem dJ2_getChar_3b067_58 : decode cJ2_getChar_3b067 58 = .ok (.i2c, 1) := by decide +kernel
theorem dJ2_getChar_3b067_59 : decode cJ2_getChar_3b067 59 = .ok (.ireturn, 1) := by decide +kernel
theorem dJ2_length_9d52b_0 : decode cJ2_length_9d52b 0 = .ok (.aload_n 0, 1) := by decide +kernel
theorem dJ2_length_9d52b_1 : decode cJ2_length_9d52b 1 = .ok (.arraylength, 1) := by decide +kernel
theorem dJ2_length_9d52b_2 : decode cJ2_length_9d52b 2 = .ok (.iconst 1, 1) := by decide +kernel
theorem dJ2_length_9d52b_3 : decode cJ2_length_9d52b 3 = .ok (.ishr, 1) := by decide +kernel
theorem dJ2_length_9d52b_4 : decode cJ2_length_9d52b 4 = .ok (.ireturn, 1) := by decide +kernel
theorem dJ2_indexOf_4cfef_0 : decode cJ2_indexOf_4cfef 0 = .ok (.iload_n 2, 1) := by decide +kernel
theorem dJ2_indexOf_4cfef_1 : decode cJ2_indexOf_4cfef 1 = .ok (.iconst 0, 1) := by decide +kernel
theorem dJ2_indexOf_4cfef_2 : decode cJ2_indexOf_4cfef 2 = .ok (.invokestatic 224, 3) := by decide +kernel
theorem dJ2_indexOf_4cfef_5 : decode cJ2_indexOf_4cfef 5 = .ok (.istore_n 2, 1) := by decide +kernel
theorem dJ2_indexOf_4cfef_6 : decode cJ2_indexOf_4cfef 6 = .ok (.iload_n 3, 1) := by decide +kernel
theorem dJ2_indexOf_4cfef_7 : decode cJ2_indexOf_4cfef 7 = .ok (.aload_n 0, 1) := by decide +kernel
theorem dJ2_indexOf_4cfef_8 : decode cJ2_indexOf_4cfef 8 = .ok (.arraylength, 1) := by decide +kernel
theorem dJ2_indexOf_4cfef_9 : decode cJ2_indexOf_4cfef 9 = .ok (.iconst 1, 1) := by decide +kernel
theorem dJ2_indexOf_4cfef_10 : decode cJ2_indexOf_4cfef 10 = .ok (.ishr, 1) := by decide +kernel
theorem dJ2_indexOf_4cfef_11 : decode cJ2_indexOf_4cfef 11 = .ok (.invokestatic 183, 3) := by decide +kernel
theorem dJ2_indexOf_4cfef_14 : decode cJ2_indexOf_4cfef 14 = .ok (.istore_n 3, 1) := by decide +kernel
theorem dJ2_indexOf_4cfef_15 : decode cJ2_indexOf_4cfef 15 = .ok (.iload_n 2, 1) := by decide +kernel
theorem dJ2_indexOf_4cfef_16 : decode cJ2_indexOf_4cfef 16 = .ok (.iload_n 3, 1) := by decide +kernel
theorem dJ2_indexOf_4cfef_17 : decode cJ2_indexOf_4cfef 17 = .ok (.if_icmp .lt 5, 3) := by decide +kernel
theorem dJ2_indexOf_4cfef_20 : decode cJ2_indexOf_4cfef 20 = .ok (.iconst (-1), 1) := by decide +kernel
theorem dJ2_indexOf_4cfef_21 : decode cJ2_indexOf_4cfef 21 = .ok (.ireturn, 1) := by decide +kernel
theorem dJ2_indexOf_4cfef_22 : decode cJ2_indexOf_4cfef 22 = .ok (.iload_n 1, 1) := by decide +kernel
theorem dJ2_indexOf_4cfef_23 : decode cJ2_indexOf_4cfef 23 = .ok (.ldc 227, 2) := by decide +kernel
theorem dJ2_indexOf_4cfef_25 : decode cJ2_indexOf_4cfef 25 = .ok (.if_icmp .ge 11, 3) := by decide +kernel
theorem dJ2_indexOf_4cfef_28 : decode cJ2_indexOf_4cfef 28 = .ok (.aload_n 0, 1) := by decide +kernel
theorem dJ2_indexOf_4cfef_29 : decode cJ2_indexOf_4cfef 29 = .ok (.iload_n 1, 1) := by decide +kernel
theorem dJ2_indexOf_4cfef_30 : decode cJ2_indexOf_4cfef 30 = .ok (.iload_n 2, 1) := by decide +kernel
theorem dJ2_indexOf_4cfef_31 : decode cJ2_indexOf_4cfef 31 = .ok (.iload_n 3, 1) := by decide +kernel
theorem dJ2_indexOf_4cfef_32 : decode cJ2_indexOf_4cfef 32 = .ok (.invokestatic 228, 3) := by decide +kernel
theorem dJ2_indexOf_4cfef_35 : decode cJ2_indexOf_4cfef 35 = .ok (.ireturn, 1) := by decide +kernel
theorem dJ2_indexOf_4cfef_36 : decode cJ2_indexOf_4cfef 36 = .ok (.aload_n 0, 1) := by decide +kernel
theorem dJ2_indexOf_4cfef_37 : decode cJ2_indexOf_4cfef 37 = .ok (.iload_n 1, 1) := by decide +kernel
theorem dJ2_indexOf_4cfef_38 : decode cJ2_indexOf_4cfef 38 = .ok (.iload_n 2, 1) := by decide +kernel
theorem dJ2_indexOf_4cfef_39 : decode cJ2_indexOf_4cfef 39 = .ok (.iload_n 3, 1) := by decide +kernel
theorem dJ2_indexOf_4cfef_40 : decode cJ2_indexOf_4cfef 40 = .ok (.invokestatic 232, 3) := by decide +kernel
theorem dJ2_indexOf_4cfef_43 : decode cJ2_indexOf_4cfef 43 = .ok (.ireturn, 1) := by decide +kernel
theorem dJ2_indexOfChar_4cfef_0 : decode cJ2_indexOfChar_4cfef 0 = .ok (.iload_n 2, 1) := by decide +kernel
theorem dJ2_indexOfChar_4cfef_1 : decode cJ2_indexOfChar_4cfef 1 = .ok (.iload_n 3, 1) := by decide +kernel
theorem dJ2_indexOfChar_4cfef_2 : decode cJ2_indexOfChar_4cfef 2 = .ok (.aload_n 0, 1) := by decide +kernel
theorem dJ2_indexOfChar_4cfef_3 : decode cJ2_indexOfChar_4cfef 3 = .ok (.invokestatic 96, 3) := by decide +kernel
theorem dJ2_indexOfChar_4cfef_6 : decode cJ2_indexOfChar_4cfef 6 = .ok (.aload_n 0, 1) := by decide +kernel
theorem dJ2_indexOfChar_4cfef_7 : decode cJ2_indexOfChar_4cfef 7 = .ok (.iload_n 1, 1) := by decide +kernel
theorem dJ2_indexOfChar_4cfef_8 : decode cJ2_indexOfChar_4cfef 8 = .ok (.iload_n 2, 1) := by decide +kernel
theorem dJ2_indexOfChar_4cfef_9 : decode cJ2_indexOfChar_4cfef 9 = .ok (.iload_n 3, 1) := by decide +kernel
theorem dJ2_indexOfChar_4cfef_10 : decode cJ2_indexOfChar_4cfef 10 = .ok (.invokestatic 244, 3) := by decide +kernel
theorem dJ2_indexOfChar_4cfef_13 : decode cJ2_indexOfChar_4cfef 13 = .ok (.ireturn, 1) := by decide +kernel
theorem dJ2_indexOfCharUnsafe_4cfef_0 : decode cJ2_indexOfCharUnsafe_4cfef 0 = .ok (.iload_n 2, 1) := by decide +kernel
theorem dJ2_indexOfCharUnsafe_4cfef_1 : decode cJ2_indexOfCharUnsafe_4cfef 1 = .ok (.istore 4, 2) := by decide +kernel
theorem dJ2_indexOfCharUnsafe_4cfef_3 : decode cJ2_indexOfCharUnsafe_4cfef 3 = .ok (.iload 4, 2) := by decide +kernel
theorem dJ2_indexOfCharUnsafe_4cfef_5 : decode cJ2_indexOfCharUnsafe_4cfef 5 = .ok (.iload_n 3, 1) := by decide +kernel
theorem dJ2_indexOfCharUnsafe_4cfef_6 : decode cJ2_indexOfCharUnsafe_4cfef 6 = .ok (.if_icmp .ge 22, 3) := by decide +kernel
theorem dJ2_indexOfCharUnsafe_4cfef_9 : decode cJ2_indexOfCharUnsafe_4cfef 9 = .ok (.aload_n 0, 1) := by decide +kernel
theorem dJ2_indexOfCharUnsafe_4cfef_10 : decode cJ2_indexOfCharUnsafe_4cfef 10 = .ok (.iload 4, 2) := by decide +kernel
theorem dJ2_indexOfCharUnsafe_4cfef_12 : decode cJ2_indexOfCharUnsafe_4cfef 12 = .ok (.invokestatic 71, 3) := by decide +kernel
theorem dJ2_indexOfCharUnsafe_4cfef_15 : decode cJ2_indexOfCharUnsafe_4cfef 15 = .ok (.iload_n 1, 1) := by decide +kernel
theorem dJ2_indexOfCharUnsafe_4cfef_16 : decode cJ2_indexOfCharUnsafe_4cfef 16 = .ok (.if_icmp .ne 6, 3) := by decide +kernel
theorem dJ2_indexOfCharUnsafe_4cfef_19 : decode cJ2_indexOfCharUnsafe_4cfef 19 = .ok (.iload 4, 2) := by decide +kernel
theorem dJ2_indexOfCharUnsafe_4cfef_21 : decode cJ2_indexOfCharUnsafe_4cfef 21 = .ok (.ireturn, 1) := by decide +kernel
theorem dJ2_indexOfCharUnsafe_4cfef_22 : decode cJ2_indexOfCharUnsafe_4cfef 22 = .ok (.iinc 4 1, 3) := by decide +kernel
theorem dJ2_indexOfCharUnsafe_4cfef_25 : decode cJ2_indexOfCharUnsafe_4cfef 25 = .ok (.goto (-22), 3) := by decide +kernel
theorem dJ2_indexOfCharUnsafe_4cfef_28 : decode cJ2_indexOfCharUnsafe_4cfef 28 = .ok (.iconst (-1), 1) := by decide +kernel
theorem dJ2_indexOfCharUnsafe_4cfef_29 : decode cJ2_indexOfCharUnsafe_4cfef 29 = .ok (.ireturn, 1) := by decide +kernel
theorem dJ2_indexOfSupplementary_4cfef_0 : decode cJ2_indexOfSupplementary_4cfef 0 = .ok (.iload_n 1, 1) := by decide +kernel
theorem dJ2_indexOfSupplementary_4cfef_1 : decode cJ2_indexOfSupplementary_4cfef 1 = .ok (.invokestatic 164, 3) := by decide +kernel
theorem dJ2_indexOfSupplementary_4cfef_4 : decode cJ2_indexOfSupplementary_4cfef 4 = .ok (.ifCond .eq 65, 3) := by decide +kernel
theorem dJ2_indexOfSupplementary_4cfef_7 : decode cJ2_indexOfSupplementary_4cfef 7 = .ok (.iload_n 1, 1) := by decide +kernel
theorem dJ2_indexOfSupplementary_4cfef_8 : decode cJ2_indexOfSupplementary_4cfef 8 = .ok (.invokestatic 157, 3) := by decide +kernel
theorem dJ2_indexOfSupplementary_4cfef_11 : decode cJ2_indexOfSupplementary_4cfef 11 = .ok (.istore 4, 2) := by decide +kernel
theorem dJ2_indexOfSupplementary_4cfef_13 : decode cJ2_indexOfSupplementary_4cfef 13 = .ok (.iload_n 1, 1) := by decide +kernel
theorem dJ2_indexOfSupplementary_4cfef_14 : decode cJ2_indexOfSupplementary_4cfef 14 = .ok (.invokestatic 161, 3) := by decide +kernel
theorem dJ2_indexOfSupplementary_4cfef_17 : decode cJ2_indexOfSupplementary_4cfef 17 = .ok (.istore 5, 2) := by decide +kernel
theorem dJ2_indexOfSupplementary_4cfef_19 : decode cJ2_indexOfSupplementary_4cfef 19 = .ok (.iload_n 2, 1) := by decide +kernel
theorem dJ2_indexOfSupplementary_4cfef_20 : decode cJ2_indexOfSupplementary_4cfef 20 = .ok (.iload_n 3, 1) := by decide +kernel
theorem dJ2_indexOfSupplementary_4cfef_21 : decode cJ2_indexOfSupplementary_4cfef 21 = .ok (.aload_n 0, 1) := by decide +kernel
theorem dJ2_indexOfSupplementary_4cfef_22 : decode cJ2_indexOfSupplementary_4cfef 22 = .ok (.invokestatic 96, 3) := by decide +kernel
theorem dJ2_indexOfSupplementary_4cfef_25 : decode cJ2_indexOfSupplementary_4cfef 25 = .ok (.iload_n 2, 1) := by decide +kernel
theorem dJ2_indexOfSupplementary_4cfef_26 : decode cJ2_indexOfSupplementary_4cfef 26 = .ok (.istore 6, 2) := by decide +kernel
theorem dJ2_indexOfSupplementary_4cfef_28 : decode cJ2_indexOfSupplementary_4cfef 28 = .ok (.iload 6, 2) := by decide +kernel
theorem dJ2_indexOfSupplementary_4cfef_30 : decode cJ2_indexOfSupplementary_4cfef 30 = .ok (.iload_n 3, 1) := by decide +kernel
theorem dJ2_indexOfSupplementary_4cfef_31 : decode cJ2_indexOfSupplementary_4cfef 31 = .ok (.iconst 1, 1) := by decide +kernel
theorem dJ2_indexOfSupplementary_4cfef_32 : decode cJ2_indexOfSupplementary_4cfef 32 = .ok (.isub, 1) := by decide +kernel
theorem dJ2_indexOfSupplementary_4cfef_33 : decode cJ2_indexOfSupplementary_4cfef 33 = .ok (.if_icmp .ge 36, 3) := by decide +kernel
theorem dJ2_indexOfSupplementary_4cfef_36 : decode cJ2_indexOfSupplementary_4cfef 36 = .ok (.aload_n 0, 1) := by decide +kernel
theorem dJ2_indexOfSupplementary_4cfef_37 : decode cJ2_indexOfSupplementary_4cfef 37 = .ok (.iload 6, 2) := by decide +kernel
theorem dJ2_indexOfSupplementary_4cfef_39 : decode cJ2_indexOfSupplementary_4cfef 39 = .ok (.invokestatic 71, 3) := by decide +kernel
theorem dJ2_indexOfSupplementary_4cfef_42 : decode cJ2_indexOfSupplementary_4cfef 42 = .ok (.iload 4, 2) := by decide +kernel
theorem dJ2_indexOfSupplementary_4cfef_44 : decode cJ2_indexOfSupplementary_4cfef 44 = .ok (.if_icmp .ne 19, 3) := by decide +kernel
theorem dJ2_indexOfSupplementary_4cfef_47 : decode cJ2_indexOfSupplementary_4cfef 47 = .ok (.aload_n 0, 1) := by decide +kernel
theorem dJ2_indexOfSupplementary_4cfef_48 : decode cJ2_indexOfSupplementary_4cfef 48 = .ok (.iload 6, 2) := by decide +kernel
theorem dJ2_indexOfSupplementary_4cfef_50 : decode cJ2_indexOfSupplementary_4cfef 50 = .ok (.iconst 1, 1) := by decide +kernel
theorem dJ2_indexOfSupplementary_4cfef_51 : decode cJ2_indexOfSupplementary_4cfef 51 = .ok (.iadd, 1) := by decide +kernel
theorem dJ2_indexOfSupplementary_4cfef_52 : decode cJ2_indexOfSupplementary_4cfef 52 = .ok (.invokestatic 71, 3) := by decide +kernel
theorem dJ2_indexOfSupplementary_4cfef_55 : decode cJ2_indexOfSupplementary_4cfef 55 = .ok (.iload 5, 2) := by decide +kernel
theorem dJ2_indexOfSupplementary_4cfef_57 : decode cJ2_indexOfSupplementary_4cfef 57 = .ok (.if_icmp .ne 6, 3) := by decide +kernel
theorem dJ2_indexOfSupplementary_4cfef_60 : decode cJ2_indexOfSupplementary_4cfef 60 = .ok (.iload 6, 2) := by decide +kernel
theorem dJ2_indexOfSupplementary_4cfef_62 : decode cJ2_indexOfSupplementary_4cfef 62 = .ok (.ireturn, 1) := by decide +kernel
theorem dJ2_indexOfSupplementary_4cfef_63 : decode cJ2_indexOfSupplementary_4cfef 63 = .ok (.iinc 6 1, 3) := by decide +kernel
theorem dJ2_indexOfSupplementary_4cfef_66 : decode cJ2_indexOfSupplementary_4cfef 66 = .ok (.goto (-38), 3) := by decide +kernel
theorem dJ2_indexOfSupplementary_4cfef_69 : decode cJ2_indexOfSupplementary_4cfef 69 = .ok (.iconst (-1), 1) := by decide +kernel
theorem dJ2_indexOfSupplementary_4cfef_70 : decode cJ2_indexOfSupplementary_4cfef 70 = .ok (.ireturn, 1) := by decide +kernel
theorem dJ2_checkBoundsBeginEnd_d044e_0 : decode cJ2_checkBoundsBeginEnd_d044e 0 = .ok (.iload_n 0, 1) := by decide +kernel
theorem dJ2_checkBoundsBeginEnd_d044e_1 : decode cJ2_checkBoundsBeginEnd_d044e 1 = .ok (.iload_n 1, 1) := by decide +kernel
