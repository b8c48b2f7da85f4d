theorem dX10_fruitsOf_6 : decode cX10_fruitsOf 6 = .ok (.iload_n 3, 1) := by decide +kernel
theorem dX10_fruitsOf_7 : decode cX10_fruitsOf 7 = .ok (.aload_n 0, 1) := by decide +kernel
theorem dX10_fruitsOf_8 : decode cX10_fruitsOf 8 = .ok (.getfield 46, 3) := by decide +kernel
theorem dX10_fruitsOf_11 : decode cX10_fruitsOf 11 = .ok (.if_icmp .ge 31, 3) := by decide +kernel
theorem dX10_fruitsOf_14 : decode cX10_fruitsOf 14 = .ok (.iload_n 2, 1) := by decide +kernel
theorem dX10_fruitsOf_15 : decode cX10_fruitsOf 15 = .ok (.aload_n 0, 1) := by decide +kernel
theorem dX10_fruitsOf_16 : decode cX10_fruitsOf 16 = .ok (.iload_n 3, 1) := by decide +kernel
theorem dX10_fruitsOf_17 : decode cX10_fruitsOf 17 = .ok (.invokevirtual 184, 3) := by decide +kernel
theorem dX10_fruitsOf_20 : decode cX10_fruitsOf 20 = .ok (.iload_n 1, 1) := by decide +kernel
theorem dX10_fruitsOf_21 : decode cX10_fruitsOf 21 = .ok (.invokestatic 52, 3) := by decide +kernel
theorem dX10_fruitsOf_24 : decode cX10_fruitsOf 24 = .ok (.ifCond .eq 9, 3) := by decide +kernel
theorem dX10_fruitsOf_27 : decode cX10_fruitsOf 27 = .ok (.iconst 1, 1) := by decide +kernel
theorem dX10_fruitsOf_28 : decode cX10_fruitsOf 28 = .ok (.iload_n 3, 1) := by decide +kernel
theorem dX10_fruitsOf_29 : decode cX10_fruitsOf 29 = .ok (.ishl, 1) := by decide +kernel
theorem dX10_fruitsOf_30 : decode cX10_fruitsOf 30 = .ok (.goto 4, 3) := by decide +kernel
theorem dX10_fruitsOf_33 : decode cX10_fruitsOf 33 = .ok (.iconst 0, 1) := by decide +kernel
theorem dX10_fruitsOf_34 : decode cX10_fruitsOf 34 = .ok (.ior, 1) := by decide +kernel
theorem dX10_fruitsOf_35 : decode cX10_fruitsOf 35 = .ok (.istore_n 2, 1) := by decide +kernel
theorem dX10_fruitsOf_36 : decode cX10_fruitsOf 36 = .ok (.iinc 3 1, 3) := by decide +kernel
theorem dX10_fruitsOf_39 : decode cX10_fruitsOf 39 = .ok (.goto (-33), 3) := by decide +kernel
theorem dX10_fruitsOf_42 : decode cX10_fruitsOf 42 = .ok (.iload_n 2, 1) := by decide +kernel
theorem dX10_fruitsOf_43 : decode cX10_fruitsOf 43 = .ok (.ireturn, 1) := by decide +kernel
theorem dX10_roots_0 : decode cX10_roots 0 = .ok (.aload_n 0, 1) := by decide +kernel
theorem dX10_roots_1 : decode cX10_roots 1 = .ok (.iload_n 1, 1) := by decide +kernel
theorem dX10_roots_2 : decode cX10_roots 2 = .ok (.invokevirtual 100, 3) := by decide +kernel
theorem dX10_roots_5 : decode cX10_roots 5 = .ok (.ifCond .ne 7, 3) := by decide +kernel
theorem dX10_roots_8 : decode cX10_roots 8 = .ok (.iconst (-1), 1) := by decide +kernel
theorem dX10_roots_9 : decode cX10_roots 9 = .ok (.goto 18, 3) := by decide +kernel
theorem dX10_roots_12 : decode cX10_roots 12 = .ok (.iload_n 2, 1) := by decide +kernel
theorem dX10_roots_13 : decode cX10_roots 13 = .ok (.iconst 0, 1) := by decide +kernel
theorem dX10_roots_14 : decode cX10_roots 14 = .ok (.iconst 1, 1) := by decide +kernel
theorem dX10_roots_15 : decode cX10_roots 15 = .ok (.invokestatic 74, 3) := by decide +kernel
theorem dX10_roots_18 : decode cX10_roots 18 = .ok (.ifCond .ne 8, 3) := by decide +kernel
theorem dX10_roots_21 : decode cX10_roots 21 = .ok (.bipush (-2), 2) := by decide +kernel
theorem dX10_roots_23 : decode cX10_roots 23 = .ok (.goto 4, 3) := by decide +kernel
theorem dX10_roots_26 : decode cX10_roots 26 = .ok (.iconst 0, 1) := by decide +kernel
theorem dX10_roots_27 : decode cX10_roots 27 = .ok (.istore_n 3, 1) := by decide +kernel
theorem dX10_roots_28 : decode cX10_roots 28 = .ok (.iload_n 3, 1) := by decide +kernel
theorem dX10_roots_29 : decode cX10_roots 29 = .ok (.ifCond .eq 9, 3) := by decide +kernel
theorem dX10_roots_32 : decode cX10_roots 32 = .ok (.aload_n 0, 1) := by decide +kernel
theorem dX10_roots_33 : decode cX10_roots 33 = .ok (.iload_n 3, 1) := by decide +kernel
theorem dX10_roots_34 : decode cX10_roots 34 = .ok (.invokevirtual 63, 3) := by decide +kernel
theorem dX10_roots_37 : decode cX10_roots 37 = .ok (.ireturn, 1) := by decide +kernel
theorem dX10_roots_38 : decode cX10_roots 38 = .ok (.iload_n 2, 1) := by decide +kernel
theorem dX10_roots_39 : decode cX10_roots 39 = .ok (.ifCond .ne 11, 3) := by decide +kernel
theorem dX10_roots_42 : decode cX10_roots 42 = .ok (.aload_n 0, 1) := by decide +kernel
theorem dX10_roots_43 : decode cX10_roots 43 = .ok (.iload_n 1, 1) := by decide +kernel
theorem dX10_roots_44 : decode cX10_roots 44 = .ok (.invokevirtual 184, 3) := by decide +kernel
theorem dX10_roots_47 : decode cX10_roots 47 = .ok (.goto 8, 3) := by decide +kernel
theorem dX10_roots_50 : decode cX10_roots 50 = .ok (.aload_n 0, 1) := by decide +kernel
theorem dX10_roots_51 : decode cX10_roots 51 = .ok (.iload_n 1, 1) := by decide +kernel
theorem dX10_roots_52 : decode cX10_roots 52 = .ok (.invokevirtual 187, 3) := by decide +kernel
theorem dX10_roots_55 : decode cX10_roots 55 = .ok (.ireturn, 1) := by decide +kernel
theorem dX10_nails_0 : decode cX10_nails 0 = .ok (.iconst 0, 1) := by decide +kernel
theorem dX10_nails_1 : decode cX10_nails 1 = .ok (.istore_n 1, 1) := by decide +kernel
theorem dX10_nails_2 : decode cX10_nails 2 = .ok (.iconst 0, 1) := by decide +kernel
theorem dX10_nails_3 : decode cX10_nails 3 = .ok (.istore_n 2, 1) := by decide +kernel
theorem dX10_nails_4 : decode cX10_nails 4 = .ok (.iload_n 2, 1) := by decide +kernel
theorem dX10_nails_5 : decode cX10_nails 5 = .ok (.aload_n 0, 1) := by decide +kernel
theorem dX10_nails_6 : decode cX10_nails 6 = .ok (.getfield 46, 3) := by decide +kernel
theorem dX10_nails_9 : decode cX10_nails 9 = .ok (.if_icmp .ge 28, 3) := by decide +kernel
theorem dX10_nails_12 : decode cX10_nails 12 = .ok (.iload_n 1, 1) := by decide +kernel
theorem dX10_nails_13 : decode cX10_nails 13 = .ok (.aload_n 0, 1) := by decide +kernel
theorem dX10_nails_14 : decode cX10_nails 14 = .ok (.getfield 19, 3) := by decide +kernel
theorem dX10_nails_17 : decode cX10_nails 17 = .ok (.iload_n 2, 1) := by decide +kernel
theorem dX10_nails_18 : decode cX10_nails 18 = .ok (.iaload, 1) := by decide +kernel
theorem dX10_nails_19 : decode cX10_nails 19 = .ok (.ifCond .ne 9, 3) := by decide +kernel
theorem dX10_nails_22 : decode cX10_nails 22 = .ok (.iconst 1, 1) := by decide +kernel
theorem dX10_nails_23 : decode cX10_nails 23 = .ok (.iload_n 2, 1) := by decide +kernel
theorem dX10_nails_24 : decode cX10_nails 24 = .ok (.ishl, 1) := by decide +kernel
theorem dX10_nails_25 : decode cX10_nails 25 = .ok (.goto 4, 3) := by decide +kernel
theorem dX10_nails_28 : decode cX10_nails 28 = .ok (.iconst 0, 1) := by decide +kernel
theorem dX10_nails_29 : decode cX10_nails 29 = .ok (.ior, 1) := by decide +kernel
theorem dX10_nails_30 : decode cX10_nails 30 = .ok (.istore_n 1, 1) := by decide +kernel
theorem dX10_nails_31 : decode cX10_nails 31 = .ok (.iinc 2 1, 3) := by decide +kernel
theorem dX10_nails_34 : decode cX10_nails 34 = .ok (.goto (-30), 3) := by decide +kernel
theorem dX10_nails_37 : decode cX10_nails 37 = .ok (.iload_n 1, 1) := by decide +kernel
theorem dX10_nails_38 : decode cX10_nails 38 = .ok (.ireturn, 1) := by decide +kernel
theorem dX10_bare_0 : decode cX10_bare 0 = .ok (.aload_n 0, 1) := by decide +kernel
theorem dX10_bare_1 : decode cX10_bare 1 = .ok (.invokevirtual 190, 3) := by decide +kernel
theorem dX10_bare_4 : decode cX10_bare 4 = .ok (.aload_n 0, 1) := by decide +kernel
theorem dX10_bare_5 : decode cX10_bare 5 = .ok (.getfield 94, 3) := by decide +kernel
theorem dX10_bare_8 : decode cX10_bare 8 = .ok (.aload_n 0, 1) := by decide +kernel
theorem dX10_bare_9 : decode cX10_bare 9 = .ok (.getfield 97, 3) := by decide +kernel
theorem dX10_bare_12 : decode cX10_bare 12 = .ok (.ior, 1) := by decide +kernel
theorem dX10_bare_13 : decode cX10_bare 13 = .ok (.iconst (-1), 1) := by decide +kernel
theorem dX10_bare_14 : decode cX10_bare 14 = .ok (.ixor, 1) := by decide +kernel
theorem dX10_bare_15 : decode cX10_bare 15 = .ok (.iand, 1) := by decide +kernel
theorem dX10_bare_16 : decode cX10_bare 16 = .ok (.ireturn, 1) := by decide +kernel
theorem dX10_lostGuarding_0 : decode cX10_lostGuarding 0 = .ok (.aload_n 0, 1) := by decide +kernel
theorem dX10_lostGuarding_1 : decode cX10_lostGuarding 1 = .ok (.getfield 97, 3) := by decide +kernel
theorem dX10_lostGuarding_4 : decode cX10_lostGuarding 4 = .ok (.istore_n 3, 1) := by decide +kernel
theorem dX10_lostGuarding_5 : decode cX10_lostGuarding 5 = .ok (.aload_n 0, 1) := by decide +kernel
theorem dX10_lostGuarding_6 : decode cX10_lostGuarding 6 = .ok (.dup, 1) := by decide +kernel
theorem dX10_lostGuarding_7 : decode cX10_lostGuarding 7 = .ok (.getfield 97, 3) := by decide +kernel
theorem dX10_lostGuarding_10 : decode cX10_lostGuarding 10 = .ok (.iload_n 1, 1) := by decide +kernel
theorem dX10_lostGuarding_11 : decode cX10_lostGuarding 11 = .ok (.ior, 1) := by decide +kernel
theorem dX10_lostGuarding_12 : decode cX10_lostGuarding 12 = .ok (.putfield 97, 3) := by decide +kernel
theorem dX10_lostGuarding_15 : decode cX10_lostGuarding 15 = .ok (.aload_n 0, 1) := by decide +kernel
theorem dX10_lostGuarding_16 : decode cX10_lostGuarding 16 = .ok (.iload_n 2, 1) := by decide +kernel
theorem dX10_lostGuarding_17 : decode cX10_lostGuarding 17 = .ok (.invokevirtual 165, 3) := by decide +kernel
theorem dX10_lostGuarding_20 : decode cX10_lostGuarding 20 = .ok (.istore 4, 2) := by decide +kernel
theorem dX10_lostGuarding_22 : decode cX10_lostGuarding 22 = .ok (.aload_n 0, 1) := by decide +kernel
theorem dX10_lostGuarding_23 : decode cX10_lostGuarding 23 = .ok (.iload_n 3, 1) := by decide +kernel
theorem dX10_lostGuarding_24 : decode cX10_lostGuarding 24 = .ok (.putfield 97, 3) := by decide +kernel
theorem dX10_lostGuarding_27 : decode cX10_lostGuarding 27 = .ok (.iload 4, 2) := by decide +kernel
theorem dX10_lostGuarding_29 : decode cX10_lostGuarding 29 = .ok (.ireturn, 1) := by decide +kernel
theorem dX10_guard_0 : decode cX10_guard 0 = .ok (.aload_n 0, 1) := by decide +kernel
theorem dX10_guard_1 : decode cX10_guard 1 = .ok (.iload_n 1, 1) := by decide +kernel
theorem dX10_guard_2 : decode cX10_guard 2 = .ok (.invokevirtual 100, 3) := by decide +kernel
theorem dX10_guard_5 : decode cX10_guard 5 = .ok (.ifCond .ne 7, 3) := by decide +kernel
theorem dX10_guard_8 : decode cX10_guard 8 = .ok (.iconst (-1), 1) := by decide +kernel
theorem dX10_guard_9 : decode cX10_guard 9 = .ok (.goto 10, 3) := by decide +kernel
theorem dX10_guard_12 : decode cX10_guard 12 = .ok (.iload_n 2, 1) := by decide +kernel
theorem dX10_guard_13 : decode cX10_guard 13 = .ok (.iconst 0, 1) := by decide +kernel
theorem dX10_guard_14 : decode cX10_guard 14 = .ok (.bipush 30, 2) := by decide +kernel
theorem dX10_guard_16 : decode cX10_guard 16 = .ok (.invokestatic 56, 3) := by decide +kernel
theorem dX10_guard_19 : decode cX10_guard 19 = .ok (.istore_n 3, 1) := by decide +kernel
theorem dX10_guard_20 : decode cX10_guard 20 = .ok (.iload_n 3, 1) := by decide +kernel
theorem dX10_guard_21 : decode cX10_guard 21 = .ok (.ifCond .eq 9, 3) := by decide +kernel
theorem dX10_guard_24 : decode cX10_guard 24 = .ok (.aload_n 0, 1) := by decide +kernel
theorem dX10_guard_25 : decode cX10_guard 25 = .ok (.iload_n 3, 1) := by decide +kernel
theorem dX10_guard_26 : decode cX10_guard 26 = .ok (.invokevirtual 63, 3) := by decide +kernel
theorem dX10_guard_29 : decode cX10_guard 29 = .ok (.ireturn, 1) := by decide +kernel
theorem dX10_guard_30 : decode cX10_guard 30 = .ok (.bipush (-9), 2) := by decide +kernel
theorem dX10_guard_32 : decode cX10_guard 32 = .ok (.istore 4, 2) := by decide +kernel
theorem dX10_guard_34 : decode cX10_guard 34 = .ok (.iconst 0, 1) := by decide +kernel
theorem dX10_guard_35 : decode cX10_guard 35 = .ok (.istore 5, 2) := by decide +kernel
theorem dX10_guard_37 : decode cX10_guard 37 = .ok (.iload 5, 2) := by decide +kernel
theorem dX10_guard_39 : decode cX10_guard 39 = .ok (.aload_n 0, 1) := by decide +kernel
theorem dX10_guard_40 : decode cX10_guard 40 = .ok (.invokevirtual 190, 3) := by decide +kernel
theorem dX10_guard_43 : decode cX10_guard 43 = .ok (.if_icmp .gt 60, 3) := by decide +kernel
theorem dX10_guard_46 : decode cX10_guard 46 = .ok (.iload 5, 2) := by decide +kernel
theorem dX10_guard_48 : decode cX10_guard 48 = .ok (.aload_n 0, 1) := by decide +kernel
theorem dX10_guard_49 : decode cX10_guard 49 = .ok (.invokevirtual 193, 3) := by decide +kernel
theorem dX10_guard_52 : decode cX10_guard 52 = .ok (.iconst (-1), 1) := by decide +kernel
theorem dX10_guard_53 : decode cX10_guard 53 = .ok (.ixor, 1) := by decide +kernel
theorem dX10_guard_54 : decode cX10_guard 54 = .ok (.iand, 1) := by decide +kernel
theorem dX10_guard_55 : decode cX10_guard 55 = .ok (.ifCond .ne 42, 3) := by decide +kernel
theorem dX10_guard_58 : decode cX10_guard 58 = .ok (.iload 4, 2) := by decide +kernel
theorem dX10_guard_60 : decode cX10_guard 60 = .ok (.ifCond .lt 19, 3) := by decide +kernel
theorem dX10_guard_63 : decode cX10_guard 63 = .ok (.iload 5, 2) := by decide +kernel
theorem dX10_guard_65 : decode cX10_guard 65 = .ok (.invokestatic 150, 3) := by decide +kernel
theorem dX10_guard_68 : decode cX10_guard 68 = .ok (.iload 4, 2) := by decide +kernel
theorem dX10_guard_70 : decode cX10_guard 70 = .ok (.invokestatic 150, 3) := by decide +kernel
theorem dX10_guard_73 : decode cX10_guard 73 = .ok (.if_icmp .lt 6, 3) := by decide +kernel
theorem dX10_guard_76 : decode cX10_guard 76 = .ok (.goto 21, 3) := by decide +kernel
theorem dX10_guard_79 : decode cX10_guard 79 = .ok (.aload_n 0, 1) := by decide +kernel
theorem dX10_guard_80 : decode cX10_guard 80 = .ok (.iload 5, 2) := by decide +kernel
theorem dX10_guard_82 : decode cX10_guard 82 = .ok (.iload_n 2, 1) := by decide +kernel
theorem dX10_guard_83 : decode cX10_guard 83 = .ok (.invokevirtual 196, 3) := by decide +kernel
theorem dX10_guard_86 : decode cX10_guard 86 = .ok (.iload_n 1, 1) := by decide +kernel
theorem dX10_guard_87 : decode cX10_guard 87 = .ok (.invokestatic 52, 3) := by decide +kernel
theorem dX10_guard_90 : decode cX10_guard 90 = .ok (.ifCond .ne 7, 3) := by decide +kernel
theorem dX10_guard_93 : decode cX10_guard 93 = .ok (.iload 5, 2) := by decide +kernel
theorem dX10_guard_95 : decode cX10_guard 95 = .ok (.istore 4, 2) := by decide +kernel
theorem dX10_guard_97 : decode cX10_guard 97 = .ok (.iinc 5 1, 3) := by decide +kernel
theorem dX10_guard_100 : decode cX10_guard 100 = .ok (.goto (-63), 3) := by decide +kernel
theorem dX10_guard_103 : decode cX10_guard 103 = .ok (.iload 4, 2) := by decide +kernel
theorem dX10_guard_105 : decode cX10_guard 105 = .ok (.ireturn, 1) := by decide +kernel
theorem dX10_weak_0 : decode cX10_weak 0 = .ok (.iload_n 1, 1) := by decide +kernel
theorem dX10_weak_1 : decode cX10_weak 1 = .ok (.iconst 0, 1) := by decide +kernel
theorem dX10_weak_2 : decode cX10_weak 2 = .ok (.bipush 30, 2) := by decide +kernel
theorem dX10_weak_4 : decode cX10_weak 4 = .ok (.invokestatic 56, 3) := by decide +kernel
theorem dX10_weak_7 : decode cX10_weak 7 = .ok (.istore_n 2, 1) := by decide +kernel
theorem dX10_weak_8 : decode cX10_weak 8 = .ok (.iload_n 2, 1) := by decide +kernel
theorem dX10_weak_9 : decode cX10_weak 9 = .ok (.ifCond .eq 9, 3) := by decide +kernel
theorem dX10_weak_12 : decode cX10_weak 12 = .ok (.aload_n 0, 1) := by decide +kernel
theorem dX10_weak_13 : decode cX10_weak 13 = .ok (.iload_n 2, 1) := by decide +kernel
theorem dX10_weak_14 : decode cX10_weak 14 = .ok (.invokevirtual 63, 3) := by decide +kernel
theorem dX10_weak_17 : decode cX10_weak 17 = .ok (.ireturn, 1) := by decide +kernel
theorem dX10_weak_18 : decode cX10_weak 18 = .ok (.bipush (-9), 2) := by decide +kernel
theorem dX10_weak_20 : decode cX10_weak 20 = .ok (.istore_n 3, 1) := by decide +kernel
theorem dX10_weak_21 : decode cX10_weak 21 = .ok (.aload_n 0, 1) := by decide +kernel
theorem dX10_weak_22 : decode cX10_weak 22 = .ok (.iload_n 1, 1) := by decide +kernel
theorem dX10_weak_23 : decode cX10_weak 23 = .ok (.invokevirtual 165, 3) := by decide +kernel
theorem dX10_weak_26 : decode cX10_weak 26 = .ok (.invokestatic 150, 3) := by decide +kernel
theorem dX10_weak_29 : decode cX10_weak 29 = .ok (.istore 4, 2) := by decide +kernel
theorem dX10_weak_31 : decode cX10_weak 31 = .ok (.iconst 0, 1) := by decide +kernel
theorem dX10_weak_32 : decode cX10_weak 32 = .ok (.istore 5, 2) := by decide +kernel
theorem dX10_weak_34 : decode cX10_weak 34 = .ok (.iload 5, 2) := by decide +kernel
theorem dX10_weak_36 : decode cX10_weak 36 = .ok (.aload_n 0, 1) := by decide +kernel
theorem dX10_weak_37 : decode cX10_weak 37 = .ok (.getfield 46, 3) := by decide +kernel
theorem dX10_weak_40 : decode cX10_weak 40 = .ok (.if_icmp .ge 40, 3) := by decide +kernel
theorem dX10_weak_43 : decode cX10_weak 43 = .ok (.aload_n 0, 1) := by decide +kernel
theorem dX10_weak_44 : decode cX10_weak 44 = .ok (.iconst 1, 1) := by decide +kernel
theorem dX10_weak_45 : decode cX10_weak 45 = .ok (.iload 5, 2) := by decide +kernel
theorem dX10_weak_47 : decode cX10_weak 47 = .ok (.ishl, 1) := by decide +kernel
theorem dX10_weak_48 : decode cX10_weak 48 = .ok (.iload_n 1, 1) := by decide +kernel
theorem dX10_weak_49 : decode cX10_weak 49 = .ok (.invokevirtual 196, 3) := by decide +kernel
theorem dX10_weak_52 : decode cX10_weak 52 = .ok (.invokestatic 150, 3) := by decide +kernel
theorem dX10_weak_55 : decode cX10_weak 55 = .ok (.istore 6, 2) := by decide +kernel
theorem dX10_weak_57 : decode cX10_weak 57 = .ok (.iload 6, 2) := by decide +kernel
theorem dX10_weak_59 : decode cX10_weak 59 = .ok (.iload 4, 2) := by decide +kernel
theorem dX10_weak_61 : decode cX10_weak 61 = .ok (.if_icmp .lt 6, 3) := by decide +kernel
theorem dX10_weak_64 : decode cX10_weak 64 = .ok (.goto 10, 3) := by decide +kernel
theorem dX10_weak_67 : decode cX10_weak 67 = .ok (.iload 5, 2) := by decide +kernel
theorem dX10_weak_69 : decode cX10_weak 69 = .ok (.istore_n 3, 1) := by decide +kernel
theorem dX10_weak_70 : decode cX10_weak 70 = .ok (.iload 6, 2) := by decide +kernel
theorem dX10_weak_72 : decode cX10_weak 72 = .ok (.istore 4, 2) := by decide +kernel
theorem dX10_weak_74 : decode cX10_weak 74 = .ok (.iinc 5 1, 3) := by decide +kernel
theorem dX10_weak_77 : decode cX10_weak 77 = .ok (.goto (-43), 3) := by decide +kernel
theorem dX10_weak_80 : decode cX10_weak 80 = .ok (.iload_n 3, 1) := by decide +kernel
theorem dX10_weak_81 : decode cX10_weak 81 = .ok (.ireturn, 1) := by decide +kernel
theorem dX10_whenWith_0 : decode cX10_whenWith 0 = .ok (.aload_n 0, 1) := by decide +kernel
theorem dX10_whenWith_1 : decode cX10_whenWith 1 = .ok (.getfield 94, 3) := by decide +kernel
theorem dX10_whenWith_4 : decode cX10_whenWith 4 = .ok (.istore_n 3, 1) := by decide +kernel
theorem dX10_whenWith_5 : decode cX10_whenWith 5 = .ok (.aload_n 0, 1) := by decide +kernel
theorem dX10_whenWith_6 : decode cX10_whenWith 6 = .ok (.dup, 1) := by decide +kernel
theorem dX10_whenWith_7 : decode cX10_whenWith 7 = .ok (.getfield 94, 3) := by decide +kernel
theorem dX10_whenWith_10 : decode cX10_whenWith 10 = .ok (.iload_n 1, 1) := by decide +kernel
theorem dX10_whenWith_11 : decode cX10_whenWith 11 = .ok (.ior, 1) := by decide +kernel
theorem dX10_whenWith_12 : decode cX10_whenWith 12 = .ok (.putfield 94, 3) := by decide +kernel
theorem dX10_whenWith_15 : decode cX10_whenWith 15 = .ok (.aload_n 0, 1) := by decide +kernel
theorem dX10_whenWith_16 : decode cX10_whenWith 16 = .ok (.iload_n 2, 1) := by decide +kernel
theorem dX10_whenWith_17 : decode cX10_whenWith 17 = .ok (.bipush 60, 2) := by decide +kernel
theorem dX10_whenWith_19 : decode cX10_whenWith 19 = .ok (.invokevirtual 171, 3) := by decide +kernel
theorem dX10_whenWith_22 : decode cX10_whenWith 22 = .ok (.istore 4, 2) := by decide +kernel
theorem dX10_whenWith_24 : decode cX10_whenWith 24 = .ok (.aload_n 0, 1) := by decide +kernel
theorem dX10_whenWith_25 : decode cX10_whenWith 25 = .ok (.iload_n 3, 1) := by decide +kernel
theorem dX10_whenWith_26 : decode cX10_whenWith 26 = .ok (.putfield 94, 3) := by decide +kernel
theorem dX10_whenWith_29 : decode cX10_whenWith 29 = .ok (.iload 4, 2) := by decide +kernel
theorem dX10_whenWith_31 : decode cX10_whenWith 31 = .ok (.ifCond .ge 9, 3) := by decide +kernel
theorem dX10_whenWith_34 : decode cX10_whenWith 34 = .ok (.sipush 1000, 3) := by decide +kernel
theorem dX10_whenWith_37 : decode cX10_whenWith 37 = .ok (.goto 5, 3) := by decide +kernel
theorem dX10_whenWith_40 : decode cX10_whenWith 40 = .ok (.iload 4, 2) := by decide +kernel
theorem dX10_whenWith_42 : decode cX10_whenWith 42 = .ok (.ireturn, 1) := by decide +kernel
theorem dX10_tack_0 : decode cX10_tack 0 = .ok (.aload_n 0, 1) := by decide +kernel
theorem dX10_tack_1 : decode cX10_tack 1 = .ok (.iload_n 1, 1) := by decide +kernel
theorem dX10_tack_2 : decode cX10_tack 2 = .ok (.invokevirtual 100, 3) := by decide +kernel
theorem dX10_tack_5 : decode cX10_tack 5 = .ok (.ifCond .ne 9, 3) := by decide +kernel
theorem dX10_tack_8 : decode cX10_tack 8 = .ok (.aload_n 0, 1) := by decide +kernel
theorem dX10_tack_9 : decode cX10_tack 9 = .ok (.iconst (-1), 1) := by decide +kernel
theorem dX10_tack_10 : decode cX10_tack 10 = .ok (.invokevirtual 63, 3) := by decide +kernel
theorem dX10_tack_13 : decode cX10_tack 13 = .ok (.ireturn, 1) := by decide +kernel
theorem dX10_tack_14 : decode cX10_tack 14 = .ok (.aload_n 0, 1) := by decide +kernel
theorem dX10_tack_15 : decode cX10_tack 15 = .ok (.invokevirtual 199, 3) := by decide +kernel
theorem dX10_tack_18 : decode cX10_tack 18 = .ok (.aload_n 0, 1) := by decide +kernel
theorem dX10_tack_19 : decode cX10_tack 19 = .ok (.invokevirtual 193, 3) := by decide +kernel
theorem dX10_tack_22 : decode cX10_tack 22 = .ok (.iand, 1) := by decide +kernel
theorem dX10_tack_23 : decode cX10_tack 23 = .ok (.istore_n 2, 1) := by decide +kernel
theorem dX10_tack_24 : decode cX10_tack 24 = .ok (.bipush (-9), 2) := by decide +kernel
theorem dX10_tack_26 : decode cX10_tack 26 = .ok (.istore_n 3, 1) := by decide +kernel
theorem dX10_tack_27 : decode cX10_tack 27 = .ok (.aload_n 0, 1) := by decide +kernel
theorem dX10_tack_28 : decode cX10_tack 28 = .ok (.iconst 0, 1) := by decide +kernel
theorem dX10_tack_29 : decode cX10_tack 29 = .ok (.iload_n 1, 1) := by decide +kernel
theorem dX10_tack_30 : decode cX10_tack 30 = .ok (.invokevirtual 202, 3) := by decide +kernel
theorem dX10_tack_33 : decode cX10_tack 33 = .ok (.istore 4, 2) := by decide +kernel
theorem dX10_tack_35 : decode cX10_tack 35 = .ok (.iconst 0, 1) := by decide +kernel
theorem dX10_tack_36 : decode cX10_tack 36 = .ok (.istore 5, 2) := by decide +kernel
theorem dX10_tack_38 : decode cX10_tack 38 = .ok (.iload 5, 2) := by decide +kernel
theorem dX10_tack_40 : decode cX10_tack 40 = .ok (.aload_n 0, 1) := by decide +kernel
theorem dX10_tack_41 : decode cX10_tack 41 = .ok (.getfield 46, 3) := by decide +kernel
theorem dX10_tack_44 : decode cX10_tack 44 = .ok (.if_icmp .ge 52, 3) := by decide +kernel
theorem dX10_tack_47 : decode cX10_tack 47 = .ok (.iload_n 2, 1) := by decide +kernel
theorem dX10_tack_48 : decode cX10_tack 48 = .ok (.iload 5, 2) := by decide +kernel
theorem dX10_tack_50 : decode cX10_tack 50 = .ok (.invokestatic 52, 3) := by decide +kernel
theorem dX10_tack_53 : decode cX10_tack 53 = .ok (.ifCond .eq 15, 3) := by decide +kernel
theorem dX10_tack_56 : decode cX10_tack 56 = .ok (.aload_n 0, 1) := by decide +kernel
theorem dX10_tack_57 : decode cX10_tack 57 = .ok (.iconst 1, 1) := by decide +kernel
theorem dX10_tack_58 : decode cX10_tack 58 = .ok (.iload 5, 2) := by decide +kernel
theorem dX10_tack_60 : decode cX10_tack 60 = .ok (.ishl, 1) := by decide +kernel
theorem dX10_tack_61 : decode cX10_tack 61 = .ok (.iload_n 1, 1) := by decide +kernel
theorem dX10_tack_62 : decode cX10_tack 62 = .ok (.invokevirtual 202, 3) := by decide +kernel
theorem dX10_tack_65 : decode cX10_tack 65 = .ok (.goto 6, 3) := by decide +kernel
theorem dX10_tack_68 : decode cX10_tack 68 = .ok (.sipush 1000, 3) := by decide +kernel
theorem dX10_tack_71 : decode cX10_tack 71 = .ok (.istore 6, 2) := by decide +kernel
theorem dX10_tack_73 : decode cX10_tack 73 = .ok (.iload 6, 2) := by decide +kernel
theorem dX10_tack_75 : decode cX10_tack 75 = .ok (.iload 4, 2) := by decide +kernel
theorem dX10_tack_77 : decode cX10_tack 77 = .ok (.if_icmp .lt 6, 3) := by decide +kernel
theorem dX10_tack_80 : decode cX10_tack 80 = .ok (.goto 10, 3) := by decide +kernel
theorem dX10_tack_83 : decode cX10_tack 83 = .ok (.iload 5, 2) := by decide +kernel
theorem dX10_tack_85 : decode cX10_tack 85 = .ok (.istore_n 3, 1) := by decide +kernel
theorem dX10_tack_86 : decode cX10_tack 86 = .ok (.iload 6, 2) := by decide +kernel
theorem dX10_tack_88 : decode cX10_tack 88 = .ok (.istore 4, 2) := by decide +kernel
theorem dX10_tack_90 : decode cX10_tack 90 = .ok (.iinc 5 1, 3) := by decide +kernel
theorem dX10_tack_93 : decode cX10_tack 93 = .ok (.goto (-55), 3) := by decide +kernel
theorem dX10_tack_96 : decode cX10_tack 96 = .ok (.iload_n 3, 1) := by decide +kernel
theorem dX10_tack_97 : decode cX10_tack 97 = .ok (.ireturn, 1) := by decide +kernel
theorem dX10_worst_0 : decode cX10_worst 0 = .ok (.iload_n 1, 1) := by decide +kernel
theorem dX10_worst_1 : decode cX10_worst 1 = .ok (.iconst 0, 1) := by decide +kernel
theorem dX10_worst_2 : decode cX10_worst 2 = .ok (.bipush 30, 2) := by decide +kernel
theorem dX10_worst_4 : decode cX10_worst 4 = .ok (.invokestatic 56, 3) := by decide +kernel
theorem dX10_worst_7 : decode cX10_worst 7 = .ok (.istore_n 2, 1) := by decide +kernel
theorem dX10_worst_8 : decode cX10_worst 8 = .ok (.iload_n 2, 1) := by decide +kernel
theorem dX10_worst_9 : decode cX10_worst 9 = .ok (.ifCond .eq 9, 3) := by decide +kernel
theorem dX10_worst_12 : decode cX10_worst 12 = .ok (.aload_n 0, 1) := by decide +kernel
theorem dX10_worst_13 : decode cX10_worst 13 = .ok (.iload_n 2, 1) := by decide +kernel
theorem dX10_worst_14 : decode cX10_worst 14 = .ok (.invokevirtual 63, 3) := by decide +kernel
theorem dX10_worst_17 : decode cX10_worst 17 = .ok (.ireturn, 1) := by decide +kernel
theorem dX10_worst_18 : decode cX10_worst 18 = .ok (.aload_n 0, 1) := by decide +kernel
theorem dX10_worst_19 : decode cX10_worst 19 = .ok (.invokevirtual 199, 3) := by decide +kernel
theorem dX10_worst_22 : decode cX10_worst 22 = .ok (.aload_n 0, 1) := by decide +kernel
theorem dX10_worst_23 : decode cX10_worst 23 = .ok (.invokevirtual 193, 3) := by decide +kernel
theorem dX10_worst_26 : decode cX10_worst 26 = .ok (.iand, 1) := by decide +kernel
theorem dX10_worst_27 : decode cX10_worst 27 = .ok (.istore_n 3, 1) := by decide +kernel
theorem dX10_worst_28 : decode cX10_worst 28 = .ok (.bipush (-9), 2) := by decide +kernel
theorem dX10_worst_30 : decode cX10_worst 30 = .ok (.istore 4, 2) := by decide +kernel
theorem dX10_worst_32 : decode cX10_worst 32 = .ok (.aload_n 0, 1) := by decide +kernel
theorem dX10_worst_33 : decode cX10_worst 33 = .ok (.iload_n 1, 1) := by decide +kernel
theorem dX10_worst_34 : decode cX10_worst 34 = .ok (.invokevirtual 165, 3) := by decide +kernel
theorem dX10_worst_37 : decode cX10_worst 37 = .ok (.invokestatic 150, 3) := by decide +kernel
theorem dX10_worst_40 : decode cX10_worst 40 = .ok (.istore 5, 2) := by decide +kernel
theorem dX10_worst_42 : decode cX10_worst 42 = .ok (.iconst 0, 1) := by decide +kernel
theorem dX10_worst_43 : decode cX10_worst 43 = .ok (.istore 6, 2) := by decide +kernel
theorem dX10_worst_45 : decode cX10_worst 45 = .ok (.iload 6, 2) := by decide +kernel
theorem dX10_worst_47 : decode cX10_worst 47 = .ok (.aload_n 0, 1) := by decide +kernel
theorem dX10_worst_48 : decode cX10_worst 48 = .ok (.getfield 46, 3) := by decide +kernel
theorem dX10_worst_51 : decode cX10_worst 51 = .ok (.if_icmp .ge 54, 3) := by decide +kernel
theorem dX10_worst_54 : decode cX10_worst 54 = .ok (.iload_n 3, 1) := by decide +kernel
theorem dX10_worst_55 : decode cX10_worst 55 = .ok (.iload 6, 2) := by decide +kernel
theorem dX10_worst_57 : decode cX10_worst 57 = .ok (.invokestatic 52, 3) := by decide +kernel
theorem dX10_worst_60 : decode cX10_worst 60 = .ok (.ifCond .eq 18, 3) := by decide +kernel
theorem dX10_worst_63 : decode cX10_worst 63 = .ok (.aload_n 0, 1) := by decide +kernel
theorem dX10_worst_64 : decode cX10_worst 64 = .ok (.iconst 1, 1) := by decide +kernel
theorem dX10_worst_65 : decode cX10_worst 65 = .ok (.iload 6, 2) := by decide +kernel
theorem dX10_worst_67 : decode cX10_worst 67 = .ok (.ishl, 1) := by decide +kernel
theorem dX10_worst_68 : decode cX10_worst 68 = .ok (.iload_n 1, 1) := by decide +kernel
theorem dX10_worst_69 : decode cX10_worst 69 = .ok (.invokevirtual 205, 3) := by decide +kernel
theorem dX10_worst_72 : decode cX10_worst 72 = .ok (.invokestatic 150, 3) := by decide +kernel
theorem dX10_worst_75 : decode cX10_worst 75 = .ok (.goto 4, 3) := by decide +kernel
theorem dX10_worst_78 : decode cX10_worst 78 = .ok (.iconst 0, 1) := by decide +kernel
theorem dX10_worst_79 : decode cX10_worst 79 = .ok (.istore 7, 2) := by decide +kernel
theorem dX10_worst_81 : decode cX10_worst 81 = .ok (.iload 7, 2) := by decide +kernel
theorem dX10_worst_83 : decode cX10_worst 83 = .ok (.iload 5, 2) := by decide +kernel
theorem dX10_worst_85 : decode cX10_worst 85 = .ok (.if_icmp .gt 6, 3) := by decide +kernel
theorem dX10_worst_88 : decode cX10_worst 88 = .ok (.goto 11, 3) := by decide +kernel
theorem dX10_worst_91 : decode cX10_worst 91 = .ok (.iload 6, 2) := by decide +kernel
theorem dX10_worst_93 : decode cX10_worst 93 = .ok (.istore 4, 2) := by decide +kernel
theorem dX10_worst_95 : decode cX10_worst 95 = .ok (.iload 7, 2) := by decide +kernel
theorem dX10_worst_97 : decode cX10_worst 97 = .ok (.istore 5, 2) := by decide +kernel
theorem dX10_worst_99 : decode cX10_worst 99 = .ok (.iinc 6 1, 3) := by decide +kernel
theorem dX10_worst_102 : decode cX10_worst 102 = .ok (.goto (-57), 3) := by decide +kernel
theorem dX10_worst_105 : decode cX10_worst 105 = .ok (.iload 4, 2) := by decide +kernel
theorem dX10_worst_107 : decode cX10_worst 107 = .ok (.ireturn, 1) := by decide +kernel
theorem dX10_fewest_0 : decode cX10_fewest 0 = .ok (.aload_n 0, 1) := by decide +kernel
theorem dX10_fewest_1 : decode cX10_fewest 1 = .ok (.iload_n 1, 1) := by decide +kernel
theorem dX10_fewest_2 : decode cX10_fewest 2 = .ok (.invokevirtual 100, 3) := by decide +kernel
theorem dX10_fewest_5 : decode cX10_fewest 5 = .ok (.ifCond .ne 9, 3) := by decide +kernel
theorem dX10_fewest_8 : decode cX10_fewest 8 = .ok (.aload_n 0, 1) := by decide +kernel
theorem dX10_fewest_9 : decode cX10_fewest 9 = .ok (.iconst (-1), 1) := by decide +kernel
theorem dX10_fewest_10 : decode cX10_fewest 10 = .ok (.invokevirtual 63, 3) := by decide +kernel
theorem dX10_fewest_13 : decode cX10_fewest 13 = .ok (.ireturn, 1) := by decide +kernel
theorem dX10_fewest_14 : decode cX10_fewest 14 = .ok (.aload_n 0, 1) := by decide +kernel
theorem dX10_fewest_15 : decode cX10_fewest 15 = .ok (.invokevirtual 199, 3) := by decide +kernel
theorem dX10_fewest_18 : decode cX10_fewest 18 = .ok (.aload_n 0, 1) := by decide +kernel
theorem dX10_fewest_19 : decode cX10_fewest 19 = .ok (.invokevirtual 193, 3) := by decide +kernel
theorem dX10_fewest_22 : decode cX10_fewest 22 = .ok (.iand, 1) := by decide +kernel
theorem dX10_fewest_23 : decode cX10_fewest 23 = .ok (.istore_n 2, 1) := by decide +kernel
theorem dX10_fewest_24 : decode cX10_fewest 24 = .ok (.bipush (-9), 2) := by decide +kernel
theorem dX10_fewest_26 : decode cX10_fewest 26 = .ok (.istore_n 3, 1) := by decide +kernel
theorem dX10_fewest_27 : decode cX10_fewest 27 = .ok (.iconst 0, 1) := by decide +kernel
theorem dX10_fewest_28 : decode cX10_fewest 28 = .ok (.istore 4, 2) := by decide +kernel
theorem dX10_fewest_30 : decode cX10_fewest 30 = .ok (.iload 4, 2) := by decide +kernel
theorem dX10_fewest_32 : decode cX10_fewest 32 = .ok (.aload_n 0, 1) := by decide +kernel
theorem dX10_fewest_33 : decode cX10_fewest 33 = .ok (.invokevirtual 190, 3) := by decide +kernel
theorem dX10_fewest_36 : decode cX10_fewest 36 = .ok (.if_icmp .gt 55, 3) := by decide +kernel
theorem dX10_fewest_39 : decode cX10_fewest 39 = .ok (.iload 4, 2) := by decide +kernel
theorem dX10_fewest_41 : decode cX10_fewest 41 = .ok (.iload_n 2, 1) := by decide +kernel
theorem dX10_fewest_42 : decode cX10_fewest 42 = .ok (.iconst (-1), 1) := by decide +kernel
theorem dX10_fewest_43 : decode cX10_fewest 43 = .ok (.ixor, 1) := by decide +kernel
theorem dX10_fewest_44 : decode cX10_fewest 44 = .ok (.iand, 1) := by decide +kernel
theorem dX10_fewest_45 : decode cX10_fewest 45 = .ok (.ifCond .ne 40, 3) := by decide +kernel
theorem dX10_fewest_48 : decode cX10_fewest 48 = .ok (.iload_n 3, 1) := by decide +kernel
theorem dX10_fewest_49 : decode cX10_fewest 49 = .ok (.ifCond .lt 18, 3) := by decide +kernel
theorem dX10_fewest_52 : decode cX10_fewest 52 = .ok (.iload 4, 2) := by decide +kernel
theorem dX10_fewest_54 : decode cX10_fewest 54 = .ok (.invokestatic 150, 3) := by decide +kernel
theorem dX10_fewest_57 : decode cX10_fewest 57 = .ok (.iload_n 3, 1) := by decide +kernel
theorem dX10_fewest_58 : decode cX10_fewest 58 = .ok (.invokestatic 150, 3) := by decide +kernel
theorem dX10_fewest_61 : decode cX10_fewest 61 = .ok (.if_icmp .lt 6, 3) := by decide +kernel
theorem dX10_fewest_64 : decode cX10_fewest 64 = .ok (.goto 21, 3) := by decide +kernel
theorem dX10_fewest_67 : decode cX10_fewest 67 = .ok (.aload_n 0, 1) := by decide +kernel
theorem dX10_fewest_68 : decode cX10_fewest 68 = .ok (.iload 4, 2) := by decide +kernel
theorem dX10_fewest_70 : decode cX10_fewest 70 = .ok (.bipush 60, 2) := by decide +kernel
theorem dX10_fewest_72 : decode cX10_fewest 72 = .ok (.invokevirtual 205, 3) := by decide +kernel
theorem dX10_fewest_75 : decode cX10_fewest 75 = .ok (.iload_n 1, 1) := by decide +kernel
theorem dX10_fewest_76 : decode cX10_fewest 76 = .ok (.invokestatic 52, 3) := by decide +kernel
theorem dX10_fewest_79 : decode cX10_fewest 79 = .ok (.ifCond .eq 6, 3) := by decide +kernel
theorem dX10_fewest_82 : decode cX10_fewest 82 = .ok (.iload 4, 2) := by decide +kernel
theorem dX10_fewest_84 : decode cX10_fewest 84 = .ok (.istore_n 3, 1) := by decide +kernel
theorem dX10_fewest_85 : decode cX10_fewest 85 = .ok (.iinc 4 1, 3) := by decide +kernel
theorem dX10_fewest_88 : decode cX10_fewest 88 = .ok (.goto (-58), 3) := by decide +kernel
theorem dX10_fewest_91 : decode cX10_fewest 91 = .ok (.iload_n 3, 1) := by decide +kernel
theorem dX10_fewest_92 : decode cX10_fewest 92 = .ok (.ireturn, 1) := by decide +kernel
theorem dX10_firstNails_0 : decode cX10_firstNails 0 = .ok (.iconst 0, 1) := by decide +kernel
theorem dX10_firstNails_1 : decode cX10_firstNails 1 = .ok (.istore_n 1, 1) := by decide +kernel
theorem dX10_firstNails_2 : decode cX10_firstNails 2 = .ok (.iconst 0, 1) := by decide +kernel
theorem dX10_firstNails_3 : decode cX10_firstNails 3 = .ok (.istore_n 2, 1) := by decide +kernel
theorem dX10_firstNails_4 : decode cX10_firstNails 4 = .ok (.iload_n 2, 1) := by decide +kernel
theorem dX10_firstNails_5 : decode cX10_firstNails 5 = .ok (.aload_n 0, 1) := by decide +kernel
theorem dX10_firstNails_6 : decode cX10_firstNails 6 = .ok (.getfield 46, 3) := by decide +kernel
theorem dX10_firstNails_9 : decode cX10_firstNails 9 = .ok (.if_icmp .ge 36, 3) := by decide +kernel
theorem dX10_firstNails_12 : decode cX10_firstNails 12 = .ok (.iload_n 1, 1) := by decide +kernel
theorem dX10_firstNails_13 : decode cX10_firstNails 13 = .ok (.aload_n 0, 1) := by decide +kernel
theorem dX10_firstNails_14 : decode cX10_firstNails 14 = .ok (.getfield 19, 3) := by decide +kernel
theorem dX10_firstNails_17 : decode cX10_firstNails 17 = .ok (.iload_n 2, 1) := by decide +kernel
theorem dX10_firstNails_18 : decode cX10_firstNails 18 = .ok (.iaload, 1) := by decide +kernel
theorem dX10_firstNails_19 : decode cX10_firstNails 19 = .ok (.ifCond .ne 17, 3) := by decide +kernel
theorem dX10_firstNails_22 : decode cX10_firstNails 22 = .ok (.iload_n 1, 1) := by decide +kernel
theorem dX10_firstNails_23 : decode cX10_firstNails 23 = .ok (.invokestatic 150, 3) := by decide +kernel
theorem dX10_firstNails_26 : decode cX10_firstNails 26 = .ok (.iconst 5, 1) := by decide +kernel
theorem dX10_firstNails_27 : decode cX10_firstNails 27 = .ok (.if_icmp .ge 9, 3) := by decide +kernel
theorem dX10_firstNails_30 : decode cX10_firstNails 30 = .ok (.iconst 1, 1) := by decide +kernel
theorem dX10_firstNails_31 : decode cX10_firstNails 31 = .ok (.iload_n 2, 1) := by decide +kernel
theorem dX10_firstNails_32 : decode cX10_firstNails 32 = .ok (.ishl, 1) := by decide +kernel
theorem dX10_firstNails_33 : decode cX10_firstNails 33 = .ok (.goto 4, 3) := by decide +kernel
theorem dX10_firstNails_36 : decode cX10_firstNails 36 = .ok (.iconst 0, 1) := by decide +kernel
theorem dX10_firstNails_37 : decode cX10_firstNails 37 = .ok (.ior, 1) := by decide +kernel
theorem dX10_firstNails_38 : decode cX10_firstNails 38 = .ok (.istore_n 1, 1) := by decide +kernel
theorem dX10_firstNails_39 : decode cX10_firstNails 39 = .ok (.iinc 2 1, 3) := by decide +kernel
theorem dX10_firstNails_42 : decode cX10_firstNails 42 = .ok (.goto (-38), 3) := by decide +kernel
theorem dX10_firstNails_45 : decode cX10_firstNails 45 = .ok (.iload_n 1, 1) := by decide +kernel
theorem dX10_firstNails_46 : decode cX10_firstNails 46 = .ok (.ireturn, 1) := by decide +kernel
theorem dX10_blamedBy_0 : decode cX10_blamedBy 0 = .ok (.aload_n 0, 1) := by decide +kernel
theorem dX10_blamedBy_1 : decode cX10_blamedBy 1 = .ok (.iconst 0, 1) := by decide +kernel
theorem dX10_blamedBy_2 : decode cX10_blamedBy 2 = .ok (.putfield 94, 3) := by decide +kernel
theorem dX10_blamedBy_5 : decode cX10_blamedBy 5 = .ok (.aload_n 0, 1) := by decide +kernel
theorem dX10_blamedBy_6 : decode cX10_blamedBy 6 = .ok (.iconst 0, 1) := by decide +kernel
theorem dX10_blamedBy_7 : decode cX10_blamedBy 7 = .ok (.putfield 97, 3) := by decide +kernel
theorem dX10_blamedBy_10 : decode cX10_blamedBy 10 = .ok (.iload_n 3, 1) := by decide +kernel
theorem dX10_blamedBy_11 : decode cX10_blamedBy 11 = .ok (.istore 5, 2) := by decide +kernel
theorem dX10_blamedBy_13 : decode cX10_blamedBy 13 = .ok (.iload_n 1, 1) := by decide +kernel
theorem dX10_blamedBy_14 : decode cX10_blamedBy 14 = .ok (.istore 6, 2) := by decide +kernel
theorem dX10_blamedBy_16 : decode cX10_blamedBy 16 = .ok (.iload_n 2, 1) := by decide +kernel
theorem dX10_blamedBy_17 : decode cX10_blamedBy 17 = .ok (.istore 7, 2) := by decide +kernel
theorem dX10_blamedBy_19 : decode cX10_blamedBy 19 = .ok (.iload 5, 2) := by decide +kernel
theorem dX10_blamedBy_21 : decode cX10_blamedBy 21 = .ok (.ifCond .eq 80, 3) := by decide +kernel
theorem dX10_blamedBy_24 : decode cX10_blamedBy 24 = .ok (.iload 7, 2) := by decide +kernel
theorem dX10_blamedBy_26 : decode cX10_blamedBy 26 = .ok (.iload 5, 2) := by decide +kernel
theorem dX10_blamedBy_28 : decode cX10_blamedBy 28 = .ok (.invokestatic 150, 3) := by decide +kernel
theorem dX10_blamedBy_31 : decode cX10_blamedBy 31 = .ok (.idiv, 1) := by decide +kernel
theorem dX10_blamedBy_32 : decode cX10_blamedBy 32 = .ok (.istore 7, 2) := by decide +kernel
theorem dX10_blamedBy_34 : decode cX10_blamedBy 34 = .ok (.iload 5, 2) := by decide +kernel
theorem dX10_blamedBy_36 : decode cX10_blamedBy 36 = .ok (.iload 6, 2) := by decide +kernel
theorem dX10_blamedBy_38 : decode cX10_blamedBy 38 = .ok (.iload 7, 2) := by decide +kernel
theorem dX10_blamedBy_40 : decode cX10_blamedBy 40 = .ok (.idiv, 1) := by decide +kernel
theorem dX10_blamedBy_41 : decode cX10_blamedBy 41 = .ok (.invokestatic 208, 3) := by decide +kernel
theorem dX10_blamedBy_44 : decode cX10_blamedBy 44 = .ok (.istore 8, 2) := by decide +kernel
theorem dX10_blamedBy_46 : decode cX10_blamedBy 46 = .ok (.iload 6, 2) := by decide +kernel
theorem dX10_blamedBy_48 : decode cX10_blamedBy 48 = .ok (.iload 7, 2) := by decide +kernel
theorem dX10_blamedBy_50 : decode cX10_blamedBy 50 = .ok (.irem, 1) := by decide +kernel
theorem dX10_blamedBy_51 : decode cX10_blamedBy 51 = .ok (.istore 6, 2) := by decide +kernel
theorem dX10_blamedBy_53 : decode cX10_blamedBy 53 = .ok (.iload 5, 2) := by decide +kernel
theorem dX10_blamedBy_55 : decode cX10_blamedBy 55 = .ok (.iconst 1, 1) := by decide +kernel
theorem dX10_blamedBy_56 : decode cX10_blamedBy 56 = .ok (.iload 8, 2) := by decide +kernel
theorem dX10_blamedBy_58 : decode cX10_blamedBy 58 = .ok (.ishl, 1) := by decide +kernel
theorem dX10_blamedBy_59 : decode cX10_blamedBy 59 = .ok (.iconst (-1), 1) := by decide +kernel
theorem dX10_blamedBy_60 : decode cX10_blamedBy 60 = .ok (.ixor, 1) := by decide +kernel
theorem dX10_blamedBy_61 : decode cX10_blamedBy 61 = .ok (.iand, 1) := by decide +kernel
theorem dX10_blamedBy_62 : decode cX10_blamedBy 62 = .ok (.istore 5, 2) := by decide +kernel
theorem dX10_blamedBy_64 : decode cX10_blamedBy 64 = .ok (.aload_n 0, 1) := by decide +kernel
theorem dX10_blamedBy_65 : decode cX10_blamedBy 65 = .ok (.dup, 1) := by decide +kernel
theorem dX10_blamedBy_66 : decode cX10_blamedBy 66 = .ok (.getfield 94, 3) := by decide +kernel
theorem dX10_blamedBy_69 : decode cX10_blamedBy 69 = .ok (.iconst 1, 1) := by decide +kernel
theorem dX10_blamedBy_70 : decode cX10_blamedBy 70 = .ok (.iload 8, 2) := by decide +kernel
theorem dX10_blamedBy_72 : decode cX10_blamedBy 72 = .ok (.ishl, 1) := by decide +kernel
theorem dX10_blamedBy_73 : decode cX10_blamedBy 73 = .ok (.ior, 1) := by decide +kernel
theorem dX10_blamedBy_74 : decode cX10_blamedBy 74 = .ok (.putfield 94, 3) := by decide +kernel
theorem dX10_blamedBy_77 : decode cX10_blamedBy 77 = .ok (.aload_n 0, 1) := by decide +kernel
theorem dX10_blamedBy_78 : decode cX10_blamedBy 78 = .ok (.bipush 10, 2) := by decide +kernel
theorem dX10_blamedBy_80 : decode cX10_blamedBy 80 = .ok (.invokevirtual 106, 3) := by decide +kernel
theorem dX10_blamedBy_83 : decode cX10_blamedBy 83 = .ok (.aload_n 0, 1) := by decide +kernel
theorem dX10_blamedBy_84 : decode cX10_blamedBy 84 = .ok (.getfield 94, 3) := by decide +kernel
theorem dX10_blamedBy_87 : decode cX10_blamedBy 87 = .ok (.iload 4, 2) := by decide +kernel
theorem dX10_blamedBy_89 : decode cX10_blamedBy 89 = .ok (.invokestatic 52, 3) := by decide +kernel
theorem dX10_blamedBy_92 : decode cX10_blamedBy 92 = .ok (.ifCond .eq 6, 3) := by decide +kernel
theorem dX10_blamedBy_95 : decode cX10_blamedBy 95 = .ok (.iload 8, 2) := by decide +kernel
theorem dX10_blamedBy_97 : decode cX10_blamedBy 97 = .ok (.ireturn, 1) := by decide +kernel
theorem dX10_blamedBy_98 : decode cX10_blamedBy 98 = .ok (.goto (-79), 3) := by decide +kernel
theorem dX10_blamedBy_101 : decode cX10_blamedBy 101 = .ok (.bipush (-9), 2) := by decide +kernel
theorem dX10_blamedBy_103 : decode cX10_blamedBy 103 = .ok (.ireturn, 1) := by decide +kernel
theorem dX10_divisor_0 : decode cX10_divisor 0 = .ok (.lload_n 0, 1) := by decide +kernel
theorem dX10_divisor_1 : decode cX10_divisor 1 = .ok (.lstore 4, 2) := by decide +kernel
theorem dX10_divisor_3 : decode cX10_divisor 3 = .ok (.lload_n 2, 1) := by decide +kernel
theorem dX10_divisor_4 : decode cX10_divisor 4 = .ok (.lstore 6, 2) := by decide +kernel
theorem dX10_divisor_6 : decode cX10_divisor 6 = .ok (.lload 6, 2) := by decide +kernel
theorem dX10_divisor_8 : decode cX10_divisor 8 = .ok (.lconst 0, 1) := by decide +kernel
theorem dX10_divisor_9 : decode cX10_divisor 9 = .ok (.lcmp, 1) := by decide +kernel
theorem dX10_divisor_10 : decode cX10_divisor 10 = .ok (.ifCond .eq 21, 3) := by decide +kernel
theorem dX10_divisor_13 : decode cX10_divisor 13 = .ok (.lload 4, 2) := by decide +kernel
theorem dX10_divisor_15 : decode cX10_divisor 15 = .ok (.lload 6, 2) := by decide +kernel
theorem dX10_divisor_17 : decode cX10_divisor 17 = .ok (.lrem, 1) := by decide +kernel
theorem dX10_divisor_18 : decode cX10_divisor 18 = .ok (.lstore 8, 2) := by decide +kernel
theorem dX10_divisor_20 : decode cX10_divisor 20 = .ok (.lload 6, 2) := by decide +kernel
theorem dX10_divisor_22 : decode cX10_divisor 22 = .ok (.lstore 4, 2) := by decide +kernel
theorem dX10_divisor_24 : decode cX10_divisor 24 = .ok (.lload 8, 2) := by decide +kernel
theorem dX10_divisor_26 : decode cX10_divisor 26 = .ok (.lstore 6, 2) := by decide +kernel
theorem dX10_divisor_28 : decode cX10_divisor 28 = .ok (.goto (-22), 3) := by decide +kernel
theorem dX10_divisor_31 : decode cX10_divisor 31 = .ok (.lload 4, 2) := by decide +kernel
theorem dX10_divisor_33 : decode cX10_divisor 33 = .ok (.lreturn, 1) := by decide +kernel
theorem dX10_partOf_0 : decode cX10_partOf 0 = .ok (.iload 4, 2) := by decide +kernel
theorem dX10_partOf_2 : decode cX10_partOf 2 = .ok (.ifCond .ne 7, 3) := by decide +kernel
theorem dX10_partOf_5 : decode cX10_partOf 5 = .ok (.lload_n 0, 1) := by decide +kernel
theorem dX10_partOf_6 : decode cX10_partOf 6 = .ok (.goto 4, 3) := by decide +kernel
theorem dX10_partOf_9 : decode cX10_partOf 9 = .ok (.lload_n 2, 1) := by decide +kernel
theorem dX10_partOf_10 : decode cX10_partOf 10 = .ok (.lload_n 0, 1) := by decide +kernel
theorem dX10_partOf_11 : decode cX10_partOf 11 = .ok (.lload_n 2, 1) := by decide +kernel
theorem dX10_partOf_12 : decode cX10_partOf 12 = .ok (.invokestatic 211, 3) := by decide +kernel
theorem dX10_partOf_15 : decode cX10_partOf 15 = .ok (.ldiv, 1) := by decide +kernel
theorem dX10_partOf_16 : decode cX10_partOf 16 = .ok (.lreturn, 1) := by decide +kernel
theorem dX10_blame_0 : decode cX10_blame 0 = .ok (.aload_n 0, 1) := by decide +kernel
theorem dX10_blame_1 : decode cX10_blame 1 = .ok (.iload_n 1, 1) := by decide +kernel
theorem dX10_blame_2 : decode cX10_blame 2 = .ok (.invokevirtual 100, 3) := by decide +kernel
theorem dX10_blame_5 : decode cX10_blame 5 = .ok (.ifCond .eq 11, 3) := by decide +kernel
theorem dX10_blame_8 : decode cX10_blame 8 = .ok (.aload_n 0, 1) := by decide +kernel
theorem dX10_blame_9 : decode cX10_blame 9 = .ok (.iload_n 2, 1) := by decide +kernel
theorem dX10_blame_10 : decode cX10_blame 10 = .ok (.invokevirtual 100, 3) := by decide +kernel
theorem dX10_blame_13 : decode cX10_blame 13 = .ok (.ifCond .ne 7, 3) := by decide +kernel
theorem dX10_blame_16 : decode cX10_blame 16 = .ok (.iconst (-1), 1) := by decide +kernel
theorem dX10_blame_17 : decode cX10_blame 17 = .ok (.goto 34, 3) := by decide +kernel
theorem dX10_blame_20 : decode cX10_blame 20 = .ok (.aload_n 0, 1) := by decide +kernel
theorem dX10_blame_21 : decode cX10_blame 21 = .ok (.invokevirtual 215, 3) := by decide +kernel
theorem dX10_blame_24 : decode cX10_blame 24 = .ok (.iload_n 1, 1) := by decide +kernel
theorem dX10_blame_25 : decode cX10_blame 25 = .ok (.invokestatic 52, 3) := by decide +kernel
theorem dX10_blame_28 : decode cX10_blame 28 = .ok (.ifCond .ne 8, 3) := by decide +kernel
theorem dX10_blame_31 : decode cX10_blame 31 = .ok (.bipush (-3), 2) := by decide +kernel
theorem dX10_blame_33 : decode cX10_blame 33 = .ok (.goto 18, 3) := by decide +kernel
theorem dX10_blame_36 : decode cX10_blame 36 = .ok (.iload_n 3, 1) := by decide +kernel
theorem dX10_blame_37 : decode cX10_blame 37 = .ok (.iconst 0, 1) := by decide +kernel
theorem dX10_blame_38 : decode cX10_blame 38 = .ok (.iconst 1, 1) := by decide +kernel
theorem dX10_blame_39 : decode cX10_blame 39 = .ok (.invokestatic 74, 3) := by decide +kernel
theorem dX10_blame_42 : decode cX10_blame 42 = .ok (.ifCond .ne 8, 3) := by decide +kernel
theorem dX10_blame_45 : decode cX10_blame 45 = .ok (.bipush (-2), 2) := by decide +kernel
theorem dX10_blame_47 : decode cX10_blame 47 = .ok (.goto 4, 3) := by decide +kernel
theorem dX10_blame_50 : decode cX10_blame 50 = .ok (.iconst 0, 1) := by decide +kernel
theorem dX10_blame_51 : decode cX10_blame 51 = .ok (.istore 4, 2) := by decide +kernel
theorem dX10_blame_53 : decode cX10_blame 53 = .ok (.iload 4, 2) := by decide +kernel
theorem dX10_blame_55 : decode cX10_blame 55 = .ok (.ifCond .eq 10, 3) := by decide +kernel
theorem dX10_blame_58 : decode cX10_blame 58 = .ok (.aload_n 0, 1) := by decide +kernel
theorem dX10_blame_59 : decode cX10_blame 59 = .ok (.iload 4, 2) := by decide +kernel
theorem dX10_blame_61 : decode cX10_blame 61 = .ok (.invokevirtual 218, 3) := by decide +kernel
theorem dX10_blame_64 : decode cX10_blame 64 = .ok (.lreturn, 1) := by decide +kernel
theorem dX10_blame_65 : decode cX10_blame 65 = .ok (.aload_n 0, 1) := by decide +kernel
theorem dX10_blame_66 : decode cX10_blame 66 = .ok (.invokevirtual 215, 3) := by decide +kernel
theorem dX10_blame_69 : decode cX10_blame 69 = .ok (.istore 5, 2) := by decide +kernel
theorem dX10_blame_71 : decode cX10_blame 71 = .ok (.iconst 1, 1) := by decide +kernel
theorem dX10_blame_72 : decode cX10_blame 72 = .ok (.istore 6, 2) := by decide +kernel
theorem dX10_blame_74 : decode cX10_blame 74 = .ok (.iconst 2, 1) := by decide +kernel
theorem dX10_blame_75 : decode cX10_blame 75 = .ok (.istore 7, 2) := by decide +kernel
theorem dX10_blame_77 : decode cX10_blame 77 = .ok (.iload 7, 2) := by decide +kernel
theorem dX10_blame_79 : decode cX10_blame 79 = .ok (.iload 5, 2) := by decide +kernel
theorem dX10_blame_81 : decode cX10_blame 81 = .ok (.invokestatic 150, 3) := by decide +kernel
theorem dX10_blame_84 : decode cX10_blame 84 = .ok (.if_icmp .gt 16, 3) := by decide +kernel
theorem dX10_blame_87 : decode cX10_blame 87 = .ok (.iload 6, 2) := by decide +kernel
theorem dX10_blame_89 : decode cX10_blame 89 = .ok (.iload 7, 2) := by decide +kernel
theorem dX10_blame_91 : decode cX10_blame 91 = .ok (.imul, 1) := by decide +kernel
theorem dX10_blame_92 : decode cX10_blame 92 = .ok (.istore 6, 2) := by decide +kernel
theorem dX10_blame_94 : decode cX10_blame 94 = .ok (.iinc 7 1, 3) := by decide +kernel
theorem dX10_blame_97 : decode cX10_blame 97 = .ok (.goto (-20), 3) := by decide +kernel
theorem dX10_blame_100 : decode cX10_blame 100 = .ok (.lconst 0, 1) := by decide +kernel
theorem dX10_blame_101 : decode cX10_blame 101 = .ok (.lstore 7, 2) := by decide +kernel
theorem dX10_blame_103 : decode cX10_blame 103 = .ok (.iconst 0, 1) := by decide +kernel
theorem dX10_blame_104 : decode cX10_blame 104 = .ok (.istore 9, 2) := by decide +kernel
theorem dX10_blame_106 : decode cX10_blame 106 = .ok (.iload 9, 2) := by decide +kernel
theorem dX10_blame_108 : decode cX10_blame 108 = .ok (.iload 6, 2) := by decide +kernel
theorem dX10_blame_110 : decode cX10_blame 110 = .ok (.if_icmp .ge 42, 3) := by decide +kernel
theorem dX10_blame_113 : decode cX10_blame 113 = .ok (.aload_n 0, 1) := by decide +kernel
theorem dX10_blame_114 : decode cX10_blame 114 = .ok (.invokevirtual 159, 3) := by decide +kernel
theorem dX10_blame_117 : decode cX10_blame 117 = .ok (.lload 7, 2) := by decide +kernel
theorem dX10_blame_119 : decode cX10_blame 119 = .ok (.aload_n 0, 1) := by decide +kernel
theorem dX10_blame_120 : decode cX10_blame 120 = .ok (.iload 9, 2) := by decide +kernel
theorem dX10_blame_122 : decode cX10_blame 122 = .ok (.iload 6, 2) := by decide +kernel
theorem dX10_blame_124 : decode cX10_blame 124 = .ok (.iload 5, 2) := by decide +kernel
theorem dX10_blame_126 : decode cX10_blame 126 = .ok (.iload_n 2, 1) := by decide +kernel
theorem dX10_blame_127 : decode cX10_blame 127 = .ok (.invokevirtual 222, 3) := by decide +kernel
theorem dX10_blame_130 : decode cX10_blame 130 = .ok (.iload_n 1, 1) := by decide +kernel
theorem dX10_blame_131 : decode cX10_blame 131 = .ok (.if_icmp .ne 7, 3) := by decide +kernel
theorem dX10_blame_134 : decode cX10_blame 134 = .ok (.lconst 1, 1) := by decide +kernel
theorem dX10_blame_135 : decode cX10_blame 135 = .ok (.goto 4, 3) := by decide +kernel
theorem dX10_blame_138 : decode cX10_blame 138 = .ok (.lconst 0, 1) := by decide +kernel
theorem dX10_blame_139 : decode cX10_blame 139 = .ok (.ladd, 1) := by decide +kernel
theorem dX10_blame_140 : decode cX10_blame 140 = .ok (.lstore 7, 2) := by decide +kernel
theorem dX10_blame_142 : decode cX10_blame 142 = .ok (.aload_n 0, 1) := by decide +kernel
theorem dX10_blame_143 : decode cX10_blame 143 = .ok (.invokevirtual 162, 3) := by decide +kernel
theorem dX10_blame_146 : decode cX10_blame 146 = .ok (.iinc 9 1, 3) := by decide +kernel
theorem dX10_blame_149 : decode cX10_blame 149 = .ok (.goto (-43), 3) := by decide +kernel
theorem dX10_blame_152 : decode cX10_blame 152 = .ok (.lload 7, 2) := by decide +kernel
theorem dX10_blame_154 : decode cX10_blame 154 = .ok (.iload 6, 2) := by decide +kernel
theorem dX10_blame_156 : decode cX10_blame 156 = .ok (.i2l, 1) := by decide +kernel
theorem dX10_blame_157 : decode cX10_blame 157 = .ok (.iload_n 3, 1) := by decide +kernel
theorem dX10_blame_158 : decode cX10_blame 158 = .ok (.invokestatic 226, 3) := by decide +kernel
theorem dX10_blame_161 : decode cX10_blame 161 = .ok (.lreturn, 1) := by decide +kernel
theorem dX10_saved_0 : decode cX10_saved 0 = .ok (.aload_n 0, 1) := by decide +kernel
theorem dX10_saved_1 : decode cX10_saved 1 = .ok (.iload_n 1, 1) := by decide +kernel
theorem dX10_saved_2 : decode cX10_saved 2 = .ok (.invokevirtual 100, 3) := by decide +kernel
theorem dX10_saved_5 : decode cX10_saved 5 = .ok (.ifCond .ne 7, 3) := by decide +kernel
theorem dX10_saved_8 : decode cX10_saved 8 = .ok (.iconst (-1), 1) := by decide +kernel
theorem dX10_saved_9 : decode cX10_saved 9 = .ok (.goto 10, 3) := by decide +kernel
theorem dX10_saved_12 : decode cX10_saved 12 = .ok (.iload_n 2, 1) := by decide +kernel
theorem dX10_saved_13 : decode cX10_saved 13 = .ok (.iconst 0, 1) := by decide +kernel
theorem dX10_saved_14 : decode cX10_saved 14 = .ok (.bipush 30, 2) := by decide +kernel
theorem dX10_saved_16 : decode cX10_saved 16 = .ok (.invokestatic 56, 3) := by decide +kernel
theorem dX10_saved_19 : decode cX10_saved 19 = .ok (.istore_n 3, 1) := by decide +kernel
theorem dX10_saved_20 : decode cX10_saved 20 = .ok (.iload_n 3, 1) := by decide +kernel
theorem dX10_saved_21 : decode cX10_saved 21 = .ok (.ifCond .eq 9, 3) := by decide +kernel
theorem dX10_saved_24 : decode cX10_saved 24 = .ok (.aload_n 0, 1) := by decide +kernel
theorem dX10_saved_25 : decode cX10_saved 25 = .ok (.iload_n 3, 1) := by decide +kernel
theorem dX10_saved_26 : decode cX10_saved 26 = .ok (.invokevirtual 63, 3) := by decide +kernel
theorem dX10_saved_29 : decode cX10_saved 29 = .ok (.ireturn, 1) := by decide +kernel
theorem dX10_saved_30 : decode cX10_saved 30 = .ok (.aload_n 0, 1) := by decide +kernel
theorem dX10_saved_31 : decode cX10_saved 31 = .ok (.iload_n 2, 1) := by decide +kernel
theorem dX10_saved_32 : decode cX10_saved 32 = .ok (.invokevirtual 165, 3) := by decide +kernel
theorem dX10_saved_35 : decode cX10_saved 35 = .ok (.invokestatic 150, 3) := by decide +kernel
theorem dX10_saved_38 : decode cX10_saved 38 = .ok (.istore 4, 2) := by decide +kernel
theorem dX10_saved_40 : decode cX10_saved 40 = .ok (.aload_n 0, 1) := by decide +kernel
theorem dX10_saved_41 : decode cX10_saved 41 = .ok (.getfield 94, 3) := by decide +kernel
theorem dX10_saved_44 : decode cX10_saved 44 = .ok (.istore 5, 2) := by decide +kernel
theorem dX10_saved_46 : decode cX10_saved 46 = .ok (.aload_n 0, 1) := by decide +kernel
theorem dX10_saved_47 : decode cX10_saved 47 = .ok (.dup, 1) := by decide +kernel
theorem dX10_saved_48 : decode cX10_saved 48 = .ok (.getfield 94, 3) := by decide +kernel
theorem dX10_saved_51 : decode cX10_saved 51 = .ok (.iconst 1, 1) := by decide +kernel
theorem dX10_saved_52 : decode cX10_saved 52 = .ok (.iload_n 1, 1) := by decide +kernel
theorem dX10_saved_53 : decode cX10_saved 53 = .ok (.ishl, 1) := by decide +kernel
theorem dX10_saved_54 : decode cX10_saved 54 = .ok (.iconst (-1), 1) := by decide +kernel
theorem dX10_saved_55 : decode cX10_saved 55 = .ok (.ixor, 1) := by decide +kernel
theorem dX10_saved_56 : decode cX10_saved 56 = .ok (.iand, 1) := by decide +kernel
theorem dX10_saved_57 : decode cX10_saved 57 = .ok (.putfield 94, 3) := by decide +kernel
theorem dX10_saved_60 : decode cX10_saved 60 = .ok (.iload 4, 2) := by decide +kernel
theorem dX10_saved_62 : decode cX10_saved 62 = .ok (.aload_n 0, 1) := by decide +kernel
theorem dX10_saved_63 : decode cX10_saved 63 = .ok (.iload_n 2, 1) := by decide +kernel
theorem dX10_saved_64 : decode cX10_saved 64 = .ok (.invokevirtual 165, 3) := by decide +kernel
theorem dX10_saved_67 : decode cX10_saved 67 = .ok (.invokestatic 150, 3) := by decide +kernel
theorem dX10_saved_70 : decode cX10_saved 70 = .ok (.isub, 1) := by decide +kernel
theorem dX10_saved_71 : decode cX10_saved 71 = .ok (.istore 6, 2) := by decide +kernel
theorem dX10_saved_73 : decode cX10_saved 73 = .ok (.aload_n 0, 1) := by decide +kernel
theorem dX10_saved_74 : decode cX10_saved 74 = .ok (.iload 5, 2) := by decide +kernel
theorem dX10_saved_76 : decode cX10_saved 76 = .ok (.putfield 94, 3) := by decide +kernel
theorem dX10_saved_79 : decode cX10_saved 79 = .ok (.iload 6, 2) := by decide +kernel
theorem dX10_saved_81 : decode cX10_saved 81 = .ok (.ireturn, 1) := by decide +kernel
theorem dX10_hooks_0 : decode cX10_hooks 0 = .ok (.iload_n 1, 1) := by decide +kernel
theorem dX10_hooks_1 : decode cX10_hooks 1 = .ok (.iconst 0, 1) := by decide +kernel
theorem dX10_hooks_2 : decode cX10_hooks 2 = .ok (.iconst 1, 1) := by decide +kernel
theorem dX10_hooks_3 : decode cX10_hooks 3 = .ok (.invokestatic 74, 3) := by decide +kernel
theorem dX10_hooks_6 : decode cX10_hooks 6 = .ok (.ifCond .ne 10, 3) := by decide +kernel
theorem dX10_hooks_9 : decode cX10_hooks 9 = .ok (.aload_n 0, 1) := by decide +kernel
theorem dX10_hooks_10 : decode cX10_hooks 10 = .ok (.bipush (-2), 2) := by decide +kernel
theorem dX10_hooks_12 : decode cX10_hooks 12 = .ok (.invokevirtual 63, 3) := by decide +kernel
theorem dX10_hooks_15 : decode cX10_hooks 15 = .ok (.ireturn, 1) := by decide +kernel
theorem dX10_hooks_16 : decode cX10_hooks 16 = .ok (.iload_n 1, 1) := by decide +kernel
theorem dX10_hooks_17 : decode cX10_hooks 17 = .ok (.ifCond .ne 18, 3) := by decide +kernel
theorem dX10_hooks_20 : decode cX10_hooks 20 = .ok (.aload_n 0, 1) := by decide +kernel
theorem dX10_hooks_21 : decode cX10_hooks 21 = .ok (.iconst 1, 1) := by decide +kernel
theorem dX10_hooks_22 : decode cX10_hooks 22 = .ok (.invokevirtual 165, 3) := by decide +kernel
theorem dX10_hooks_25 : decode cX10_hooks 25 = .ok (.aload_n 0, 1) := by decide +kernel
theorem dX10_hooks_26 : decode cX10_hooks 26 = .ok (.getfield 94, 3) := by decide +kernel
theorem dX10_hooks_29 : decode cX10_hooks 29 = .ok (.iconst (-1), 1) := by decide +kernel
theorem dX10_hooks_30 : decode cX10_hooks 30 = .ok (.ixor, 1) := by decide +kernel
theorem dX10_hooks_31 : decode cX10_hooks 31 = .ok (.iand, 1) := by decide +kernel
theorem dX10_hooks_32 : decode cX10_hooks 32 = .ok (.goto 16, 3) := by decide +kernel
theorem dX10_hooks_35 : decode cX10_hooks 35 = .ok (.aload_n 0, 1) := by decide +kernel
theorem dX10_hooks_36 : decode cX10_hooks 36 = .ok (.invokevirtual 190, 3) := by decide +kernel
theorem dX10_hooks_39 : decode cX10_hooks 39 = .ok (.aload_n 0, 1) := by decide +kernel
theorem dX10_hooks_40 : decode cX10_hooks 40 = .ok (.bipush 60, 2) := by decide +kernel
theorem dX10_hooks_42 : decode cX10_hooks 42 = .ok (.invokevirtual 165, 3) := by decide +kernel
theorem dX10_hooks_45 : decode cX10_hooks 45 = .ok (.iconst (-1), 1) := by decide +kernel
theorem dX10_hooks_46 : decode cX10_hooks 46 = .ok (.ixor, 1) := by decide +kernel
theorem dX10_hooks_47 : decode cX10_hooks 47 = .ok (.iand, 1) := by decide +kernel
theorem dX10_hooks_48 : decode cX10_hooks 48 = .ok (.ireturn, 1) := by decide +kernel
theorem dX10_key_0 : decode cX10_key 0 = .ok (.bipush (-9), 2) := by decide +kernel
theorem dX10_key_2 : decode cX10_key 2 = .ok (.istore_n 1, 1) := by decide +kernel
theorem dX10_key_3 : decode cX10_key 3 = .ok (.iconst 0, 1) := by decide +kernel
theorem dX10_key_4 : decode cX10_key 4 = .ok (.istore_n 2, 1) := by decide +kernel
theorem dX10_key_5 : decode cX10_key 5 = .ok (.iload_n 2, 1) := by decide +kernel
theorem dX10_key_6 : decode cX10_key 6 = .ok (.aload_n 0, 1) := by decide +kernel
theorem dX10_key_7 : decode cX10_key 7 = .ok (.getfield 46, 3) := by decide +kernel
theorem dX10_key_10 : decode cX10_key 10 = .ok (.if_icmp .ge 38, 3) := by decide +kernel
theorem dX10_key_13 : decode cX10_key 13 = .ok (.iload_n 1, 1) := by decide +kernel
theorem dX10_key_14 : decode cX10_key 14 = .ok (.ifCond .lt 22, 3) := by decide +kernel
theorem dX10_key_17 : decode cX10_key 17 = .ok (.aload_n 0, 1) := by decide +kernel
theorem dX10_key_18 : decode cX10_key 18 = .ok (.iload_n 2, 1) := by decide +kernel
theorem dX10_key_19 : decode cX10_key 19 = .ok (.invokevirtual 187, 3) := by decide +kernel
theorem dX10_key_22 : decode cX10_key 22 = .ok (.invokestatic 150, 3) := by decide +kernel
theorem dX10_key_25 : decode cX10_key 25 = .ok (.aload_n 0, 1) := by decide +kernel
theorem dX10_key_26 : decode cX10_key 26 = .ok (.iload_n 1, 1) := by decide +kernel
theorem dX10_key_27 : decode cX10_key 27 = .ok (.invokevirtual 187, 3) := by decide +kernel
theorem dX10_key_30 : decode cX10_key 30 = .ok (.invokestatic 150, 3) := by decide +kernel
theorem dX10_key_33 : decode cX10_key 33 = .ok (.if_icmp .le 7, 3) := by decide +kernel
theorem dX10_key_36 : decode cX10_key 36 = .ok (.iload_n 2, 1) := by decide +kernel
theorem dX10_key_37 : decode cX10_key 37 = .ok (.goto 4, 3) := by decide +kernel
theorem dX10_key_40 : decode cX10_key 40 = .ok (.iload_n 1, 1) := by decide +kernel
theorem dX10_key_41 : decode cX10_key 41 = .ok (.istore_n 1, 1) := by decide +kernel
theorem dX10_key_42 : decode cX10_key 42 = .ok (.iinc 2 1, 3) := by decide +kernel
theorem dX10_key_45 : decode cX10_key 45 = .ok (.goto (-40), 3) := by decide +kernel
theorem dX10_key_48 : decode cX10_key 48 = .ok (.iload_n 1, 1) := by decide +kernel
theorem dX10_key_49 : decode cX10_key 49 = .ok (.ireturn, 1) := by decide +kernel
theorem dX10_twins_0 : decode cX10_twins 0 = .ok (.iload_n 1, 1) := by decide +kernel
theorem dX10_twins_1 : decode cX10_twins 1 = .ok (.iconst 0, 1) := by decide +kernel
theorem dX10_twins_2 : decode cX10_twins 2 = .ok (.iconst 1, 1) := by decide +kernel
theorem dX10_twins_3 : decode cX10_twins 3 = .ok (.invokestatic 74, 3) := by decide +kernel
theorem dX10_twins_6 : decode cX10_twins 6 = .ok (.ifCond .ne 10, 3) := by decide +kernel
theorem dX10_twins_9 : decode cX10_twins 9 = .ok (.aload_n 0, 1) := by decide +kernel
theorem dX10_twins_10 : decode cX10_twins 10 = .ok (.bipush (-2), 2) := by decide +kernel
theorem dX10_twins_12 : decode cX10_twins 12 = .ok (.invokevirtual 63, 3) := by decide +kernel
theorem dX10_twins_15 : decode cX10_twins 15 = .ok (.ireturn, 1) := by decide +kernel
theorem dX10_twins_16 : decode cX10_twins 16 = .ok (.iconst 0, 1) := by decide +kernel
theorem dX10_twins_17 : decode cX10_twins 17 = .ok (.istore_n 2, 1) := by decide +kernel
theorem dX10_twins_18 : decode cX10_twins 18 = .ok (.bipush (-9), 2) := by decide +kernel
theorem dX10_twins_20 : decode cX10_twins 20 = .ok (.istore_n 3, 1) := by decide +kernel
theorem dX10_twins_21 : decode cX10_twins 21 = .ok (.iconst 0, 1) := by decide +kernel
theorem dX10_twins_22 : decode cX10_twins 22 = .ok (.istore 4, 2) := by decide +kernel
theorem dX10_twins_24 : decode cX10_twins 24 = .ok (.iload 4, 2) := by decide +kernel
theorem dX10_twins_26 : decode cX10_twins 26 = .ok (.aload_n 0, 1) := by decide +kernel
theorem dX10_twins_27 : decode cX10_twins 27 = .ok (.getfield 46, 3) := by decide +kernel
theorem dX10_twins_30 : decode cX10_twins 30 = .ok (.if_icmp .ge 87, 3) := by decide +kernel
theorem dX10_twins_33 : decode cX10_twins 33 = .ok (.iload 4, 2) := by decide +kernel
theorem dX10_twins_35 : decode cX10_twins 35 = .ok (.iconst 1, 1) := by decide +kernel
theorem dX10_twins_36 : decode cX10_twins 36 = .ok (.iadd, 1) := by decide +kernel
theorem dX10_twins_37 : decode cX10_twins 37 = .ok (.istore 5, 2) := by decide +kernel
theorem dX10_twins_39 : decode cX10_twins 39 = .ok (.iload 5, 2) := by decide +kernel
theorem dX10_twins_41 : decode cX10_twins 41 = .ok (.aload_n 0, 1) := by decide +kernel
theorem dX10_twins_42 : decode cX10_twins 42 = .ok (.getfield 46, 3) := by decide +kernel
theorem dX10_twins_45 : decode cX10_twins 45 = .ok (.if_icmp .ge 66, 3) := by decide +kernel
theorem dX10_twins_48 : decode cX10_twins 48 = .ok (.aload_n 0, 1) := by decide +kernel
theorem dX10_twins_49 : decode cX10_twins 49 = .ok (.getfield 19, 3) := by decide +kernel
theorem dX10_twins_52 : decode cX10_twins 52 = .ok (.iload 4, 2) := by decide +kernel
theorem dX10_twins_54 : decode cX10_twins 54 = .ok (.iaload, 1) := by decide +kernel
theorem dX10_twins_55 : decode cX10_twins 55 = .ok (.aload_n 0, 1) := by decide +kernel
theorem dX10_twins_56 : decode cX10_twins 56 = .ok (.getfield 19, 3) := by decide +kernel
theorem dX10_twins_59 : decode cX10_twins 59 = .ok (.iload 5, 2) := by decide +kernel
theorem dX10_twins_61 : decode cX10_twins 61 = .ok (.iaload, 1) := by decide +kernel
theorem dX10_twins_62 : decode cX10_twins 62 = .ok (.if_icmp .ne 43, 3) := by decide +kernel
theorem dX10_twins_65 : decode cX10_twins 65 = .ok (.aload_n 0, 1) := by decide +kernel
theorem dX10_twins_66 : decode cX10_twins 66 = .ok (.getfield 13, 3) := by decide +kernel
theorem dX10_twins_69 : decode cX10_twins 69 = .ok (.iload 4, 2) := by decide +kernel
theorem dX10_twins_71 : decode cX10_twins 71 = .ok (.iaload, 1) := by decide +kernel
theorem dX10_twins_72 : decode cX10_twins 72 = .ok (.aload_n 0, 1) := by decide +kernel
theorem dX10_twins_73 : decode cX10_twins 73 = .ok (.getfield 13, 3) := by decide +kernel
theorem dX10_twins_76 : decode cX10_twins 76 = .ok (.iload 5, 2) := by decide +kernel
theorem dX10_twins_78 : decode cX10_twins 78 = .ok (.iaload, 1) := by decide +kernel
theorem dX10_twins_79 : decode cX10_twins 79 = .ok (.if_icmp .eq 6, 3) := by decide +kernel
theorem dX10_twins_82 : decode cX10_twins 82 = .ok (.goto 23, 3) := by decide +kernel
theorem dX10_twins_85 : decode cX10_twins 85 = .ok (.iinc 2 1, 3) := by decide +kernel
theorem dX10_twins_88 : decode cX10_twins 88 = .ok (.iload_n 3, 1) := by decide +kernel
theorem dX10_twins_89 : decode cX10_twins 89 = .ok (.ifCond .ge 14, 3) := by decide +kernel
theorem dX10_twins_92 : decode cX10_twins 92 = .ok (.bipush 10, 2) := by decide +kernel
theorem dX10_twins_94 : decode cX10_twins 94 = .ok (.iload 4, 2) := by decide +kernel
theorem dX10_twins_96 : decode cX10_twins 96 = .ok (.imul, 1) := by decide +kernel
theorem dX10_twins_97 : decode cX10_twins 97 = .ok (.iload 5, 2) := by decide +kernel
theorem dX10_twins_99 : decode cX10_twins 99 = .ok (.iadd, 1) := by decide +kernel
theorem dX10_twins_100 : decode cX10_twins 100 = .ok (.goto 4, 3) := by decide +kernel
theorem dX10_twins_103 : decode cX10_twins 103 = .ok (.iload_n 3, 1) := by decide +kernel
theorem dX10_twins_104 : decode cX10_twins 104 = .ok (.istore_n 3, 1) := by decide +kernel
theorem dX10_twins_105 : decode cX10_twins 105 = .ok (.iinc 5 1, 3) := by decide +kernel
theorem dX10_twins_108 : decode cX10_twins 108 = .ok (.goto (-69), 3) := by decide +kernel
theorem dX10_twins_111 : decode cX10_twins 111 = .ok (.iinc 4 1, 3) := by decide +kernel
theorem dX10_twins_114 : decode cX10_twins 114 = .ok (.goto (-90), 3) := by decide +kernel
theorem dX10_twins_117 : decode cX10_twins 117 = .ok (.iload_n 1, 1) := by decide +kernel
theorem dX10_twins_118 : decode cX10_twins 118 = .ok (.ifCond .ne 7, 3) := by decide +kernel
theorem dX10_twins_121 : decode cX10_twins 121 = .ok (.iload_n 2, 1) := by decide +kernel
theorem dX10_twins_122 : decode cX10_twins 122 = .ok (.goto 4, 3) := by decide +kernel
theorem dX10_twins_125 : decode cX10_twins 125 = .ok (.iload_n 3, 1) := by decide +kernel
theorem dX10_twins_126 : decode cX10_twins 126 = .ok (.ireturn, 1) := by decide +kernel
theorem dX10_two_0 : decode cX10_two 0 = .ok (.aload_n 0, 1) := by decide +kernel
theorem dX10_two_1 : decode cX10_two 1 = .ok (.iload_n 1, 1) := by decide +kernel
theorem dX10_two_2 : decode cX10_two 2 = .ok (.invokevirtual 100, 3) := by decide +kernel
theorem dX10_two_5 : decode cX10_two 5 = .ok (.ifCond .eq 16, 3) := by decide +kernel
theorem dX10_two_8 : decode cX10_two 8 = .ok (.aload_n 0, 1) := by decide +kernel
theorem dX10_two_9 : decode cX10_two 9 = .ok (.iload_n 2, 1) := by decide +kernel
theorem dX10_two_10 : decode cX10_two 10 = .ok (.invokevirtual 100, 3) := by decide +kernel
theorem dX10_two_13 : decode cX10_two 13 = .ok (.ifCond .eq 8, 3) := by decide +kernel
theorem dX10_two_16 : decode cX10_two 16 = .ok (.iload_n 1, 1) := by decide +kernel
theorem dX10_two_17 : decode cX10_two 17 = .ok (.iload_n 2, 1) := by decide +kernel
theorem dX10_two_18 : decode cX10_two 18 = .ok (.if_icmp .ne 7, 3) := by decide +kernel
theorem dX10_two_21 : decode cX10_two 21 = .ok (.iconst (-1), 1) := by decide +kernel
theorem dX10_two_22 : decode cX10_two 22 = .ok (.goto 10, 3) := by decide +kernel
theorem dX10_two_25 : decode cX10_two 25 = .ok (.iload_n 3, 1) := by decide +kernel
theorem dX10_two_26 : decode cX10_two 26 = .ok (.iconst 0, 1) := by decide +kernel
theorem dX10_two_27 : decode cX10_two 27 = .ok (.bipush 30, 2) := by decide +kernel
theorem dX10_two_29 : decode cX10_two 29 = .ok (.invokestatic 56, 3) := by decide +kernel
theorem dX10_two_32 : decode cX10_two 32 = .ok (.istore 4, 2) := by decide +kernel
theorem dX10_two_34 : decode cX10_two 34 = .ok (.aload_n 0, 1) := by decide +kernel
theorem dX10_two_35 : decode cX10_two 35 = .ok (.invokevirtual 199, 3) := by decide +kernel
theorem dX10_two_38 : decode cX10_two 38 = .ok (.aload_n 0, 1) := by decide +kernel
theorem dX10_two_39 : decode cX10_two 39 = .ok (.invokevirtual 193, 3) := by decide +kernel
theorem dX10_two_42 : decode cX10_two 42 = .ok (.iand, 1) := by decide +kernel
theorem dX10_two_43 : decode cX10_two 43 = .ok (.istore 5, 2) := by decide +kernel
theorem dX10_two_45 : decode cX10_two 45 = .ok (.iload 4, 2) := by decide +kernel
theorem dX10_two_47 : decode cX10_two 47 = .ok (.ifCond .ne 25, 3) := by decide +kernel
theorem dX10_two_50 : decode cX10_two 50 = .ok (.iload 5, 2) := by decide +kernel
theorem dX10_two_52 : decode cX10_two 52 = .ok (.iload_n 1, 1) := by decide +kernel
theorem dX10_two_53 : decode cX10_two 53 = .ok (.invokestatic 52, 3) := by decide +kernel
theorem dX10_two_56 : decode cX10_two 56 = .ok (.ifCond .eq 12, 3) := by decide +kernel
theorem dX10_two_59 : decode cX10_two 59 = .ok (.iload 5, 2) := by decide +kernel
theorem dX10_two_61 : decode cX10_two 61 = .ok (.iload_n 2, 1) := by decide +kernel
theorem dX10_two_62 : decode cX10_two 62 = .ok (.invokestatic 52, 3) := by decide +kernel
theorem dX10_two_65 : decode cX10_two 65 = .ok (.ifCond .ne 7, 3) := by decide +kernel
theorem dX10_two_68 : decode cX10_two 68 = .ok (.bipush (-3), 2) := by decide +kernel
theorem dX10_two_70 : decode cX10_two 70 = .ok (.istore 4, 2) := by decide +kernel
theorem dX10_two_72 : decode cX10_two 72 = .ok (.iload 4, 2) := by decide +kernel
theorem dX10_two_74 : decode cX10_two 74 = .ok (.ifCond .eq 10, 3) := by decide +kernel
theorem dX10_two_77 : decode cX10_two 77 = .ok (.aload_n 0, 1) := by decide +kernel
theorem dX10_two_78 : decode cX10_two 78 = .ok (.iload 4, 2) := by decide +kernel
theorem dX10_two_80 : decode cX10_two 80 = .ok (.invokevirtual 63, 3) := by decide +kernel
theorem dX10_two_83 : decode cX10_two 83 = .ok (.ireturn, 1) := by decide +kernel
theorem dX10_two_84 : decode cX10_two 84 = .ok (.iconst 0, 1) := by decide +kernel
theorem dX10_two_85 : decode cX10_two 85 = .ok (.istore 6, 2) := by decide +kernel
theorem dX10_two_87 : decode cX10_two 87 = .ok (.iload 6, 2) := by decide +kernel
theorem dX10_two_89 : decode cX10_two 89 = .ok (.iconst 4, 1) := by decide +kernel
theorem dX10_two_90 : decode cX10_two 90 = .ok (.if_icmp .ge 37, 3) := by decide +kernel
theorem dX10_two_93 : decode cX10_two 93 = .ok (.aload_n 0, 1) := by decide +kernel
theorem dX10_two_94 : decode cX10_two 94 = .ok (.getfield 40, 3) := by decide +kernel
theorem dX10_two_97 : decode cX10_two 97 = .ok (.iload 6, 2) := by decide +kernel
theorem dX10_two_99 : decode cX10_two 99 = .ok (.aload_n 0, 1) := by decide +kernel
theorem dX10_two_100 : decode cX10_two 100 = .ok (.iload 6, 2) := by decide +kernel
theorem dX10_two_102 : decode cX10_two 102 = .ok (.iconst 2, 1) := by decide +kernel
theorem dX10_two_103 : decode cX10_two 103 = .ok (.idiv, 1) := by decide +kernel
theorem dX10_two_104 : decode cX10_two 104 = .ok (.iload_n 1, 1) := by decide +kernel
theorem dX10_two_105 : decode cX10_two 105 = .ok (.ishl, 1) := by decide +kernel
theorem dX10_two_106 : decode cX10_two 106 = .ok (.iload 6, 2) := by decide +kernel
theorem dX10_two_108 : decode cX10_two 108 = .ok (.iconst 2, 1) := by decide +kernel
theorem dX10_two_109 : decode cX10_two 109 = .ok (.irem, 1) := by decide +kernel
theorem dX10_two_110 : decode cX10_two 110 = .ok (.iload_n 2, 1) := by decide +kernel
theorem dX10_two_111 : decode cX10_two 111 = .ok (.ishl, 1) := by decide +kernel
theorem dX10_two_112 : decode cX10_two 112 = .ok (.ior, 1) := by decide +kernel
theorem dX10_two_113 : decode cX10_two 113 = .ok (.iload_n 3, 1) := by decide +kernel
theorem dX10_two_114 : decode cX10_two 114 = .ok (.invokevirtual 205, 3) := by decide +kernel
theorem dX10_two_117 : decode cX10_two 117 = .ok (.invokestatic 150, 3) := by decide +kernel
theorem dX10_two_120 : decode cX10_two 120 = .ok (.iastore, 1) := by decide +kernel
theorem dX10_two_121 : decode cX10_two 121 = .ok (.iinc 6 1, 3) := by decide +kernel
theorem dX10_two_124 : decode cX10_two 124 = .ok (.goto (-37), 3) := by decide +kernel
theorem dX10_two_127 : decode cX10_two 127 = .ok (.iconst 0, 1) := by decide +kernel
theorem dX10_two_128 : decode cX10_two 128 = .ok (.istore 6, 2) := by decide +kernel
theorem dX10_two_130 : decode cX10_two 130 = .ok (.iload 6, 2) := by decide +kernel
theorem dX10_two_132 : decode cX10_two 132 = .ok (.iconst 4, 1) := by decide +kernel
theorem dX10_two_133 : decode cX10_two 133 = .ok (.if_icmp .ge 116, 3) := by decide +kernel
theorem dX10_two_136 : decode cX10_two 136 = .ok (.aload_n 0, 1) := by decide +kernel
theorem dX10_two_137 : decode cX10_two 137 = .ok (.getfield 40, 3) := by decide +kernel
theorem dX10_two_140 : decode cX10_two 140 = .ok (.iload 6, 2) := by decide +kernel
theorem dX10_two_142 : decode cX10_two 142 = .ok (.iaload, 1) := by decide +kernel
theorem dX10_two_143 : decode cX10_two 143 = .ok (.iconst 2, 1) := by decide +kernel
theorem dX10_two_144 : decode cX10_two 144 = .ok (.iload 6, 2) := by decide +kernel
theorem dX10_two_146 : decode cX10_two 146 = .ok (.iconst 2, 1) := by decide +kernel
theorem dX10_two_147 : decode cX10_two 147 = .ok (.idiv, 1) := by decide +kernel
theorem dX10_two_148 : decode cX10_two 148 = .ok (.imul, 1) := by decide +kernel
theorem dX10_two_149 : decode cX10_two 149 = .ok (.isub, 1) := by decide +kernel
theorem dX10_two_150 : decode cX10_two 150 = .ok (.aload_n 0, 1) := by decide +kernel
theorem dX10_two_151 : decode cX10_two 151 = .ok (.getfield 40, 3) := by decide +kernel
theorem dX10_two_154 : decode cX10_two 154 = .ok (.iload 6, 2) := by decide +kernel
theorem dX10_two_156 : decode cX10_two 156 = .ok (.iconst 2, 1) := by decide +kernel
theorem dX10_two_157 : decode cX10_two 157 = .ok (.ixor, 1) := by decide +kernel
theorem dX10_two_158 : decode cX10_two 158 = .ok (.iaload, 1) := by decide +kernel
theorem dX10_two_159 : decode cX10_two 159 = .ok (.iconst 2, 1) := by decide +kernel
theorem dX10_two_160 : decode cX10_two 160 = .ok (.iconst 1, 1) := by decide +kernel
theorem dX10_two_161 : decode cX10_two 161 = .ok (.iload 6, 2) := by decide +kernel
theorem dX10_two_163 : decode cX10_two 163 = .ok (.iconst 2, 1) := by decide +kernel
theorem dX10_two_164 : decode cX10_two 164 = .ok (.idiv, 1) := by decide +kernel
theorem dX10_two_165 : decode cX10_two 165 = .ok (.isub, 1) := by decide +kernel
theorem dX10_two_166 : decode cX10_two 166 = .ok (.imul, 1) := by decide +kernel
theorem dX10_two_167 : decode cX10_two 167 = .ok (.isub, 1) := by decide +kernel
theorem dX10_two_168 : decode cX10_two 168 = .ok (.if_icmp .lt 7, 3) := by decide +kernel
theorem dX10_two_171 : decode cX10_two 171 = .ok (.iconst 1, 1) := by decide +kernel
theorem dX10_two_172 : decode cX10_two 172 = .ok (.goto 4, 3) := by decide +kernel
theorem dX10_two_175 : decode cX10_two 175 = .ok (.iconst 0, 1) := by decide +kernel
theorem dX10_two_176 : decode cX10_two 176 = .ok (.istore 7, 2) := by decide +kernel
theorem dX10_two_178 : decode cX10_two 178 = .ok (.aload_n 0, 1) := by decide +kernel
theorem dX10_two_179 : decode cX10_two 179 = .ok (.getfield 40, 3) := by decide +kernel
theorem dX10_two_182 : decode cX10_two 182 = .ok (.iload 6, 2) := by decide +kernel
theorem dX10_two_184 : decode cX10_two 184 = .ok (.iaload, 1) := by decide +kernel
theorem dX10_two_185 : decode cX10_two 185 = .ok (.iconst 2, 1) := by decide +kernel
theorem dX10_two_186 : decode cX10_two 186 = .ok (.iload 6, 2) := by decide +kernel
theorem dX10_two_188 : decode cX10_two 188 = .ok (.iconst 2, 1) := by decide +kernel
theorem dX10_two_189 : decode cX10_two 189 = .ok (.irem, 1) := by decide +kernel
theorem dX10_two_190 : decode cX10_two 190 = .ok (.imul, 1) := by decide +kernel
theorem dX10_two_191 : decode cX10_two 191 = .ok (.iadd, 1) := by decide +kernel
theorem dX10_two_192 : decode cX10_two 192 = .ok (.aload_n 0, 1) := by decide +kernel
theorem dX10_two_193 : decode cX10_two 193 = .ok (.getfield 40, 3) := by decide +kernel
theorem dX10_two_196 : decode cX10_two 196 = .ok (.iload 6, 2) := by decide +kernel
theorem dX10_two_198 : decode cX10_two 198 = .ok (.iconst 1, 1) := by decide +kernel
theorem dX10_two_199 : decode cX10_two 199 = .ok (.ixor, 1) := by decide +kernel
theorem dX10_two_200 : decode cX10_two 200 = .ok (.iaload, 1) := by decide +kernel
theorem dX10_two_201 : decode cX10_two 201 = .ok (.iconst 2, 1) := by decide +kernel
theorem dX10_two_202 : decode cX10_two 202 = .ok (.iconst 1, 1) := by decide +kernel
theorem dX10_two_203 : decode cX10_two 203 = .ok (.iload 6, 2) := by decide +kernel
theorem dX10_two_205 : decode cX10_two 205 = .ok (.iconst 2, 1) := by decide +kernel
theorem dX10_two_206 : decode cX10_two 206 = .ok (.irem, 1) := by decide +kernel
theorem dX10_two_207 : decode cX10_two 207 = .ok (.isub, 1) := by decide +kernel
theorem dX10_two_208 : decode cX10_two 208 = .ok (.imul, 1) := by decide +kernel
theorem dX10_two_209 : decode cX10_two 209 = .ok (.iadd, 1) := by decide +kernel
theorem dX10_two_210 : decode cX10_two 210 = .ok (.if_icmp .gt 7, 3) := by decide +kernel
theorem dX10_two_213 : decode cX10_two 213 = .ok (.iconst 1, 1) := by decide +kernel
theorem dX10_two_214 : decode cX10_two 214 = .ok (.goto 4, 3) := by decide +kernel
theorem dX10_two_217 : decode cX10_two 217 = .ok (.iconst 0, 1) := by decide +kernel
theorem dX10_two_218 : decode cX10_two 218 = .ok (.istore 8, 2) := by decide +kernel
theorem dX10_two_220 : decode cX10_two 220 = .ok (.iload 7, 2) := by decide +kernel
theorem dX10_two_222 : decode cX10_two 222 = .ok (.ifCond .eq 21, 3) := by decide +kernel
theorem dX10_two_225 : decode cX10_two 225 = .ok (.iload 8, 2) := by decide +kernel
theorem dX10_two_227 : decode cX10_two 227 = .ok (.ifCond .eq 16, 3) := by decide +kernel
theorem dX10_two_230 : decode cX10_two 230 = .ok (.bipush 10, 2) := by decide +kernel
theorem dX10_two_232 : decode cX10_two 232 = .ok (.iload 6, 2) := by decide +kernel
theorem dX10_two_234 : decode cX10_two 234 = .ok (.iconst 2, 1) := by decide +kernel
theorem dX10_two_235 : decode cX10_two 235 = .ok (.idiv, 1) := by decide +kernel
theorem dX10_two_236 : decode cX10_two 236 = .ok (.imul, 1) := by decide +kernel
theorem dX10_two_237 : decode cX10_two 237 = .ok (.iload 6, 2) := by decide +kernel
theorem dX10_two_239 : decode cX10_two 239 = .ok (.iconst 2, 1) := by decide +kernel
theorem dX10_two_240 : decode cX10_two 240 = .ok (.irem, 1) := by decide +kernel
theorem dX10_two_241 : decode cX10_two 241 = .ok (.iadd, 1) := by decide +kernel
theorem dX10_two_242 : decode cX10_two 242 = .ok (.ireturn, 1) := by decide +kernel
theorem dX10_two_243 : decode cX10_two 243 = .ok (.iinc 6 1, 3) := by decide +kernel
theorem dX10_two_246 : decode cX10_two 246 = .ok (.goto (-116), 3) := by decide +kernel
theorem dX10_two_249 : decode cX10_two 249 = .ok (.bipush (-9), 2) := by decide +kernel
