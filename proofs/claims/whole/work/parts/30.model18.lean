theorem dX7_extreme_0 : decode cX7_extreme 0 = .ok (.iload_n 1, 1) := by decide +kernel
theorem dX7_extreme_1 : decode cX7_extreme 1 = .ok (.invokestatic 103, 3) := by decide +kernel
theorem dX7_extreme_4 : decode cX7_extreme 4 = .ok (.ifCond .ne 5, 3) := by decide +kernel
theorem dX7_extreme_7 : decode cX7_extreme 7 = .ok (.iconst (-1), 1) := by decide +kernel
theorem dX7_extreme_8 : decode cX7_extreme 8 = .ok (.ireturn, 1) := by decide +kernel
theorem dX7_extreme_9 : decode cX7_extreme 9 = .ok (.iload_n 2, 1) := by decide +kernel
theorem dX7_extreme_10 : decode cX7_extreme 10 = .ok (.iconst 0, 1) := by decide +kernel
theorem dX7_extreme_11 : decode cX7_extreme 11 = .ok (.iconst 1, 1) := by decide +kernel
theorem dX7_extreme_12 : decode cX7_extreme 12 = .ok (.invokestatic 99, 3) := by decide +kernel
theorem dX7_extreme_15 : decode cX7_extreme 15 = .ok (.ifCond .eq 12, 3) := by decide +kernel
theorem dX7_extreme_18 : decode cX7_extreme 18 = .ok (.iload_n 3, 1) := by decide +kernel
theorem dX7_extreme_19 : decode cX7_extreme 19 = .ok (.iconst 0, 1) := by decide +kernel
theorem dX7_extreme_20 : decode cX7_extreme 20 = .ok (.iconst 1, 1) := by decide +kernel
theorem dX7_extreme_21 : decode cX7_extreme 21 = .ok (.invokestatic 99, 3) := by decide +kernel
theorem dX7_extreme_24 : decode cX7_extreme 24 = .ok (.ifCond .ne 6, 3) := by decide +kernel
theorem dX7_extreme_27 : decode cX7_extreme 27 = .ok (.bipush (-2), 2) := by decide +kernel
theorem dX7_extreme_29 : decode cX7_extreme 29 = .ok (.ireturn, 1) := by decide +kernel
theorem dX7_extreme_30 : decode cX7_extreme 30 = .ok (.aload_n 0, 1) := by decide +kernel
theorem dX7_extreme_31 : decode cX7_extreme 31 = .ok (.invokevirtual 175, 3) := by decide +kernel
theorem dX7_extreme_34 : decode cX7_extreme 34 = .ok (.istore 4, 2) := by decide +kernel
theorem dX7_extreme_36 : decode cX7_extreme 36 = .ok (.iload 4, 2) := by decide +kernel
theorem dX7_extreme_38 : decode cX7_extreme 38 = .ok (.ifCond .ge 6, 3) := by decide +kernel
theorem dX7_extreme_41 : decode cX7_extreme 41 = .ok (.iload 4, 2) := by decide +kernel
theorem dX7_extreme_43 : decode cX7_extreme 43 = .ok (.ireturn, 1) := by decide +kernel
theorem dX7_extreme_44 : decode cX7_extreme 44 = .ok (.aload_n 0, 1) := by decide +kernel
theorem dX7_extreme_45 : decode cX7_extreme 45 = .ok (.aload_n 0, 1) := by decide +kernel
theorem dX7_extreme_46 : decode cX7_extreme 46 = .ok (.getfield 73, 3) := by decide +kernel
theorem dX7_extreme_49 : decode cX7_extreme 49 = .ok (.invokevirtual 157, 3) := by decide +kernel
theorem dX7_extreme_52 : decode cX7_extreme 52 = .ok (.lstore 5, 2) := by decide +kernel
theorem dX7_extreme_54 : decode cX7_extreme 54 = .ok (.bipush (-6), 2) := by decide +kernel
theorem dX7_extreme_56 : decode cX7_extreme 56 = .ok (.istore 7, 2) := by decide +kernel
theorem dX7_extreme_58 : decode cX7_extreme 58 = .ok (.iconst 0, 1) := by decide +kernel
theorem dX7_extreme_59 : decode cX7_extreme 59 = .ok (.istore 8, 2) := by decide +kernel
theorem dX7_extreme_61 : decode cX7_extreme 61 = .ok (.iload 8, 2) := by decide +kernel
theorem dX7_extreme_63 : decode cX7_extreme 63 = .ok (.aload_n 0, 1) := by decide +kernel
theorem dX7_extreme_64 : decode cX7_extreme 64 = .ok (.invokevirtual 95, 3) := by decide +kernel
theorem dX7_extreme_67 : decode cX7_extreme 67 = .ok (.if_icmp .ge 86, 3) := by decide +kernel
theorem dX7_extreme_70 : decode cX7_extreme 70 = .ok (.lload 5, 2) := by decide +kernel
theorem dX7_extreme_72 : decode cX7_extreme 72 = .ok (.iload 8, 2) := by decide +kernel
theorem dX7_extreme_74 : decode cX7_extreme 74 = .ok (.invokestatic 143, 3) := by decide +kernel
theorem dX7_extreme_77 : decode cX7_extreme 77 = .ok (.ifCond .eq 70, 3) := by decide +kernel
theorem dX7_extreme_80 : decode cX7_extreme 80 = .ok (.iload 7, 2) := by decide +kernel
theorem dX7_extreme_82 : decode cX7_extreme 82 = .ok (.ifCond .lt 44, 3) := by decide +kernel
theorem dX7_extreme_85 : decode cX7_extreme 85 = .ok (.iload_n 2, 1) := by decide +kernel
theorem dX7_extreme_86 : decode cX7_extreme 86 = .ok (.ifCond .ne 23, 3) := by decide +kernel
theorem dX7_extreme_89 : decode cX7_extreme 89 = .ok (.aload_n 0, 1) := by decide +kernel
theorem dX7_extreme_90 : decode cX7_extreme 90 = .ok (.iload_n 1, 1) := by decide +kernel
theorem dX7_extreme_91 : decode cX7_extreme 91 = .ok (.iload 8, 2) := by decide +kernel
theorem dX7_extreme_93 : decode cX7_extreme 93 = .ok (.invokevirtual 117, 3) := by decide +kernel
theorem dX7_extreme_96 : decode cX7_extreme 96 = .ok (.aload_n 0, 1) := by decide +kernel
theorem dX7_extreme_97 : decode cX7_extreme 97 = .ok (.iload_n 1, 1) := by decide +kernel
theorem dX7_extreme_98 : decode cX7_extreme 98 = .ok (.iload 7, 2) := by decide +kernel
theorem dX7_extreme_100 : decode cX7_extreme 100 = .ok (.invokevirtual 117, 3) := by decide +kernel
theorem dX7_extreme_103 : decode cX7_extreme 103 = .ok (.if_icmp .ge 27, 3) := by decide +kernel
theorem dX7_extreme_106 : decode cX7_extreme 106 = .ok (.goto 20, 3) := by decide +kernel
theorem dX7_extreme_109 : decode cX7_extreme 109 = .ok (.aload_n 0, 1) := by decide +kernel
theorem dX7_extreme_110 : decode cX7_extreme 110 = .ok (.iload_n 1, 1) := by decide +kernel
theorem dX7_extreme_111 : decode cX7_extreme 111 = .ok (.iload 8, 2) := by decide +kernel
theorem dX7_extreme_113 : decode cX7_extreme 113 = .ok (.invokevirtual 117, 3) := by decide +kernel
theorem dX7_extreme_116 : decode cX7_extreme 116 = .ok (.aload_n 0, 1) := by decide +kernel
theorem dX7_extreme_117 : decode cX7_extreme 117 = .ok (.iload_n 1, 1) := by decide +kernel
theorem dX7_extreme_118 : decode cX7_extreme 118 = .ok (.iload 7, 2) := by decide +kernel
theorem dX7_extreme_120 : decode cX7_extreme 120 = .ok (.invokevirtual 117, 3) := by decide +kernel
theorem dX7_extreme_123 : decode cX7_extreme 123 = .ok (.if_icmp .le 7, 3) := by decide +kernel
theorem dX7_extreme_126 : decode cX7_extreme 126 = .ok (.iconst 1, 1) := by decide +kernel
theorem dX7_extreme_127 : decode cX7_extreme 127 = .ok (.goto 4, 3) := by decide +kernel
theorem dX7_extreme_130 : decode cX7_extreme 130 = .ok (.iconst 0, 1) := by decide +kernel
theorem dX7_extreme_131 : decode cX7_extreme 131 = .ok (.istore 9, 2) := by decide +kernel
theorem dX7_extreme_133 : decode cX7_extreme 133 = .ok (.iload 9, 2) := by decide +kernel
theorem dX7_extreme_135 : decode cX7_extreme 135 = .ok (.ifCond .eq 8, 3) := by decide +kernel
theorem dX7_extreme_138 : decode cX7_extreme 138 = .ok (.iload 8, 2) := by decide +kernel
theorem dX7_extreme_140 : decode cX7_extreme 140 = .ok (.goto 5, 3) := by decide +kernel
theorem dX7_extreme_143 : decode cX7_extreme 143 = .ok (.iload 7, 2) := by decide +kernel
theorem dX7_extreme_145 : decode cX7_extreme 145 = .ok (.istore 7, 2) := by decide +kernel
theorem dX7_extreme_147 : decode cX7_extreme 147 = .ok (.iinc 8 1, 3) := by decide +kernel
theorem dX7_extreme_150 : decode cX7_extreme 150 = .ok (.goto (-89), 3) := by decide +kernel
theorem dX7_extreme_153 : decode cX7_extreme 153 = .ok (.iload_n 3, 1) := by decide +kernel
theorem dX7_extreme_154 : decode cX7_extreme 154 = .ok (.ifCond .ne 17, 3) := by decide +kernel
theorem dX7_extreme_157 : decode cX7_extreme 157 = .ok (.aload_n 0, 1) := by decide +kernel
theorem dX7_extreme_158 : decode cX7_extreme 158 = .ok (.iload_n 1, 1) := by decide +kernel
theorem dX7_extreme_159 : decode cX7_extreme 159 = .ok (.iload 7, 2) := by decide +kernel
theorem dX7_extreme_161 : decode cX7_extreme 161 = .ok (.invokevirtual 117, 3) := by decide +kernel
theorem dX7_extreme_164 : decode cX7_extreme 164 = .ok (.sipush 1000, 3) := by decide +kernel
theorem dX7_extreme_167 : decode cX7_extreme 167 = .ok (.iadd, 1) := by decide +kernel
theorem dX7_extreme_168 : decode cX7_extreme 168 = .ok (.goto 5, 3) := by decide +kernel
theorem dX7_extreme_171 : decode cX7_extreme 171 = .ok (.iload 7, 2) := by decide +kernel
theorem dX7_extreme_173 : decode cX7_extreme 173 = .ok (.ireturn, 1) := by decide +kernel
theorem dX7_least_0 : decode cX7_least 0 = .ok (.lload_n 0, 1) := by decide +kernel
theorem dX7_least_1 : decode cX7_least 1 = .ok (.lstore 5, 2) := by decide +kernel
theorem dX7_least_3 : decode cX7_least 3 = .ok (.lload_n 2, 1) := by decide +kernel
theorem dX7_least_4 : decode cX7_least 4 = .ok (.lstore 7, 2) := by decide +kernel
theorem dX7_least_6 : decode cX7_least 6 = .ok (.lload 7, 2) := by decide +kernel
theorem dX7_least_8 : decode cX7_least 8 = .ok (.lconst 0, 1) := by decide +kernel
theorem dX7_least_9 : decode cX7_least 9 = .ok (.lcmp, 1) := by decide +kernel
theorem dX7_least_10 : decode cX7_least 10 = .ok (.ifCond .eq 21, 3) := by decide +kernel
theorem dX7_least_13 : decode cX7_least 13 = .ok (.lload 5, 2) := by decide +kernel
theorem dX7_least_15 : decode cX7_least 15 = .ok (.lload 7, 2) := by decide +kernel
theorem dX7_least_17 : decode cX7_least 17 = .ok (.lrem, 1) := by decide +kernel
theorem dX7_least_18 : decode cX7_least 18 = .ok (.lstore 9, 2) := by decide +kernel
theorem dX7_least_20 : decode cX7_least 20 = .ok (.lload 7, 2) := by decide +kernel
theorem dX7_least_22 : decode cX7_least 22 = .ok (.lstore 5, 2) := by decide +kernel
theorem dX7_least_24 : decode cX7_least 24 = .ok (.lload 9, 2) := by decide +kernel
theorem dX7_least_26 : decode cX7_least 26 = .ok (.lstore 7, 2) := by decide +kernel
theorem dX7_least_28 : decode cX7_least 28 = .ok (.goto (-22), 3) := by decide +kernel
theorem dX7_least_31 : decode cX7_least 31 = .ok (.iload 4, 2) := by decide +kernel
theorem dX7_least_33 : decode cX7_least 33 = .ok (.ifCond .ne 10, 3) := by decide +kernel
theorem dX7_least_36 : decode cX7_least 36 = .ok (.lload_n 0, 1) := by decide +kernel
theorem dX7_least_37 : decode cX7_least 37 = .ok (.lload 5, 2) := by decide +kernel
theorem dX7_least_39 : decode cX7_least 39 = .ok (.ldiv, 1) := by decide +kernel
theorem dX7_least_40 : decode cX7_least 40 = .ok (.goto 7, 3) := by decide +kernel
theorem dX7_least_43 : decode cX7_least 43 = .ok (.lload_n 2, 1) := by decide +kernel
theorem dX7_least_44 : decode cX7_least 44 = .ok (.lload 5, 2) := by decide +kernel
theorem dX7_least_46 : decode cX7_least 46 = .ok (.ldiv, 1) := by decide +kernel
theorem dX7_least_47 : decode cX7_least 47 = .ok (.lreturn, 1) := by decide +kernel
theorem dX7_drunk_0 : decode cX7_drunk 0 = .ok (.aload_n 0, 1) := by decide +kernel
theorem dX7_drunk_1 : decode cX7_drunk 1 = .ok (.iload_n 1, 1) := by decide +kernel
theorem dX7_drunk_2 : decode cX7_drunk 2 = .ok (.invokevirtual 107, 3) := by decide +kernel
theorem dX7_drunk_5 : decode cX7_drunk 5 = .ok (.ifCond .ne 7, 3) := by decide +kernel
theorem dX7_drunk_8 : decode cX7_drunk 8 = .ok (.ldc2_w 233, 3) := by decide +kernel
theorem dX7_drunk_11 : decode cX7_drunk 11 = .ok (.lreturn, 1) := by decide +kernel
theorem dX7_drunk_12 : decode cX7_drunk 12 = .ok (.iload_n 2, 1) := by decide +kernel
theorem dX7_drunk_13 : decode cX7_drunk 13 = .ok (.iconst 0, 1) := by decide +kernel
theorem dX7_drunk_14 : decode cX7_drunk 14 = .ok (.iconst 1, 1) := by decide +kernel
theorem dX7_drunk_15 : decode cX7_drunk 15 = .ok (.invokestatic 99, 3) := by decide +kernel
theorem dX7_drunk_18 : decode cX7_drunk 18 = .ok (.ifCond .ne 7, 3) := by decide +kernel
theorem dX7_drunk_21 : decode cX7_drunk 21 = .ok (.ldc2_w 235, 3) := by decide +kernel
theorem dX7_drunk_24 : decode cX7_drunk 24 = .ok (.lreturn, 1) := by decide +kernel
theorem dX7_drunk_25 : decode cX7_drunk 25 = .ok (.aload_n 0, 1) := by decide +kernel
theorem dX7_drunk_26 : decode cX7_drunk 26 = .ok (.invokevirtual 175, 3) := by decide +kernel
theorem dX7_drunk_29 : decode cX7_drunk 29 = .ok (.istore_n 3, 1) := by decide +kernel
theorem dX7_drunk_30 : decode cX7_drunk 30 = .ok (.iload_n 3, 1) := by decide +kernel
theorem dX7_drunk_31 : decode cX7_drunk 31 = .ok (.ifCond .ge 10, 3) := by decide +kernel
theorem dX7_drunk_34 : decode cX7_drunk 34 = .ok (.ldc2_w 237, 3) := by decide +kernel
theorem dX7_drunk_37 : decode cX7_drunk 37 = .ok (.iload_n 3, 1) := by decide +kernel
theorem dX7_drunk_38 : decode cX7_drunk 38 = .ok (.i2l, 1) := by decide +kernel
theorem dX7_drunk_39 : decode cX7_drunk 39 = .ok (.ladd, 1) := by decide +kernel
theorem dX7_drunk_40 : decode cX7_drunk 40 = .ok (.lreturn, 1) := by decide +kernel
theorem dX7_drunk_41 : decode cX7_drunk 41 = .ok (.aload_n 0, 1) := by decide +kernel
theorem dX7_drunk_42 : decode cX7_drunk 42 = .ok (.aload_n 0, 1) := by decide +kernel
theorem dX7_drunk_43 : decode cX7_drunk 43 = .ok (.getfield 73, 3) := by decide +kernel
theorem dX7_drunk_46 : decode cX7_drunk 46 = .ok (.invokevirtual 157, 3) := by decide +kernel
theorem dX7_drunk_49 : decode cX7_drunk 49 = .ok (.lstore 4, 2) := by decide +kernel
theorem dX7_drunk_51 : decode cX7_drunk 51 = .ok (.lconst 0, 1) := by decide +kernel
theorem dX7_drunk_52 : decode cX7_drunk 52 = .ok (.lstore 6, 2) := by decide +kernel
theorem dX7_drunk_54 : decode cX7_drunk 54 = .ok (.iconst 0, 1) := by decide +kernel
theorem dX7_drunk_55 : decode cX7_drunk 55 = .ok (.istore 8, 2) := by decide +kernel
theorem dX7_drunk_57 : decode cX7_drunk 57 = .ok (.iload 8, 2) := by decide +kernel
theorem dX7_drunk_59 : decode cX7_drunk 59 = .ok (.aload_n 0, 1) := by decide +kernel
theorem dX7_drunk_60 : decode cX7_drunk 60 = .ok (.invokevirtual 95, 3) := by decide +kernel
theorem dX7_drunk_63 : decode cX7_drunk 63 = .ok (.if_icmp .ge 38, 3) := by decide +kernel
theorem dX7_drunk_66 : decode cX7_drunk 66 = .ok (.lload 6, 2) := by decide +kernel
theorem dX7_drunk_68 : decode cX7_drunk 68 = .ok (.lload 4, 2) := by decide +kernel
theorem dX7_drunk_70 : decode cX7_drunk 70 = .ok (.iload 8, 2) := by decide +kernel
theorem dX7_drunk_72 : decode cX7_drunk 72 = .ok (.invokestatic 143, 3) := by decide +kernel
theorem dX7_drunk_75 : decode cX7_drunk 75 = .ok (.ifCond .eq 16, 3) := by decide +kernel
theorem dX7_drunk_78 : decode cX7_drunk 78 = .ok (.iload 8, 2) := by decide +kernel
theorem dX7_drunk_80 : decode cX7_drunk 80 = .ok (.iload_n 1, 1) := by decide +kernel
theorem dX7_drunk_81 : decode cX7_drunk 81 = .ok (.invokestatic 113, 3) := by decide +kernel
theorem dX7_drunk_84 : decode cX7_drunk 84 = .ok (.ifCond .eq 7, 3) := by decide +kernel
theorem dX7_drunk_87 : decode cX7_drunk 87 = .ok (.lconst 1, 1) := by decide +kernel
theorem dX7_drunk_88 : decode cX7_drunk 88 = .ok (.goto 4, 3) := by decide +kernel
theorem dX7_drunk_91 : decode cX7_drunk 91 = .ok (.lconst 0, 1) := by decide +kernel
theorem dX7_drunk_92 : decode cX7_drunk 92 = .ok (.ladd, 1) := by decide +kernel
theorem dX7_drunk_93 : decode cX7_drunk 93 = .ok (.lstore 6, 2) := by decide +kernel
theorem dX7_drunk_95 : decode cX7_drunk 95 = .ok (.iinc 8 1, 3) := by decide +kernel
theorem dX7_drunk_98 : decode cX7_drunk 98 = .ok (.goto (-41), 3) := by decide +kernel
theorem dX7_drunk_101 : decode cX7_drunk 101 = .ok (.lload 6, 2) := by decide +kernel
theorem dX7_drunk_103 : decode cX7_drunk 103 = .ok (.aload_n 0, 1) := by decide +kernel
theorem dX7_drunk_104 : decode cX7_drunk 104 = .ok (.lload 4, 2) := by decide +kernel
theorem dX7_drunk_106 : decode cX7_drunk 106 = .ok (.invokevirtual 161, 3) := by decide +kernel
theorem dX7_drunk_109 : decode cX7_drunk 109 = .ok (.i2l, 1) := by decide +kernel
theorem dX7_drunk_110 : decode cX7_drunk 110 = .ok (.iload_n 2, 1) := by decide +kernel
theorem dX7_drunk_111 : decode cX7_drunk 111 = .ok (.invokestatic 239, 3) := by decide +kernel
theorem dX7_drunk_114 : decode cX7_drunk 114 = .ok (.lreturn, 1) := by decide +kernel
theorem dX7_mean_0 : decode cX7_mean 0 = .ok (.iload_n 1, 1) := by decide +kernel
theorem dX7_mean_1 : decode cX7_mean 1 = .ok (.invokestatic 103, 3) := by decide +kernel
theorem dX7_mean_4 : decode cX7_mean 4 = .ok (.ifCond .ne 7, 3) := by decide +kernel
theorem dX7_mean_7 : decode cX7_mean 7 = .ok (.ldc2_w 233, 3) := by decide +kernel
theorem dX7_mean_10 : decode cX7_mean 10 = .ok (.lreturn, 1) := by decide +kernel
theorem dX7_mean_11 : decode cX7_mean 11 = .ok (.iload_n 2, 1) := by decide +kernel
theorem dX7_mean_12 : decode cX7_mean 12 = .ok (.iconst 0, 1) := by decide +kernel
theorem dX7_mean_13 : decode cX7_mean 13 = .ok (.iconst 1, 1) := by decide +kernel
theorem dX7_mean_14 : decode cX7_mean 14 = .ok (.invokestatic 99, 3) := by decide +kernel
theorem dX7_mean_17 : decode cX7_mean 17 = .ok (.ifCond .ne 7, 3) := by decide +kernel
theorem dX7_mean_20 : decode cX7_mean 20 = .ok (.ldc2_w 235, 3) := by decide +kernel
theorem dX7_mean_23 : decode cX7_mean 23 = .ok (.lreturn, 1) := by decide +kernel
theorem dX7_mean_24 : decode cX7_mean 24 = .ok (.aload_n 0, 1) := by decide +kernel
theorem dX7_mean_25 : decode cX7_mean 25 = .ok (.invokevirtual 175, 3) := by decide +kernel
theorem dX7_mean_28 : decode cX7_mean 28 = .ok (.istore_n 3, 1) := by decide +kernel
theorem dX7_mean_29 : decode cX7_mean 29 = .ok (.iload_n 3, 1) := by decide +kernel
theorem dX7_mean_30 : decode cX7_mean 30 = .ok (.ifCond .ge 10, 3) := by decide +kernel
theorem dX7_mean_33 : decode cX7_mean 33 = .ok (.ldc2_w 237, 3) := by decide +kernel
theorem dX7_mean_36 : decode cX7_mean 36 = .ok (.iload_n 3, 1) := by decide +kernel
theorem dX7_mean_37 : decode cX7_mean 37 = .ok (.i2l, 1) := by decide +kernel
theorem dX7_mean_38 : decode cX7_mean 38 = .ok (.ladd, 1) := by decide +kernel
theorem dX7_mean_39 : decode cX7_mean 39 = .ok (.lreturn, 1) := by decide +kernel
theorem dX7_mean_40 : decode cX7_mean 40 = .ok (.aload_n 0, 1) := by decide +kernel
theorem dX7_mean_41 : decode cX7_mean 41 = .ok (.aload_n 0, 1) := by decide +kernel
theorem dX7_mean_42 : decode cX7_mean 42 = .ok (.getfield 73, 3) := by decide +kernel
theorem dX7_mean_45 : decode cX7_mean 45 = .ok (.invokevirtual 157, 3) := by decide +kernel
theorem dX7_mean_48 : decode cX7_mean 48 = .ok (.lstore 4, 2) := by decide +kernel
theorem dX7_mean_50 : decode cX7_mean 50 = .ok (.lconst 0, 1) := by decide +kernel
theorem dX7_mean_51 : decode cX7_mean 51 = .ok (.lstore 6, 2) := by decide +kernel
theorem dX7_mean_53 : decode cX7_mean 53 = .ok (.iconst 0, 1) := by decide +kernel
theorem dX7_mean_54 : decode cX7_mean 54 = .ok (.istore 8, 2) := by decide +kernel
theorem dX7_mean_56 : decode cX7_mean 56 = .ok (.iload 8, 2) := by decide +kernel
theorem dX7_mean_58 : decode cX7_mean 58 = .ok (.aload_n 0, 1) := by decide +kernel
theorem dX7_mean_59 : decode cX7_mean 59 = .ok (.invokevirtual 95, 3) := by decide +kernel
theorem dX7_mean_62 : decode cX7_mean 62 = .ok (.if_icmp .ge 40, 3) := by decide +kernel
theorem dX7_mean_65 : decode cX7_mean 65 = .ok (.lload 6, 2) := by decide +kernel
theorem dX7_mean_67 : decode cX7_mean 67 = .ok (.lload 4, 2) := by decide +kernel
theorem dX7_mean_69 : decode cX7_mean 69 = .ok (.iload 8, 2) := by decide +kernel
theorem dX7_mean_71 : decode cX7_mean 71 = .ok (.invokestatic 143, 3) := by decide +kernel
theorem dX7_mean_74 : decode cX7_mean 74 = .ok (.ifCond .eq 18, 3) := by decide +kernel
theorem dX7_mean_77 : decode cX7_mean 77 = .ok (.aload_n 0, 1) := by decide +kernel
theorem dX7_mean_78 : decode cX7_mean 78 = .ok (.iload_n 1, 1) := by decide +kernel
theorem dX7_mean_79 : decode cX7_mean 79 = .ok (.iload 8, 2) := by decide +kernel
theorem dX7_mean_81 : decode cX7_mean 81 = .ok (.invokevirtual 117, 3) := by decide +kernel
theorem dX7_mean_84 : decode cX7_mean 84 = .ok (.sipush 1000, 3) := by decide +kernel
theorem dX7_mean_87 : decode cX7_mean 87 = .ok (.iadd, 1) := by decide +kernel
theorem dX7_mean_88 : decode cX7_mean 88 = .ok (.i2l, 1) := by decide +kernel
theorem dX7_mean_89 : decode cX7_mean 89 = .ok (.goto 4, 3) := by decide +kernel
theorem dX7_mean_92 : decode cX7_mean 92 = .ok (.lconst 0, 1) := by decide +kernel
theorem dX7_mean_93 : decode cX7_mean 93 = .ok (.ladd, 1) := by decide +kernel
theorem dX7_mean_94 : decode cX7_mean 94 = .ok (.lstore 6, 2) := by decide +kernel
theorem dX7_mean_96 : decode cX7_mean 96 = .ok (.iinc 8 1, 3) := by decide +kernel
theorem dX7_mean_99 : decode cX7_mean 99 = .ok (.goto (-43), 3) := by decide +kernel
theorem dX7_mean_102 : decode cX7_mean 102 = .ok (.lload 6, 2) := by decide +kernel
theorem dX7_mean_104 : decode cX7_mean 104 = .ok (.aload_n 0, 1) := by decide +kernel
theorem dX7_mean_105 : decode cX7_mean 105 = .ok (.lload 4, 2) := by decide +kernel
theorem dX7_mean_107 : decode cX7_mean 107 = .ok (.invokevirtual 161, 3) := by decide +kernel
theorem dX7_mean_110 : decode cX7_mean 110 = .ok (.i2l, 1) := by decide +kernel
theorem dX7_mean_111 : decode cX7_mean 111 = .ok (.iload_n 2, 1) := by decide +kernel
theorem dX7_mean_112 : decode cX7_mean 112 = .ok (.invokestatic 239, 3) := by decide +kernel
theorem dX7_mean_115 : decode cX7_mean 115 = .ok (.lreturn, 1) := by decide +kernel
def exB (which a b : Int32) : Bool := if which = 0 then decide (a < b) else decide (b < a)
def exF (I : Nat → Nat → Int32) (t c : Nat) (which : Int32) (Z : Int64) : Nat → Option Nat → Option Nat := fun w o => if lbit Z w then (match o with
  | none => some w
  | some v => if exB which (wtF I t c w) (wtF I t c v) then some w else some v) else o
theorem exF_lt {I : Nat → Nat → Int32} {t c : Nat} {which : Int32} {Z : Int64} : ∀ k v, upto (exF I t c which Z) k none = some v → v < k
  | 0, v, h => by cases h
  | k + 1, v, h => by
    have ih := exF_lt (I := I) (t := t) (c := c) (which := which) (Z := Z) k
    have h : exF I t c which Z k (upto (exF I t c which Z) k none) = some v := h
    generalize upto (exF I t c which Z) k none = o at h ih
    unfold exF at h
    split at h
    · cases o with
      | none => cases h; omega
      | some u =>
        have := ih u rfl
        dsimp only at h
        split at h <;> cases h <;> omega
    · have := ih v h; omega
theorem exF_some {I : Nat → Nat → Int32} {t c : Nat} {which : Int32} {Z : Int64} : ∀ k w, w < k → lbit Z w = true → upto (exF I t c which Z) k none ≠ none
  | 0, w, h, _ => absurd h (by omega)
  | k + 1, w, h, hb => by
    have ih := exF_some (I := I) (t := t) (c := c) (which := which) (Z := Z) k w
    show exF I t c which Z k (upto (exF I t c which Z) k none) ≠ none
    cases ho : upto (exF I t c which Z) k none with
    | some v => unfold exF; dsimp only; split <;> (try split) <;> simp
    | none =>
      have : w = k := by
        by_cases hw : w < k
        · exact absurd ho (ih hw hb)
        · omega
      subst this
      simp [exF, hb]
theorem exF_none {I : Nat → Nat → Int32} {t c : Nat} {which : Int32} {Z : Int64} : ∀ k, (∀ w, w < k → lbit Z w = false) → upto (exF I t c which Z) k none = none
  | 0, _ => rfl
  | k + 1, h => by
    show exF I t c which Z k (upto (exF I t c which Z) k none) = none
    rw [exF_none k (fun w hw => h w (by omega))]
    simp [exF, h k (by omega)]
theorem mkF_none {lk : Nat → Int32} {S : Int64} : ∀ k, upto (mkF lk S) k none = none → ∀ w, w < k → lbit S w = false
  | 0, _, w, hw => absurd hw (by omega)
  | k + 1, h, w, hw => by
    have h : mkF lk S k (upto (mkF lk S) k none) = none := h
    cases ho : upto (mkF lk S) k none with
    | some v =>
      rw [ho] at h
      unfold mkF at h
      dsimp only at h
      split at h
      · split at h <;> cases h
      · cases h
    | none =>
      rw [ho] at h
      by_cases hk : w = k
      · subst hk
        cases hb : lbit S w with
        | false => rfl
        | true => simp [mkF, hb] at h
      · exact mkF_none k ho w (by omega)
theorem mkF_bit {lk : Nat → Int32} {S : Int64} : ∀ k v, upto (mkF lk S) k none = some v → lbit S v = true
  | 0, v, h => by cases h
  | k + 1, v, h => by
    have ih := mkF_bit (lk := lk) (S := S) k
    have h : mkF lk S k (upto (mkF lk S) k none) = some v := h
    generalize upto (mkF lk S) k none = o at h ih
    unfold mkF at h
    split at h
    · rename_i hb
      cases o with
      | none => cases h; exact hb
      | some u =>
        have := ih u rfl
        dsimp only at h
        split at h <;> cases h
        · exact hb
        · exact this
    · exact ih v h
def cN (p : Nat → Bool) : Nat → Nat
  | 0 => 0
  | k + 1 => cN p k + if p k then 1 else 0
theorem cN_le (p : Nat → Bool) : ∀ k, cN p k ≤ k
  | 0 => Nat.le_refl _
  | k + 1 => by unfold cN; have := cN_le p k; split <;> omega
theorem cN_pos (p : Nat → Bool) : ∀ k w, w < k → p w = true → 0 < cN p k
  | 0, w, h, _ => absurd h (by omega)
  | k + 1, w, h, hp => by
    unfold cN
    by_cases hw : w = k
    · subst hw; rw [if_pos hp]; omega
    · have := cN_pos p k w (by omega) hp; omega
theorem upto_cN (p : Nat → Bool) : ∀ k, upto (fun w c => c + b2i (p w)) k (0 : Int32) = nI (cN p k)
  | 0 => rfl
  | k + 1 => by
    show upto (fun w c => c + b2i (p w)) k 0 + b2i (p k) = _
    rw [upto_cN p k]
    show nI (cN p k) + b2i (p k) = nI (cN p k + if p k then 1 else 0)
    cases p k
    · exact nI_add _ 0
    · exact nI_1 _
def sN (f : Nat → Nat) : Nat → Nat
  | 0 => 0
  | k + 1 => sN f k + f k
theorem sN_le (f : Nat → Nat) (m : Nat) (h : ∀ k, f k ≤ m) : ∀ k, sN f k ≤ k * m
  | 0 => by simp [sN]
  | k + 1 => by unfold sN; have := sN_le f m h k; have := h k; rw [Nat.succ_mul]; omega
def leastN (a b : Nat) (part : Int32) : Nat := if part = 0 then a / Nat.gcd a b else b / Nat.gcd a b
section MODEL18
variable {xl : Nat} {xs : Nat → Int32} {n : Nat} {h : Nat → PC} {I S : Nat → Nat → Int32} {J T : Nat → Nat → Int64} {X : Nat → Option Nat} {t sl wy wi he sg : Nat}
theorem c_X7_least {a b : Nat} (part : Int32) (ha : a < 2 ^ 31) (hb : b < 2 ^ 31) (hb0 : 0 < b) : Rn xl xs 0 0 0 0 mX7_least [.long (lN a), .long (lN b), .int part] n h (some (.long (lN (leastN a b part)))) n h := by
  intro Q hQ
  have hg : 0 < Nat.gcd a b := Nat.gcd_pos_of_pos_right a hb0
  have hgl : Nat.gcd a b ≤ b := Nat.gcd_le_right a hb0
  show Ev xl xs 0 0 0 0 mX7_least 0 [some (.long (lN a)), none, some (.long (lN b)), none, some (.int part), none, none, none, none, none, none] [] n h Q
  have lp : ∀ y x, x < 2 ^ 31 → y < 2 ^ 31 → Nat.gcd x y = Nat.gcd a b → ∀ a9 a10, Ev xl xs 0 0 0 0 mX7_least 6 [some (.long (lN a)), none, some (.long (lN b)), none, some (.int part), some (.long (lN x)), none, some (.long (lN y)), none, a9, a10] [] n h Q := by
    intro y
    induction y using Nat.strongRecOn with
    | _ y ih =>
      intro x hx hy hxy a9 a10
      by_cases hy0 : y = 0
      · subst hy0
        rw [Nat.gcd_zero_right] at hxy
        subst hxy
        have hne : ¬ lN (Nat.gcd a b) = 0 := fun e => by
          have := (lN_eq (b := 0) (by omega) (by omega)).mp e
          omega
        refine ev_lload (q := 8) dX7_least_6 rfl rfl ?_
        refine ev_lconst (q := 9) (0) dX7_least_8 (by decide) rfl ?_
        refine ev_lcmp (q := 10) dX7_least_9 rfl ?_
        refine ev_if_eq (q := 13) 31 dX7_least_10 (by decide) rfl (fun c_10 => ?_) (fun c_10 => ?_)
        · refine ev_iload (q := 33) dX7_least_31 rfl rfl ?_
          refine ev_if_ne (q := 36) 43 dX7_least_33 (by decide) rfl (fun c_33 => ?_) (fun c_33 => ?_)
          · have c_33 : ¬ part = 0 := c_33
            refine ev_lload_n (q := 44) dX7_least_43 rfl rfl ?_
            refine ev_lload (q := 46) dX7_least_44 rfl rfl ?_
            refine ev_ldiv (q := 47) hne dX7_least_46 rfl ?_
            exact ev_lretE dX7_least_47 rfl (by rw [pk_lDiv (by omega) hg (by omega)]; simp only [leastN, c_33, if_true, if_false]) rfl rfl hQ
          · refine ev_lload_n (q := 37) dX7_least_36 rfl rfl ?_
            refine ev_lload (q := 39) dX7_least_37 rfl rfl ?_
            refine ev_ldiv (q := 40) hne dX7_least_39 rfl ?_
            refine ev_goto 47 dX7_least_40 (by decide) ?_
            exact ev_lretE dX7_least_47 rfl (by rw [pk_lDiv (by omega) hg (by omega)]; simp only [leastN, c_33, if_true, if_false]) rfl rfl hQ
        · exact absurd rfl c_10
      · have hne : ¬ lN y = 0 := fun e => hy0 ((lN_eq (b := 0) (by omega) (by omega)).mp e)
        have hm : x % y < y := Nat.mod_lt _ (by omega)
        refine ev_lload (q := 8) dX7_least_6 rfl rfl ?_
        refine ev_lconst (q := 9) (0) dX7_least_8 (by decide) rfl ?_
        refine ev_lcmp (q := 10) dX7_least_9 rfl ?_
        refine ev_if_eq (q := 13) 31 dX7_least_10 (by decide) rfl (fun c_10 => ?_) (fun c_10 => ?_)
        · exact absurd ((lg_cmp_eq _ _).mp c_10) hne
        · refine ev_lload (q := 15) dX7_least_13 rfl rfl ?_
          refine ev_lload (q := 17) dX7_least_15 rfl rfl ?_
          refine ev_lrem (q := 18) hne dX7_least_17 rfl ?_
          rw [pk_lRem (by omega) (by omega) (by omega)]
          refine ev_lst_9 (q := 20) dX7_least_18 rfl rfl ?_
          refine ev_lload (q := 22) dX7_least_20 rfl rfl ?_
          refine ev_lst_5 (q := 24) dX7_least_22 rfl rfl ?_
          refine ev_lload (q := 26) dX7_least_24 rfl rfl ?_
          refine ev_lst_7 (q := 28) dX7_least_26 rfl rfl ?_
          refine ev_goto 6 dX7_least_28 (by decide) ?_
          exact ih (x % y) hm y hy (by omega) (by rw [← hxy, Nat.gcd_comm x y, Nat.gcd_rec y x, Nat.gcd_comm]) _ _
  refine ev_lload_n (q := 1) dX7_least_0 rfl rfl ?_
  refine ev_lst_5 (q := 3) dX7_least_1 rfl rfl ?_
  refine ev_lload_n (q := 4) dX7_least_3 rfl rfl ?_
  refine ev_lst_7 (q := 6) dX7_least_4 rfl rfl ?_
  exact lp b a ha hb rfl _ _
theorem s_X7_extreme (hn : 49 ≤ n) (hm : MI I t sl wy wi he) (hsg : I 33 16 = nI sg) (h40 : sg ≤ 40) (c which what : Int32) : RnS xl xs 5 116 0 0 mX7_extreme [.ref 33, .int c, .int which, .int what] n I J X (some (.int (if inb c 0 3 then (if inb which 0 1 && inb what 0 1 then (if ffP I t sg = -6 then (match upto (exF I t c.toNatClampNeg which (kpL I J t sl sg he)) (2 ^ t) none with | none => -3 | some v => if what = 0 then wtF I t c.toNatClampNeg v + 1000 else nI v) else -5) else -2) else -1))) n I J X := by
  intro S T Q hQ
  have hm' := hm
  obtain ⟨ht, ht2, h6, hs, hs6, hwy, h3, hwi, h4, hhe, hhl⟩ := hm'
  have h64 := p2_le h6
  show Ev xl xs 5 116 0 0 mX7_extreme 0 [some (.ref 33), some (.int c), some (.int which), some (.int what), none, none, none, none, none, none] [] n (sysH (ov I S) (ovJ J T) X) Q
  cases hc : inb c 0 3 with
  | false =>
    rw [hc] at hQ
    refine ev_iload_n (q := 1) dX7_extreme_0 rfl rfl ?_
    refine ev_callS1i (q := 4) dX7_extreme_1 ca_X7_103 (c_X7_isCousin _) (Nat.le_of_ble_eq_true rfl) (Nat.le_of_ble_eq_true rfl) (by decide) (by decide) rfl ?_
    refine ev_if_ne (q := 7) 9 dX7_extreme_4 (by decide) rfl (fun c_4 => ?_) (fun c_4 => ?_)
    · exact absurd (b2i_ne.mp c_4) (by rw [hc]; decide)
    · refine ev_iconst (q := 8) (-1) dX7_extreme_7 (by decide) rfl ?_
      exact ev_iretE dX7_extreme_8 rfl rfl rfl rfl rfl (hQ _ _)
  | true =>
    rw [hc, if_pos rfl] at hQ
    cases hin : (inb which 0 1 && inb what 0 1) with
    | false =>
      rw [hin] at hQ
      refine ev_iload_n (q := 1) dX7_extreme_0 rfl rfl ?_
      refine ev_callS1i (q := 4) dX7_extreme_1 ca_X7_103 (c_X7_isCousin _) (Nat.le_of_ble_eq_true rfl) (Nat.le_of_ble_eq_true rfl) (by decide) (by decide) rfl ?_
      refine ev_if_ne (q := 7) 9 dX7_extreme_4 (by decide) rfl (fun c_4 => ?_) (fun c_4 => ?_)
      · refine ev_iload_n (q := 10) dX7_extreme_9 rfl rfl ?_
        refine ev_iconst (q := 11) (0) dX7_extreme_10 (by decide) rfl ?_
        refine ev_iconst (q := 12) (1) dX7_extreme_11 (by decide) rfl ?_
        refine ev_callS3i (q := 15) dX7_extreme_12 ca_X7_99 (c_X7_in _ _ _) (Nat.le_of_ble_eq_true rfl) (Nat.le_of_ble_eq_true rfl) (by decide) (by decide) rfl ?_
        refine ev_if_eq (q := 18) 27 dX7_extreme_15 (by decide) rfl (fun c_15 => ?_) (fun c_15 => ?_)
        · have c_15 := b2i_0.mp c_15
          refine ev_bipush (q := 29) (-2) dX7_extreme_27 (by decide) rfl ?_
          exact ev_iretE dX7_extreme_29 rfl rfl rfl rfl rfl (hQ _ _)
        · have c_15 := b2i_n0.mp c_15
          refine ev_iload_n (q := 19) dX7_extreme_18 rfl rfl ?_
          refine ev_iconst (q := 20) (0) dX7_extreme_19 (by decide) rfl ?_
          refine ev_iconst (q := 21) (1) dX7_extreme_20 (by decide) rfl ?_
          refine ev_callS3i (q := 24) dX7_extreme_21 ca_X7_99 (c_X7_in _ _ _) (Nat.le_of_ble_eq_true rfl) (Nat.le_of_ble_eq_true rfl) (by decide) (by decide) rfl ?_
          refine ev_if_ne (q := 27) 30 dX7_extreme_24 (by decide) rfl (fun c_24 => ?_) (fun c_24 => ?_)
          · exact absurd (b2i_ne.mp c_24) (by rw [c_15, Bool.true_and] at hin; rw [hin]; decide)
          · refine ev_bipush (q := 29) (-2) dX7_extreme_27 (by decide) rfl ?_
            exact ev_iretE dX7_extreme_29 rfl rfl rfl rfl rfl (hQ _ _)
      · exact absurd c_4 (b2i_n0.mpr hc)
    | true =>
      rw [hin, if_pos rfl] at hQ
      have hin := Bool.and_eq_true_iff.mp hin
      obtain ⟨C, -, hC3, rfl⟩ := inb_lo (lo := 0) (hi := 3) (by decide) hc (by decide)
      rw [nI_clamp (by omega)] at hQ
      rcases mdF_or (I := I) (J := J) (t := t) (sl := sl) (wy := wy) (wi := wi) (he := he) (sg := sg) with ⟨hd, hf⟩ | ⟨hd, hf, ho⟩ | ⟨w, hw, hd, hf, ho⟩
      · rw [if_neg hf] at hQ
        refine ev_iload_n (q := 1) dX7_extreme_0 rfl rfl ?_
        refine ev_callS1i (q := 4) dX7_extreme_1 ca_X7_103 (c_X7_isCousin _) (Nat.le_of_ble_eq_true rfl) (Nat.le_of_ble_eq_true rfl) (by decide) (by decide) rfl ?_
        refine ev_if_ne (q := 7) 9 dX7_extreme_4 (by decide) rfl (fun c_4 => ?_) (fun c_4 => ?_)
        · refine ev_iload_n (q := 10) dX7_extreme_9 rfl rfl ?_
          refine ev_iconst (q := 11) (0) dX7_extreme_10 (by decide) rfl ?_
          refine ev_iconst (q := 12) (1) dX7_extreme_11 (by decide) rfl ?_
          refine ev_callS3i (q := 15) dX7_extreme_12 ca_X7_99 (c_X7_in _ _ _) (Nat.le_of_ble_eq_true rfl) (Nat.le_of_ble_eq_true rfl) (by decide) (by decide) rfl ?_
          refine ev_if_eq (q := 18) 27 dX7_extreme_15 (by decide) rfl (fun c_15 => ?_) (fun c_15 => ?_)
          · exact absurd c_15 (b2i_n0.mpr hin.1)
          · refine ev_iload_n (q := 19) dX7_extreme_18 rfl rfl ?_
            refine ev_iconst (q := 20) (0) dX7_extreme_19 (by decide) rfl ?_
            refine ev_iconst (q := 21) (1) dX7_extreme_20 (by decide) rfl ?_
            refine ev_callS3i (q := 24) dX7_extreme_21 ca_X7_99 (c_X7_in _ _ _) (Nat.le_of_ble_eq_true rfl) (Nat.le_of_ble_eq_true rfl) (by decide) (by decide) rfl ?_
            refine ev_if_ne (q := 27) 30 dX7_extreme_24 (by decide) rfl (fun c_24 => ?_) (fun c_24 => ?_)
            · refine ev_aload_n (q := 31) dX7_extreme_30 rfl rfl ?_
              refine ev_callV0iP (q := 34) dX7_extreme_31 ca_X7_175 (s_X7_made hn hm hsg h40) rfl (lt_n hn (by decide)) rfl rfl (Nat.le_of_ble_eq_true rfl) (Nat.le_of_ble_eq_true rfl) (by decide) (by decide) rfl (fun S T hp_31 => ?_)
              rw [hd]
              refine ev_ist_4 (q := 36) dX7_extreme_34 rfl rfl ?_
              refine ev_iload (q := 38) dX7_extreme_36 rfl rfl ?_
              refine ev_if_ge (q := 41) 44 dX7_extreme_38 (by decide) rfl (fun c_38 => ?_) (fun c_38 => ?_)
              · exact absurd c_38 (by decide)
              · refine ev_iload (q := 43) dX7_extreme_41 rfl rfl ?_
                exact ev_iretE dX7_extreme_43 rfl rfl rfl rfl rfl (hQ _ _)
            · exact absurd c_24 (b2i_n0.mpr hin.2)
        · exact absurd c_4 (b2i_n0.mpr hc)
      · rw [if_pos hf] at hQ
        have hz : upto (exF I t C which (kpL I J t sl sg he)) (2 ^ t) none = none := exF_none _ (mkF_none _ ho)
        rw [hz] at hQ
        refine ev_iload_n (q := 1) dX7_extreme_0 rfl rfl ?_
        refine ev_callS1i (q := 4) dX7_extreme_1 ca_X7_103 (c_X7_isCousin _) (Nat.le_of_ble_eq_true rfl) (Nat.le_of_ble_eq_true rfl) (by decide) (by decide) rfl ?_
        refine ev_if_ne (q := 7) 9 dX7_extreme_4 (by decide) rfl (fun c_4 => ?_) (fun c_4 => ?_)
        · refine ev_iload_n (q := 10) dX7_extreme_9 rfl rfl ?_
          refine ev_iconst (q := 11) (0) dX7_extreme_10 (by decide) rfl ?_
          refine ev_iconst (q := 12) (1) dX7_extreme_11 (by decide) rfl ?_
          refine ev_callS3i (q := 15) dX7_extreme_12 ca_X7_99 (c_X7_in _ _ _) (Nat.le_of_ble_eq_true rfl) (Nat.le_of_ble_eq_true rfl) (by decide) (by decide) rfl ?_
          refine ev_if_eq (q := 18) 27 dX7_extreme_15 (by decide) rfl (fun c_15 => ?_) (fun c_15 => ?_)
          · exact absurd c_15 (b2i_n0.mpr hin.1)
          · refine ev_iload_n (q := 19) dX7_extreme_18 rfl rfl ?_
            refine ev_iconst (q := 20) (0) dX7_extreme_19 (by decide) rfl ?_
            refine ev_iconst (q := 21) (1) dX7_extreme_20 (by decide) rfl ?_
            refine ev_callS3i (q := 24) dX7_extreme_21 ca_X7_99 (c_X7_in _ _ _) (Nat.le_of_ble_eq_true rfl) (Nat.le_of_ble_eq_true rfl) (by decide) (by decide) rfl ?_
            refine ev_if_ne (q := 27) 30 dX7_extreme_24 (by decide) rfl (fun c_24 => ?_) (fun c_24 => ?_)
            · refine ev_aload_n (q := 31) dX7_extreme_30 rfl rfl ?_
              refine ev_callV0iP (q := 34) dX7_extreme_31 ca_X7_175 (s_X7_made hn hm hsg h40) rfl (lt_n hn (by decide)) rfl rfl (Nat.le_of_ble_eq_true rfl) (Nat.le_of_ble_eq_true rfl) (by decide) (by decide) rfl (fun S T hp_31 => ?_)
              rw [hd]
              refine ev_ist_4 (q := 36) dX7_extreme_34 rfl rfl ?_
              refine ev_iload (q := 38) dX7_extreme_36 rfl rfl ?_
              refine ev_if_ge (q := 41) 44 dX7_extreme_38 (by decide) rfl (fun c_38 => ?_) (fun c_38 => ?_)
              · exact absurd c_38 (by decide)
              · refine ev_iload (q := 43) dX7_extreme_41 rfl rfl ?_
                exact ev_iretE dX7_extreme_43 rfl rfl rfl rfl rfl (hQ _ _)
            · exact absurd c_24 (b2i_n0.mpr hin.2)
        · exact absurd c_4 (b2i_n0.mpr hc)
      · rw [if_pos hf] at hQ
        have hvt := ffM_VT h6 ht2 h40 hf
        have hwb : lbit (kpL I J t sl sg he) w = true := mkF_bit _ _ ho
        generalize hZ : kpL I J t sl sg he = Z at hQ hwb
        have lp : ∀ j k, k + j = 2 ^ t → ∀ S T a4 a9, Ev xl xs 5 116 0 0 mX7_extreme 61 [some (.ref 33), some (.int (nI C)), some (.int which), some (.int what), a4, some (.long Z), none, some (.int (eo (upto (exF I t C which Z) k none))), some (.int (nI k)), a9] [] n (sysH (ov I S) (ovJ J T) X) Q := by
          intro j
          induction j using Nat.strongRecOn with
          | _ j ih =>
            intro k hk S T a4 a9
            have hlt := exF_lt (I := I) (t := t) (c := C) (which := which) (Z := Z) k
            have e : ∀ h1, _ := fun (h1 : j - 1 < j) => ih (j - 1) h1 (k + 1)
            by_cases hkt : k = 2 ^ t
            · obtain ⟨v, hv⟩ := Option.ne_none_iff_exists'.mp (exF_some (I := I) (t := t) (c := C) (which := which) (2 ^ t) w hw hwb)
              have hvl := exF_lt _ _ hv
              rw [hv] at hQ
              subst hkt
              rw [hv]
              refine ev_iload (q := 63) dX7_extreme_61 rfl rfl ?_
              refine ev_aload_n (q := 64) dX7_extreme_63 rfl rfl ?_
              refine ev_callV0i (q := 67) dX7_extreme_64 ca_X7_95 (s_X7_worlds hn hm) rfl (lt_n hn (by decide)) rfl rfl (Nat.le_of_ble_eq_true rfl) (Nat.le_of_ble_eq_true rfl) (by decide) (by decide) rfl ?_
              refine ev_icmp_ge (q := 70) 153 dX7_extreme_67 (by decide) rfl (fun c_67 => ?_) (fun c_67 => ?_)
              · refine ev_iload_n (q := 154) dX7_extreme_153 rfl rfl ?_
                refine ev_if_ne (q := 157) 171 dX7_extreme_154 (by decide) rfl (fun c_154 => ?_) (fun c_154 => ?_)
                · have c_154 : ¬ what = 0 := c_154
                  refine ev_iload (q := 173) dX7_extreme_171 rfl rfl ?_
                  exact ev_iretE dX7_extreme_173 rfl rfl (by simp only [c_154, if_true, if_false]; try rfl) rfl rfl (hQ _ _)
                · refine ev_aload_n (q := 158) dX7_extreme_157 rfl rfl ?_
                  refine ev_iload_n (q := 159) dX7_extreme_158 rfl rfl ?_
                  refine ev_iload (q := 161) dX7_extreme_159 rfl rfl ?_
                  refine ev_callV2i (q := 164) dX7_extreme_161 ca_X7_117 (s_X7_worthTo (w := v) hn hm (by omega) (by omega)) rfl (lt_n hn (by decide)) rfl rfl (Nat.le_of_ble_eq_true rfl) (Nat.le_of_ble_eq_true rfl) (by decide) (by decide) rfl ?_
                  refine ev_sipush (q := 167) (1000) dX7_extreme_164 (by decide) rfl ?_
                  refine ev_iadd (q := 168) dX7_extreme_167 rfl ?_
                  refine ev_goto 173 dX7_extreme_168 (by decide) ?_
                  exact ev_iretE dX7_extreme_173 rfl rfl (by simp only [c_154, if_true, if_false]; try rfl) rfl rfl (hQ _ _)
              · exact absurd ((nI_leI (by omega) (by omega)).mpr (Nat.le_refl _)) c_67
            · have J131 : ∀ S T b v, v = b2i b → (∀ S T a4 a9, Ev xl xs 5 116 0 0 mX7_extreme 61 [some (.ref 33), some (.int (nI C)), some (.int which), some (.int what), a4, some (.long Z), none, some (.int (eo (if b then some k else upto (exF I t C which Z) k none))), some (.int (nI (k + 1))), a9] [] n (sysH (ov I S) (ovJ J T) X) Q) → Ev xl xs 5 116 0 0 mX7_extreme 131 [some (.ref 33), some (.int (nI C)), some (.int which), some (.int what), a4, some (.long Z), none, some (.int (eo (upto (exF I t C which Z) k none))), some (.int (nI k)), a9] [.int v] n (sysH (ov I S) (ovJ J T) X) Q := by
                intro S T b v hv hk2
                subst hv
                cases b with
                | true =>
                  rw [if_pos rfl] at hk2
                  refine ev_ist_9 (q := 133) dX7_extreme_131 rfl rfl ?_
                  refine ev_iload (q := 135) dX7_extreme_133 rfl rfl ?_
                  refine ev_if_eq (q := 138) 143 dX7_extreme_135 (by decide) rfl (fun c_135 => ?_) (fun c_135 => ?_)
                  · exact absurd c_135 (by decide)
                  · refine ev_iload (q := 140) dX7_extreme_138 rfl rfl ?_
                    refine ev_goto 145 dX7_extreme_140 (by decide) ?_
                    refine ev_ist_7 (q := 147) dX7_extreme_145 rfl rfl ?_
                    refine ev_inc_8 (q := 150) (nI (k + 1)) dX7_extreme_147 (nI_1 k) rfl rfl ?_
                    refine ev_goto 61 dX7_extreme_150 (by decide) ?_
                    exact hk2 _ _ _ _
                | false =>
                  rw [if_neg (by decide)] at hk2
                  refine ev_ist_9 (q := 133) dX7_extreme_131 rfl rfl ?_
                  refine ev_iload (q := 135) dX7_extreme_133 rfl rfl ?_
                  refine ev_if_eq (q := 138) 143 dX7_extreme_135 (by decide) rfl (fun c_135 => ?_) (fun c_135 => ?_)
                  · refine ev_iload (q := 145) dX7_extreme_143 rfl rfl ?_
                    refine ev_ist_7 (q := 147) dX7_extreme_145 rfl rfl ?_
                    refine ev_inc_8 (q := 150) (nI (k + 1)) dX7_extreme_147 (nI_1 k) rfl rfl ?_
                    refine ev_goto 61 dX7_extreme_150 (by decide) ?_
                    exact hk2 _ _ _ _
                  · exact absurd rfl c_135
              have e := e (by omega) (by omega)
              cases hb : lbit Z k with
              | false =>
                simp only [upto, exF, hb, Bool.false_eq_true, if_false] at e
                refine ev_iload (q := 63) dX7_extreme_61 rfl rfl ?_
                refine ev_aload_n (q := 64) dX7_extreme_63 rfl rfl ?_
                refine ev_callV0i (q := 67) dX7_extreme_64 ca_X7_95 (s_X7_worlds hn hm) rfl (lt_n hn (by decide)) rfl rfl (Nat.le_of_ble_eq_true rfl) (Nat.le_of_ble_eq_true rfl) (by decide) (by decide) rfl ?_
                refine ev_icmp_ge (q := 70) 153 dX7_extreme_67 (by decide) rfl (fun c_67 => ?_) (fun c_67 => ?_)
                · exact absurd ((nI_leI (by omega) (by omega)).mp c_67) (by omega)
                · refine ev_lload (q := 72) dX7_extreme_70 rfl rfl ?_
                  refine ev_iload (q := 74) dX7_extreme_72 rfl rfl ?_
                  refine ev_callS2i (q := 77) dX7_extreme_74 ca_X7_143 (c_X7_holds (by omega)) (Nat.le_of_ble_eq_true rfl) (Nat.le_of_ble_eq_true rfl) (by decide) (by decide) rfl ?_
                  refine ev_if_eq (q := 80) 147 dX7_extreme_77 (by decide) rfl (fun c_77 => ?_) (fun c_77 => ?_)
                  · refine ev_inc_8 (q := 150) (nI (k + 1)) dX7_extreme_147 (nI_1 k) rfl rfl ?_
                    refine ev_goto 61 dX7_extreme_150 (by decide) ?_
                    exact e _ _ _ _
                  · exact absurd (b2i_n0.mp c_77) (by rw [hb]; decide)
              | true =>
                cases ho2 : upto (exF I t C which Z) k none with
                | none =>
                  simp only [upto, exF, hb, ho2, if_true] at e
                  refine ev_iload (q := 63) dX7_extreme_61 rfl rfl ?_
                  refine ev_aload_n (q := 64) dX7_extreme_63 rfl rfl ?_
                  refine ev_callV0i (q := 67) dX7_extreme_64 ca_X7_95 (s_X7_worlds hn hm) rfl (lt_n hn (by decide)) rfl rfl (Nat.le_of_ble_eq_true rfl) (Nat.le_of_ble_eq_true rfl) (by decide) (by decide) rfl ?_
                  refine ev_icmp_ge (q := 70) 153 dX7_extreme_67 (by decide) rfl (fun c_67 => ?_) (fun c_67 => ?_)
                  · exact absurd ((nI_leI (by omega) (by omega)).mp c_67) (by omega)
                  · refine ev_lload (q := 72) dX7_extreme_70 rfl rfl ?_
                    refine ev_iload (q := 74) dX7_extreme_72 rfl rfl ?_
                    refine ev_callS2i (q := 77) dX7_extreme_74 ca_X7_143 (c_X7_holds (by omega)) (Nat.le_of_ble_eq_true rfl) (Nat.le_of_ble_eq_true rfl) (by decide) (by decide) rfl ?_
                    refine ev_if_eq (q := 80) 147 dX7_extreme_77 (by decide) rfl (fun c_77 => ?_) (fun c_77 => ?_)
                    · exact absurd (b2i_0.mp c_77) (by rw [hb]; decide)
                    · refine ev_iload (q := 82) dX7_extreme_80 rfl rfl ?_
                      refine ev_if_lt (q := 85) 126 dX7_extreme_82 (by decide) rfl (fun c_82 => ?_) (fun c_82 => ?_)
                      · refine ev_iconst (q := 127) (1) dX7_extreme_126 (by decide) rfl ?_
                        refine ev_goto 131 dX7_extreme_127 (by decide) ?_
                        have j9 := J131 S T true 1 rfl e
                        rw [ho2] at j9
                        exact j9
                      · exact absurd neg6 c_82
                | some u =>
                  have hu := hlt u ho2
                  have e2 : ∀ b, exB which (wtF I t C k) (wtF I t C u) = b → ∀ S T a4 a9, Ev xl xs 5 116 0 0 mX7_extreme 61 [some (.ref 33), some (.int (nI C)), some (.int which), some (.int what), a4, some (.long Z), none, some (.int (eo (if b then some k else upto (exF I t C which Z) k none))), some (.int (nI (k + 1))), a9] [] n (sysH (ov I S) (ovJ J T) X) Q := by
                    intro b hb2
                    simp only [upto, exF, hb, ho2, if_true, hb2] at e
                    rw [ho2]
                    exact e
                  refine ev_iload (q := 63) dX7_extreme_61 rfl rfl ?_
                  refine ev_aload_n (q := 64) dX7_extreme_63 rfl rfl ?_
                  refine ev_callV0i (q := 67) dX7_extreme_64 ca_X7_95 (s_X7_worlds hn hm) rfl (lt_n hn (by decide)) rfl rfl (Nat.le_of_ble_eq_true rfl) (Nat.le_of_ble_eq_true rfl) (by decide) (by decide) rfl ?_
                  refine ev_icmp_ge (q := 70) 153 dX7_extreme_67 (by decide) rfl (fun c_67 => ?_) (fun c_67 => ?_)
                  · exact absurd ((nI_leI (by omega) (by omega)).mp c_67) (by omega)
                  · refine ev_lload (q := 72) dX7_extreme_70 rfl rfl ?_
                    refine ev_iload (q := 74) dX7_extreme_72 rfl rfl ?_
                    refine ev_callS2i (q := 77) dX7_extreme_74 ca_X7_143 (c_X7_holds (by omega)) (Nat.le_of_ble_eq_true rfl) (Nat.le_of_ble_eq_true rfl) (by decide) (by decide) rfl ?_
                    refine ev_if_eq (q := 80) 147 dX7_extreme_77 (by decide) rfl (fun c_77 => ?_) (fun c_77 => ?_)
                    · exact absurd (b2i_0.mp c_77) (by rw [hb]; decide)
                    · refine ev_iload (q := 82) dX7_extreme_80 rfl rfl ?_
                      refine ev_if_lt (q := 85) 126 dX7_extreme_82 (by decide) rfl (fun c_82 => ?_) (fun c_82 => ?_)
                      · exact absurd c_82 (nI_pos (by omega))
                      · refine ev_iload_n (q := 86) dX7_extreme_85 rfl rfl ?_
                        refine ev_if_ne (q := 89) 109 dX7_extreme_86 (by decide) rfl (fun c_86 => ?_) (fun c_86 => ?_)
                        · have c_86 : ¬ which = 0 := c_86
                          refine ev_aload_n (q := 110) dX7_extreme_109 rfl rfl ?_
                          refine ev_iload_n (q := 111) dX7_extreme_110 rfl rfl ?_
                          refine ev_iload (q := 113) dX7_extreme_111 rfl rfl ?_
                          refine ev_callV2i (q := 116) dX7_extreme_113 ca_X7_117 (s_X7_worthTo hn hm (by omega) (by omega)) rfl (lt_n hn (by decide)) rfl rfl (Nat.le_of_ble_eq_true rfl) (Nat.le_of_ble_eq_true rfl) (by decide) (by decide) rfl ?_
                          refine ev_aload_n (q := 117) dX7_extreme_116 rfl rfl ?_
                          refine ev_iload_n (q := 118) dX7_extreme_117 rfl rfl ?_
                          refine ev_iload (q := 120) dX7_extreme_118 rfl rfl ?_
                          refine ev_callV2i (q := 123) dX7_extreme_120 ca_X7_117 (s_X7_worthTo (w := u) hn hm (by omega) (by omega)) rfl (lt_n hn (by decide)) rfl rfl (Nat.le_of_ble_eq_true rfl) (Nat.le_of_ble_eq_true rfl) (by decide) (by decide) rfl ?_
                          refine ev_icmp_le (q := 126) 130 dX7_extreme_123 (by decide) rfl (fun c_123 => ?_) (fun c_123 => ?_)
                          · have hx : exB which (wtF I t C k) (wtF I t C u) = false := by rw [exB, if_neg c_86, decide_eq_false_iff_not]; intro h; exact absurd c_123 (by simp only [i_le, i_lt] at *; omega)
                            refine ev_iconst (q := 131) (0) dX7_extreme_130 (by decide) rfl ?_
                            first | (have j9 := J131 S T true 1 rfl (e2 true hx); rw [ho2] at j9; exact j9) | (have j9 := J131 S T false 0 rfl (e2 false hx); rw [ho2] at j9; exact j9)
                          · have hx : exB which (wtF I t C k) (wtF I t C u) = true := by rw [exB, if_neg c_86, decide_eq_true_iff]; simp only [i_le, i_lt] at *; omega
                            refine ev_iconst (q := 127) (1) dX7_extreme_126 (by decide) rfl ?_
                            refine ev_goto 131 dX7_extreme_127 (by decide) ?_
                            first | (have j9 := J131 S T true 1 rfl (e2 true hx); rw [ho2] at j9; exact j9) | (have j9 := J131 S T false 0 rfl (e2 false hx); rw [ho2] at j9; exact j9)
                        · refine ev_aload_n (q := 90) dX7_extreme_89 rfl rfl ?_
                          refine ev_iload_n (q := 91) dX7_extreme_90 rfl rfl ?_
                          refine ev_iload (q := 93) dX7_extreme_91 rfl rfl ?_
                          refine ev_callV2i (q := 96) dX7_extreme_93 ca_X7_117 (s_X7_worthTo hn hm (by omega) (by omega)) rfl (lt_n hn (by decide)) rfl rfl (Nat.le_of_ble_eq_true rfl) (Nat.le_of_ble_eq_true rfl) (by decide) (by decide) rfl ?_
                          refine ev_aload_n (q := 97) dX7_extreme_96 rfl rfl ?_
                          refine ev_iload_n (q := 98) dX7_extreme_97 rfl rfl ?_
                          refine ev_iload (q := 100) dX7_extreme_98 rfl rfl ?_
                          refine ev_callV2i (q := 103) dX7_extreme_100 ca_X7_117 (s_X7_worthTo (w := u) hn hm (by omega) (by omega)) rfl (lt_n hn (by decide)) rfl rfl (Nat.le_of_ble_eq_true rfl) (Nat.le_of_ble_eq_true rfl) (by decide) (by decide) rfl ?_
                          refine ev_icmp_ge (q := 106) 130 dX7_extreme_103 (by decide) rfl (fun c_103 => ?_) (fun c_103 => ?_)
                          · have hx : exB which (wtF I t C k) (wtF I t C u) = false := by simp only [exB, c_86, if_true]; rw [decide_eq_false_iff_not]; intro h; exact absurd c_103 (by simp only [i_le, i_lt] at *; omega)
                            refine ev_iconst (q := 131) (0) dX7_extreme_130 (by decide) rfl ?_
                            first | (have j9 := J131 S T true 1 rfl (e2 true hx); rw [ho2] at j9; exact j9) | (have j9 := J131 S T false 0 rfl (e2 false hx); rw [ho2] at j9; exact j9)
                          · have hx : exB which (wtF I t C k) (wtF I t C u) = true := by simp only [exB, c_86, if_true]; rw [decide_eq_true_iff]; simp only [i_le, i_lt] at *; omega
                            refine ev_goto 126 dX7_extreme_106 (by decide) ?_
                            refine ev_iconst (q := 127) (1) dX7_extreme_126 (by decide) rfl ?_
                            refine ev_goto 131 dX7_extreme_127 (by decide) ?_
                            first | (have j9 := J131 S T true 1 rfl (e2 true hx); rw [ho2] at j9; exact j9) | (have j9 := J131 S T false 0 rfl (e2 false hx); rw [ho2] at j9; exact j9)
        have hkp : ∀ S T, PadOK I S sg → _ := fun S T hpad => s_keepP (xl := xl) (xs := xs) (n := n) (J := J) (S := S) (T := T) (X := X) hn hm hvt hpad (show he < 64 by omega)
        rw [hZ] at hkp
        refine ev_iload_n (q := 1) dX7_extreme_0 rfl rfl ?_
        refine ev_callS1i (q := 4) dX7_extreme_1 ca_X7_103 (c_X7_isCousin _) (Nat.le_of_ble_eq_true rfl) (Nat.le_of_ble_eq_true rfl) (by decide) (by decide) rfl ?_
        refine ev_if_ne (q := 7) 9 dX7_extreme_4 (by decide) rfl (fun c_4 => ?_) (fun c_4 => ?_)
        · refine ev_iload_n (q := 10) dX7_extreme_9 rfl rfl ?_
          refine ev_iconst (q := 11) (0) dX7_extreme_10 (by decide) rfl ?_
          refine ev_iconst (q := 12) (1) dX7_extreme_11 (by decide) rfl ?_
          refine ev_callS3i (q := 15) dX7_extreme_12 ca_X7_99 (c_X7_in _ _ _) (Nat.le_of_ble_eq_true rfl) (Nat.le_of_ble_eq_true rfl) (by decide) (by decide) rfl ?_
          refine ev_if_eq (q := 18) 27 dX7_extreme_15 (by decide) rfl (fun c_15 => ?_) (fun c_15 => ?_)
          · exact absurd c_15 (b2i_n0.mpr hin.1)
          · refine ev_iload_n (q := 19) dX7_extreme_18 rfl rfl ?_
            refine ev_iconst (q := 20) (0) dX7_extreme_19 (by decide) rfl ?_
            refine ev_iconst (q := 21) (1) dX7_extreme_20 (by decide) rfl ?_
            refine ev_callS3i (q := 24) dX7_extreme_21 ca_X7_99 (c_X7_in _ _ _) (Nat.le_of_ble_eq_true rfl) (Nat.le_of_ble_eq_true rfl) (by decide) (by decide) rfl ?_
            refine ev_if_ne (q := 27) 30 dX7_extreme_24 (by decide) rfl (fun c_24 => ?_) (fun c_24 => ?_)
            · refine ev_aload_n (q := 31) dX7_extreme_30 rfl rfl ?_
              refine ev_callV0iP (q := 34) dX7_extreme_31 ca_X7_175 (s_X7_made hn hm hsg h40) rfl (lt_n hn (by decide)) rfl rfl (Nat.le_of_ble_eq_true rfl) (Nat.le_of_ble_eq_true rfl) (by decide) (by decide) rfl (fun S T hp_31 => ?_)
              rw [hd]
              refine ev_ist_4 (q := 36) dX7_extreme_34 rfl rfl ?_
              refine ev_iload (q := 38) dX7_extreme_36 rfl rfl ?_
              refine ev_if_ge (q := 41) 44 dX7_extreme_38 (by decide) rfl (fun c_38 => ?_) (fun c_38 => ?_)
              · refine ev_aload_n (q := 45) dX7_extreme_44 rfl rfl ?_
                refine ev_aload_n (q := 46) dX7_extreme_45 rfl rfl ?_
                refine ev_get (q := 49) dX7_extreme_46 fr_X7_73 rfl (lt_n hn (by decide)) rfl rfl ?_
                rw [show ov I S 33 7 = nI he from hhe]
                refine ev_callV1lP (q := 52) dX7_extreme_49 ca_X7_157 (hkp S T (hp_31 hf)) rfl (lt_n hn (by decide)) rfl rfl (Nat.le_of_ble_eq_true rfl) (Nat.le_of_ble_eq_true rfl) (by decide) (by decide) rfl (fun S T hp_49 => ?_)
                refine ev_lst_5 (q := 54) dX7_extreme_52 rfl rfl ?_
                refine ev_bipush (q := 56) (-6) dX7_extreme_54 (by decide) rfl ?_
                refine ev_ist_7 (q := 58) dX7_extreme_56 rfl rfl ?_
                refine ev_iconst (q := 59) (0) dX7_extreme_58 (by decide) rfl ?_
                refine ev_ist_8 (q := 61) dX7_extreme_59 rfl rfl ?_
                exact lp (2 ^ t) 0 (by omega) _ _ _ _
              · exact absurd (nI_pos' (by omega)) c_38
            · exact absurd c_24 (b2i_n0.mpr hin.2)
        · exact absurd c_4 (b2i_n0.mpr hc)
end MODEL18
