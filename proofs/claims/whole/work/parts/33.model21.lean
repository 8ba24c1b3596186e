theorem dX7_isTaste_0 : decode cX7_isTaste 0 = .ok (.iconst 1, 1) := by decide +kernel
theorem dX7_isTaste_1 : decode cX7_isTaste 1 = .ok (.istore_n 2, 1) := by decide +kernel
theorem dX7_isTaste_2 : decode cX7_isTaste 2 = .ok (.iconst 0, 1) := by decide +kernel
theorem dX7_isTaste_3 : decode cX7_isTaste 3 = .ok (.istore_n 3, 1) := by decide +kernel
theorem dX7_isTaste_4 : decode cX7_isTaste 4 = .ok (.iload_n 3, 1) := by decide +kernel
theorem dX7_isTaste_5 : decode cX7_isTaste 5 = .ok (.aload_n 0, 1) := by decide +kernel
theorem dX7_isTaste_6 : decode cX7_isTaste 6 = .ok (.getfield 87, 3) := by decide +kernel
theorem dX7_isTaste_9 : decode cX7_isTaste 9 = .ok (.if_icmp .ge 102, 3) := by decide +kernel
theorem dX7_isTaste_12 : decode cX7_isTaste 12 = .ok (.iload_n 2, 1) := by decide +kernel
theorem dX7_isTaste_13 : decode cX7_isTaste 13 = .ok (.ifCond .eq 98, 3) := by decide +kernel
theorem dX7_isTaste_16 : decode cX7_isTaste 16 = .ok (.aload_n 0, 1) := by decide +kernel
theorem dX7_isTaste_17 : decode cX7_isTaste 17 = .ok (.iload_n 1, 1) := by decide +kernel
theorem dX7_isTaste_18 : decode cX7_isTaste 18 = .ok (.aload_n 0, 1) := by decide +kernel
theorem dX7_isTaste_19 : decode cX7_isTaste 19 = .ok (.getfield 30, 3) := by decide +kernel
theorem dX7_isTaste_22 : decode cX7_isTaste 22 = .ok (.iload_n 3, 1) := by decide +kernel
theorem dX7_isTaste_23 : decode cX7_isTaste 23 = .ok (.iaload, 1) := by decide +kernel
theorem dX7_isTaste_24 : decode cX7_isTaste 24 = .ok (.invokevirtual 227, 3) := by decide +kernel
theorem dX7_isTaste_27 : decode cX7_isTaste 27 = .ok (.istore 4, 2) := by decide +kernel
theorem dX7_isTaste_29 : decode cX7_isTaste 29 = .ok (.iconst 0, 1) := by decide +kernel
theorem dX7_isTaste_30 : decode cX7_isTaste 30 = .ok (.istore 5, 2) := by decide +kernel
theorem dX7_isTaste_32 : decode cX7_isTaste 32 = .ok (.iload 5, 2) := by decide +kernel
theorem dX7_isTaste_34 : decode cX7_isTaste 34 = .ok (.aload_n 0, 1) := by decide +kernel
theorem dX7_isTaste_35 : decode cX7_isTaste 35 = .ok (.invokevirtual 95, 3) := by decide +kernel
theorem dX7_isTaste_38 : decode cX7_isTaste 38 = .ok (.if_icmp .ge 67, 3) := by decide +kernel
theorem dX7_isTaste_41 : decode cX7_isTaste 41 = .ok (.iload_n 2, 1) := by decide +kernel
theorem dX7_isTaste_42 : decode cX7_isTaste 42 = .ok (.ifCond .eq 63, 3) := by decide +kernel
theorem dX7_isTaste_45 : decode cX7_isTaste 45 = .ok (.aload_n 0, 1) := by decide +kernel
theorem dX7_isTaste_46 : decode cX7_isTaste 46 = .ok (.iload_n 1, 1) := by decide +kernel
theorem dX7_isTaste_47 : decode cX7_isTaste 47 = .ok (.iload 5, 2) := by decide +kernel
theorem dX7_isTaste_49 : decode cX7_isTaste 49 = .ok (.invokevirtual 227, 3) := by decide +kernel
theorem dX7_isTaste_52 : decode cX7_isTaste 52 = .ok (.istore 6, 2) := by decide +kernel
theorem dX7_isTaste_54 : decode cX7_isTaste 54 = .ok (.aload_n 0, 1) := by decide +kernel
theorem dX7_isTaste_55 : decode cX7_isTaste 55 = .ok (.getfield 26, 3) := by decide +kernel
theorem dX7_isTaste_58 : decode cX7_isTaste 58 = .ok (.iload_n 3, 1) := by decide +kernel
theorem dX7_isTaste_59 : decode cX7_isTaste 59 = .ok (.laload, 1) := by decide +kernel
theorem dX7_isTaste_60 : decode cX7_isTaste 60 = .ok (.iload 5, 2) := by decide +kernel
theorem dX7_isTaste_62 : decode cX7_isTaste 62 = .ok (.invokestatic 143, 3) := by decide +kernel
theorem dX7_isTaste_65 : decode cX7_isTaste 65 = .ok (.ifCond .eq 28, 3) := by decide +kernel
theorem dX7_isTaste_68 : decode cX7_isTaste 68 = .ok (.iload 6, 2) := by decide +kernel
theorem dX7_isTaste_70 : decode cX7_isTaste 70 = .ok (.iload 4, 2) := by decide +kernel
theorem dX7_isTaste_72 : decode cX7_isTaste 72 = .ok (.if_icmp .lt 21, 3) := by decide +kernel
theorem dX7_isTaste_75 : decode cX7_isTaste 75 = .ok (.iload 6, 2) := by decide +kernel
theorem dX7_isTaste_77 : decode cX7_isTaste 77 = .ok (.iload 4, 2) := by decide +kernel
theorem dX7_isTaste_79 : decode cX7_isTaste 79 = .ok (.if_icmp .ne 18, 3) := by decide +kernel
theorem dX7_isTaste_82 : decode cX7_isTaste 82 = .ok (.iload 5, 2) := by decide +kernel
theorem dX7_isTaste_84 : decode cX7_isTaste 84 = .ok (.aload_n 0, 1) := by decide +kernel
theorem dX7_isTaste_85 : decode cX7_isTaste 85 = .ok (.getfield 30, 3) := by decide +kernel
theorem dX7_isTaste_88 : decode cX7_isTaste 88 = .ok (.iload_n 3, 1) := by decide +kernel
theorem dX7_isTaste_89 : decode cX7_isTaste 89 = .ok (.iaload, 1) := by decide +kernel
theorem dX7_isTaste_90 : decode cX7_isTaste 90 = .ok (.if_icmp .lt 7, 3) := by decide +kernel
theorem dX7_isTaste_93 : decode cX7_isTaste 93 = .ok (.iconst 1, 1) := by decide +kernel
theorem dX7_isTaste_94 : decode cX7_isTaste 94 = .ok (.goto 4, 3) := by decide +kernel
theorem dX7_isTaste_97 : decode cX7_isTaste 97 = .ok (.iconst 0, 1) := by decide +kernel
theorem dX7_isTaste_98 : decode cX7_isTaste 98 = .ok (.istore_n 2, 1) := by decide +kernel
theorem dX7_isTaste_99 : decode cX7_isTaste 99 = .ok (.iinc 5 1, 3) := by decide +kernel
theorem dX7_isTaste_102 : decode cX7_isTaste 102 = .ok (.goto (-70), 3) := by decide +kernel
theorem dX7_isTaste_105 : decode cX7_isTaste 105 = .ok (.iinc 3 1, 3) := by decide +kernel
theorem dX7_isTaste_108 : decode cX7_isTaste 108 = .ok (.goto (-104), 3) := by decide +kernel
theorem dX7_isTaste_111 : decode cX7_isTaste 111 = .ok (.iload_n 2, 1) := by decide +kernel
theorem dX7_isTaste_112 : decode cX7_isTaste 112 = .ok (.ireturn, 1) := by decide +kernel
theorem dX7_fit_0 : decode cX7_fit 0 = .ok (.iload_n 1, 1) := by decide +kernel
theorem dX7_fit_1 : decode cX7_fit 1 = .ok (.bipush (-2), 2) := by decide +kernel
theorem dX7_fit_3 : decode cX7_fit 3 = .ok (.aload_n 0, 1) := by decide +kernel
theorem dX7_fit_4 : decode cX7_fit 4 = .ok (.getfield 7, 3) := by decide +kernel
theorem dX7_fit_7 : decode cX7_fit 7 = .ok (.iconst 1, 1) := by decide +kernel
theorem dX7_fit_8 : decode cX7_fit 8 = .ok (.isub, 1) := by decide +kernel
theorem dX7_fit_9 : decode cX7_fit 9 = .ok (.invokestatic 99, 3) := by decide +kernel
theorem dX7_fit_12 : decode cX7_fit 12 = .ok (.ifCond .ne 5, 3) := by decide +kernel
theorem dX7_fit_15 : decode cX7_fit 15 = .ok (.iconst (-1), 1) := by decide +kernel
theorem dX7_fit_16 : decode cX7_fit 16 = .ok (.ireturn, 1) := by decide +kernel
theorem dX7_fit_17 : decode cX7_fit 17 = .ok (.iconst 0, 1) := by decide +kernel
theorem dX7_fit_18 : decode cX7_fit 18 = .ok (.istore_n 2, 1) := by decide +kernel
theorem dX7_fit_19 : decode cX7_fit 19 = .ok (.bipush (-6), 2) := by decide +kernel
theorem dX7_fit_21 : decode cX7_fit 21 = .ok (.istore_n 3, 1) := by decide +kernel
theorem dX7_fit_22 : decode cX7_fit 22 = .ok (.iconst 0, 1) := by decide +kernel
theorem dX7_fit_23 : decode cX7_fit 23 = .ok (.istore 4, 2) := by decide +kernel
theorem dX7_fit_25 : decode cX7_fit 25 = .ok (.iconst 0, 1) := by decide +kernel
theorem dX7_fit_26 : decode cX7_fit 26 = .ok (.istore 5, 2) := by decide +kernel
theorem dX7_fit_28 : decode cX7_fit 28 = .ok (.iload 5, 2) := by decide +kernel
theorem dX7_fit_30 : decode cX7_fit 30 = .ok (.aload_n 0, 1) := by decide +kernel
theorem dX7_fit_31 : decode cX7_fit 31 = .ok (.invokevirtual 201, 3) := by decide +kernel
theorem dX7_fit_34 : decode cX7_fit 34 = .ok (.if_icmp .ge 54, 3) := by decide +kernel
theorem dX7_fit_37 : decode cX7_fit 37 = .ok (.aload_n 0, 1) := by decide +kernel
theorem dX7_fit_38 : decode cX7_fit 38 = .ok (.iload 5, 2) := by decide +kernel
theorem dX7_fit_40 : decode cX7_fit 40 = .ok (.invokevirtual 230, 3) := by decide +kernel
theorem dX7_fit_43 : decode cX7_fit 43 = .ok (.ifCond .eq 39, 3) := by decide +kernel
theorem dX7_fit_46 : decode cX7_fit 46 = .ok (.iload_n 2, 1) := by decide +kernel
theorem dX7_fit_47 : decode cX7_fit 47 = .ok (.ifCond .ne 8, 3) := by decide +kernel
theorem dX7_fit_50 : decode cX7_fit 50 = .ok (.iload 5, 2) := by decide +kernel
theorem dX7_fit_52 : decode cX7_fit 52 = .ok (.goto 4, 3) := by decide +kernel
theorem dX7_fit_55 : decode cX7_fit 55 = .ok (.iload_n 3, 1) := by decide +kernel
theorem dX7_fit_56 : decode cX7_fit 56 = .ok (.istore_n 3, 1) := by decide +kernel
theorem dX7_fit_57 : decode cX7_fit 57 = .ok (.iload 4, 2) := by decide +kernel
theorem dX7_fit_59 : decode cX7_fit 59 = .ok (.iload_n 1, 1) := by decide +kernel
theorem dX7_fit_60 : decode cX7_fit 60 = .ok (.ifCond .lt 15, 3) := by decide +kernel
theorem dX7_fit_63 : decode cX7_fit 63 = .ok (.iconst 1, 1) := by decide +kernel
theorem dX7_fit_64 : decode cX7_fit 64 = .ok (.aload_n 0, 1) := by decide +kernel
theorem dX7_fit_65 : decode cX7_fit 65 = .ok (.iload 5, 2) := by decide +kernel
theorem dX7_fit_67 : decode cX7_fit 67 = .ok (.iload_n 1, 1) := by decide +kernel
theorem dX7_fit_68 : decode cX7_fit 68 = .ok (.invokevirtual 181, 3) := by decide +kernel
theorem dX7_fit_71 : decode cX7_fit 71 = .ok (.ishl, 1) := by decide +kernel
theorem dX7_fit_72 : decode cX7_fit 72 = .ok (.goto 4, 3) := by decide +kernel
theorem dX7_fit_75 : decode cX7_fit 75 = .ok (.iconst 0, 1) := by decide +kernel
theorem dX7_fit_76 : decode cX7_fit 76 = .ok (.ior, 1) := by decide +kernel
theorem dX7_fit_77 : decode cX7_fit 77 = .ok (.istore 4, 2) := by decide +kernel
theorem dX7_fit_79 : decode cX7_fit 79 = .ok (.iinc 2 1, 3) := by decide +kernel
theorem dX7_fit_82 : decode cX7_fit 82 = .ok (.iinc 5 1, 3) := by decide +kernel
theorem dX7_fit_85 : decode cX7_fit 85 = .ok (.goto (-57), 3) := by decide +kernel
theorem dX7_fit_88 : decode cX7_fit 88 = .ok (.iload_n 1, 1) := by decide +kernel
theorem dX7_fit_89 : decode cX7_fit 89 = .ok (.iconst (-1), 1) := by decide +kernel
theorem dX7_fit_90 : decode cX7_fit 90 = .ok (.if_icmp .ne 7, 3) := by decide +kernel
theorem dX7_fit_93 : decode cX7_fit 93 = .ok (.iload_n 2, 1) := by decide +kernel
theorem dX7_fit_94 : decode cX7_fit 94 = .ok (.goto 15, 3) := by decide +kernel
theorem dX7_fit_97 : decode cX7_fit 97 = .ok (.iload_n 1, 1) := by decide +kernel
theorem dX7_fit_98 : decode cX7_fit 98 = .ok (.bipush (-2), 2) := by decide +kernel
theorem dX7_fit_100 : decode cX7_fit 100 = .ok (.if_icmp .ne 7, 3) := by decide +kernel
theorem dX7_fit_103 : decode cX7_fit 103 = .ok (.iload_n 3, 1) := by decide +kernel
theorem dX7_fit_104 : decode cX7_fit 104 = .ok (.goto 5, 3) := by decide +kernel
theorem dX7_fit_107 : decode cX7_fit 107 = .ok (.iload 4, 2) := by decide +kernel
theorem dX7_fit_109 : decode cX7_fit 109 = .ok (.ireturn, 1) := by decide +kernel
theorem dX7_told_0 : decode cX7_told 0 = .ok (.iload_n 1, 1) := by decide +kernel
theorem dX7_told_1 : decode cX7_told 1 = .ok (.bipush 10, 2) := by decide +kernel
theorem dX7_told_3 : decode cX7_told 3 = .ok (.irem, 1) := by decide +kernel
theorem dX7_told_4 : decode cX7_told 4 = .ok (.istore_n 2, 1) := by decide +kernel
theorem dX7_told_5 : decode cX7_told 5 = .ok (.iload_n 1, 1) := by decide +kernel
theorem dX7_told_6 : decode cX7_told 6 = .ok (.bipush 30, 2) := by decide +kernel
theorem dX7_told_8 : decode cX7_told 8 = .ok (.bipush 69, 2) := by decide +kernel
theorem dX7_told_10 : decode cX7_told 10 = .ok (.invokestatic 99, 3) := by decide +kernel
theorem dX7_told_13 : decode cX7_told 13 = .ok (.ifCond .eq 37, 3) := by decide +kernel
theorem dX7_told_16 : decode cX7_told 16 = .ok (.aload_n 0, 1) := by decide +kernel
theorem dX7_told_17 : decode cX7_told 17 = .ok (.iload_n 2, 1) := by decide +kernel
theorem dX7_told_18 : decode cX7_told 18 = .ok (.invokevirtual 107, 3) := by decide +kernel
theorem dX7_told_21 : decode cX7_told 21 = .ok (.ifCond .eq 26, 3) := by decide +kernel
theorem dX7_told_24 : decode cX7_told 24 = .ok (.aload_n 0, 1) := by decide +kernel
theorem dX7_told_25 : decode cX7_told 25 = .ok (.getfield 13, 3) := by decide +kernel
theorem dX7_told_28 : decode cX7_told 28 = .ok (.bipush 6, 2) := by decide +kernel
theorem dX7_told_30 : decode cX7_told 30 = .ok (.iload_n 1, 1) := by decide +kernel
theorem dX7_told_31 : decode cX7_told 31 = .ok (.bipush 10, 2) := by decide +kernel
theorem dX7_told_33 : decode cX7_told 33 = .ok (.idiv, 1) := by decide +kernel
theorem dX7_told_34 : decode cX7_told 34 = .ok (.iconst 3, 1) := by decide +kernel
theorem dX7_told_35 : decode cX7_told 35 = .ok (.isub, 1) := by decide +kernel
theorem dX7_told_36 : decode cX7_told 36 = .ok (.imul, 1) := by decide +kernel
theorem dX7_told_37 : decode cX7_told 37 = .ok (.iload_n 2, 1) := by decide +kernel
theorem dX7_told_38 : decode cX7_told 38 = .ok (.iadd, 1) := by decide +kernel
theorem dX7_told_39 : decode cX7_told 39 = .ok (.iaload, 1) := by decide +kernel
theorem dX7_told_40 : decode cX7_told 40 = .ok (.sipush 1000, 3) := by decide +kernel
theorem dX7_told_43 : decode cX7_told 43 = .ok (.iadd, 1) := by decide +kernel
theorem dX7_told_44 : decode cX7_told 44 = .ok (.goto 5, 3) := by decide +kernel
theorem dX7_told_47 : decode cX7_told 47 = .ok (.bipush (-2), 2) := by decide +kernel
theorem dX7_told_49 : decode cX7_told 49 = .ok (.ireturn, 1) := by decide +kernel
theorem dX7_told_50 : decode cX7_told 50 = .ok (.iload_n 1, 1) := by decide +kernel
theorem dX7_told_51 : decode cX7_told 51 = .ok (.bipush 10, 2) := by decide +kernel
theorem dX7_told_53 : decode cX7_told 53 = .ok (.bipush 29, 2) := by decide +kernel
theorem dX7_told_55 : decode cX7_told 55 = .ok (.invokestatic 99, 3) := by decide +kernel
theorem dX7_told_58 : decode cX7_told 58 = .ok (.ifCond .eq 52, 3) := by decide +kernel
theorem dX7_told_61 : decode cX7_told 61 = .ok (.iload_n 1, 1) := by decide +kernel
theorem dX7_told_62 : decode cX7_told 62 = .ok (.bipush 20, 2) := by decide +kernel
theorem dX7_told_64 : decode cX7_told 64 = .ok (.if_icmp .ge 29, 3) := by decide +kernel
theorem dX7_told_67 : decode cX7_told 67 = .ok (.aload_n 0, 1) := by decide +kernel
theorem dX7_told_68 : decode cX7_told 68 = .ok (.iload_n 2, 1) := by decide +kernel
theorem dX7_told_69 : decode cX7_told 69 = .ok (.invokevirtual 107, 3) := by decide +kernel
theorem dX7_told_72 : decode cX7_told 72 = .ok (.ifCond .eq 16, 3) := by decide +kernel
theorem dX7_told_75 : decode cX7_told 75 = .ok (.aload_n 0, 1) := by decide +kernel
theorem dX7_told_76 : decode cX7_told 76 = .ok (.getfield 17, 3) := by decide +kernel
theorem dX7_told_79 : decode cX7_told 79 = .ok (.iload_n 2, 1) := by decide +kernel
theorem dX7_told_80 : decode cX7_told 80 = .ok (.iaload, 1) := by decide +kernel
theorem dX7_told_81 : decode cX7_told 81 = .ok (.sipush 1000, 3) := by decide +kernel
theorem dX7_told_84 : decode cX7_told 84 = .ok (.iadd, 1) := by decide +kernel
theorem dX7_told_85 : decode cX7_told 85 = .ok (.goto 24, 3) := by decide +kernel
theorem dX7_told_88 : decode cX7_told 88 = .ok (.bipush (-2), 2) := by decide +kernel
theorem dX7_told_90 : decode cX7_told 90 = .ok (.goto 19, 3) := by decide +kernel
theorem dX7_told_93 : decode cX7_told 93 = .ok (.iload_n 2, 1) := by decide +kernel
theorem dX7_told_94 : decode cX7_told 94 = .ok (.iconst 4, 1) := by decide +kernel
theorem dX7_told_95 : decode cX7_told 95 = .ok (.if_icmp .ge 12, 3) := by decide +kernel
theorem dX7_told_98 : decode cX7_told 98 = .ok (.aload_n 0, 1) := by decide +kernel
theorem dX7_told_99 : decode cX7_told 99 = .ok (.getfield 20, 3) := by decide +kernel
theorem dX7_told_102 : decode cX7_told 102 = .ok (.iload_n 2, 1) := by decide +kernel
theorem dX7_told_103 : decode cX7_told 103 = .ok (.iaload, 1) := by decide +kernel
theorem dX7_told_104 : decode cX7_told 104 = .ok (.goto 5, 3) := by decide +kernel
theorem dX7_told_107 : decode cX7_told 107 = .ok (.bipush (-2), 2) := by decide +kernel
theorem dX7_told_109 : decode cX7_told 109 = .ok (.ireturn, 1) := by decide +kernel
theorem dX7_told_110 : decode cX7_told 110 = .ok (.iload_n 1, 1) := by decide +kernel
theorem dX7_told_111 : decode cX7_told 111 = .ok (.tableswitch 94 0 8 #[49, 54, 59, 64, 69, 74, 79, 84, 89], 49) := by decide +kernel
theorem dX7_told_160 : decode cX7_told 160 = .ok (.aload_n 0, 1) := by decide +kernel
theorem dX7_told_161 : decode cX7_told 161 = .ok (.getfield 121, 3) := by decide +kernel
theorem dX7_told_164 : decode cX7_told 164 = .ok (.ireturn, 1) := by decide +kernel
theorem dX7_told_165 : decode cX7_told 165 = .ok (.aload_n 0, 1) := by decide +kernel
theorem dX7_told_166 : decode cX7_told 166 = .ok (.getfield 7, 3) := by decide +kernel
theorem dX7_told_169 : decode cX7_told 169 = .ok (.ireturn, 1) := by decide +kernel
theorem dX7_told_170 : decode cX7_told 170 = .ok (.aload_n 0, 1) := by decide +kernel
theorem dX7_told_171 : decode cX7_told 171 = .ok (.getfield 73, 3) := by decide +kernel
theorem dX7_told_174 : decode cX7_told 174 = .ok (.ireturn, 1) := by decide +kernel
theorem dX7_told_175 : decode cX7_told 175 = .ok (.aload_n 0, 1) := by decide +kernel
theorem dX7_told_176 : decode cX7_told 176 = .ok (.getfield 64, 3) := by decide +kernel
theorem dX7_told_179 : decode cX7_told 179 = .ok (.ireturn, 1) := by decide +kernel
theorem dX7_told_180 : decode cX7_told 180 = .ok (.aload_n 0, 1) := by decide +kernel
theorem dX7_told_181 : decode cX7_told 181 = .ok (.getfield 67, 3) := by decide +kernel
theorem dX7_told_184 : decode cX7_told 184 = .ok (.ireturn, 1) := by decide +kernel
theorem dX7_told_185 : decode cX7_told 185 = .ok (.aload_n 0, 1) := by decide +kernel
theorem dX7_told_186 : decode cX7_told 186 = .ok (.getfield 70, 3) := by decide +kernel
theorem dX7_told_189 : decode cX7_told 189 = .ok (.ireturn, 1) := by decide +kernel
theorem dX7_told_190 : decode cX7_told 190 = .ok (.aload_n 0, 1) := by decide +kernel
theorem dX7_told_191 : decode cX7_told 191 = .ok (.getfield 84, 3) := by decide +kernel
theorem dX7_told_194 : decode cX7_told 194 = .ok (.ireturn, 1) := by decide +kernel
theorem dX7_told_195 : decode cX7_told 195 = .ok (.aload_n 0, 1) := by decide +kernel
theorem dX7_told_196 : decode cX7_told 196 = .ok (.getfield 87, 3) := by decide +kernel
theorem dX7_told_199 : decode cX7_told 199 = .ok (.ireturn, 1) := by decide +kernel
theorem dX7_told_200 : decode cX7_told 200 = .ok (.aload_n 0, 1) := by decide +kernel
theorem dX7_told_201 : decode cX7_told 201 = .ok (.getfield 90, 3) := by decide +kernel
theorem dX7_told_204 : decode cX7_told 204 = .ok (.ireturn, 1) := by decide +kernel
theorem dX7_told_205 : decode cX7_told 205 = .ok (.iload_n 1, 1) := by decide +kernel
theorem dX7_told_206 : decode cX7_told 206 = .ok (.bipush 9, 2) := by decide +kernel
theorem dX7_told_208 : decode cX7_told 208 = .ok (.if_icmp .ne 14, 3) := by decide +kernel
theorem dX7_told_211 : decode cX7_told 211 = .ok (.aload_n 0, 1) := by decide +kernel
theorem dX7_told_212 : decode cX7_told 212 = .ok (.aload_n 0, 1) := by decide +kernel
theorem dX7_told_213 : decode cX7_told 213 = .ok (.getfield 80, 3) := by decide +kernel
theorem dX7_told_216 : decode cX7_told 216 = .ok (.invokevirtual 161, 3) := by decide +kernel
theorem dX7_told_219 : decode cX7_told 219 = .ok (.goto 5, 3) := by decide +kernel
theorem dX7_told_222 : decode cX7_told 222 = .ok (.bipush (-2), 2) := by decide +kernel
theorem dX7_told_224 : decode cX7_told 224 = .ok (.ireturn, 1) := by decide +kernel
def tbF (t num w : Nat) : Int32 := upto (fun k s => s + if w.testBit k then nI (dig t num k) - 1 else 0) t 0
def allN (f : Nat → Bool) : Nat → Bool
  | 0 => true
  | k + 1 => allN f k && f k
theorem allN_f {f : Nat → Bool} {k : Nat} (h : allN f k = false) : ∀ j, allN f (k + j) = false
  | 0 => h
  | j + 1 => by show (allN f (k + j) && f (k + j)) = false; rw [allN_f h j, Bool.false_and]
theorem allN_iff {f : Nat → Bool} : ∀ k, allN f k = true ↔ ∀ i, i < k → f i = true
  | 0 => ⟨fun _ i hi => absurd hi (by omega), fun _ => rfl⟩
  | k + 1 => by
    have ih := allN_iff (f := f) k
    show (allN f k && f k) = true ↔ _
    rw [Bool.and_eq_true, ih]
    constructor
    · intro ⟨h1, h2⟩ i hi
      by_cases e : i = k
      · rw [e]; exact h2
      · exact h1 i (by omega)
    · intro h
      exact ⟨fun i hi => h i (by omega), h k (by omega)⟩
/-- does a world leave the picked one as the best -/
def tkB (t num : Nat) (K : Int64) (v w : Nat) : Bool := !lbit K w || (decide (tbF t num w < tbF t num v) || (decide (tbF t num w = tbF t num v) && decide (v ≤ w)))
def pvN (I : Nat → Nat → Int32) (p : Nat) : Nat := (I 39 p).toNatClampNeg
def tsP (I : Nat → Nat → Int32) (J : Nat → Nat → Int64) (t num p : Nat) : Bool := allN (tkB t num (J 38 p) (pvN I p)) (2 ^ t)
def tsF (I : Nat → Nat → Int32) (J : Nat → Nat → Int64) (t P num : Nat) : Bool := allN (tsP I J t num) P
def flF (ts : Nat → Bool) : Nat → Option Nat
  | 0 => none
  | k + 1 => match flF ts k with
    | none => if ts k then some k else none
    | some v => some v
theorem flF_n (ts : Nat → Bool) : ∀ k, flF ts k = none ↔ cN ts k = 0
  | 0 => by simp [flF, cN]
  | k + 1 => by
    have ih := flF_n ts k
    unfold flF cN
    cases h : flF ts k with
    | none =>
      rw [ih.mp h]
      cases hk : ts k <;> simp
    | some v =>
      have : ¬ cN ts k = 0 := fun e => by rw [ih.mpr e] at h; cases h
      simp; omega
def fdF (t th : Nat) (ts : Nat → Bool) : Nat → Nat
  | 0 => 0
  | k + 1 => fdF t th ts k ||| (if ts k then 2 ^ dig t k th else 0)
section MODEL21
variable {xl : Nat} {xs : Nat → Int32} {n : Nat} {h : Nat → PC} {I S : Nat → Nat → Int32} {J T : Nat → Nat → Int64} {X : Nat → Option Nat} {t sl wy wi he sg P : Nat}
theorem s_X7_tasteBy {num w : Nat} (hn : 49 ≤ n) (hm : MI I t sl wy wi he) (hu : num < 2 ^ 31) (hw : w < 64) : Rn xl xs 1 24 0 0 mX7_tasteBy [.ref 33, .int (nI num), .int (nI w)] n (sysH (ov I S) (ovJ J T) X) (some (.int (tbF t num w))) n (sysH (ov I S) (ovJ J T) X) := by
  intro Q hQ
  have hm' := hm
  obtain ⟨ht, ht2, h6, hs, hs6, hwy, h3, hwi, h4, hhe, hhl⟩ := hm'
  show Ev xl xs 1 24 0 0 mX7_tasteBy 0 [some (.ref 33), some (.int (nI num)), some (.int (nI w)), none, none] [] n (sysH (ov I S) (ovJ J T) X) Q
  have lp : ∀ j k, k + j = t → Ev xl xs 1 24 0 0 mX7_tasteBy 5 [some (.ref 33), some (.int (nI num)), some (.int (nI w)), some (.int (upto (fun k s => s + if w.testBit k then nI (dig t num k) - 1 else 0) k 0)), some (.int (nI k))] [] n (sysH (ov I S) (ovJ J T) X) Q := by
    intro j
    induction j using Nat.strongRecOn with
    | _ j ih =>
      intro k hk
      have e : ∀ h1, _ := fun (h1 : j - 1 < j) => ih (j - 1) h1 (k + 1)
      refine ev_iload (q := 7) dX7_tasteBy_5 rfl rfl ?_
      refine ev_aload_n (q := 8) dX7_tasteBy_7 rfl rfl ?_
      refine ev_get (q := 11) dX7_tasteBy_8 fr_X7_7 rfl (lt_n hn (by decide)) rfl rfl ?_
      rw [show ov I S 33 0 = nI t from ht]
      refine ev_icmp_ge (q := 14) 45 dX7_tasteBy_11 (by decide) rfl (fun c_11 => ?_) (fun c_11 => ?_)
      · have c_11 : t ≤ k := (nI_leI (by omega) (by omega)).mp c_11
        refine ev_iload_n (q := 46) dX7_tasteBy_45 rfl rfl ?_
        exact ev_iretE dX7_tasteBy_46 rfl rfl (by rw [show k = t by omega]; rfl) rfl rfl hQ
      · have c_11 : ¬ t ≤ k := fun h => c_11 ((nI_leI (by omega) (by omega)).mpr h)
        refine ev_iload_n (q := 15) dX7_tasteBy_14 rfl rfl ?_
        refine ev_iload_n (q := 16) dX7_tasteBy_15 rfl rfl ?_
        refine ev_iload (q := 18) dX7_tasteBy_16 rfl rfl ?_
        refine ev_callS2i (q := 21) dX7_tasteBy_18 ca_X7_113 (c_X7_has (by omega) (by omega)) (Nat.le_of_ble_eq_true rfl) (Nat.le_of_ble_eq_true rfl) (by decide) (by decide) rfl ?_
        refine ev_if_eq (q := 24) 36 dX7_tasteBy_21 (by decide) rfl (fun c_21 => ?_) (fun c_21 => ?_)
        · have c_21 := b2i_0.mp c_21
          refine ev_iconst (q := 37) (0) dX7_tasteBy_36 (by decide) rfl ?_
          refine ev_iadd (q := 38) dX7_tasteBy_37 rfl ?_
          refine ev_ist_3 (q := 39) dX7_tasteBy_38 rfl rfl ?_
          refine ev_inc_4 (q := 42) (nI (k + 1)) dX7_tasteBy_39 (nI_1 k) rfl rfl ?_
          refine ev_goto 5 dX7_tasteBy_42 (by decide) ?_
          have e := e (by omega) (by omega)
          simp only [upto, c_21] at e
          exact e
        · have c_21 := b2i_n0.mp c_21
          refine ev_aload_n (q := 25) dX7_tasteBy_24 rfl rfl ?_
          refine ev_iload_n (q := 26) dX7_tasteBy_25 rfl rfl ?_
          refine ev_iload (q := 28) dX7_tasteBy_26 rfl rfl ?_
          refine ev_callV2i (q := 31) dX7_tasteBy_28 ca_X7_181 (s_X7_digitOf hn hm (by omega) (by omega)) rfl (lt_n hn (by decide)) rfl rfl (Nat.le_of_ble_eq_true rfl) (Nat.le_of_ble_eq_true rfl) (by decide) (by decide) rfl ?_
          refine ev_iconst (q := 32) (1) dX7_tasteBy_31 (by decide) rfl ?_
          refine ev_isub (q := 33) dX7_tasteBy_32 rfl ?_
          refine ev_goto 37 dX7_tasteBy_33 (by decide) ?_
          refine ev_iadd (q := 38) dX7_tasteBy_37 rfl ?_
          refine ev_ist_3 (q := 39) dX7_tasteBy_38 rfl rfl ?_
          refine ev_inc_4 (q := 42) (nI (k + 1)) dX7_tasteBy_39 (nI_1 k) rfl rfl ?_
          refine ev_goto 5 dX7_tasteBy_42 (by decide) ?_
          have e := e (by omega) (by omega)
          simp only [upto, c_21] at e
          exact e
  refine ev_iconst (q := 1) (0) dX7_tasteBy_0 (by decide) rfl ?_
  refine ev_ist_3 (q := 2) dX7_tasteBy_1 rfl rfl ?_
  refine ev_iconst (q := 3) (0) dX7_tasteBy_2 (by decide) rfl ?_
  refine ev_ist_4 (q := 5) dX7_tasteBy_3 rfl rfl ?_
  exact lp t 0 (by omega)
theorem s_X7_isTaste {num : Nat} (hn : 49 ≤ n) (hm : MI I t sl wy wi he) (hp : I 33 11 = nI P) (hp6 : P ≤ 6) (hpv : ∀ p, p < P → I 39 p = nI (pvN I p) ∧ pvN I p < 2 ^ t) (hu : num < 2 ^ 31) : Rn xl xs 2 48 0 0 mX7_isTaste [.ref 33, .int (nI num)] n (sysH (ov I S) (ovJ J T) X) (some (.int (b2i (tsF I J t P num)))) n (sysH (ov I S) (ovJ J T) X) := by
  intro Q hQ
  have hm' := hm
  obtain ⟨ht, ht2, h6, hs, hs6, hwy, h3, hwi, h4, hhe, hhl⟩ := hm'
  have h64 := p2_le h6
  show Ev xl xs 2 48 0 0 mX7_isTaste 0 [some (.ref 33), some (.int (nI num)), none, none, none, none, none] [] n (sysH (ov I S) (ovJ J T) X) Q
  have inn : ∀ p, p < P → (∀ v a4 a5 a6, v = b2i (tsP I J t num p) → Ev xl xs 2 48 0 0 mX7_isTaste 105 [some (.ref 33), some (.int (nI num)), some (.int v), some (.int (nI p)), a4, a5, a6] [] n (sysH (ov I S) (ovJ J T) X) Q) → ∀ j k, k + j = 2 ^ t → ∀ a6, Ev xl xs 2 48 0 0 mX7_isTaste 32 [some (.ref 33), some (.int (nI num)), some (.int (b2i (allN (tkB t num (J 38 p) (pvN I p)) k))), some (.int (nI p)), some (.int (tbF t num (pvN I p))), some (.int (nI k)), a6] [] n (sysH (ov I S) (ovJ J T) X) Q := by
    intro p hpP hout j
    obtain ⟨hpv1, hpv2⟩ := hpv p hpP
    induction j using Nat.strongRecOn with
    | _ j ih =>
      intro k hk a6
      have e : ∀ h1, _ := fun (h1 : j - 1 < j) => ih (j - 1) h1 (k + 1)
      have J98 : ¬ 2 ^ t ≤ k → allN (tkB t num (J 38 p) (pvN I p)) k = true → ∀ x a6, x = b2i (tkB t num (J 38 p) (pvN I p) k) → Ev xl xs 2 48 0 0 mX7_isTaste 98 [some (.ref 33), some (.int (nI num)), some (.int (b2i (allN (tkB t num (J 38 p) (pvN I p)) k))), some (.int (nI p)), some (.int (tbF t num (pvN I p))), some (.int (nI k)), a6] [.int x] n (sysH (ov I S) (ovJ J T) X) Q := by
        intro hk2 ha x a6 hx
        subst hx
        have e := e (by omega) (by omega)
        simp only [allN, ha, Bool.true_and] at e
        refine ev_ist_2 (q := 99) dX7_isTaste_98 rfl rfl ?_
        refine ev_inc_5 (q := 102) (nI (k + 1)) dX7_isTaste_99 (nI_1 k) rfl rfl ?_
        refine ev_goto 32 dX7_isTaste_102 (by decide) ?_
        exact e _
      refine ev_iload (q := 34) dX7_isTaste_32 rfl rfl ?_
      refine ev_aload_n (q := 35) dX7_isTaste_34 rfl rfl ?_
      refine ev_callV0i (q := 38) dX7_isTaste_35 ca_X7_95 (s_X7_worlds hn hm) rfl (lt_n hn (by decide)) rfl rfl (Nat.le_of_ble_eq_true rfl) (Nat.le_of_ble_eq_true rfl) (by decide) (by decide) rfl ?_
      refine ev_icmp_ge (q := 41) 105 dX7_isTaste_38 (by decide) rfl (fun c_38 => ?_) (fun c_38 => ?_)
      · have c_38 : 2 ^ t ≤ k := (nI_leI (by omega) (by omega)).mp c_38
        first | exact hout _ _ _ _ (by rw [c_42, show tsP I J t num p = false from by have := allN_f c_42 j; rw [hk] at this; exact this]) | exact hout _ _ _ _ (by rw [show k = 2 ^ t by omega]; rfl)
      · have c_38 : ¬ 2 ^ t ≤ k := fun h => c_38 ((nI_leI (by omega) (by omega)).mpr h)
        refine ev_iload_n (q := 42) dX7_isTaste_41 rfl rfl ?_
        refine ev_if_eq (q := 45) 105 dX7_isTaste_42 (by decide) rfl (fun c_42 => ?_) (fun c_42 => ?_)
        · have c_42 : allN (tkB t num (J 38 p) (pvN I p)) k = false := b2i_0.mp c_42
          first | exact hout _ _ _ _ (by rw [c_42, show tsP I J t num p = false from by have := allN_f c_42 j; rw [hk] at this; exact this]) | exact hout _ _ _ _ (by rw [show k = 2 ^ t by omega]; rfl)
        · have c_42 : allN (tkB t num (J 38 p) (pvN I p)) k = true := b2i_n0.mp c_42
          refine ev_aload_n (q := 46) dX7_isTaste_45 rfl rfl ?_
          refine ev_iload_n (q := 47) dX7_isTaste_46 rfl rfl ?_
          refine ev_iload (q := 49) dX7_isTaste_47 rfl rfl ?_
          refine ev_callV2i (q := 52) dX7_isTaste_49 ca_X7_227 (s_X7_tasteBy hn hm (by omega) (by omega)) rfl (lt_n hn (by decide)) rfl rfl (Nat.le_of_ble_eq_true rfl) (Nat.le_of_ble_eq_true rfl) (by decide) (by decide) rfl ?_
          refine ev_ist_6 (q := 54) dX7_isTaste_52 rfl rfl ?_
          refine ev_aload_n (q := 55) dX7_isTaste_54 rfl rfl ?_
          refine ev_get (q := 58) dX7_isTaste_55 fr_X7_26 rfl (lt_n hn (by decide)) rfl rfl ?_
          refine ev_iload_n (q := 59) dX7_isTaste_58 rfl rfl ?_
          refine ev_laS (q := 60) p dX7_isTaste_59 rfl rfl (by omega) (lt_n hn (by decide)) rfl ?_
          refine ev_iload (q := 62) dX7_isTaste_60 rfl rfl ?_
          refine ev_callS2i (q := 65) dX7_isTaste_62 ca_X7_143 (c_X7_holds (by omega)) (Nat.le_of_ble_eq_true rfl) (Nat.le_of_ble_eq_true rfl) (by decide) (by decide) rfl ?_
          refine ev_if_eq (q := 68) 93 dX7_isTaste_65 (by decide) rfl (fun c_65 => ?_) (fun c_65 => ?_)
          · have c_65 : lbit (J 38 p) k = false := b2i_0.mp c_65
            refine ev_iconst (q := 94) (1) dX7_isTaste_93 (by decide) rfl ?_
            refine ev_goto 98 dX7_isTaste_94 (by decide) ?_
            first | exact J98 c_38 c_42 _ _ (by unfold tkB; rw [c_65]; rfl) | exact J98 c_38 c_42 _ _ (by unfold tkB; rw [c_65, decide_eq_true c_72]; rfl) | exact J98 c_38 c_42 _ _ (by unfold tkB; rw [c_65, decide_eq_false c_72, decide_eq_false c_79]; rfl) | exact J98 c_38 c_42 _ _ (by unfold tkB; rw [c_65, decide_eq_true c_79, decide_eq_true c_90, Bool.and_self, Bool.or_true, Bool.or_true]; rfl) | exact J98 c_38 c_42 _ _ (by unfold tkB; rw [c_65, decide_eq_false c_72, decide_eq_false c_90, Bool.and_false]; rfl)
          · have c_65 : lbit (J 38 p) k = true := b2i_n0.mp c_65
            refine ev_iload (q := 70) dX7_isTaste_68 rfl rfl ?_
            refine ev_iload (q := 72) dX7_isTaste_70 rfl rfl ?_
            refine ev_icmp_lt (q := 75) 93 dX7_isTaste_72 (by decide) rfl (fun c_72 => ?_) (fun c_72 => ?_)
            · have c_72 : tbF t num k < tbF t num (pvN I p) := c_72
              refine ev_iconst (q := 94) (1) dX7_isTaste_93 (by decide) rfl ?_
              refine ev_goto 98 dX7_isTaste_94 (by decide) ?_
              first | exact J98 c_38 c_42 _ _ (by unfold tkB; rw [c_65]; rfl) | exact J98 c_38 c_42 _ _ (by unfold tkB; rw [c_65, decide_eq_true c_72]; rfl) | exact J98 c_38 c_42 _ _ (by unfold tkB; rw [c_65, decide_eq_false c_72, decide_eq_false c_79]; rfl) | exact J98 c_38 c_42 _ _ (by unfold tkB; rw [c_65, decide_eq_true c_79, decide_eq_true c_90, Bool.and_self, Bool.or_true, Bool.or_true]; rfl) | exact J98 c_38 c_42 _ _ (by unfold tkB; rw [c_65, decide_eq_false c_72, decide_eq_false c_90, Bool.and_false]; rfl)
            · have c_72 : ¬ tbF t num k < tbF t num (pvN I p) := c_72
              refine ev_iload (q := 77) dX7_isTaste_75 rfl rfl ?_
              refine ev_iload (q := 79) dX7_isTaste_77 rfl rfl ?_
              refine ev_icmp_ne (q := 82) 97 dX7_isTaste_79 (by decide) rfl (fun c_79 => ?_) (fun c_79 => ?_)
              · have c_79 : ¬ tbF t num k = tbF t num (pvN I p) := c_79
                refine ev_iconst (q := 98) (0) dX7_isTaste_97 (by decide) rfl ?_
                first | exact J98 c_38 c_42 _ _ (by unfold tkB; rw [c_65]; rfl) | exact J98 c_38 c_42 _ _ (by unfold tkB; rw [c_65, decide_eq_true c_72]; rfl) | exact J98 c_38 c_42 _ _ (by unfold tkB; rw [c_65, decide_eq_false c_72, decide_eq_false c_79]; rfl) | exact J98 c_38 c_42 _ _ (by unfold tkB; rw [c_65, decide_eq_true c_79, decide_eq_true c_90, Bool.and_self, Bool.or_true, Bool.or_true]; rfl) | exact J98 c_38 c_42 _ _ (by unfold tkB; rw [c_65, decide_eq_false c_72, decide_eq_false c_90, Bool.and_false]; rfl)
              · have c_79 : tbF t num k = tbF t num (pvN I p) := c_79
                refine ev_iload (q := 84) dX7_isTaste_82 rfl rfl ?_
                refine ev_aload_n (q := 85) dX7_isTaste_84 rfl rfl ?_
                refine ev_get (q := 88) dX7_isTaste_85 fr_X7_30 rfl (lt_n hn (by decide)) rfl rfl ?_
                refine ev_iload_n (q := 89) dX7_isTaste_88 rfl rfl ?_
                refine ev_iaS (q := 90) p dX7_isTaste_89 rfl rfl (by omega) (lt_n hn (by decide)) rfl ?_
                rw [show ov I S 39 p = nI (pvN I p) from hpv1]
                refine ev_icmp_lt (q := 93) 97 dX7_isTaste_90 (by decide) rfl (fun c_90 => ?_) (fun c_90 => ?_)
                · have c_90 : ¬ pvN I p ≤ k := Nat.not_le.mpr ((nI_ltI (by omega) (by omega)).mp c_90)
                  refine ev_iconst (q := 98) (0) dX7_isTaste_97 (by decide) rfl ?_
                  first | exact J98 c_38 c_42 _ _ (by unfold tkB; rw [c_65]; rfl) | exact J98 c_38 c_42 _ _ (by unfold tkB; rw [c_65, decide_eq_true c_72]; rfl) | exact J98 c_38 c_42 _ _ (by unfold tkB; rw [c_65, decide_eq_false c_72, decide_eq_false c_79]; rfl) | exact J98 c_38 c_42 _ _ (by unfold tkB; rw [c_65, decide_eq_true c_79, decide_eq_true c_90, Bool.and_self, Bool.or_true, Bool.or_true]; rfl) | exact J98 c_38 c_42 _ _ (by unfold tkB; rw [c_65, decide_eq_false c_72, decide_eq_false c_90, Bool.and_false]; rfl)
                · have c_90 : pvN I p ≤ k := Nat.not_lt.mp fun h => c_90 ((nI_ltI (by omega) (by omega)).mpr h)
                  refine ev_iconst (q := 94) (1) dX7_isTaste_93 (by decide) rfl ?_
                  refine ev_goto 98 dX7_isTaste_94 (by decide) ?_
                  first | exact J98 c_38 c_42 _ _ (by unfold tkB; rw [c_65]; rfl) | exact J98 c_38 c_42 _ _ (by unfold tkB; rw [c_65, decide_eq_true c_72]; rfl) | exact J98 c_38 c_42 _ _ (by unfold tkB; rw [c_65, decide_eq_false c_72, decide_eq_false c_79]; rfl) | exact J98 c_38 c_42 _ _ (by unfold tkB; rw [c_65, decide_eq_true c_79, decide_eq_true c_90, Bool.and_self, Bool.or_true, Bool.or_true]; rfl) | exact J98 c_38 c_42 _ _ (by unfold tkB; rw [c_65, decide_eq_false c_72, decide_eq_false c_90, Bool.and_false]; rfl)
  have lp : ∀ j k, k + j = P → ∀ a4 a5 a6, Ev xl xs 2 48 0 0 mX7_isTaste 4 [some (.ref 33), some (.int (nI num)), some (.int (b2i (allN (tsP I J t num) k))), some (.int (nI k)), a4, a5, a6] [] n (sysH (ov I S) (ovJ J T) X) Q := by
    intro j
    induction j using Nat.strongRecOn with
    | _ j ih =>
      intro k hk a4 a5 a6
      have e : ∀ h1, _ := fun (h1 : j - 1 < j) => ih (j - 1) h1 (k + 1)
      have nx : ¬ P ≤ k → allN (tsP I J t num) k = true → ∀ v a4 a5 a6, v = b2i (tsP I J t num k) → Ev xl xs 2 48 0 0 mX7_isTaste 105 [some (.ref 33), some (.int (nI num)), some (.int v), some (.int (nI k)), a4, a5, a6] [] n (sysH (ov I S) (ovJ J T) X) Q := by
        intro hkP ha v a4 a5 a6 hv
        subst hv
        have e := e (by omega) (by omega)
        simp only [allN, ha, Bool.true_and] at e
        refine ev_inc_3 (q := 108) (nI (k + 1)) dX7_isTaste_105 (nI_1 k) rfl rfl ?_
        refine ev_goto 4 dX7_isTaste_108 (by decide) ?_
        exact e _ _ _
      refine ev_iload_n (q := 5) dX7_isTaste_4 rfl rfl ?_
      refine ev_aload_n (q := 6) dX7_isTaste_5 rfl rfl ?_
      refine ev_get (q := 9) dX7_isTaste_6 fr_X7_87 rfl (lt_n hn (by decide)) rfl rfl ?_
      rw [show ov I S 33 11 = nI P from hp]
      refine ev_icmp_ge (q := 12) 111 dX7_isTaste_9 (by decide) rfl (fun c_9 => ?_) (fun c_9 => ?_)
      · have c_9 : P ≤ k := (nI_leI (by omega) (by omega)).mp c_9
        refine ev_iload_n (q := 112) dX7_isTaste_111 rfl rfl ?_
        exact ev_iretE dX7_isTaste_112 rfl (nar_b2i _) (by first | (rw [show k = P by omega]; rfl) | (rw [c_13]; have e9 := allN_f c_13 j; rw [hk] at e9; unfold tsF; rw [e9])) rfl rfl hQ
      · have c_9 : ¬ P ≤ k := fun h => c_9 ((nI_leI (by omega) (by omega)).mpr h)
        refine ev_iload_n (q := 13) dX7_isTaste_12 rfl rfl ?_
        refine ev_if_eq (q := 16) 111 dX7_isTaste_13 (by decide) rfl (fun c_13 => ?_) (fun c_13 => ?_)
        · have c_13 := b2i_0.mp c_13
          refine ev_iload_n (q := 112) dX7_isTaste_111 rfl rfl ?_
          exact ev_iretE dX7_isTaste_112 rfl (nar_b2i _) (by first | (rw [show k = P by omega]; rfl) | (rw [c_13]; have e9 := allN_f c_13 j; rw [hk] at e9; unfold tsF; rw [e9])) rfl rfl hQ
        · have c_13 := b2i_n0.mp c_13
          refine ev_aload_n (q := 17) dX7_isTaste_16 rfl rfl ?_
          refine ev_iload_n (q := 18) dX7_isTaste_17 rfl rfl ?_
          refine ev_aload_n (q := 19) dX7_isTaste_18 rfl rfl ?_
          refine ev_get (q := 22) dX7_isTaste_19 fr_X7_30 rfl (lt_n hn (by decide)) rfl rfl ?_
          refine ev_iload_n (q := 23) dX7_isTaste_22 rfl rfl ?_
          refine ev_iaS (q := 24) k dX7_isTaste_23 rfl rfl (by omega) (lt_n hn (by decide)) rfl ?_
          rw [show ov I S 39 k = nI (pvN I k) from (hpv k (by omega)).1]
          have hpv2 := (hpv k (by omega)).2
          refine ev_callV2i (q := 27) dX7_isTaste_24 ca_X7_227 (s_X7_tasteBy hn hm (by omega) (by omega)) rfl (lt_n hn (by decide)) rfl rfl (Nat.le_of_ble_eq_true rfl) (Nat.le_of_ble_eq_true rfl) (by decide) (by decide) rfl ?_
          refine ev_ist_4 (q := 29) dX7_isTaste_27 rfl rfl ?_
          refine ev_iconst (q := 30) (0) dX7_isTaste_29 (by decide) rfl ?_
          refine ev_ist_5 (q := 32) dX7_isTaste_30 rfl rfl ?_
          rw [c_13]
          exact inn k (by omega) (nx c_9 c_13) (2 ^ t) 0 (by omega) _
  refine ev_iconst (q := 1) (1) dX7_isTaste_0 (by decide) rfl ?_
  refine ev_ist_2 (q := 2) dX7_isTaste_1 rfl rfl ?_
  refine ev_iconst (q := 3) (0) dX7_isTaste_2 (by decide) rfl ?_
  refine ev_ist_3 (q := 4) dX7_isTaste_3 rfl rfl ?_
  exact lp P 0 (by omega) _ _ _
theorem dig_lt (t num k : Nat) : dig t num k < 3 := Nat.mod_lt _ (by decide)
def ftA (I : Nat → Nat → Int32) (J : Nat → Nat → Int64) (t P : Nat) (v : Int32) : Int32 := if v = -1 then nI (cN (tsF I J t P) (3 ^ t)) else if v = -2 then eo (flF (tsF I J t P) (3 ^ t)) else nI (fdF t v.toNatClampNeg (tsF I J t P) (3 ^ t))
theorem s_X7_fit (hn : 49 ≤ n) (hm : MI I t sl wy wi he) (hp : I 33 11 = nI P) (hp6 : P ≤ 6) (hpv : ∀ p, p < P → I 39 p = nI (pvN I p) ∧ pvN I p < 2 ^ t) (v : Int32) : RnS xl xs 3 74 0 0 mX7_fit [.ref 33, .int v] n I J X (some (.int (if inb v (-2) (nI t - 1) then ftA I J t P v else -1))) n I J X := by
  intro S T Q hQ
  have hm' := hm
  obtain ⟨ht, ht2, h6, hs, hs6, hwy, h3, hwi, h4, hhe, hhl⟩ := hm'
  have h64 := p2_le h6
  have h729 := p3_le h6
  show Ev xl xs 3 74 0 0 mX7_fit 0 [some (.ref 33), some (.int v), none, none, none, none] [] n (sysH (ov I S) (ovJ J T) X) Q
  cases hin : inb v (-2) (nI t - 1) with
  | false =>
    rw [hin] at hQ
    refine ev_iload_n (q := 1) dX7_fit_0 rfl rfl ?_
    refine ev_bipush (q := 3) (-2) dX7_fit_1 (by decide) rfl ?_
    refine ev_aload_n (q := 4) dX7_fit_3 rfl rfl ?_
    refine ev_get (q := 7) dX7_fit_4 fr_X7_7 rfl (lt_n hn (by decide)) rfl rfl ?_
    refine ev_iconst (q := 8) (1) dX7_fit_7 (by decide) rfl ?_
    refine ev_isub (q := 9) dX7_fit_8 rfl ?_
    rw [show ov I S 33 0 = nI t from ht]
    refine ev_callS3i (q := 12) dX7_fit_9 ca_X7_99 (c_X7_in _ _ _) (Nat.le_of_ble_eq_true rfl) (Nat.le_of_ble_eq_true rfl) (by decide) (by decide) rfl ?_
    refine ev_if_ne (q := 15) 17 dX7_fit_12 (by decide) rfl (fun c_12 => ?_) (fun c_12 => ?_)
    · exact absurd (b2i_ne.mp c_12) (by rw [hin]; decide)
    · refine ev_iconst (q := 16) (-1) dX7_fit_15 (by decide) rfl ?_
      exact ev_iretE dX7_fit_16 rfl rfl rfl rfl rfl (hQ _ _)
  | true =>
    rw [hin, if_pos rfl] at hQ
    have hta : ∀ k, k < 2 ^ 31 → _ := fun k hk => s_X7_isTaste (xl := xl) (xs := xs) (n := n) (S := S) (J := J) (T := T) (X := X) (num := k) hn hm hp hp6 hpv hk
    unfold ftA at hQ
    generalize tsF I J t P = ts at hQ hta
    have hQ := hQ S T
    by_cases hv0 : v < 0
    · have lp : ∀ j k, k + j = 3 ^ t → Ev xl xs 3 74 0 0 mX7_fit 28 [some (.ref 33), some (.int v), some (.int (nI (cN ts k))), some (.int (eo (flF ts k))), some (.int 0), some (.int (nI k))] [] n (sysH (ov I S) (ovJ J T) X) Q := by
        intro j
        induction j using Nat.strongRecOn with
        | _ j ih =>
          intro k hk
          have e : ∀ h1, _ := fun (h1 : j - 1 < j) => ih (j - 1) h1 (k + 1)
          simp only [cN, flF] at e
          refine ev_iload (q := 30) dX7_fit_28 rfl rfl ?_
          refine ev_aload_n (q := 31) dX7_fit_30 rfl rfl ?_
          refine ev_callV0i (q := 34) dX7_fit_31 ca_X7_201 (s_X7_terms hn hm) rfl (lt_n hn (by decide)) rfl rfl (Nat.le_of_ble_eq_true rfl) (Nat.le_of_ble_eq_true rfl) (by decide) (by decide) rfl ?_
          refine ev_icmp_ge (q := 37) 88 dX7_fit_34 (by decide) rfl (fun c_34 => ?_) (fun c_34 => ?_)
          · have c_34 : 3 ^ t ≤ k := (nI_leI (by omega) (by omega)).mp c_34
            refine ev_iload_n (q := 89) dX7_fit_88 rfl rfl ?_
            refine ev_iconst (q := 90) (-1) dX7_fit_89 (by decide) rfl ?_
            refine ev_icmp_ne (q := 93) 97 dX7_fit_90 (by decide) rfl (fun c_90 => ?_) (fun c_90 => ?_)
            · have c_90 : ¬ v = -1 := c_90
              refine ev_iload_n (q := 98) dX7_fit_97 rfl rfl ?_
              refine ev_bipush (q := 100) (-2) dX7_fit_98 (by decide) rfl ?_
              refine ev_icmp_ne (q := 103) 107 dX7_fit_100 (by decide) rfl (fun c_100 => ?_) (fun c_100 => ?_)
              · exact absurd hin (by simp only [inb, Bool.and_eq_true, decide_eq_true_eq]; intro ⟨h1, h2⟩; have c_100 : ¬ v = -2 := c_100; have e1 : v.toInt ≠ -1 := fun e => c_90 (Int32.toInt_inj.mp e); have e2 : v.toInt ≠ -2 := fun e => c_100 (Int32.toInt_inj.mp e); have e3 : (-2 : Int32).toInt = -2 := rfl; have e4 : (0 : Int32).toInt = 0 := rfl; simp only [i_le, i_lt] at h1 hv0; omega)
              · have c_100 : v = -2 := c_100
                refine ev_iload_n (q := 104) dX7_fit_103 rfl rfl ?_
                refine ev_goto 109 dX7_fit_104 (by decide) ?_
                refine ev_iretE dX7_fit_109 rfl rfl ?_ rfl rfl hQ
                first | (rw [if_pos c_90, show k = 3 ^ t by omega]; done) | (rw [if_neg c_90, if_pos c_100, show k = 3 ^ t by omega])
            · have c_90 : v = -1 := c_90
              refine ev_iload_n (q := 94) dX7_fit_93 rfl rfl ?_
              refine ev_goto 109 dX7_fit_94 (by decide) ?_
              refine ev_iretE dX7_fit_109 rfl rfl ?_ rfl rfl hQ
              first | (rw [if_pos c_90, show k = 3 ^ t by omega]; done) | (rw [if_neg c_90, if_pos c_100, show k = 3 ^ t by omega])
          · have c_34 : ¬ 3 ^ t ≤ k := fun h => c_34 ((nI_leI (by omega) (by omega)).mpr h)
            have e := e (by omega) (by omega)
            refine ev_aload_n (q := 38) dX7_fit_37 rfl rfl ?_
            refine ev_iload (q := 40) dX7_fit_38 rfl rfl ?_
            refine ev_callV1i (q := 43) dX7_fit_40 ca_X7_230 (hta k (by omega)) rfl (lt_n hn (by decide)) rfl rfl (Nat.le_of_ble_eq_true rfl) (Nat.le_of_ble_eq_true rfl) (by decide) (by decide) rfl ?_
            refine ev_if_eq (q := 46) 82 dX7_fit_43 (by decide) rfl (fun c_43 => ?_) (fun c_43 => ?_)
            · have c_43 : ts k = false := b2i_0.mp c_43
              refine ev_inc_5 (q := 85) (nI (k + 1)) dX7_fit_82 (nI_1 k) rfl rfl ?_
              refine ev_goto 28 dX7_fit_85 (by decide) ?_
              first | (simp only [c_43, hu, if_true, c_47] at e ⊢; exact e) | (simp only [c_43, Bool.false_eq_true, if_false, Nat.add_zero] at e; cases hx : flF ts k <;> rw [hx] at e <;> exact e)
            · have c_43 : ts k = true := b2i_n0.mp c_43
              refine ev_iload_n (q := 47) dX7_fit_46 rfl rfl ?_
              refine ev_if_ne (q := 50) 55 dX7_fit_47 (by decide) rfl (fun c_47 => ?_) (fun c_47 => ?_)
              · have c_47 : ¬ cN ts k = 0 := fun h => c_47 (by rw [h]; rfl)
                obtain ⟨u, hu⟩ : ∃ u, flF ts k = some u := by cases hx : flF ts k with | none => exact absurd ((flF_n ts k).mp hx) c_47 | some u => exact ⟨u, rfl⟩
                refine ev_iload_n (q := 56) dX7_fit_55 rfl rfl ?_
                refine ev_ist_3 (q := 57) dX7_fit_56 rfl rfl ?_
                refine ev_iload (q := 59) dX7_fit_57 rfl rfl ?_
                refine ev_iload_n (q := 60) dX7_fit_59 rfl rfl ?_
                refine ev_if_lt (q := 63) 75 dX7_fit_60 (by decide) rfl (fun c_60 => ?_) (fun c_60 => ?_)
                · refine ev_iconst (q := 76) (0) dX7_fit_75 (by decide) rfl ?_
                  refine ev_ior (q := 77) dX7_fit_76 rfl ?_
                  refine ev_ist_4 (q := 79) dX7_fit_77 rfl rfl ?_
                  refine ev_inc_2 (q := 82) (nI (cN ts k + 1)) dX7_fit_79 (nI_1 _) rfl rfl ?_
                  refine ev_inc_5 (q := 85) (nI (k + 1)) dX7_fit_82 (nI_1 k) rfl rfl ?_
                  refine ev_goto 28 dX7_fit_85 (by decide) ?_
                  first | (simp only [c_43, hu, if_true, c_47] at e ⊢; exact e) | (simp only [c_43, Bool.false_eq_true, if_false, Nat.add_zero] at e; cases hx : flF ts k <;> rw [hx] at e <;> exact e)
                · exact absurd hv0 c_60
              · have c_47 : cN ts k = 0 := (nI_eq (b := 0) (by have := cN_le ts k; omega) (by omega)).mp c_47
                have hu := (flF_n ts k).mpr c_47
                refine ev_iload (q := 52) dX7_fit_50 rfl rfl ?_
                refine ev_goto 56 dX7_fit_52 (by decide) ?_
                refine ev_ist_3 (q := 57) dX7_fit_56 rfl rfl ?_
                refine ev_iload (q := 59) dX7_fit_57 rfl rfl ?_
                refine ev_iload_n (q := 60) dX7_fit_59 rfl rfl ?_
                refine ev_if_lt (q := 63) 75 dX7_fit_60 (by decide) rfl (fun c_60 => ?_) (fun c_60 => ?_)
                · refine ev_iconst (q := 76) (0) dX7_fit_75 (by decide) rfl ?_
                  refine ev_ior (q := 77) dX7_fit_76 rfl ?_
                  refine ev_ist_4 (q := 79) dX7_fit_77 rfl rfl ?_
                  refine ev_inc_2 (q := 82) (nI (cN ts k + 1)) dX7_fit_79 (nI_1 _) rfl rfl ?_
                  refine ev_inc_5 (q := 85) (nI (k + 1)) dX7_fit_82 (nI_1 k) rfl rfl ?_
                  refine ev_goto 28 dX7_fit_85 (by decide) ?_
                  first | (simp only [c_43, hu, if_true, c_47] at e ⊢; exact e) | (simp only [c_43, Bool.false_eq_true, if_false, Nat.add_zero] at e; cases hx : flF ts k <;> rw [hx] at e <;> exact e)
                · exact absurd hv0 c_60
      refine ev_iload_n (q := 1) dX7_fit_0 rfl rfl ?_
      refine ev_bipush (q := 3) (-2) dX7_fit_1 (by decide) rfl ?_
      refine ev_aload_n (q := 4) dX7_fit_3 rfl rfl ?_
      refine ev_get (q := 7) dX7_fit_4 fr_X7_7 rfl (lt_n hn (by decide)) rfl rfl ?_
      refine ev_iconst (q := 8) (1) dX7_fit_7 (by decide) rfl ?_
      refine ev_isub (q := 9) dX7_fit_8 rfl ?_
      rw [show ov I S 33 0 = nI t from ht]
      refine ev_callS3i (q := 12) dX7_fit_9 ca_X7_99 (c_X7_in _ _ _) (Nat.le_of_ble_eq_true rfl) (Nat.le_of_ble_eq_true rfl) (by decide) (by decide) rfl ?_
      refine ev_if_ne (q := 15) 17 dX7_fit_12 (by decide) rfl (fun c_12 => ?_) (fun c_12 => ?_)
      · refine ev_iconst (q := 18) (0) dX7_fit_17 (by decide) rfl ?_
        refine ev_ist_2 (q := 19) dX7_fit_18 rfl rfl ?_
        refine ev_bipush (q := 21) (-6) dX7_fit_19 (by decide) rfl ?_
        refine ev_ist_3 (q := 22) dX7_fit_21 rfl rfl ?_
        refine ev_iconst (q := 23) (0) dX7_fit_22 (by decide) rfl ?_
        refine ev_ist_4 (q := 25) dX7_fit_23 rfl rfl ?_
        refine ev_iconst (q := 26) (0) dX7_fit_25 (by decide) rfl ?_
        refine ev_ist_5 (q := 28) dX7_fit_26 rfl rfl ?_
        exact lp (3 ^ t) 0 (by omega)
      · exact absurd c_12 (b2i_n0.mpr hin)
    · obtain ⟨th, hth, rfl⟩ : ∃ th, th < t ∧ v = nI th := inb_nat (by omega) (by simp only [inb, Bool.and_eq_true, decide_eq_true_eq] at hin ⊢; exact ⟨by simp only [i_le, i_lt] at *; omega, hin.2⟩) (by omega)
      rw [if_neg (fun e => hv0 (by rw [e]; decide)), if_neg (fun e => hv0 (by rw [e]; decide)), nI_clamp (by omega)] at hQ
      have lp : ∀ j k, k + j = 3 ^ t → Ev xl xs 3 74 0 0 mX7_fit 28 [some (.ref 33), some (.int (nI th)), some (.int (nI (cN ts k))), some (.int (eo (flF ts k))), some (.int (nI (fdF t th ts k))), some (.int (nI k))] [] n (sysH (ov I S) (ovJ J T) X) Q := by
        intro j
        induction j using Nat.strongRecOn with
        | _ j ih =>
          intro k hk
          have e : ∀ h1, _ := fun (h1 : j - 1 < j) => ih (j - 1) h1 (k + 1)
          simp only [cN, flF, fdF] at e
          have hd := dig_lt t k th
          refine ev_iload (q := 30) dX7_fit_28 rfl rfl ?_
          refine ev_aload_n (q := 31) dX7_fit_30 rfl rfl ?_
          refine ev_callV0i (q := 34) dX7_fit_31 ca_X7_201 (s_X7_terms hn hm) rfl (lt_n hn (by decide)) rfl rfl (Nat.le_of_ble_eq_true rfl) (Nat.le_of_ble_eq_true rfl) (by decide) (by decide) rfl ?_
          refine ev_icmp_ge (q := 37) 88 dX7_fit_34 (by decide) rfl (fun c_34 => ?_) (fun c_34 => ?_)
          · have c_34 : 3 ^ t ≤ k := (nI_leI (by omega) (by omega)).mp c_34
            refine ev_iload_n (q := 89) dX7_fit_88 rfl rfl ?_
            refine ev_iconst (q := 90) (-1) dX7_fit_89 (by decide) rfl ?_
            refine ev_icmp_ne (q := 93) 97 dX7_fit_90 (by decide) rfl (fun c_90 => ?_) (fun c_90 => ?_)
            · refine ev_iload_n (q := 98) dX7_fit_97 rfl rfl ?_
              refine ev_bipush (q := 100) (-2) dX7_fit_98 (by decide) rfl ?_
              refine ev_icmp_ne (q := 103) 107 dX7_fit_100 (by decide) rfl (fun c_100 => ?_) (fun c_100 => ?_)
              · refine ev_iload (q := 109) dX7_fit_107 rfl rfl ?_
                exact ev_iretE dX7_fit_109 rfl rfl (by rw [show k = 3 ^ t by omega]) rfl rfl hQ
              · exact absurd (show nI th = -2 from c_100) (fun e => hv0 (by rw [e]; decide))
            · exact absurd (show nI th = -1 from c_90) (fun e => hv0 (by rw [e]; decide))
          · have c_34 : ¬ 3 ^ t ≤ k := fun h => c_34 ((nI_leI (by omega) (by omega)).mpr h)
            have e := e (by omega) (by omega)
            refine ev_aload_n (q := 38) dX7_fit_37 rfl rfl ?_
            refine ev_iload (q := 40) dX7_fit_38 rfl rfl ?_
            refine ev_callV1i (q := 43) dX7_fit_40 ca_X7_230 (hta k (by omega)) rfl (lt_n hn (by decide)) rfl rfl (Nat.le_of_ble_eq_true rfl) (Nat.le_of_ble_eq_true rfl) (by decide) (by decide) rfl ?_
            refine ev_if_eq (q := 46) 82 dX7_fit_43 (by decide) rfl (fun c_43 => ?_) (fun c_43 => ?_)
            · have c_43 : ts k = false := b2i_0.mp c_43
              refine ev_inc_5 (q := 85) (nI (k + 1)) dX7_fit_82 (nI_1 k) rfl rfl ?_
              refine ev_goto 28 dX7_fit_85 (by decide) ?_
              first | (rw [nI_sh1 (by omega), nI_or]; simp only [c_43, hu, if_true, c_47] at e ⊢; exact e) | (simp only [c_43, Bool.false_eq_true, if_false, Nat.add_zero, Nat.or_zero] at e; cases hx : flF ts k <;> rw [hx] at e <;> exact e)
            · have c_43 : ts k = true := b2i_n0.mp c_43
              refine ev_iload_n (q := 47) dX7_fit_46 rfl rfl ?_
              refine ev_if_ne (q := 50) 55 dX7_fit_47 (by decide) rfl (fun c_47 => ?_) (fun c_47 => ?_)
              · have c_47 : ¬ cN ts k = 0 := fun h => c_47 (by rw [h]; rfl)
                obtain ⟨u, hu⟩ : ∃ u, flF ts k = some u := by cases hx : flF ts k with | none => exact absurd ((flF_n ts k).mp hx) c_47 | some u => exact ⟨u, rfl⟩
                refine ev_iload_n (q := 56) dX7_fit_55 rfl rfl ?_
                refine ev_ist_3 (q := 57) dX7_fit_56 rfl rfl ?_
                refine ev_iload (q := 59) dX7_fit_57 rfl rfl ?_
                refine ev_iload_n (q := 60) dX7_fit_59 rfl rfl ?_
                refine ev_if_lt (q := 63) 75 dX7_fit_60 (by decide) rfl (fun c_60 => ?_) (fun c_60 => ?_)
                · exact absurd c_60 hv0
                · refine ev_iconst (q := 64) (1) dX7_fit_63 (by decide) rfl ?_
                  refine ev_aload_n (q := 65) dX7_fit_64 rfl rfl ?_
                  refine ev_iload (q := 67) dX7_fit_65 rfl rfl ?_
                  refine ev_iload_n (q := 68) dX7_fit_67 rfl rfl ?_
                  refine ev_callV2i (q := 71) dX7_fit_68 ca_X7_181 (s_X7_digitOf hn hm (by omega) (by omega)) rfl (lt_n hn (by decide)) rfl rfl (Nat.le_of_ble_eq_true rfl) (Nat.le_of_ble_eq_true rfl) (by decide) (by decide) rfl ?_
                  refine ev_ishl (q := 72) dX7_fit_71 rfl ?_
                  refine ev_goto 76 dX7_fit_72 (by decide) ?_
                  refine ev_ior (q := 77) dX7_fit_76 rfl ?_
                  refine ev_ist_4 (q := 79) dX7_fit_77 rfl rfl ?_
                  refine ev_inc_2 (q := 82) (nI (cN ts k + 1)) dX7_fit_79 (nI_1 _) rfl rfl ?_
                  refine ev_inc_5 (q := 85) (nI (k + 1)) dX7_fit_82 (nI_1 k) rfl rfl ?_
                  refine ev_goto 28 dX7_fit_85 (by decide) ?_
                  first | (rw [nI_sh1 (by omega), nI_or]; simp only [c_43, hu, if_true, c_47] at e ⊢; exact e) | (simp only [c_43, Bool.false_eq_true, if_false, Nat.add_zero, Nat.or_zero] at e; cases hx : flF ts k <;> rw [hx] at e <;> exact e)
              · have c_47 : cN ts k = 0 := (nI_eq (b := 0) (by have := cN_le ts k; omega) (by omega)).mp c_47
                have hu := (flF_n ts k).mpr c_47
                refine ev_iload (q := 52) dX7_fit_50 rfl rfl ?_
                refine ev_goto 56 dX7_fit_52 (by decide) ?_
                refine ev_ist_3 (q := 57) dX7_fit_56 rfl rfl ?_
                refine ev_iload (q := 59) dX7_fit_57 rfl rfl ?_
                refine ev_iload_n (q := 60) dX7_fit_59 rfl rfl ?_
                refine ev_if_lt (q := 63) 75 dX7_fit_60 (by decide) rfl (fun c_60 => ?_) (fun c_60 => ?_)
                · exact absurd c_60 hv0
                · refine ev_iconst (q := 64) (1) dX7_fit_63 (by decide) rfl ?_
                  refine ev_aload_n (q := 65) dX7_fit_64 rfl rfl ?_
                  refine ev_iload (q := 67) dX7_fit_65 rfl rfl ?_
                  refine ev_iload_n (q := 68) dX7_fit_67 rfl rfl ?_
                  refine ev_callV2i (q := 71) dX7_fit_68 ca_X7_181 (s_X7_digitOf hn hm (by omega) (by omega)) rfl (lt_n hn (by decide)) rfl rfl (Nat.le_of_ble_eq_true rfl) (Nat.le_of_ble_eq_true rfl) (by decide) (by decide) rfl ?_
                  refine ev_ishl (q := 72) dX7_fit_71 rfl ?_
                  refine ev_goto 76 dX7_fit_72 (by decide) ?_
                  refine ev_ior (q := 77) dX7_fit_76 rfl ?_
                  refine ev_ist_4 (q := 79) dX7_fit_77 rfl rfl ?_
                  refine ev_inc_2 (q := 82) (nI (cN ts k + 1)) dX7_fit_79 (nI_1 _) rfl rfl ?_
                  refine ev_inc_5 (q := 85) (nI (k + 1)) dX7_fit_82 (nI_1 k) rfl rfl ?_
                  refine ev_goto 28 dX7_fit_85 (by decide) ?_
                  first | (rw [nI_sh1 (by omega), nI_or]; simp only [c_43, hu, if_true, c_47] at e ⊢; exact e) | (simp only [c_43, Bool.false_eq_true, if_false, Nat.add_zero, Nat.or_zero] at e; cases hx : flF ts k <;> rw [hx] at e <;> exact e)
      refine ev_iload_n (q := 1) dX7_fit_0 rfl rfl ?_
      refine ev_bipush (q := 3) (-2) dX7_fit_1 (by decide) rfl ?_
      refine ev_aload_n (q := 4) dX7_fit_3 rfl rfl ?_
      refine ev_get (q := 7) dX7_fit_4 fr_X7_7 rfl (lt_n hn (by decide)) rfl rfl ?_
      refine ev_iconst (q := 8) (1) dX7_fit_7 (by decide) rfl ?_
      refine ev_isub (q := 9) dX7_fit_8 rfl ?_
      rw [show ov I S 33 0 = nI t from ht]
      refine ev_callS3i (q := 12) dX7_fit_9 ca_X7_99 (c_X7_in _ _ _) (Nat.le_of_ble_eq_true rfl) (Nat.le_of_ble_eq_true rfl) (by decide) (by decide) rfl ?_
      refine ev_if_ne (q := 15) 17 dX7_fit_12 (by decide) rfl (fun c_12 => ?_) (fun c_12 => ?_)
      · refine ev_iconst (q := 18) (0) dX7_fit_17 (by decide) rfl ?_
        refine ev_ist_2 (q := 19) dX7_fit_18 rfl rfl ?_
        refine ev_bipush (q := 21) (-6) dX7_fit_19 (by decide) rfl ?_
        refine ev_ist_3 (q := 22) dX7_fit_21 rfl rfl ?_
        refine ev_iconst (q := 23) (0) dX7_fit_22 (by decide) rfl ?_
        refine ev_ist_4 (q := 25) dX7_fit_23 rfl rfl ?_
        refine ev_iconst (q := 26) (0) dX7_fit_25 (by decide) rfl ?_
        refine ev_ist_5 (q := 28) dX7_fit_26 rfl rfl ?_
        exact lp (3 ^ t) 0 (by omega)
      · exact absurd c_12 (b2i_n0.mpr hin)
theorem inb_nI {a lo hi : Nat} (h1 : a < 2 ^ 31) (h2 : lo < 2 ^ 31) (h3 : hi < 2 ^ 31) : inb (nI a) (nI lo) (nI hi) = (decide (lo ≤ a) && decide (a ≤ hi)) := by
  unfold inb
  rw [decide_eq_decide.mpr (nI_leI h2 h1), decide_eq_decide.mpr (nI_leI h1 h3)]
theorem inb_t1 {a m : Nat} (h1 : a < 2 ^ 31) (h3 : m < 2 ^ 31) (h0 : 0 < m) : inb (nI a) 0 (nI m - 1) = decide (a < m) := by
  rw [show nI m - 1 = nI (m - 1) from pk_sub (b := 1) h0, show (0 : Int32) = nI 0 from rfl, inb_nI h1 (by decide) (by omega)]
  simp; omega
theorem s_X7_told_w {c k : Nat} (hn : 49 ≤ n) (hm : MI I t sl wy wi he) (hc : c < 4) (hk : k < 10) : RnS xl xs 2 46 0 0 mX7_told [.ref 33, .int (nI (10 * (c + 3) + k))] n I J X (some (.int (if k < t then I 34 (6 * c + k) + 1000 else -2))) n I J X := by
  intro S T Q hQ
  have h6 := hm.2.2.1
  have ht2 := hm.2.1
  have hr : nI (10 * (c + 3) + k) - nI (10 * (c + 3) + k) / 10 * 10 = nI k := by rw [show (10 : Int32) = nI 10 from rfl, pk_rem (by omega) (by decide) (by decide)]; congr 1; omega
  have hd : nI (10 * (c + 3) + k) / 10 - 3 = nI c := by rw [show (10 : Int32) = nI 10 from rfl, pk_div (by omega) (by decide) (by decide), show (10 * (c + 3) + k) / 10 = c + 3 by omega]; exact pk_sub (a := c + 3) (b := 3) (by omega)
  have hi : inb (nI (10 * (c + 3) + k)) 30 69 = true := by rw [show (30 : Int32) = nI 30 from rfl, show (69 : Int32) = nI 69 from rfl, inb_nI (by omega) (by decide) (by decide)]; simp; omega
  have h1 := inb_t1 (a := k) (m := t) (by omega) (by omega) (by omega)
  show Ev xl xs 2 46 0 0 mX7_told 0 [some (.ref 33), some (.int (nI (10 * (c + 3) + k))), none] [] n (sysH (ov I S) (ovJ J T) X) Q
  by_cases hkt : k < t
  · rw [if_pos hkt] at hQ
    rw [decide_eq_true hkt] at h1
    refine ev_iload_n (q := 1) dX7_told_0 rfl rfl ?_
    refine ev_bipush (q := 3) (10) dX7_told_1 (by decide) rfl ?_
    refine ev_irem (q := 4) (by decide) dX7_told_3 rfl ?_
    rw [hr]
    refine ev_ist_2 (q := 5) dX7_told_4 rfl rfl ?_
    refine ev_iload_n (q := 6) dX7_told_5 rfl rfl ?_
    refine ev_bipush (q := 8) (30) dX7_told_6 (by decide) rfl ?_
    refine ev_bipush (q := 10) (69) dX7_told_8 (by decide) rfl ?_
    refine ev_callS3i (q := 13) dX7_told_10 ca_X7_99 (c_X7_in _ _ _) (Nat.le_of_ble_eq_true rfl) (Nat.le_of_ble_eq_true rfl) (by decide) (by decide) rfl ?_
    refine ev_if_eq (q := 16) 50 dX7_told_13 (by decide) rfl (fun c_13 => ?_) (fun c_13 => ?_)
    · exact absurd c_13 (b2i_n0.mpr hi)
    · refine ev_aload_n (q := 17) dX7_told_16 rfl rfl ?_
      refine ev_iload_n (q := 18) dX7_told_17 rfl rfl ?_
      refine ev_callV1i (q := 21) dX7_told_18 ca_X7_107 (s_X7_isThing hn hm _) rfl (lt_n hn (by decide)) rfl rfl (Nat.le_of_ble_eq_true rfl) (Nat.le_of_ble_eq_true rfl) (by decide) (by decide) rfl ?_
      refine ev_if_eq (q := 24) 47 dX7_told_21 (by decide) rfl (fun c_21 => ?_) (fun c_21 => ?_)
      · exact absurd c_21 (b2i_n0.mpr h1)
      · refine ev_aload_n (q := 25) dX7_told_24 rfl rfl ?_
        refine ev_get (q := 28) dX7_told_25 fr_X7_13 rfl (lt_n hn (by decide)) rfl rfl ?_
        refine ev_bipush (q := 30) (6) dX7_told_28 (by decide) rfl ?_
        refine ev_iload_n (q := 31) dX7_told_30 rfl rfl ?_
        refine ev_bipush (q := 33) (10) dX7_told_31 (by decide) rfl ?_
        refine ev_idiv (q := 34) (by decide) dX7_told_33 rfl ?_
        refine ev_iconst (q := 35) (3) dX7_told_34 (by decide) rfl ?_
        refine ev_isub (q := 36) dX7_told_35 rfl ?_
        rw [hd]
        refine ev_imul (q := 37) dX7_told_36 rfl ?_
        refine ev_iload_n (q := 38) dX7_told_37 rfl rfl ?_
        refine ev_iadd (q := 39) dX7_told_38 rfl ?_
        refine ev_iaS (q := 40) (6 * c + k) dX7_told_39 (by rw [show (6 : Int32) = nI 6 from rfl, pk_mul, nI_add]) rfl (by omega) (lt_n hn (by decide)) rfl ?_
        refine ev_sipush (q := 43) (1000) dX7_told_40 (by decide) rfl ?_
        refine ev_iadd (q := 44) dX7_told_43 rfl ?_
        refine ev_goto 49 dX7_told_44 (by decide) ?_
        exact ev_iretE dX7_told_49 rfl rfl rfl rfl rfl (hQ _ _)
  · rw [if_neg hkt] at hQ
    rw [decide_eq_false hkt] at h1
    refine ev_iload_n (q := 1) dX7_told_0 rfl rfl ?_
    refine ev_bipush (q := 3) (10) dX7_told_1 (by decide) rfl ?_
    refine ev_irem (q := 4) (by decide) dX7_told_3 rfl ?_
    rw [hr]
    refine ev_ist_2 (q := 5) dX7_told_4 rfl rfl ?_
    refine ev_iload_n (q := 6) dX7_told_5 rfl rfl ?_
    refine ev_bipush (q := 8) (30) dX7_told_6 (by decide) rfl ?_
    refine ev_bipush (q := 10) (69) dX7_told_8 (by decide) rfl ?_
    refine ev_callS3i (q := 13) dX7_told_10 ca_X7_99 (c_X7_in _ _ _) (Nat.le_of_ble_eq_true rfl) (Nat.le_of_ble_eq_true rfl) (by decide) (by decide) rfl ?_
    refine ev_if_eq (q := 16) 50 dX7_told_13 (by decide) rfl (fun c_13 => ?_) (fun c_13 => ?_)
    · exact absurd c_13 (b2i_n0.mpr hi)
    · refine ev_aload_n (q := 17) dX7_told_16 rfl rfl ?_
      refine ev_iload_n (q := 18) dX7_told_17 rfl rfl ?_
      refine ev_callV1i (q := 21) dX7_told_18 ca_X7_107 (s_X7_isThing hn hm _) rfl (lt_n hn (by decide)) rfl rfl (Nat.le_of_ble_eq_true rfl) (Nat.le_of_ble_eq_true rfl) (by decide) (by decide) rfl ?_
      refine ev_if_eq (q := 24) 47 dX7_told_21 (by decide) rfl (fun c_21 => ?_) (fun c_21 => ?_)
      · refine ev_bipush (q := 49) (-2) dX7_told_47 (by decide) rfl ?_
        exact ev_iretE dX7_told_49 rfl rfl rfl rfl rfl (hQ _ _)
      · exact absurd (b2i_n0.mp c_21) (by rw [h1]; decide)
theorem s_X7_told_t {k : Nat} (hn : 49 ≤ n) (hm : MI I t sl wy wi he) (hk : k < 10) : RnS xl xs 2 46 0 0 mX7_told [.ref 33, .int (nI (10 + k))] n I J X (some (.int (if k < t then I 35 k + 1000 else -2))) n I J X := by
  intro S T Q hQ
  have h6 := hm.2.2.1
  have ht2 := hm.2.1
  have hr : nI (10 + k) - nI (10 + k) / 10 * 10 = nI k := by rw [show (10 : Int32) = nI 10 from rfl, pk_rem (by omega) (by decide) (by decide)]; congr 1; omega
  have hi : inb (nI (10 + k)) 30 69 = false := by rw [show (30 : Int32) = nI 30 from rfl, show (69 : Int32) = nI 69 from rfl, inb_nI (by omega) (by decide) (by decide)]; simp; omega
  have hi2 : inb (nI (10 + k)) 10 29 = true := by rw [show (10 : Int32) = nI 10 from rfl, show (29 : Int32) = nI 29 from rfl, inb_nI (by omega) (by decide) (by decide)]; simp; omega
  have h1 := inb_t1 (a := k) (m := t) (by omega) (by omega) (by omega)
  show Ev xl xs 2 46 0 0 mX7_told 0 [some (.ref 33), some (.int (nI (10 + k))), none] [] n (sysH (ov I S) (ovJ J T) X) Q
  by_cases hkt : k < t
  · rw [if_pos hkt] at hQ
    rw [decide_eq_true hkt] at h1
    refine ev_iload_n (q := 1) dX7_told_0 rfl rfl ?_
    refine ev_bipush (q := 3) (10) dX7_told_1 (by decide) rfl ?_
    refine ev_irem (q := 4) (by decide) dX7_told_3 rfl ?_
    rw [hr]
    refine ev_ist_2 (q := 5) dX7_told_4 rfl rfl ?_
    refine ev_iload_n (q := 6) dX7_told_5 rfl rfl ?_
    refine ev_bipush (q := 8) (30) dX7_told_6 (by decide) rfl ?_
    refine ev_bipush (q := 10) (69) dX7_told_8 (by decide) rfl ?_
    refine ev_callS3i (q := 13) dX7_told_10 ca_X7_99 (c_X7_in _ _ _) (Nat.le_of_ble_eq_true rfl) (Nat.le_of_ble_eq_true rfl) (by decide) (by decide) rfl ?_
    refine ev_if_eq (q := 16) 50 dX7_told_13 (by decide) rfl (fun c_13 => ?_) (fun c_13 => ?_)
    · refine ev_iload_n (q := 51) dX7_told_50 rfl rfl ?_
      refine ev_bipush (q := 53) (10) dX7_told_51 (by decide) rfl ?_
      refine ev_bipush (q := 55) (29) dX7_told_53 (by decide) rfl ?_
      refine ev_callS3i (q := 58) dX7_told_55 ca_X7_99 (c_X7_in _ _ _) (Nat.le_of_ble_eq_true rfl) (Nat.le_of_ble_eq_true rfl) (by decide) (by decide) rfl ?_
      refine ev_if_eq (q := 61) 110 dX7_told_58 (by decide) rfl (fun c_58 => ?_) (fun c_58 => ?_)
      · exact absurd c_58 (b2i_n0.mpr hi2)
      · refine ev_iload_n (q := 62) dX7_told_61 rfl rfl ?_
        refine ev_bipush (q := 64) (20) dX7_told_62 (by decide) rfl ?_
        refine ev_icmp_ge (q := 67) 93 dX7_told_64 (by decide) rfl (fun c_64 => ?_) (fun c_64 => ?_)
        · exact absurd ((nI_leI (a := 20) (by omega) (by omega)).mp c_64) (by omega)
        · refine ev_aload_n (q := 68) dX7_told_67 rfl rfl ?_
          refine ev_iload_n (q := 69) dX7_told_68 rfl rfl ?_
          refine ev_callV1i (q := 72) dX7_told_69 ca_X7_107 (s_X7_isThing hn hm _) rfl (lt_n hn (by decide)) rfl rfl (Nat.le_of_ble_eq_true rfl) (Nat.le_of_ble_eq_true rfl) (by decide) (by decide) rfl ?_
          refine ev_if_eq (q := 75) 88 dX7_told_72 (by decide) rfl (fun c_72 => ?_) (fun c_72 => ?_)
          · exact absurd c_72 (b2i_n0.mpr h1)
          · refine ev_aload_n (q := 76) dX7_told_75 rfl rfl ?_
            refine ev_get (q := 79) dX7_told_76 fr_X7_17 rfl (lt_n hn (by decide)) rfl rfl ?_
            refine ev_iload_n (q := 80) dX7_told_79 rfl rfl ?_
            refine ev_iaS (q := 81) k dX7_told_80 rfl rfl (by omega) (lt_n hn (by decide)) rfl ?_
            refine ev_sipush (q := 84) (1000) dX7_told_81 (by decide) rfl ?_
            refine ev_iadd (q := 85) dX7_told_84 rfl ?_
            refine ev_goto 109 dX7_told_85 (by decide) ?_
            exact ev_iretE dX7_told_109 rfl rfl rfl rfl rfl (hQ _ _)
    · exact absurd (b2i_n0.mp c_13) (by rw [hi]; decide)
  · rw [if_neg hkt] at hQ
    rw [decide_eq_false hkt] at h1
    refine ev_iload_n (q := 1) dX7_told_0 rfl rfl ?_
    refine ev_bipush (q := 3) (10) dX7_told_1 (by decide) rfl ?_
    refine ev_irem (q := 4) (by decide) dX7_told_3 rfl ?_
    rw [hr]
    refine ev_ist_2 (q := 5) dX7_told_4 rfl rfl ?_
    refine ev_iload_n (q := 6) dX7_told_5 rfl rfl ?_
    refine ev_bipush (q := 8) (30) dX7_told_6 (by decide) rfl ?_
    refine ev_bipush (q := 10) (69) dX7_told_8 (by decide) rfl ?_
    refine ev_callS3i (q := 13) dX7_told_10 ca_X7_99 (c_X7_in _ _ _) (Nat.le_of_ble_eq_true rfl) (Nat.le_of_ble_eq_true rfl) (by decide) (by decide) rfl ?_
    refine ev_if_eq (q := 16) 50 dX7_told_13 (by decide) rfl (fun c_13 => ?_) (fun c_13 => ?_)
    · refine ev_iload_n (q := 51) dX7_told_50 rfl rfl ?_
      refine ev_bipush (q := 53) (10) dX7_told_51 (by decide) rfl ?_
      refine ev_bipush (q := 55) (29) dX7_told_53 (by decide) rfl ?_
      refine ev_callS3i (q := 58) dX7_told_55 ca_X7_99 (c_X7_in _ _ _) (Nat.le_of_ble_eq_true rfl) (Nat.le_of_ble_eq_true rfl) (by decide) (by decide) rfl ?_
      refine ev_if_eq (q := 61) 110 dX7_told_58 (by decide) rfl (fun c_58 => ?_) (fun c_58 => ?_)
      · exact absurd c_58 (b2i_n0.mpr hi2)
      · refine ev_iload_n (q := 62) dX7_told_61 rfl rfl ?_
        refine ev_bipush (q := 64) (20) dX7_told_62 (by decide) rfl ?_
        refine ev_icmp_ge (q := 67) 93 dX7_told_64 (by decide) rfl (fun c_64 => ?_) (fun c_64 => ?_)
        · exact absurd ((nI_leI (a := 20) (by omega) (by omega)).mp c_64) (by omega)
        · refine ev_aload_n (q := 68) dX7_told_67 rfl rfl ?_
          refine ev_iload_n (q := 69) dX7_told_68 rfl rfl ?_
          refine ev_callV1i (q := 72) dX7_told_69 ca_X7_107 (s_X7_isThing hn hm _) rfl (lt_n hn (by decide)) rfl rfl (Nat.le_of_ble_eq_true rfl) (Nat.le_of_ble_eq_true rfl) (by decide) (by decide) rfl ?_
          refine ev_if_eq (q := 75) 88 dX7_told_72 (by decide) rfl (fun c_72 => ?_) (fun c_72 => ?_)
          · refine ev_bipush (q := 90) (-2) dX7_told_88 (by decide) rfl ?_
            refine ev_goto 109 dX7_told_90 (by decide) ?_
            exact ev_iretE dX7_told_109 rfl rfl rfl rfl rfl (hQ _ _)
          · exact absurd (b2i_n0.mp c_72) (by rw [h1]; decide)
    · exact absurd (b2i_n0.mp c_13) (by rw [hi]; decide)
theorem s_X7_told_s {k : Nat} (hn : 49 ≤ n) (hm : MI I t sl wy wi he) (hk : k < 10) : RnS xl xs 2 46 0 0 mX7_told [.ref 33, .int (nI (20 + k))] n I J X (some (.int (if k < 4 then I 36 k else -2))) n I J X := by
  intro S T Q hQ
  have h6 := hm.2.2.1
  have ht2 := hm.2.1
  have hr : nI (20 + k) - nI (20 + k) / 10 * 10 = nI k := by rw [show (10 : Int32) = nI 10 from rfl, pk_rem (by omega) (by decide) (by decide)]; congr 1; omega
  have hi : inb (nI (20 + k)) 30 69 = false := by rw [show (30 : Int32) = nI 30 from rfl, show (69 : Int32) = nI 69 from rfl, inb_nI (by omega) (by decide) (by decide)]; simp; omega
  have hi2 : inb (nI (20 + k)) 10 29 = true := by rw [show (10 : Int32) = nI 10 from rfl, show (29 : Int32) = nI 29 from rfl, inb_nI (by omega) (by decide) (by decide)]; simp; omega
  show Ev xl xs 2 46 0 0 mX7_told 0 [some (.ref 33), some (.int (nI (20 + k))), none] [] n (sysH (ov I S) (ovJ J T) X) Q
  by_cases hkt : k < 4
  · rw [if_pos hkt] at hQ
    refine ev_iload_n (q := 1) dX7_told_0 rfl rfl ?_
    refine ev_bipush (q := 3) (10) dX7_told_1 (by decide) rfl ?_
    refine ev_irem (q := 4) (by decide) dX7_told_3 rfl ?_
    rw [hr]
    refine ev_ist_2 (q := 5) dX7_told_4 rfl rfl ?_
    refine ev_iload_n (q := 6) dX7_told_5 rfl rfl ?_
    refine ev_bipush (q := 8) (30) dX7_told_6 (by decide) rfl ?_
    refine ev_bipush (q := 10) (69) dX7_told_8 (by decide) rfl ?_
    refine ev_callS3i (q := 13) dX7_told_10 ca_X7_99 (c_X7_in _ _ _) (Nat.le_of_ble_eq_true rfl) (Nat.le_of_ble_eq_true rfl) (by decide) (by decide) rfl ?_
    refine ev_if_eq (q := 16) 50 dX7_told_13 (by decide) rfl (fun c_13 => ?_) (fun c_13 => ?_)
    · refine ev_iload_n (q := 51) dX7_told_50 rfl rfl ?_
      refine ev_bipush (q := 53) (10) dX7_told_51 (by decide) rfl ?_
      refine ev_bipush (q := 55) (29) dX7_told_53 (by decide) rfl ?_
      refine ev_callS3i (q := 58) dX7_told_55 ca_X7_99 (c_X7_in _ _ _) (Nat.le_of_ble_eq_true rfl) (Nat.le_of_ble_eq_true rfl) (by decide) (by decide) rfl ?_
      refine ev_if_eq (q := 61) 110 dX7_told_58 (by decide) rfl (fun c_58 => ?_) (fun c_58 => ?_)
      · exact absurd c_58 (b2i_n0.mpr hi2)
      · refine ev_iload_n (q := 62) dX7_told_61 rfl rfl ?_
        refine ev_bipush (q := 64) (20) dX7_told_62 (by decide) rfl ?_
        refine ev_icmp_ge (q := 67) 93 dX7_told_64 (by decide) rfl (fun c_64 => ?_) (fun c_64 => ?_)
        · refine ev_iload_n (q := 94) dX7_told_93 rfl rfl ?_
          refine ev_iconst (q := 95) (4) dX7_told_94 (by decide) rfl ?_
          refine ev_icmp_ge (q := 98) 107 dX7_told_95 (by decide) rfl (fun c_95 => ?_) (fun c_95 => ?_)
          · exact absurd ((nI_leI (a := 4) (by omega) (by omega)).mp c_95) (by omega)
          · refine ev_aload_n (q := 99) dX7_told_98 rfl rfl ?_
            refine ev_get (q := 102) dX7_told_99 fr_X7_20 rfl (lt_n hn (by decide)) rfl rfl ?_
            refine ev_iload_n (q := 103) dX7_told_102 rfl rfl ?_
            refine ev_iaS (q := 104) k dX7_told_103 rfl rfl (by omega) (lt_n hn (by decide)) rfl ?_
            refine ev_goto 109 dX7_told_104 (by decide) ?_
            exact ev_iretE dX7_told_109 rfl rfl rfl rfl rfl (hQ _ _)
        · exact absurd ((nI_leI (a := 20) (by omega) (by omega)).mpr (by omega)) c_64
    · exact absurd (b2i_n0.mp c_13) (by rw [hi]; decide)
  · rw [if_neg hkt] at hQ
    refine ev_iload_n (q := 1) dX7_told_0 rfl rfl ?_
    refine ev_bipush (q := 3) (10) dX7_told_1 (by decide) rfl ?_
    refine ev_irem (q := 4) (by decide) dX7_told_3 rfl ?_
    rw [hr]
    refine ev_ist_2 (q := 5) dX7_told_4 rfl rfl ?_
    refine ev_iload_n (q := 6) dX7_told_5 rfl rfl ?_
    refine ev_bipush (q := 8) (30) dX7_told_6 (by decide) rfl ?_
    refine ev_bipush (q := 10) (69) dX7_told_8 (by decide) rfl ?_
    refine ev_callS3i (q := 13) dX7_told_10 ca_X7_99 (c_X7_in _ _ _) (Nat.le_of_ble_eq_true rfl) (Nat.le_of_ble_eq_true rfl) (by decide) (by decide) rfl ?_
    refine ev_if_eq (q := 16) 50 dX7_told_13 (by decide) rfl (fun c_13 => ?_) (fun c_13 => ?_)
    · refine ev_iload_n (q := 51) dX7_told_50 rfl rfl ?_
      refine ev_bipush (q := 53) (10) dX7_told_51 (by decide) rfl ?_
      refine ev_bipush (q := 55) (29) dX7_told_53 (by decide) rfl ?_
      refine ev_callS3i (q := 58) dX7_told_55 ca_X7_99 (c_X7_in _ _ _) (Nat.le_of_ble_eq_true rfl) (Nat.le_of_ble_eq_true rfl) (by decide) (by decide) rfl ?_
      refine ev_if_eq (q := 61) 110 dX7_told_58 (by decide) rfl (fun c_58 => ?_) (fun c_58 => ?_)
      · exact absurd c_58 (b2i_n0.mpr hi2)
      · refine ev_iload_n (q := 62) dX7_told_61 rfl rfl ?_
        refine ev_bipush (q := 64) (20) dX7_told_62 (by decide) rfl ?_
        refine ev_icmp_ge (q := 67) 93 dX7_told_64 (by decide) rfl (fun c_64 => ?_) (fun c_64 => ?_)
        · refine ev_iload_n (q := 94) dX7_told_93 rfl rfl ?_
          refine ev_iconst (q := 95) (4) dX7_told_94 (by decide) rfl ?_
          refine ev_icmp_ge (q := 98) 107 dX7_told_95 (by decide) rfl (fun c_95 => ?_) (fun c_95 => ?_)
          · refine ev_bipush (q := 109) (-2) dX7_told_107 (by decide) rfl ?_
            exact ev_iretE dX7_told_109 rfl rfl rfl rfl rfl (hQ _ _)
          · exact absurd ((nI_leI (a := 4) (by omega) (by omega)).mpr (by omega)) c_95
        · exact absurd ((nI_leI (a := 20) (by omega) (by omega)).mpr (by omega)) c_64
    · exact absurd (b2i_n0.mp c_13) (by rw [hi]; decide)
def tdP (I : Nat → Nat → Int32) : Nat → Int32
  | 0 => I 33 16
  | 1 => I 33 0
  | 2 => I 33 7
  | 3 => I 33 4
  | 4 => I 33 5
  | 5 => I 33 6
  | 6 => I 33 9
  | 7 => I 33 11
  | _ => I 33 14
theorem s_X7_told_p {k : Nat} (hn : 49 ≤ n) (hk : k < 9) : RnS xl xs 2 46 0 0 mX7_told [.ref 33, .int (nI k)] n I J X (some (.int (tdP I k))) n I J X := by
  intro S T Q hQ
  have hr : nI k - nI k / 10 * 10 = nI k := by rw [show (10 : Int32) = nI 10 from rfl, pk_rem (by omega) (by decide) (by decide)]; congr 1; omega
  have hi : inb (nI k) 30 69 = false := by rw [show (30 : Int32) = nI 30 from rfl, show (69 : Int32) = nI 69 from rfl, inb_nI (by omega) (by decide) (by decide)]; simp; omega
  have hi2 : inb (nI k) 10 29 = false := by rw [show (10 : Int32) = nI 10 from rfl, show (29 : Int32) = nI 29 from rfl, inb_nI (by omega) (by decide) (by decide)]; simp; omega
  show Ev xl xs 2 46 0 0 mX7_told 0 [some (.ref 33), some (.int (nI k)), none] [] n (sysH (ov I S) (ovJ J T) X) Q
  have T111 : Ev xl xs 2 46 0 0 mX7_told 111 [some (.ref 33), some (.int (nI k)), some (.int (nI k))] [.int (nI k)] n (sysH (ov I S) (ovJ J T) X) Q := by
    by_cases h0 : k = 0
    · subst h0
      refine ev_tabIn (off := 49) 160 dX7_told_111 (by decide) (by decide) (by decide) (by decide) ?_
      refine ev_aload_n (q := 161) dX7_told_160 rfl rfl ?_
      refine ev_get (q := 164) dX7_told_161 fr_X7_121 rfl (lt_n hn (by decide)) rfl rfl ?_
      exact ev_iretE dX7_told_164 rfl rfl rfl rfl rfl (hQ _ _)
    by_cases h1 : k = 1
    · subst h1
      refine ev_tabIn (off := 54) 165 dX7_told_111 (by decide) (by decide) (by decide) (by decide) ?_
      refine ev_aload_n (q := 166) dX7_told_165 rfl rfl ?_
      refine ev_get (q := 169) dX7_told_166 fr_X7_7 rfl (lt_n hn (by decide)) rfl rfl ?_
      exact ev_iretE dX7_told_169 rfl rfl rfl rfl rfl (hQ _ _)
    by_cases h2 : k = 2
    · subst h2
      refine ev_tabIn (off := 59) 170 dX7_told_111 (by decide) (by decide) (by decide) (by decide) ?_
      refine ev_aload_n (q := 171) dX7_told_170 rfl rfl ?_
      refine ev_get (q := 174) dX7_told_171 fr_X7_73 rfl (lt_n hn (by decide)) rfl rfl ?_
      exact ev_iretE dX7_told_174 rfl rfl rfl rfl rfl (hQ _ _)
    by_cases h3 : k = 3
    · subst h3
      refine ev_tabIn (off := 64) 175 dX7_told_111 (by decide) (by decide) (by decide) (by decide) ?_
      refine ev_aload_n (q := 176) dX7_told_175 rfl rfl ?_
      refine ev_get (q := 179) dX7_told_176 fr_X7_64 rfl (lt_n hn (by decide)) rfl rfl ?_
      exact ev_iretE dX7_told_179 rfl rfl rfl rfl rfl (hQ _ _)
    by_cases h4 : k = 4
    · subst h4
      refine ev_tabIn (off := 69) 180 dX7_told_111 (by decide) (by decide) (by decide) (by decide) ?_
      refine ev_aload_n (q := 181) dX7_told_180 rfl rfl ?_
      refine ev_get (q := 184) dX7_told_181 fr_X7_67 rfl (lt_n hn (by decide)) rfl rfl ?_
      exact ev_iretE dX7_told_184 rfl rfl rfl rfl rfl (hQ _ _)
    by_cases h5 : k = 5
    · subst h5
      refine ev_tabIn (off := 74) 185 dX7_told_111 (by decide) (by decide) (by decide) (by decide) ?_
      refine ev_aload_n (q := 186) dX7_told_185 rfl rfl ?_
      refine ev_get (q := 189) dX7_told_186 fr_X7_70 rfl (lt_n hn (by decide)) rfl rfl ?_
      exact ev_iretE dX7_told_189 rfl rfl rfl rfl rfl (hQ _ _)
    by_cases h6 : k = 6
    · subst h6
      refine ev_tabIn (off := 79) 190 dX7_told_111 (by decide) (by decide) (by decide) (by decide) ?_
      refine ev_aload_n (q := 191) dX7_told_190 rfl rfl ?_
      refine ev_get (q := 194) dX7_told_191 fr_X7_84 rfl (lt_n hn (by decide)) rfl rfl ?_
      exact ev_iretE dX7_told_194 rfl rfl rfl rfl rfl (hQ _ _)
    by_cases h7 : k = 7
    · subst h7
      refine ev_tabIn (off := 84) 195 dX7_told_111 (by decide) (by decide) (by decide) (by decide) ?_
      refine ev_aload_n (q := 196) dX7_told_195 rfl rfl ?_
      refine ev_get (q := 199) dX7_told_196 fr_X7_87 rfl (lt_n hn (by decide)) rfl rfl ?_
      exact ev_iretE dX7_told_199 rfl rfl rfl rfl rfl (hQ _ _)
    have h8 : k = 8 := by omega
    subst h8
    refine ev_tabIn (off := 89) 200 dX7_told_111 (by decide) (by decide) (by decide) (by decide) ?_
    refine ev_aload_n (q := 201) dX7_told_200 rfl rfl ?_
    refine ev_get (q := 204) dX7_told_201 fr_X7_90 rfl (lt_n hn (by decide)) rfl rfl ?_
    exact ev_iretE dX7_told_204 rfl rfl rfl rfl rfl (hQ _ _)
  refine ev_iload_n (q := 1) dX7_told_0 rfl rfl ?_
  refine ev_bipush (q := 3) (10) dX7_told_1 (by decide) rfl ?_
  refine ev_irem (q := 4) (by decide) dX7_told_3 rfl ?_
  rw [hr]
  refine ev_ist_2 (q := 5) dX7_told_4 rfl rfl ?_
  refine ev_iload_n (q := 6) dX7_told_5 rfl rfl ?_
  refine ev_bipush (q := 8) (30) dX7_told_6 (by decide) rfl ?_
  refine ev_bipush (q := 10) (69) dX7_told_8 (by decide) rfl ?_
  refine ev_callS3i (q := 13) dX7_told_10 ca_X7_99 (c_X7_in _ _ _) (Nat.le_of_ble_eq_true rfl) (Nat.le_of_ble_eq_true rfl) (by decide) (by decide) rfl ?_
  refine ev_if_eq (q := 16) 50 dX7_told_13 (by decide) rfl (fun c_13 => ?_) (fun c_13 => ?_)
  · refine ev_iload_n (q := 51) dX7_told_50 rfl rfl ?_
    refine ev_bipush (q := 53) (10) dX7_told_51 (by decide) rfl ?_
    refine ev_bipush (q := 55) (29) dX7_told_53 (by decide) rfl ?_
    refine ev_callS3i (q := 58) dX7_told_55 ca_X7_99 (c_X7_in _ _ _) (Nat.le_of_ble_eq_true rfl) (Nat.le_of_ble_eq_true rfl) (by decide) (by decide) rfl ?_
    refine ev_if_eq (q := 61) 110 dX7_told_58 (by decide) rfl (fun c_58 => ?_) (fun c_58 => ?_)
    · refine ev_iload_n (q := 111) dX7_told_110 rfl rfl ?_
      exact T111
    · exact absurd (b2i_n0.mp c_58) (by rw [hi2]; decide)
  · exact absurd (b2i_n0.mp c_13) (by rw [hi]; decide)
theorem s_X7_told_9 (hn : 49 ≤ n) (hm : MI I t sl wy wi he) : RnS xl xs 2 46 0 0 mX7_told [.ref 33, .int 9] n I J X (some (.int (upto (fun w c => c + b2i (lbit (J 33 8) w)) (2 ^ t) 0))) n I J X := by
  intro S T Q hQ
  show Ev xl xs 2 46 0 0 mX7_told 0 [some (.ref 33), some (.int 9), none] [] n (sysH (ov I S) (ovJ J T) X) Q
  have T205 : ∀ a2, Ev xl xs 2 46 0 0 mX7_told 205 [some (.ref 33), some (.int 9), a2] [] n (sysH (ov I S) (ovJ J T) X) Q := by
    intro a2
    refine ev_iload_n (q := 206) dX7_told_205 rfl rfl ?_
    refine ev_bipush (q := 208) (9) dX7_told_206 (by decide) rfl ?_
    refine ev_icmp_ne (q := 211) 222 dX7_told_208 (by decide) rfl (fun c_208 => ?_) (fun c_208 => ?_)
    · exact absurd rfl c_208
    · refine ev_aload_n (q := 212) dX7_told_211 rfl rfl ?_
      refine ev_aload_n (q := 213) dX7_told_212 rfl rfl ?_
      refine ev_get (q := 216) dX7_told_213 fr_X7_80 rfl (lt_n hn (by decide)) rfl rfl ?_
      refine ev_callV1i (q := 219) dX7_told_216 ca_X7_161 (s_X7_count hn hm) rfl (lt_n hn (by decide)) rfl rfl (Nat.le_of_ble_eq_true rfl) (Nat.le_of_ble_eq_true rfl) (by decide) (by decide) rfl ?_
      refine ev_goto 224 dX7_told_219 (by decide) ?_
      exact ev_iretE dX7_told_224 rfl rfl rfl rfl rfl (hQ _ _)
  refine ev_iload_n (q := 1) dX7_told_0 rfl rfl ?_
  refine ev_bipush (q := 3) (10) dX7_told_1 (by decide) rfl ?_
  refine ev_irem (q := 4) (by decide) dX7_told_3 rfl ?_
  refine ev_ist_2 (q := 5) dX7_told_4 rfl rfl ?_
  refine ev_iload_n (q := 6) dX7_told_5 rfl rfl ?_
  refine ev_bipush (q := 8) (30) dX7_told_6 (by decide) rfl ?_
  refine ev_bipush (q := 10) (69) dX7_told_8 (by decide) rfl ?_
  refine ev_callS3i (q := 13) dX7_told_10 ca_X7_99 (c_X7_in _ _ _) (Nat.le_of_ble_eq_true rfl) (Nat.le_of_ble_eq_true rfl) (by decide) (by decide) rfl ?_
  refine ev_if_eq (q := 16) 50 dX7_told_13 (by decide) rfl (fun c_13 => ?_) (fun c_13 => ?_)
  · refine ev_iload_n (q := 51) dX7_told_50 rfl rfl ?_
    refine ev_bipush (q := 53) (10) dX7_told_51 (by decide) rfl ?_
    refine ev_bipush (q := 55) (29) dX7_told_53 (by decide) rfl ?_
    refine ev_callS3i (q := 58) dX7_told_55 ca_X7_99 (c_X7_in _ _ _) (Nat.le_of_ble_eq_true rfl) (Nat.le_of_ble_eq_true rfl) (by decide) (by decide) rfl ?_
    refine ev_if_eq (q := 61) 110 dX7_told_58 (by decide) rfl (fun c_58 => ?_) (fun c_58 => ?_)
    · refine ev_iload_n (q := 111) dX7_told_110 rfl rfl ?_
      exact ev_tabOut 205 dX7_told_111 (by decide) (by decide) (T205 _)
    · exact absurd (b2i_n0.mp c_58) (by decide)
  · exact absurd (b2i_n0.mp c_13) (by decide)
theorem s_X7_told_f (hn : 49 ≤ n) {v : Int32} (hv : inb v 0 69 = false) : RnS xl xs 2 46 0 0 mX7_told [.ref 33, .int v] n I J X (some (.int (-2))) n I J X := by
  intro S T Q hQ
  have e0 : (0 : Int32).toInt = 0 := rfl
  have e1 : (69 : Int32).toInt = 69 := rfl
  have e2 : (30 : Int32).toInt = 30 := rfl
  have e3 : (10 : Int32).toInt = 10 := rfl
  have e4 : (29 : Int32).toInt = 29 := rfl
  have e9 : (9 : Int32).toInt = 9 := rfl
  have hh : v.toInt < 0 ∨ 69 < v.toInt := by
    simp only [inb, Bool.and_eq_false_iff, decide_eq_false_iff_not, i_le] at hv
    omega
  have hi : inb v 30 69 = false := inb_f (by simp only [i_le]; omega)
  have hi2 : inb v 10 29 = false := inb_f (by simp only [i_le]; omega)
  show Ev xl xs 2 46 0 0 mX7_told 0 [some (.ref 33), some (.int v), none] [] n (sysH (ov I S) (ovJ J T) X) Q
  have T205 : ∀ a2, Ev xl xs 2 46 0 0 mX7_told 205 [some (.ref 33), some (.int v), a2] [] n (sysH (ov I S) (ovJ J T) X) Q := by
    intro a2
    refine ev_iload_n (q := 206) dX7_told_205 rfl rfl ?_
    refine ev_bipush (q := 208) (9) dX7_told_206 (by decide) rfl ?_
    refine ev_icmp_ne (q := 211) 222 dX7_told_208 (by decide) rfl (fun c_208 => ?_) (fun c_208 => ?_)
    · refine ev_bipush (q := 224) (-2) dX7_told_222 (by decide) rfl ?_
      exact ev_iretE dX7_told_224 rfl rfl rfl rfl rfl (hQ _ _)
    · exact absurd (show v = 9 from c_208) (fun e => by rw [e] at hh; omega)
  refine ev_iload_n (q := 1) dX7_told_0 rfl rfl ?_
  refine ev_bipush (q := 3) (10) dX7_told_1 (by decide) rfl ?_
  refine ev_irem (q := 4) (by decide) dX7_told_3 rfl ?_
  refine ev_ist_2 (q := 5) dX7_told_4 rfl rfl ?_
  refine ev_iload_n (q := 6) dX7_told_5 rfl rfl ?_
  refine ev_bipush (q := 8) (30) dX7_told_6 (by decide) rfl ?_
  refine ev_bipush (q := 10) (69) dX7_told_8 (by decide) rfl ?_
  refine ev_callS3i (q := 13) dX7_told_10 ca_X7_99 (c_X7_in _ _ _) (Nat.le_of_ble_eq_true rfl) (Nat.le_of_ble_eq_true rfl) (by decide) (by decide) rfl ?_
  refine ev_if_eq (q := 16) 50 dX7_told_13 (by decide) rfl (fun c_13 => ?_) (fun c_13 => ?_)
  · refine ev_iload_n (q := 51) dX7_told_50 rfl rfl ?_
    refine ev_bipush (q := 53) (10) dX7_told_51 (by decide) rfl ?_
    refine ev_bipush (q := 55) (29) dX7_told_53 (by decide) rfl ?_
    refine ev_callS3i (q := 58) dX7_told_55 ca_X7_99 (c_X7_in _ _ _) (Nat.le_of_ble_eq_true rfl) (Nat.le_of_ble_eq_true rfl) (by decide) (by decide) rfl ?_
    refine ev_if_eq (q := 61) 110 dX7_told_58 (by decide) rfl (fun c_58 => ?_) (fun c_58 => ?_)
    · refine ev_iload_n (q := 111) dX7_told_110 rfl rfl ?_
      exact ev_tabOut 205 dX7_told_111 (by omega) (by decide) (T205 _)
    · exact absurd (b2i_n0.mp c_58) (by rw [hi2]; decide)
  · exact absurd (b2i_n0.mp c_13) (by rw [hi]; decide)
end MODEL21
