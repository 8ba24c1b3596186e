theorem dX4_canFit_0 : decode cX4_canFit 0 = .ok (.aload_n 0, 1) := by decide +kernel
theorem dX4_canFit_1 : decode cX4_canFit 1 = .ok (.getfield 24, 3) := by decide +kernel
theorem dX4_canFit_4 : decode cX4_canFit 4 = .ok (.iload_n 1, 1) := by decide +kernel
theorem dX4_canFit_5 : decode cX4_canFit 5 = .ok (.bipush 6, 2) := by decide +kernel
theorem dX4_canFit_7 : decode cX4_canFit 7 = .ok (.ishr, 1) := by decide +kernel
theorem dX4_canFit_8 : decode cX4_canFit 8 = .ok (.laload, 1) := by decide +kernel
theorem dX4_canFit_9 : decode cX4_canFit 9 = .ok (.iload_n 1, 1) := by decide +kernel
theorem dX4_canFit_10 : decode cX4_canFit 10 = .ok (.bipush 63, 2) := by decide +kernel
theorem dX4_canFit_12 : decode cX4_canFit 12 = .ok (.iand, 1) := by decide +kernel
theorem dX4_canFit_13 : decode cX4_canFit 13 = .ok (.lushr, 1) := by decide +kernel
theorem dX4_canFit_14 : decode cX4_canFit 14 = .ok (.lconst 1, 1) := by decide +kernel
theorem dX4_canFit_15 : decode cX4_canFit 15 = .ok (.land, 1) := by decide +kernel
theorem dX4_canFit_16 : decode cX4_canFit 16 = .ok (.lconst 0, 1) := by decide +kernel
theorem dX4_canFit_17 : decode cX4_canFit 17 = .ok (.lcmp, 1) := by decide +kernel
theorem dX4_canFit_18 : decode cX4_canFit 18 = .ok (.ifCond .eq 7, 3) := by decide +kernel
theorem dX4_canFit_21 : decode cX4_canFit 21 = .ok (.iconst 1, 1) := by decide +kernel
theorem dX4_canFit_22 : decode cX4_canFit 22 = .ok (.goto 4, 3) := by decide +kernel
theorem dX4_canFit_25 : decode cX4_canFit 25 = .ok (.iconst 0, 1) := by decide +kernel
theorem dX4_canFit_26 : decode cX4_canFit 26 = .ok (.ireturn, 1) := by decide +kernel
theorem dX4_ruleOut_0 : decode cX4_ruleOut 0 = .ok (.aload_n 0, 1) := by decide +kernel
theorem dX4_ruleOut_1 : decode cX4_ruleOut 1 = .ok (.getfield 24, 3) := by decide +kernel
theorem dX4_ruleOut_4 : decode cX4_ruleOut 4 = .ok (.iload_n 1, 1) := by decide +kernel
theorem dX4_ruleOut_5 : decode cX4_ruleOut 5 = .ok (.bipush 6, 2) := by decide +kernel
theorem dX4_ruleOut_7 : decode cX4_ruleOut 7 = .ok (.ishr, 1) := by decide +kernel
theorem dX4_ruleOut_8 : decode cX4_ruleOut 8 = .ok (.dup2, 1) := by decide +kernel
theorem dX4_ruleOut_9 : decode cX4_ruleOut 9 = .ok (.laload, 1) := by decide +kernel
theorem dX4_ruleOut_10 : decode cX4_ruleOut 10 = .ok (.lconst 1, 1) := by decide +kernel
theorem dX4_ruleOut_11 : decode cX4_ruleOut 11 = .ok (.iload_n 1, 1) := by decide +kernel
theorem dX4_ruleOut_12 : decode cX4_ruleOut 12 = .ok (.bipush 63, 2) := by decide +kernel
theorem dX4_ruleOut_14 : decode cX4_ruleOut 14 = .ok (.iand, 1) := by decide +kernel
theorem dX4_ruleOut_15 : decode cX4_ruleOut 15 = .ok (.lshl, 1) := by decide +kernel
theorem dX4_ruleOut_16 : decode cX4_ruleOut 16 = .ok (.ldc2_w 70, 3) := by decide +kernel
theorem dX4_ruleOut_19 : decode cX4_ruleOut 19 = .ok (.lxor, 1) := by decide +kernel
theorem dX4_ruleOut_20 : decode cX4_ruleOut 20 = .ok (.land, 1) := by decide +kernel
theorem dX4_ruleOut_21 : decode cX4_ruleOut 21 = .ok (.lastore, 1) := by decide +kernel
theorem dX4_ruleOut_22 : decode cX4_ruleOut 22 = .ok (.return_, 1) := by decide +kernel
theorem dX5_tasteTakes_0 : decode cX5_tasteTakes 0 = .ok (.aload_n 0, 1) := by decide +kernel
theorem dX5_tasteTakes_1 : decode cX5_tasteTakes 1 = .ok (.getfield 9, 3) := by decide +kernel
theorem dX5_tasteTakes_4 : decode cX5_tasteTakes 4 = .ok (.iload_n 1, 1) := by decide +kernel
theorem dX5_tasteTakes_5 : decode cX5_tasteTakes 5 = .ok (.iaload, 1) := by decide +kernel
theorem dX5_tasteTakes_6 : decode cX5_tasteTakes 6 = .ok (.aload_n 0, 1) := by decide +kernel
theorem dX5_tasteTakes_7 : decode cX5_tasteTakes 7 = .ok (.getfield 15, 3) := by decide +kernel
theorem dX5_tasteTakes_10 : decode cX5_tasteTakes 10 = .ok (.iload_n 1, 1) := by decide +kernel
theorem dX5_tasteTakes_11 : decode cX5_tasteTakes 11 = .ok (.iaload, 1) := by decide +kernel
theorem dX5_tasteTakes_12 : decode cX5_tasteTakes 12 = .ok (.iconst (-1), 1) := by decide +kernel
theorem dX5_tasteTakes_13 : decode cX5_tasteTakes 13 = .ok (.ixor, 1) := by decide +kernel
theorem dX5_tasteTakes_14 : decode cX5_tasteTakes 14 = .ok (.iand, 1) := by decide +kernel
theorem dX5_tasteTakes_15 : decode cX5_tasteTakes 15 = .ok (.istore 5, 2) := by decide +kernel
theorem dX5_tasteTakes_17 : decode cX5_tasteTakes 17 = .ok (.aload_n 0, 1) := by decide +kernel
theorem dX5_tasteTakes_18 : decode cX5_tasteTakes 18 = .ok (.getfield 9, 3) := by decide +kernel
theorem dX5_tasteTakes_21 : decode cX5_tasteTakes 21 = .ok (.iload_n 1, 1) := by decide +kernel
theorem dX5_tasteTakes_22 : decode cX5_tasteTakes 22 = .ok (.iaload, 1) := by decide +kernel
theorem dX5_tasteTakes_23 : decode cX5_tasteTakes 23 = .ok (.iconst (-1), 1) := by decide +kernel
theorem dX5_tasteTakes_24 : decode cX5_tasteTakes 24 = .ok (.ixor, 1) := by decide +kernel
theorem dX5_tasteTakes_25 : decode cX5_tasteTakes 25 = .ok (.istore 6, 2) := by decide +kernel
theorem dX5_tasteTakes_27 : decode cX5_tasteTakes 27 = .ok (.iload 4, 2) := by decide +kernel
theorem dX5_tasteTakes_29 : decode cX5_tasteTakes 29 = .ok (.iload 5, 2) := by decide +kernel
theorem dX5_tasteTakes_31 : decode cX5_tasteTakes 31 = .ok (.iand, 1) := by decide +kernel
theorem dX5_tasteTakes_32 : decode cX5_tasteTakes 32 = .ok (.invokestatic 37, 3) := by decide +kernel
theorem dX5_tasteTakes_35 : decode cX5_tasteTakes 35 = .ok (.iload 4, 2) := by decide +kernel
theorem dX5_tasteTakes_37 : decode cX5_tasteTakes 37 = .ok (.iload 6, 2) := by decide +kernel
theorem dX5_tasteTakes_39 : decode cX5_tasteTakes 39 = .ok (.iand, 1) := by decide +kernel
theorem dX5_tasteTakes_40 : decode cX5_tasteTakes 40 = .ok (.invokestatic 37, 3) := by decide +kernel
theorem dX5_tasteTakes_43 : decode cX5_tasteTakes 43 = .ok (.isub, 1) := by decide +kernel
theorem dX5_tasteTakes_44 : decode cX5_tasteTakes 44 = .ok (.istore 7, 2) := by decide +kernel
theorem dX5_tasteTakes_46 : decode cX5_tasteTakes 46 = .ok (.lload_n 2, 1) := by decide +kernel
theorem dX5_tasteTakes_47 : decode cX5_tasteTakes 47 = .ok (.lstore 8, 2) := by decide +kernel
theorem dX5_tasteTakes_49 : decode cX5_tasteTakes 49 = .ok (.lload_n 2, 1) := by decide +kernel
theorem dX5_tasteTakes_50 : decode cX5_tasteTakes 50 = .ok (.invokestatic 46, 3) := by decide +kernel
theorem dX5_tasteTakes_53 : decode cX5_tasteTakes 53 = .ok (.istore 10, 2) := by decide +kernel
theorem dX5_tasteTakes_55 : decode cX5_tasteTakes 55 = .ok (.iload 10, 2) := by decide +kernel
theorem dX5_tasteTakes_57 : decode cX5_tasteTakes 57 = .ok (.ifCond .le 67, 3) := by decide +kernel
theorem dX5_tasteTakes_60 : decode cX5_tasteTakes 60 = .ok (.lload 8, 2) := by decide +kernel
theorem dX5_tasteTakes_62 : decode cX5_tasteTakes 62 = .ok (.invokestatic 51, 3) := by decide +kernel
theorem dX5_tasteTakes_65 : decode cX5_tasteTakes 65 = .ok (.istore 11, 2) := by decide +kernel
theorem dX5_tasteTakes_67 : decode cX5_tasteTakes 67 = .ok (.lload 8, 2) := by decide +kernel
theorem dX5_tasteTakes_69 : decode cX5_tasteTakes 69 = .ok (.lload 8, 2) := by decide +kernel
theorem dX5_tasteTakes_71 : decode cX5_tasteTakes 71 = .ok (.lconst 1, 1) := by decide +kernel
theorem dX5_tasteTakes_72 : decode cX5_tasteTakes 72 = .ok (.lsub, 1) := by decide +kernel
theorem dX5_tasteTakes_73 : decode cX5_tasteTakes 73 = .ok (.land, 1) := by decide +kernel
theorem dX5_tasteTakes_74 : decode cX5_tasteTakes 74 = .ok (.lstore 8, 2) := by decide +kernel
theorem dX5_tasteTakes_76 : decode cX5_tasteTakes 76 = .ok (.iload 11, 2) := by decide +kernel
theorem dX5_tasteTakes_78 : decode cX5_tasteTakes 78 = .ok (.iload 5, 2) := by decide +kernel
theorem dX5_tasteTakes_80 : decode cX5_tasteTakes 80 = .ok (.iand, 1) := by decide +kernel
theorem dX5_tasteTakes_81 : decode cX5_tasteTakes 81 = .ok (.invokestatic 37, 3) := by decide +kernel
theorem dX5_tasteTakes_84 : decode cX5_tasteTakes 84 = .ok (.iload 11, 2) := by decide +kernel
theorem dX5_tasteTakes_86 : decode cX5_tasteTakes 86 = .ok (.iload 6, 2) := by decide +kernel
theorem dX5_tasteTakes_88 : decode cX5_tasteTakes 88 = .ok (.iand, 1) := by decide +kernel
theorem dX5_tasteTakes_89 : decode cX5_tasteTakes 89 = .ok (.invokestatic 37, 3) := by decide +kernel
theorem dX5_tasteTakes_92 : decode cX5_tasteTakes 92 = .ok (.isub, 1) := by decide +kernel
theorem dX5_tasteTakes_93 : decode cX5_tasteTakes 93 = .ok (.istore 12, 2) := by decide +kernel
theorem dX5_tasteTakes_95 : decode cX5_tasteTakes 95 = .ok (.iload 12, 2) := by decide +kernel
theorem dX5_tasteTakes_97 : decode cX5_tasteTakes 97 = .ok (.iload 7, 2) := by decide +kernel
theorem dX5_tasteTakes_99 : decode cX5_tasteTakes 99 = .ok (.if_icmp .gt 17, 3) := by decide +kernel
theorem dX5_tasteTakes_102 : decode cX5_tasteTakes 102 = .ok (.iload 12, 2) := by decide +kernel
theorem dX5_tasteTakes_104 : decode cX5_tasteTakes 104 = .ok (.iload 7, 2) := by decide +kernel
theorem dX5_tasteTakes_106 : decode cX5_tasteTakes 106 = .ok (.if_icmp .ne 12, 3) := by decide +kernel
theorem dX5_tasteTakes_109 : decode cX5_tasteTakes 109 = .ok (.iload 11, 2) := by decide +kernel
theorem dX5_tasteTakes_111 : decode cX5_tasteTakes 111 = .ok (.iload 4, 2) := by decide +kernel
theorem dX5_tasteTakes_113 : decode cX5_tasteTakes 113 = .ok (.if_icmp .ge 5, 3) := by decide +kernel
theorem dX5_tasteTakes_116 : decode cX5_tasteTakes 116 = .ok (.iconst 0, 1) := by decide +kernel
theorem dX5_tasteTakes_117 : decode cX5_tasteTakes 117 = .ok (.ireturn, 1) := by decide +kernel
theorem dX5_tasteTakes_118 : decode cX5_tasteTakes 118 = .ok (.iinc 10 (-1), 3) := by decide +kernel
theorem dX5_tasteTakes_121 : decode cX5_tasteTakes 121 = .ok (.goto (-66), 3) := by decide +kernel
theorem dX5_tasteTakes_124 : decode cX5_tasteTakes 124 = .ok (.iconst 1, 1) := by decide +kernel
theorem dX5_tasteTakes_125 : decode cX5_tasteTakes 125 = .ok (.ireturn, 1) := by decide +kernel
theorem dX6_picked_0 : decode cX6_picked 0 = .ok (.aload_n 0, 1) := by decide +kernel
theorem dX6_picked_1 : decode cX6_picked 1 = .ok (.iload_n 1, 1) := by decide +kernel
theorem dX6_picked_2 : decode cX6_picked 2 = .ok (.invokevirtual 100, 3) := by decide +kernel
theorem dX6_picked_5 : decode cX6_picked 5 = .ok (.ifCond .ne 6, 3) := by decide +kernel
theorem dX6_picked_8 : decode cX6_picked 8 = .ok (.bipush (-2), 2) := by decide +kernel
theorem dX6_picked_10 : decode cX6_picked 10 = .ok (.ireturn, 1) := by decide +kernel
theorem dX6_picked_11 : decode cX6_picked 11 = .ok (.aload_n 0, 1) := by decide +kernel
theorem dX6_picked_12 : decode cX6_picked 12 = .ok (.invokevirtual 127, 3) := by decide +kernel
theorem dX6_picked_15 : decode cX6_picked 15 = .ok (.ifCond .eq 6, 3) := by decide +kernel
theorem dX6_picked_18 : decode cX6_picked 18 = .ok (.bipush (-5), 2) := by decide +kernel
theorem dX6_picked_20 : decode cX6_picked 20 = .ok (.ireturn, 1) := by decide +kernel
theorem dX6_picked_21 : decode cX6_picked 21 = .ok (.aload_n 0, 1) := by decide +kernel
theorem dX6_picked_22 : decode cX6_picked 22 = .ok (.invokevirtual 143, 3) := by decide +kernel
theorem dX6_picked_25 : decode cX6_picked 25 = .ok (.lstore_n 2, 1) := by decide +kernel
theorem dX6_picked_26 : decode cX6_picked 26 = .ok (.lload_n 2, 1) := by decide +kernel
theorem dX6_picked_27 : decode cX6_picked 27 = .ok (.iload_n 1, 1) := by decide +kernel
theorem dX6_picked_28 : decode cX6_picked 28 = .ok (.lushr, 1) := by decide +kernel
theorem dX6_picked_29 : decode cX6_picked 29 = .ok (.lconst 1, 1) := by decide +kernel
theorem dX6_picked_30 : decode cX6_picked 30 = .ok (.land, 1) := by decide +kernel
theorem dX6_picked_31 : decode cX6_picked 31 = .ok (.lconst 0, 1) := by decide +kernel
theorem dX6_picked_32 : decode cX6_picked 32 = .ok (.lcmp, 1) := by decide +kernel
theorem dX6_picked_33 : decode cX6_picked 33 = .ok (.ifCond .ne 6, 3) := by decide +kernel
theorem dX6_picked_36 : decode cX6_picked 36 = .ok (.bipush (-5), 2) := by decide +kernel
theorem dX6_picked_38 : decode cX6_picked 38 = .ok (.ireturn, 1) := by decide +kernel
theorem dX6_picked_39 : decode cX6_picked 39 = .ok (.aload_n 0, 1) := by decide +kernel
theorem dX6_picked_40 : decode cX6_picked 40 = .ok (.getfield 10, 3) := by decide +kernel
theorem dX6_picked_43 : decode cX6_picked 43 = .ok (.getfield 258, 3) := by decide +kernel
theorem dX6_picked_46 : decode cX6_picked 46 = .ok (.bipush 6, 2) := by decide +kernel
theorem dX6_picked_48 : decode cX6_picked 48 = .ok (.if_icmp .lt 6, 3) := by decide +kernel
theorem dX6_picked_51 : decode cX6_picked 51 = .ok (.bipush (-4), 2) := by decide +kernel
theorem dX6_picked_53 : decode cX6_picked 53 = .ok (.ireturn, 1) := by decide +kernel
theorem dX6_picked_54 : decode cX6_picked 54 = .ok (.iconst 0, 1) := by decide +kernel
theorem dX6_picked_55 : decode cX6_picked 55 = .ok (.istore 4, 2) := by decide +kernel
theorem dX6_picked_57 : decode cX6_picked 57 = .ok (.iload 4, 2) := by decide +kernel
theorem dX6_picked_59 : decode cX6_picked 59 = .ok (.aload_n 0, 1) := by decide +kernel
theorem dX6_picked_60 : decode cX6_picked 60 = .ok (.getfield 33, 3) := by decide +kernel
theorem dX6_picked_63 : decode cX6_picked 63 = .ok (.getfield 211, 3) := by decide +kernel
theorem dX6_picked_66 : decode cX6_picked 66 = .ok (.if_icmp .ge 44, 3) := by decide +kernel
theorem dX6_picked_69 : decode cX6_picked 69 = .ok (.aload_n 0, 1) := by decide +kernel
theorem dX6_picked_70 : decode cX6_picked 70 = .ok (.getfield 10, 3) := by decide +kernel
theorem dX6_picked_73 : decode cX6_picked 73 = .ok (.iload 4, 2) := by decide +kernel
theorem dX6_picked_75 : decode cX6_picked 75 = .ok (.invokevirtual 261, 3) := by decide +kernel
theorem dX6_picked_78 : decode cX6_picked 78 = .ok (.ifCond .eq 26, 3) := by decide +kernel
theorem dX6_picked_81 : decode cX6_picked 81 = .ok (.aload_n 0, 1) := by decide +kernel
theorem dX6_picked_82 : decode cX6_picked 82 = .ok (.getfield 33, 3) := by decide +kernel
theorem dX6_picked_85 : decode cX6_picked 85 = .ok (.iload 4, 2) := by decide +kernel
theorem dX6_picked_87 : decode cX6_picked 87 = .ok (.lload_n 2, 1) := by decide +kernel
theorem dX6_picked_88 : decode cX6_picked 88 = .ok (.iload_n 1, 1) := by decide +kernel
theorem dX6_picked_89 : decode cX6_picked 89 = .ok (.invokevirtual 264, 3) := by decide +kernel
theorem dX6_picked_92 : decode cX6_picked 92 = .ok (.ifCond .ne 12, 3) := by decide +kernel
theorem dX6_picked_95 : decode cX6_picked 95 = .ok (.aload_n 0, 1) := by decide +kernel
theorem dX6_picked_96 : decode cX6_picked 96 = .ok (.getfield 10, 3) := by decide +kernel
theorem dX6_picked_99 : decode cX6_picked 99 = .ok (.iload 4, 2) := by decide +kernel
theorem dX6_picked_101 : decode cX6_picked 101 = .ok (.invokevirtual 268, 3) := by decide +kernel
theorem dX6_picked_104 : decode cX6_picked 104 = .ok (.iinc 4 1, 3) := by decide +kernel
theorem dX6_picked_107 : decode cX6_picked 107 = .ok (.goto (-50), 3) := by decide +kernel
theorem dX6_picked_110 : decode cX6_picked 110 = .ok (.aload_n 0, 1) := by decide +kernel
theorem dX6_picked_111 : decode cX6_picked 111 = .ok (.getfield 10, 3) := by decide +kernel
theorem dX6_picked_114 : decode cX6_picked 114 = .ok (.dup, 1) := by decide +kernel
theorem dX6_picked_115 : decode cX6_picked 115 = .ok (.getfield 258, 3) := by decide +kernel
theorem dX6_picked_118 : decode cX6_picked 118 = .ok (.iconst 1, 1) := by decide +kernel
theorem dX6_picked_119 : decode cX6_picked 119 = .ok (.iadd, 1) := by decide +kernel
theorem dX6_picked_120 : decode cX6_picked 120 = .ok (.putfield 258, 3) := by decide +kernel
theorem dX6_picked_123 : decode cX6_picked 123 = .ok (.aload_n 0, 1) := by decide +kernel
theorem dX6_picked_124 : decode cX6_picked 124 = .ok (.getfield 10, 3) := by decide +kernel
theorem dX6_picked_127 : decode cX6_picked 127 = .ok (.getfield 258, 3) := by decide +kernel
theorem dX6_picked_130 : decode cX6_picked 130 = .ok (.ireturn, 1) := by decide +kernel
theorem dX6_fit_0 : decode cX6_fit 0 = .ok (.iload_n 1, 1) := by decide +kernel
theorem dX6_fit_1 : decode cX6_fit 1 = .ok (.bipush (-2), 2) := by decide +kernel
theorem dX6_fit_3 : decode cX6_fit 3 = .ok (.if_icmp .lt 14, 3) := by decide +kernel
theorem dX6_fit_6 : decode cX6_fit 6 = .ok (.iload_n 1, 1) := by decide +kernel
theorem dX6_fit_7 : decode cX6_fit 7 = .ok (.aload_n 0, 1) := by decide +kernel
theorem dX6_fit_8 : decode cX6_fit 8 = .ok (.getfield 10, 3) := by decide +kernel
theorem dX6_fit_11 : decode cX6_fit 11 = .ok (.getfield 74, 3) := by decide +kernel
theorem dX6_fit_14 : decode cX6_fit 14 = .ok (.if_icmp .lt 5, 3) := by decide +kernel
theorem dX6_fit_17 : decode cX6_fit 17 = .ok (.iconst (-1), 1) := by decide +kernel
theorem dX6_fit_18 : decode cX6_fit 18 = .ok (.ireturn, 1) := by decide +kernel
theorem dX6_fit_19 : decode cX6_fit 19 = .ok (.iconst 0, 1) := by decide +kernel
theorem dX6_fit_20 : decode cX6_fit 20 = .ok (.istore_n 2, 1) := by decide +kernel
theorem dX6_fit_21 : decode cX6_fit 21 = .ok (.bipush (-6), 2) := by decide +kernel
theorem dX6_fit_23 : decode cX6_fit 23 = .ok (.istore_n 3, 1) := by decide +kernel
theorem dX6_fit_24 : decode cX6_fit 24 = .ok (.iconst 0, 1) := by decide +kernel
theorem dX6_fit_25 : decode cX6_fit 25 = .ok (.istore 4, 2) := by decide +kernel
theorem dX6_fit_27 : decode cX6_fit 27 = .ok (.aload_n 0, 1) := by decide +kernel
theorem dX6_fit_28 : decode cX6_fit 28 = .ok (.getfield 33, 3) := by decide +kernel
theorem dX6_fit_31 : decode cX6_fit 31 = .ok (.getfield 211, 3) := by decide +kernel
theorem dX6_fit_34 : decode cX6_fit 34 = .ok (.iconst 1, 1) := by decide +kernel
theorem dX6_fit_35 : decode cX6_fit 35 = .ok (.isub, 1) := by decide +kernel
theorem dX6_fit_36 : decode cX6_fit 36 = .ok (.istore 5, 2) := by decide +kernel
theorem dX6_fit_38 : decode cX6_fit 38 = .ok (.iload 5, 2) := by decide +kernel
theorem dX6_fit_40 : decode cX6_fit 40 = .ok (.ifCond .lt 52, 3) := by decide +kernel
theorem dX6_fit_43 : decode cX6_fit 43 = .ok (.aload_n 0, 1) := by decide +kernel
theorem dX6_fit_44 : decode cX6_fit 44 = .ok (.getfield 10, 3) := by decide +kernel
theorem dX6_fit_47 : decode cX6_fit 47 = .ok (.iload 5, 2) := by decide +kernel
theorem dX6_fit_49 : decode cX6_fit 49 = .ok (.invokevirtual 261, 3) := by decide +kernel
theorem dX6_fit_52 : decode cX6_fit 52 = .ok (.ifCond .eq 34, 3) := by decide +kernel
theorem dX6_fit_55 : decode cX6_fit 55 = .ok (.iinc 2 1, 3) := by decide +kernel
theorem dX6_fit_58 : decode cX6_fit 58 = .ok (.iload 5, 2) := by decide +kernel
theorem dX6_fit_60 : decode cX6_fit 60 = .ok (.istore_n 3, 1) := by decide +kernel
theorem dX6_fit_61 : decode cX6_fit 61 = .ok (.iload 4, 2) := by decide +kernel
theorem dX6_fit_63 : decode cX6_fit 63 = .ok (.iload_n 1, 1) := by decide +kernel
theorem dX6_fit_64 : decode cX6_fit 64 = .ok (.ifCond .ge 7, 3) := by decide +kernel
theorem dX6_fit_67 : decode cX6_fit 67 = .ok (.iconst 0, 1) := by decide +kernel
theorem dX6_fit_68 : decode cX6_fit 68 = .ok (.goto 15, 3) := by decide +kernel
theorem dX6_fit_71 : decode cX6_fit 71 = .ok (.iconst 1, 1) := by decide +kernel
theorem dX6_fit_72 : decode cX6_fit 72 = .ok (.aload_n 0, 1) := by decide +kernel
theorem dX6_fit_73 : decode cX6_fit 73 = .ok (.getfield 33, 3) := by decide +kernel
theorem dX6_fit_76 : decode cX6_fit 76 = .ok (.iload 5, 2) := by decide +kernel
theorem dX6_fit_78 : decode cX6_fit 78 = .ok (.iload_n 1, 1) := by decide +kernel
theorem dX6_fit_79 : decode cX6_fit 79 = .ok (.invokevirtual 271, 3) := by decide +kernel
theorem dX6_fit_82 : decode cX6_fit 82 = .ok (.ishl, 1) := by decide +kernel
theorem dX6_fit_83 : decode cX6_fit 83 = .ok (.ior, 1) := by decide +kernel
theorem dX6_fit_84 : decode cX6_fit 84 = .ok (.istore 4, 2) := by decide +kernel
theorem dX6_fit_86 : decode cX6_fit 86 = .ok (.iinc 5 (-1), 3) := by decide +kernel
theorem dX6_fit_89 : decode cX6_fit 89 = .ok (.goto (-51), 3) := by decide +kernel
theorem dX6_fit_92 : decode cX6_fit 92 = .ok (.iload_n 1, 1) := by decide +kernel
theorem dX6_fit_93 : decode cX6_fit 93 = .ok (.iconst (-1), 1) := by decide +kernel
theorem dX6_fit_94 : decode cX6_fit 94 = .ok (.if_icmp .ne 5, 3) := by decide +kernel
theorem dX6_fit_97 : decode cX6_fit 97 = .ok (.iload_n 2, 1) := by decide +kernel
theorem dX6_fit_98 : decode cX6_fit 98 = .ok (.ireturn, 1) := by decide +kernel
theorem dX6_fit_99 : decode cX6_fit 99 = .ok (.iload_n 1, 1) := by decide +kernel
theorem dX6_fit_100 : decode cX6_fit 100 = .ok (.bipush (-2), 2) := by decide +kernel
theorem dX6_fit_102 : decode cX6_fit 102 = .ok (.if_icmp .ne 7, 3) := by decide +kernel
theorem dX6_fit_105 : decode cX6_fit 105 = .ok (.iload_n 3, 1) := by decide +kernel
theorem dX6_fit_106 : decode cX6_fit 106 = .ok (.goto 5, 3) := by decide +kernel
theorem dX6_fit_109 : decode cX6_fit 109 = .ok (.iload 4, 2) := by decide +kernel
theorem dX6_fit_111 : decode cX6_fit 111 = .ok (.ireturn, 1) := by decide +kernel
def fitB (J : Nat → Nat → Int64) (num : Nat) : Bool := lbit (J 6 (num / 64)) (num % 64)
def FTI (I : Nat → Nat → Int32) (J : Nat → Nat → Int64) (t P : Nat) : Prop := P ≤ 6 ∧ I 33 11 = nI P ∧ I 1 12 = nI P ∧ (∀ p, p < P → I 39 p = nI (pvN I p) ∧ pvN I p < 2 ^ t) ∧ ∀ num, num < 3 ^ t → fitB J num = tsF I J t P num
def rlV (J : Nat → Nat → Int64) (num : Nat) : Int64 := J 6 (num / 64) &&& (((1 : Int64) <<< ((nI (num % 64)).toInt64 &&& 63)) ^^^ (-1))
theorem fitB_rule {J : Nat → Nat → Int64} {num m : Nat} : fitB (wrJ J 6 (num / 64) (rlV J num)) m = (fitB J m && decide (m ≠ num)) := by
  unfold fitB
  show lbit (vp_updL (J 6) (num / 64) (rlV J num) (m / 64)) (m % 64) = _
  by_cases h : m / 64 = num / 64
  · rw [h, pk_uLs]
    unfold rlV
    rw [lb_and, lb_not (by omega)]
    have : lbit ((1 : Int64) <<< ((nI (num % 64)).toInt64 &&& 63)) (m % 64) = decide (m % 64 = num % 64) := one_shl (by omega) _
    rw [this]
    by_cases e : m = num
    · subst e; simp
    · have e2 : ¬ m % 64 = num % 64 := by omega
      simp [e, e2]
  · rw [pk_uLn h]
    have : m ≠ num := fun e => h (by rw [e])
    simp [this]
theorem sh6 {num : Nat} (h : num < 2 ^ 31) : nI num >>> ((6 : Int32) &&& 31) = nI (num / 64) := by
  have := pk_shrN (n := num) h ((6 : Int32) &&& 31) 6 (by decide)
  exact this
theorem an63 {num : Nat} (h : num < 2 ^ 31) : nI num &&& (63 : Int32) = nI (num % 64) := by
  have := pk_andN (n := num) (m := 63) (by omega) 6 (by decide)
  exact this
theorem pop_hi {t x : Nat} (hx : x < 2 ^ t) : ∀ j, pop (t + j) x = pop t x
  | 0 => rfl
  | j + 1 => by
    show pop (t + j) x + (if x.testBit (t + j) then 1 else 0) = _
    rw [pop_hi hx j, Nat.testBit_lt_two_pow (Nat.lt_of_lt_of_le hx (Nat.pow_le_pow_right (by decide) (by omega)))]
    rfl
theorem pop_6 {t x : Nat} (h6 : t ≤ 6) (hx : x < 2 ^ t) : pop 6 x = pop t x := by
  have := pop_hi hx (6 - t)
  rw [show t + (6 - t) = 6 by omega] at this
  exact this
theorem tb_ar (a b : Int32) : a + 1 - b = a - b + (nI 2 - 1) ∧ a - (b + 1) = a - b + (nI 0 - 1) ∧ a - b = a - b + (nI 1 - 1) := by
  refine ⟨?_, ?_, ?_⟩
  · rw [show nI 2 - 1 = (1 : Int32) from rfl, Int32.sub_eq_add_neg, Int32.sub_eq_add_neg]; ac_rfl
  · rw [show nI 0 - 1 = (-1 : Int32) from rfl, Int32.sub_eq_add_neg, Int32.sub_eq_add_neg, Int32.neg_add, Int32.sub_eq_add_neg]; ac_rfl
  · rw [show nI 1 - 1 = (0 : Int32) from rfl, Int32.add_zero]
theorem tb_1 {t num w : Nat} (h6 : t ≤ 6) : ∀ i, i ≤ t → nI (pop i (w &&& tmask 2 t num t)) - nI (pop i (w &&& (63 ^^^ (tmask 1 t num t ||| tmask 2 t num t)))) = upto (fun k s => s + if w.testBit k then nI (dig t num k) - 1 else 0) i 0
  | 0, _ => by show nI 0 - nI 0 = 0; rfl
  | i + 1, hi => by
    have ih := tb_1 (t := t) (num := num) (w := w) h6 i (by omega)
    have h63 : (63 : Nat).testBit i = true := by
      have : ∀ i, i < 6 → (63 : Nat).testBit i = true := by decide
      exact this i (by omega)
    have hd := dig_lt t num i
    show nI (pop i (w &&& tmask 2 t num t) + (if (w &&& tmask 2 t num t).testBit i then 1 else 0)) - nI (pop i (w &&& (63 ^^^ (tmask 1 t num t ||| tmask 2 t num t))) + (if (w &&& (63 ^^^ (tmask 1 t num t ||| tmask 2 t num t))).testBit i then 1 else 0)) = upto (fun k s => s + if w.testBit k then nI (dig t num k) - 1 else 0) i 0 + (if w.testBit i then nI (dig t num i) - 1 else 0)
    rw [← ih, Nat.testBit_and, Nat.testBit_and, Nat.testBit_xor, Nat.testBit_or, tm_bit, tm_bit, h63, decide_eq_true (show i < t by omega), Bool.true_and, Bool.true_and]
    generalize pop i (w &&& tmask 2 t num t) = a
    generalize pop i (w &&& (63 ^^^ (tmask 1 t num t ||| tmask 2 t num t))) = b
    obtain ⟨t1, t2, t3⟩ := tb_ar (nI a) (nI b)
    cases w.testBit i with
    | false => simp
    | true =>
      by_cases h0 : dig t num i = 0
      · rw [h0]; show nI (a + 0) - nI (b + 1) = nI a - nI b + (nI 0 - 1); rw [← t2, ← nI_1]; rfl
      · by_cases h1 : dig t num i = 1
        · rw [h1]; show nI (a + 0) - nI (b + 0) = nI a - nI b + (nI 1 - 1); exact t3
        · rw [show dig t num i = 2 by omega]; show nI (a + 1) - nI (b + 0) = nI a - nI b + (nI 2 - 1); rw [← t1, ← nI_1]; rfl
theorem tb_eq {t num w : Nat} (h6 : t ≤ 6) (hw : w < 2 ^ t) : nI (pop 6 (w &&& tmask 2 t num t)) - nI (pop 6 (w &&& (63 ^^^ (tmask 1 t num t ||| tmask 2 t num t)))) = tbF t num w := by
  rw [pop_6 h6 (Nat.lt_of_le_of_lt Nat.and_le_left hw), pop_6 h6 (Nat.lt_of_le_of_lt Nat.and_le_left hw)]
  exact tb_1 h6 t (Nat.le_refl _)
theorem lik_eq {t num : Nat} (h6 : t ≤ 6) : (tmask 1 t num t ||| tmask 2 t num t) &&& (63 ^^^ tmask 1 t num t) = tmask 2 t num t := by
  apply Nat.eq_of_testBit_eq
  intro i
  rw [Nat.testBit_and, Nat.testBit_or, Nat.testBit_xor]
  by_cases h : i < 6
  · have h63 : (63 : Nat).testBit i = true := by
      have : ∀ i, i < 6 → (63 : Nat).testBit i = true := by decide
      exact this i h
    rw [h63]
    cases h1 : (tmask 1 t num t).testBit i with
    | true => rw [tm_disj h1]; rfl
    | false => cases (tmask 2 t num t).testBit i <;> rfl
  · have h1 : (tmask 1 t num t).testBit i = false := by rw [tm_bit, decide_eq_false (by omega), Bool.false_and]
    have h2 : (tmask 2 t num t).testBit i = false := by rw [tm_bit, decide_eq_false (by omega), Bool.false_and]
    rw [h1, h2]; rfl
theorem tk_f {t num v w : Nat} {K : Int64} (h : lbit K w = true) (h2 : tbF t num v < tbF t num w ∨ (tbF t num w = tbF t num v ∧ w < v)) : tkB t num K v w = false := by
  unfold tkB
  rw [h]
  rcases h2 with h2 | ⟨h2, h3⟩
  · have e1 : ¬ tbF t num w < tbF t num v := by simp only [i_lt] at *; omega
    have e2 : ¬ tbF t num w = tbF t num v := fun e => by rw [e] at h2; simp only [i_lt] at h2; omega
    simp [e1, e2]
  · have e1 : ¬ tbF t num w < tbF t num v := by rw [h2]; simp only [i_lt]; omega
    have e3 : ¬ v ≤ w := by omega
    simp [e1, e3]
theorem tk_t {t num v w : Nat} {K : Int64} (h1 : ¬ tbF t num v < tbF t num w) (h2 : ¬ tbF t num w = tbF t num v ∨ ¬ w < v) : tkB t num K v w = true := by
  unfold tkB
  by_cases e : tbF t num w = tbF t num v
  · have : v ≤ w := by rcases h2 with h2 | h2; exact absurd e h2; omega
    simp [e, this]
  · have : tbF t num w < tbF t num v := by
      have e2 : (tbF t num w).toInt ≠ (tbF t num v).toInt := fun h => e (Int32.toInt_inj.mp h)
      simp only [i_lt] at *; omega
    simp [this]
theorem tk_n {t num v w : Nat} {K : Int64} (h : lbit K w = false) : tkB t num K v w = true := by unfold tkB; rw [h]; rfl
theorem TOK_J {I : Nat → Nat → Int32} {J J' : Nat → Nat → Int64} {t : Nat} (h : TOK I J t) (e : J' 19 = J 19) : TOK I J' t := ⟨h.1, fun num hn => ⟨(h.2.1 num hn).1, (h.2.1 num hn).2.1, fun w hw => by rw [e]; exact (h.2.1 num hn).2.2 w hw⟩, h.2.2⟩
def LQ (ts : Nat → Bool) (N k : Nat) (o : Option Nat) : Prop := (o = none ∧ ∀ m, k ≤ m → m < N → ts m = false) ∨ (∃ m, o = some m ∧ k ≤ m ∧ m < N ∧ ts m = true ∧ ∀ i, k ≤ i → i < m → ts i = false)
theorem LQ_t {ts : Nat → Bool} {N k : Nat} (hk : k < N) (h : ts k = true) : LQ ts N k (some k) := Or.inr ⟨k, rfl, Nat.le_refl _, hk, h, fun i h1 h2 => absurd h1 (by omega)⟩
theorem LQ_f {ts : Nat → Bool} {N k : Nat} {o : Option Nat} (hq : LQ ts N (k + 1) o) (h : ts k = false) : LQ ts N k o := by
  rcases hq with ⟨h1, h2⟩ | ⟨m, h1, h2, h3, h4, h5⟩
  · exact Or.inl ⟨h1, fun m g1 g2 => by by_cases e : m = k; (rw [e]; exact h); exact h2 m (by omega) g2⟩
  · exact Or.inr ⟨m, h1, by omega, h3, h4, fun i g1 g2 => by by_cases e : i = k; (rw [e]; exact h); exact h5 i (by omega) g2⟩
theorem flF_LQ {ts : Nat → Bool} : ∀ N, LQ ts N 0 (flF ts N)
  | 0 => Or.inl ⟨rfl, fun m _ h => absurd h (by omega)⟩
  | N + 1 => by
    have ih := flF_LQ (ts := ts) N
    unfold flF
    rcases ih with ⟨h1, h2⟩ | ⟨m, h1, h2, h3, h4, h5⟩
    · rw [h1]
      cases hN : ts N with
      | true => exact Or.inr ⟨N, rfl, by omega, by omega, hN, fun i g1 g2 => h2 i g1 g2⟩
      | false => exact Or.inl ⟨rfl, fun m g1 g2 => by by_cases e : m = N; (rw [e]; exact hN); exact h2 m g1 (by omega)⟩
    · rw [h1]; exact Or.inr ⟨m, rfl, h2, by omega, h4, h5⟩
theorem LQ_eq {ts : Nat → Bool} {N k : Nat} {o p : Option Nat} (h : LQ ts N k o) (g : LQ ts N k p) : o = p := by
  rcases h with ⟨h1, h2⟩ | ⟨m, h1, h2, h3, h4, h5⟩
  · rcases g with ⟨g1, g2⟩ | ⟨q, g1, g2, g3, g4, g5⟩
    · rw [h1, g1]
    · have := h2 q g2 g3; rw [g4] at this; cases this
  · rcases g with ⟨g1, g2⟩ | ⟨q, g1, g2, g3, g4, g5⟩
    · have := g2 m h2 h3; rw [h4] at this; cases this
    · rw [h1, g1]
      by_cases e : m < q
      · have := g5 m h2 e; rw [h4] at this; cases this
      · by_cases e2 : q < m
        · have := h5 q g2 e2; rw [g4] at this; cases this
        · rw [show m = q by omega]
def DQ (t th : Nat) (ts : Nat → Bool) (N k d : Nat) : Prop := ∀ b, d.testBit b = true ↔ ∃ m, k ≤ m ∧ m < N ∧ ts m = true ∧ dig t m th = b
theorem DQ_t {t th : Nat} {ts : Nat → Bool} {N k d : Nat} (hk : k < N) (hq : DQ t th ts N (k + 1) d) (h : ts k = true) : DQ t th ts N k (d ||| 2 ^ dig t k th) := by
  intro b
  rw [Nat.testBit_or, Nat.testBit_two_pow, Bool.or_eq_true, decide_eq_true_eq, hq b]
  constructor
  · rintro (⟨m, h1, h2⟩ | e)
    · exact ⟨m, by omega, h2⟩
    · exact ⟨k, Nat.le_refl _, hk, h, e⟩
  · rintro ⟨m, h1, h2, h3, h4⟩
    by_cases e : m = k
    · subst e; exact Or.inr h4
    · exact Or.inl ⟨m, by omega, h2, h3, h4⟩
theorem DQ_f {t th : Nat} {ts : Nat → Bool} {N k d : Nat} (hq : DQ t th ts N (k + 1) d) (h : ts k = false) : DQ t th ts N k d := by
  intro b
  rw [hq b]
  constructor
  · rintro ⟨m, h1, h2⟩; exact ⟨m, by omega, h2⟩
  · rintro ⟨m, h1, h2, h3, h4⟩
    by_cases e : m = k
    · rw [e, h] at h3; cases h3
    · exact ⟨m, by omega, h2, h3, h4⟩
theorem fdF_DQ {t th : Nat} {ts : Nat → Bool} : ∀ N, DQ t th ts N 0 (fdF t th ts N)
  | 0 => fun b => by
    show (0 : Nat).testBit b = true ↔ _
    rw [Nat.zero_testBit]
    exact ⟨fun h => absurd h (by decide), fun ⟨m, _, h, _⟩ => absurd h (by omega)⟩
  | N + 1 => by
    have ih := fdF_DQ (t := t) (th := th) (ts := ts) N
    intro b
    show (fdF t th ts N ||| (if ts N then 2 ^ dig t N th else 0)).testBit b = true ↔ _
    cases hN : ts N with
    | true =>
      rw [if_pos rfl, Nat.testBit_or, Nat.testBit_two_pow, Bool.or_eq_true, decide_eq_true_eq, ih b]
      constructor
      · rintro (⟨m, h1, h2, h3⟩ | e)
        · exact ⟨m, h1, by omega, h3⟩
        · exact ⟨N, by omega, by omega, hN, e⟩
      · rintro ⟨m, h1, h2, h3, h4⟩
        by_cases e : m = N
        · subst e; exact Or.inr h4
        · exact Or.inl ⟨m, by omega, by omega, h3, h4⟩
    | false =>
      rw [if_neg (by decide), Nat.or_zero, ih b]
      constructor
      · rintro ⟨m, h1, h2, h3⟩; exact ⟨m, h1, by omega, h3⟩
      · rintro ⟨m, h1, h2, h3, h4⟩
        by_cases e : m = N
        · rw [e, hN] at h3; cases h3
        · exact ⟨m, h1, by omega, h3, h4⟩
theorem DQ_eq {t th : Nat} {ts : Nat → Bool} {N k d e : Nat} (h : DQ t th ts N k d) (g : DQ t th ts N k e) : d = e := by
  apply Nat.eq_of_testBit_eq
  intro i
  rw [Bool.eq_iff_iff, h i, g i]
section CLS12
variable {xl : Nat} {xs : Nat → Int32} {n : Nat} {h : Nat → PC} {I S : Nat → Nat → Int32} {J T : Nat → Nat → Int64} {X : Nat → Option Nat} {t sl wy wi he sg P : Nat}
theorem k_X4_canFit {num : Nat} (hn : 49 ≤ n) (hu : num < 729) : Rn xl xs 0 0 0 0 mX4_canFit [.ref 1, .int (nI num)] n (sysH (ov I S) (ovJ J T) X) (some (.int (b2i (fitB J num)))) n (sysH (ov I S) (ovJ J T) X) := by
  intro Q hQ
  show Ev xl xs 0 0 0 0 mX4_canFit 0 [some (.ref 1), some (.int (nI num))] [] n (sysH (ov I S) (ovJ J T) X) Q
  have e := lb_sh (S := ovJ J T 6 (num / 64)) (w := num % 64) (by omega)
  have e2 : lbit (ovJ J T 6 (num / 64)) (num % 64) = fitB J num := rfl
  rw [e2] at e
  refine ev_aload_n (q := 1) dX4_canFit_0 rfl rfl ?_
  refine ev_get (q := 4) dX4_canFit_1 fr_X4_24 rfl (lt_n hn (by decide)) rfl rfl ?_
  refine ev_iload_n (q := 5) dX4_canFit_4 rfl rfl ?_
  refine ev_bipush (q := 7) (6) dX4_canFit_5 (by decide) rfl ?_
  refine ev_ishr (q := 8) dX4_canFit_7 rfl ?_
  refine ev_laS (q := 9) (num / 64) dX4_canFit_8 (sh6 (by omega)) rfl (by omega) (lt_n hn (by decide)) rfl ?_
  refine ev_iload_n (q := 10) dX4_canFit_9 rfl rfl ?_
  refine ev_bipush (q := 12) (63) dX4_canFit_10 (by decide) rfl ?_
  refine ev_iand (q := 13) dX4_canFit_12 rfl ?_
  rw [an63 (by omega)]
  refine ev_lushr (q := 14) dX4_canFit_13 rfl ?_
  refine ev_lconst (q := 15) (1) dX4_canFit_14 (by decide) rfl ?_
  refine ev_land (q := 16) dX4_canFit_15 rfl ?_
  refine ev_lconst (q := 17) (0) dX4_canFit_16 (by decide) rfl ?_
  refine ev_lcmp (q := 18) dX4_canFit_17 rfl ?_
  rw [e]
  refine ev_if_eq (q := 21) 25 dX4_canFit_18 (by decide) rfl (fun c_18 => ?_) (fun c_18 => ?_)
  · have c_18 : fitB J num = false := by cases hb : fitB J num <;> first | rfl | (rw [hb] at c_18; exact absurd c_18 (by decide))
    refine ev_iconst (q := 26) (0) dX4_canFit_25 (by decide) rfl ?_
    exact ev_iretE dX4_canFit_26 rfl (nar_b2i _) (by rw [c_18]; rfl) rfl rfl hQ
  · have c_18 : fitB J num = true := by cases hb : fitB J num <;> first | rfl | (rw [hb] at c_18; exact absurd rfl c_18)
    refine ev_iconst (q := 22) (1) dX4_canFit_21 (by decide) rfl ?_
    refine ev_goto 26 dX4_canFit_22 (by decide) ?_
    exact ev_iretE dX4_canFit_26 rfl (nar_b2i _) (by rw [c_18]; rfl) rfl rfl hQ
theorem k_X4_ruleOut {num : Nat} (hn : 49 ≤ n) (hu : num < 729) : RnS xl xs 0 0 0 0 mX4_ruleOut [.ref 1, .int (nI num)] n I J X none n I (wrJ J 6 (num / 64) (rlV J num)) X := by
  intro S T Q hQ
  show Ev xl xs 0 0 0 0 mX4_ruleOut 0 [some (.ref 1), some (.int (nI num))] [] n (sysH (ov I S) (ovJ J T) X) Q
  refine ev_aload_n (q := 1) dX4_ruleOut_0 rfl rfl ?_
  refine ev_get (q := 4) dX4_ruleOut_1 fr_X4_24 rfl (lt_n hn (by decide)) rfl rfl ?_
  refine ev_iload_n (q := 5) dX4_ruleOut_4 rfl rfl ?_
  refine ev_bipush (q := 7) (6) dX4_ruleOut_5 (by decide) rfl ?_
  refine ev_ishr (q := 8) dX4_ruleOut_7 rfl ?_
  refine ev_dup2 (q := 9) (fun _ => rfl) (fun _ => rfl) dX4_ruleOut_8 rfl ?_
  refine ev_laS (q := 10) (num / 64) dX4_ruleOut_9 (sh6 (by omega)) rfl (by omega) (lt_n hn (by decide)) rfl ?_
  refine ev_lconst (q := 11) (1) dX4_ruleOut_10 (by decide) rfl ?_
  refine ev_iload_n (q := 12) dX4_ruleOut_11 rfl rfl ?_
  refine ev_bipush (q := 14) (63) dX4_ruleOut_12 (by decide) rfl ?_
  refine ev_iand (q := 15) dX4_ruleOut_14 rfl ?_
  rw [an63 (by omega)]
  refine ev_lshl (q := 16) dX4_ruleOut_15 rfl ?_
  refine ev_ldc2 (q := 19) co_X4_70 dX4_ruleOut_16 rfl ?_
  refine ev_lxor (q := 20) dX4_ruleOut_19 rfl ?_
  refine ev_land (q := 21) dX4_ruleOut_20 rfl ?_
  first | refine ev_lsK (q := 22) (num / 64) dX4_ruleOut_21 (sh6 (by omega)) rfl (by omega) (lt_n hn (by decide)) rfl rfl ?_ | refine ev_lsR (q := 22) (num / 64) dX4_ruleOut_21 (sh6 (by omega)) rfl (by omega) (lt_n hn (by decide)) rfl rfl ?_
  exact ev_retE dX4_ruleOut_22 rfl rfl rfl (hQ _ _)
theorem k_X5_tasteTakes {num v : Nat} {Z : Int64} (hn : 49 ≤ n) (h6 : t ≤ 6) (ht : TOK I J t) (hu : num < 3 ^ t) (hv : v < 2 ^ t) (hZ : ∀ w, 2 ^ t ≤ w → lbit Z w = false) : Rn xl xs 2 42 0 0 mX5_tasteTakes [.ref 16, .int (nI num), .long Z, .int (nI v)] n (sysH (ov I S) (ovJ J T) X) (some (.int (b2i (allN (tkB t num Z v) (2 ^ t))))) n (sysH (ov I S) (ovJ J T) X) := by
  intro Q hQ
  have h64 := p2_le h6
  have h729 := p3_le h6
  have e17 : ov I S 17 num = nI (tmask 1 t num t ||| tmask 2 t num t) := (ht.2.1 num hu).1
  have e18 : ov I S 18 num = nI (tmask 1 t num t) := (ht.2.1 num hu).2.1
  have m1 : tmask 1 t num t < 64 := Nat.lt_of_lt_of_le (tmask_lt2 1 t num) h64
  have m2 : tmask 2 t num t < 64 := Nat.lt_of_lt_of_le (tmask_lt2 2 t num) h64
  have m3 : tmask 1 t num t ||| tmask 2 t num t < 64 := Nat.or_lt_two_pow (n := 6) m1 m2
  have hlk : nI (tmask 1 t num t ||| tmask 2 t num t) &&& (nI (tmask 1 t num t) ^^^ (-1)) = nI (tmask 2 t num t) := by rw [nI_not m3 m1, lik_eq h6]
  have hj : ∀ w, w < 2 ^ t → nI (pop 6 (w &&& tmask 2 t num t)) - nI (pop 6 (w &&& (63 ^^^ (tmask 1 t num t ||| tmask 2 t num t)))) = tbF t num w := fun w hw => tb_eq h6 hw
  have hl1 : ∀ w y, w < 2 ^ t → w &&& y < 64 := fun w y hw => Nat.lt_of_le_of_lt Nat.and_le_left (by omega)
  show Ev xl xs 2 42 0 0 mX5_tasteTakes 0 [some (.ref 16), some (.int (nI num)), some (.long Z), none, some (.int (nI v)), none, none, none, none, none, none, none, none] [] n (sysH (ov I S) (ovJ J T) X) Q
  have lp : ∀ j p lf, p ≤ 64 → (∀ i, i < 64 → lbit lf i = (decide (p ≤ i) && lbit Z i)) → cN (lbit lf) 64 = j → (∀ i, i < p → tkB t num Z v i = true) → ∀ a11 a12, Ev xl xs 2 42 0 0 mX5_tasteTakes 55 [some (.ref 16), some (.int (nI num)), some (.long Z), none, some (.int (nI v)), some (.int (nI (tmask 2 t num t))), some (.int (nI (tmask 1 t num t ||| tmask 2 t num t) ^^^ (-1))), some (.int (tbF t num v)), some (.long lf), none, some (.int (nI j)), a11, a12] [] n (sysH (ov I S) (ovJ J T) X) Q := by
    intro j
    induction j with
    | zero =>
      intro p lf hp hlf hc hal a11 a12
      have hz := cN_0 64 hc
      have hall : allN (tkB t num Z v) (2 ^ t) = true := (allN_iff _).mpr (fun i hi => by
        by_cases g : i < p
        · exact hal i g
        · have := hlf i (by omega)
          rw [hz i (by omega), decide_eq_true (show p ≤ i by omega), Bool.true_and] at this
          exact tk_n this.symm)
      refine ev_iload (q := 57) dX5_tasteTakes_55 rfl rfl ?_
      refine ev_if_le (q := 60) 124 dX5_tasteTakes_57 (by decide) rfl (fun c_57 => ?_) (fun c_57 => ?_)
      · refine ev_iconst (q := 125) (1) dX5_tasteTakes_124 (by decide) rfl ?_
        exact ev_iretE dX5_tasteTakes_125 rfl (nar_b2i _) (by rw [hall]; rfl) rfl rfl hQ
      · exact absurd (show nI 0 ≤ 0 by decide) c_57
    | succ j ih =>
      intro p lf hp hlf hc hal a11 a12
      obtain ⟨w, hw, hw1, hw2⟩ := cN_ex 64 (show 0 < cN (lbit lf) 64 by omega)
      have hpw : p ≤ w ∧ lbit Z w = true := by have := hlf w hw; rw [hw1] at this; have := Bool.and_eq_true_iff.mp this.symm; exact ⟨of_decide_eq_true this.1, this.2⟩
      have hwt : w < 2 ^ t := by
        by_cases h9 : w < 2 ^ t
        · exact h9
        · have := hZ w (by omega); rw [hpw.2] at this; cases this
      have hcl : ∀ i, lbit (lf &&& (lf - 1)) i = (lbit lf i && decide (i ≠ w)) := fun i => clr_l hw1 hw2 i
      have hj64 : cN (lbit lf) 64 ≤ 64 := cN_le _ _
      have hc2 : cN (lbit (lf &&& (lf - 1))) 64 = j := by have := cN_clr (p := lbit lf) hw1 64 hw; rw [← cN_congr (fun i _ => hcl i)] at this; omega
      have hlf2 : ∀ i, i < 64 → lbit (lf &&& (lf - 1)) i = (decide (w + 1 ≤ i) && lbit Z i) := by
        intro i hi
        rw [hcl i]
        by_cases h1 : i < w
        · rw [hw2 i h1, Bool.false_and, decide_eq_false (by omega), Bool.false_and]
        · by_cases h2 : i = w
          · rw [decide_eq_false (by simp [h2]), Bool.and_false, decide_eq_false (by omega), Bool.false_and]
          · rw [hlf i hi, decide_eq_true h2, Bool.and_true, decide_eq_true (show p ≤ i by omega), decide_eq_true (show w + 1 ≤ i by omega)]
      have e := ih (w + 1) (lf &&& (lf - 1)) (by omega) hlf2 hc2
      have hal2 : tkB t num Z v w = true → ∀ i, i < w + 1 → tkB t num Z v i = true := fun g i hi => by
        by_cases g1 : i < p
        · exact hal i g1
        · by_cases g2 : i = w
          · rw [g2]; exact g
          · have := hlf i (by omega)
            rw [hw2 i (by omega), decide_eq_true (show p ≤ i by omega), Bool.true_and] at this
            exact tk_n this.symm
      have hbad : tkB t num Z v w = false → allN (tkB t num Z v) (2 ^ t) = false := fun g => by
        cases hx : allN (tkB t num Z v) (2 ^ t) with
        | false => rfl
        | true => have := (allN_iff _).mp hx w hwt; rw [g] at this; cases this
      refine ev_iload (q := 57) dX5_tasteTakes_55 rfl rfl ?_
      refine ev_if_le (q := 60) 124 dX5_tasteTakes_57 (by decide) rfl (fun c_57 => ?_) (fun c_57 => ?_)
      · exact absurd c_57 (nI_nle (by omega) (by omega))
      · refine ev_lload (q := 62) dX5_tasteTakes_60 rfl rfl ?_
        refine ev_callSn1i (q := 65) dX5_tasteTakes_62 ca_X5_51 (c_X6_lowestOf hw hw1 hw2) (Nat.le_of_ble_eq_true rfl) (Nat.le_of_ble_eq_true rfl) (by decide) (by decide) rfl ?_
        refine ev_ist_11 (q := 67) dX5_tasteTakes_65 rfl rfl ?_
        refine ev_lload (q := 69) dX5_tasteTakes_67 rfl rfl ?_
        refine ev_lload (q := 71) dX5_tasteTakes_69 rfl rfl ?_
        refine ev_lconst (q := 72) (1) dX5_tasteTakes_71 (by decide) rfl ?_
        refine ev_lsub (q := 73) dX5_tasteTakes_72 rfl ?_
        refine ev_land (q := 74) dX5_tasteTakes_73 rfl ?_
        refine ev_lst_8 (q := 76) dX5_tasteTakes_74 rfl rfl ?_
        refine ev_iload (q := 78) dX5_tasteTakes_76 rfl rfl ?_
        refine ev_iload (q := 80) dX5_tasteTakes_78 rfl rfl ?_
        refine ev_iand (q := 81) dX5_tasteTakes_80 rfl ?_
        rw [nI_and]
        refine ev_callS1i (q := 84) dX5_tasteTakes_81 ca_X5_37 (c_bitI (hl1 w _ hwt)) (Nat.le_of_ble_eq_true rfl) (Nat.le_of_ble_eq_true rfl) (by decide) (by decide) rfl ?_
        refine ev_iload (q := 86) dX5_tasteTakes_84 rfl rfl ?_
        refine ev_iload (q := 88) dX5_tasteTakes_86 rfl rfl ?_
        refine ev_iand (q := 89) dX5_tasteTakes_88 rfl ?_
        rw [nI_not hw m3]
        refine ev_callS1i (q := 92) dX5_tasteTakes_89 ca_X5_37 (c_bitI (hl1 w _ hwt)) (Nat.le_of_ble_eq_true rfl) (Nat.le_of_ble_eq_true rfl) (by decide) (by decide) rfl ?_
        refine ev_isub (q := 93) dX5_tasteTakes_92 rfl ?_
        rw [hj w hwt]
        refine ev_ist_12 (q := 95) dX5_tasteTakes_93 rfl rfl ?_
        refine ev_iload (q := 97) dX5_tasteTakes_95 rfl rfl ?_
        refine ev_iload (q := 99) dX5_tasteTakes_97 rfl rfl ?_
        refine ev_icmp_gt (q := 102) 116 dX5_tasteTakes_99 (by decide) rfl (fun c_99 => ?_) (fun c_99 => ?_)
        · have c_99 : tbF t num v < tbF t num w := c_99
          refine ev_iconst (q := 117) (0) dX5_tasteTakes_116 (by decide) rfl ?_
          exact ev_iretE dX5_tasteTakes_117 rfl (nar_b2i _) (by first | (rw [hbad (tk_f hpw.2 (Or.inl c_99))]; rfl) | (rw [hbad (tk_f hpw.2 (Or.inr ⟨c_106, c_113⟩))]; rfl)) rfl rfl hQ
        · have c_99 : ¬ tbF t num v < tbF t num w := c_99
          refine ev_iload (q := 104) dX5_tasteTakes_102 rfl rfl ?_
          refine ev_iload (q := 106) dX5_tasteTakes_104 rfl rfl ?_
          refine ev_icmp_ne (q := 109) 118 dX5_tasteTakes_106 (by decide) rfl (fun c_106 => ?_) (fun c_106 => ?_)
          · have c_106 : ¬ tbF t num w = tbF t num v := c_106
            refine ev_inc_10 (q := 121) (nI j) dX5_tasteTakes_118 (pk_m1 j) rfl rfl ?_
            refine ev_goto 55 dX5_tasteTakes_121 (by decide) ?_
            first | exact e (hal2 (tk_t c_99 (Or.inl c_106))) _ _ | exact e (hal2 (tk_t c_99 (Or.inr c_113))) _ _
          · have c_106 : tbF t num w = tbF t num v := c_106
            refine ev_iload (q := 111) dX5_tasteTakes_109 rfl rfl ?_
            refine ev_iload (q := 113) dX5_tasteTakes_111 rfl rfl ?_
            refine ev_icmp_ge (q := 116) 118 dX5_tasteTakes_113 (by decide) rfl (fun c_113 => ?_) (fun c_113 => ?_)
            · have c_113 : ¬ w < v := fun h => absurd ((nI_leI (by omega) (by omega)).mp c_113) (by omega)
              refine ev_inc_10 (q := 121) (nI j) dX5_tasteTakes_118 (pk_m1 j) rfl rfl ?_
              refine ev_goto 55 dX5_tasteTakes_121 (by decide) ?_
              first | exact e (hal2 (tk_t c_99 (Or.inl c_106))) _ _ | exact e (hal2 (tk_t c_99 (Or.inr c_113))) _ _
            · have c_113 : w < v := by by_cases g : w < v; exact g; exact absurd ((nI_leI (by omega) (by omega)).mpr (by omega)) c_113
              refine ev_iconst (q := 117) (0) dX5_tasteTakes_116 (by decide) rfl ?_
              exact ev_iretE dX5_tasteTakes_117 rfl (nar_b2i _) (by first | (rw [hbad (tk_f hpw.2 (Or.inl c_99))]; rfl) | (rw [hbad (tk_f hpw.2 (Or.inr ⟨c_106, c_113⟩))]; rfl)) rfl rfl hQ
  refine ev_aload_n (q := 1) dX5_tasteTakes_0 rfl rfl ?_
  refine ev_get (q := 4) dX5_tasteTakes_1 fr_X5_9 rfl (lt_n hn (by decide)) rfl rfl ?_
  refine ev_iload_n (q := 5) dX5_tasteTakes_4 rfl rfl ?_
  refine ev_iaS (q := 6) num dX5_tasteTakes_5 rfl rfl (by omega) (lt_n hn (by decide)) rfl ?_
  rw [e17]
  refine ev_aload_n (q := 7) dX5_tasteTakes_6 rfl rfl ?_
  refine ev_get (q := 10) dX5_tasteTakes_7 fr_X5_15 rfl (lt_n hn (by decide)) rfl rfl ?_
  refine ev_iload_n (q := 11) dX5_tasteTakes_10 rfl rfl ?_
  refine ev_iaS (q := 12) num dX5_tasteTakes_11 rfl rfl (by omega) (lt_n hn (by decide)) rfl ?_
  rw [e18]
  refine ev_iconst (q := 13) (-1) dX5_tasteTakes_12 (by decide) rfl ?_
  refine ev_ixor (q := 14) dX5_tasteTakes_13 rfl ?_
  refine ev_iand (q := 15) dX5_tasteTakes_14 rfl ?_
  rw [hlk]
  refine ev_ist_5 (q := 17) dX5_tasteTakes_15 rfl rfl ?_
  refine ev_aload_n (q := 18) dX5_tasteTakes_17 rfl rfl ?_
  refine ev_get (q := 21) dX5_tasteTakes_18 fr_X5_9 rfl (lt_n hn (by decide)) rfl rfl ?_
  refine ev_iload_n (q := 22) dX5_tasteTakes_21 rfl rfl ?_
  refine ev_iaS (q := 23) num dX5_tasteTakes_22 rfl rfl (by omega) (lt_n hn (by decide)) rfl ?_
  rw [e17]
  refine ev_iconst (q := 24) (-1) dX5_tasteTakes_23 (by decide) rfl ?_
  refine ev_ixor (q := 25) dX5_tasteTakes_24 rfl ?_
  refine ev_ist_6 (q := 27) dX5_tasteTakes_25 rfl rfl ?_
  refine ev_iload (q := 29) dX5_tasteTakes_27 rfl rfl ?_
  refine ev_iload (q := 31) dX5_tasteTakes_29 rfl rfl ?_
  refine ev_iand (q := 32) dX5_tasteTakes_31 rfl ?_
  rw [nI_and]
  refine ev_callS1i (q := 35) dX5_tasteTakes_32 ca_X5_37 (c_bitI (hl1 v _ hv)) (Nat.le_of_ble_eq_true rfl) (Nat.le_of_ble_eq_true rfl) (by decide) (by decide) rfl ?_
  refine ev_iload (q := 37) dX5_tasteTakes_35 rfl rfl ?_
  refine ev_iload (q := 39) dX5_tasteTakes_37 rfl rfl ?_
  refine ev_iand (q := 40) dX5_tasteTakes_39 rfl ?_
  rw [nI_not (show v < 64 by omega) m3]
  refine ev_callS1i (q := 43) dX5_tasteTakes_40 ca_X5_37 (c_bitI (hl1 v _ hv)) (Nat.le_of_ble_eq_true rfl) (Nat.le_of_ble_eq_true rfl) (by decide) (by decide) rfl ?_
  refine ev_isub (q := 44) dX5_tasteTakes_43 rfl ?_
  rw [hj v hv]
  refine ev_ist_7 (q := 46) dX5_tasteTakes_44 rfl rfl ?_
  refine ev_lload_n (q := 47) dX5_tasteTakes_46 rfl rfl ?_
  refine ev_lst_8 (q := 49) dX5_tasteTakes_47 rfl rfl ?_
  refine ev_lload_n (q := 50) dX5_tasteTakes_49 rfl rfl ?_
  refine ev_callS1i (q := 53) dX5_tasteTakes_50 ca_X5_46 (c_bitL _) (Nat.le_of_ble_eq_true rfl) (Nat.le_of_ble_eq_true rfl) (by decide) (by decide) rfl ?_
  refine ev_ist_10 (q := 55) dX5_tasteTakes_53 rfl rfl ?_
  exact lp _ 0 Z (by decide) (fun i hi => by simp) rfl (fun i hi => absurd hi (by omega)) _ _
theorem k_X6_picked_f (hn : 49 ≤ n) (hk : KI I J t sl wy wi he) {v : Int32} (hv : inb v 0 (nI (2 ^ t) - 1) = false) : RnS xl xs 3 74 0 0 mX6_picked [.ref 0, .int v] n I J X (some (.int (-2))) n I J X := by
  intro S T Q hQ
  show Ev xl xs 3 74 0 0 mX6_picked 0 [some (.ref 0), some (.int v), none, none, none] [] n (sysH (ov I S) (ovJ J T) X) Q
  refine ev_aload_n (q := 1) dX6_picked_0 rfl rfl ?_
  refine ev_iload_n (q := 2) dX6_picked_1 rfl rfl ?_
  refine ev_callV1i (q := 5) dX6_picked_2 ca_X6_100 (k_X6_isWorld hn hk _) rfl (lt_n hn (by decide)) rfl rfl (Nat.le_of_ble_eq_true rfl) (Nat.le_of_ble_eq_true rfl) (by decide) (by decide) rfl ?_
  refine ev_if_ne (q := 8) 11 dX6_picked_5 (by decide) rfl (fun c_5 => ?_) (fun c_5 => ?_)
  · exact absurd (b2i_ne.mp c_5) (by rw [hv]; decide)
  · refine ev_bipush (q := 10) (-2) dX6_picked_8 (by decide) rfl ?_
    exact ev_iretE dX6_picked_10 rfl rfl rfl rfl rfl (hQ _ _)
theorem k_X6_picked_n (hn : 49 ≤ n) (hk : KI I J t sl wy wi he) (hp : PdI I sg) {v : Int32} (hv : inb v 0 (nI (2 ^ t) - 1) = true) (hf : ¬ ffP I t sg = -6) : RnS xl xs 3 74 0 0 mX6_picked [.ref 0, .int v] n I J X (some (.int (-5))) n I J X := by
  intro S T Q hQ
  have hb : decide (ffP I t sg ≠ -6) = true := decide_eq_true hf
  show Ev xl xs 3 74 0 0 mX6_picked 0 [some (.ref 0), some (.int v), none, none, none] [] n (sysH (ov I S) (ovJ J T) X) Q
  refine ev_aload_n (q := 1) dX6_picked_0 rfl rfl ?_
  refine ev_iload_n (q := 2) dX6_picked_1 rfl rfl ?_
  refine ev_callV1i (q := 5) dX6_picked_2 ca_X6_100 (k_X6_isWorld hn hk _) rfl (lt_n hn (by decide)) rfl rfl (Nat.le_of_ble_eq_true rfl) (Nat.le_of_ble_eq_true rfl) (by decide) (by decide) rfl ?_
  refine ev_if_ne (q := 8) 11 dX6_picked_5 (by decide) rfl (fun c_5 => ?_) (fun c_5 => ?_)
  · refine ev_aload_n (q := 12) dX6_picked_11 rfl rfl ?_
    refine ev_callV0i (q := 15) dX6_picked_12 ca_X6_127 (k_X6_isFaulty hn hk hp) rfl (lt_n hn (by decide)) rfl rfl (Nat.le_of_ble_eq_true rfl) (Nat.le_of_ble_eq_true rfl) (by decide) (by decide) rfl ?_
    rw [hb]
    refine ev_if_eq (q := 18) 21 dX6_picked_15 (by decide) rfl (fun c_15 => ?_) (fun c_15 => ?_)
    · exact absurd c_15 (by decide)
    · refine ev_bipush (q := 20) (-5) dX6_picked_18 (by decide) rfl ?_
      exact ev_iretE dX6_picked_20 rfl rfl rfl rfl rfl (hQ _ _)
  · exact absurd c_5 (b2i_n0.mpr hv)
theorem k_X6_picked_h {w : Nat} (hn : 49 ≤ n) (hk : KI I J t sl wy wi he) (hp : PdI I sg) (hv : inb (nI w) 0 (nI (2 ^ t) - 1) = true) (hw : w < 2 ^ t) (hf : ffP I t sg = -6) (hb : lbit (kpL I J t sl sg he) w = false) : RnS xl xs 3 74 0 0 mX6_picked [.ref 0, .int (nI w)] n I J X (some (.int (-5))) n I J X := by
  intro S T Q hQ
  have h64 := p2_le hk.1.2.2.1
  have hbf : decide (ffP I t sg ≠ -6) = false := decide_eq_false (fun h => h hf)
  have e := lb_sh (S := kpL I J t sl sg he) (w := w) (by omega)
  rw [hb] at e
  show Ev xl xs 3 74 0 0 mX6_picked 0 [some (.ref 0), some (.int (nI w)), none, none, none] [] n (sysH (ov I S) (ovJ J T) X) Q
  refine ev_aload_n (q := 1) dX6_picked_0 rfl rfl ?_
  refine ev_iload_n (q := 2) dX6_picked_1 rfl rfl ?_
  refine ev_callV1i (q := 5) dX6_picked_2 ca_X6_100 (k_X6_isWorld hn hk _) rfl (lt_n hn (by decide)) rfl rfl (Nat.le_of_ble_eq_true rfl) (Nat.le_of_ble_eq_true rfl) (by decide) (by decide) rfl ?_
  refine ev_if_ne (q := 8) 11 dX6_picked_5 (by decide) rfl (fun c_5 => ?_) (fun c_5 => ?_)
  · refine ev_aload_n (q := 12) dX6_picked_11 rfl rfl ?_
    refine ev_callV0i (q := 15) dX6_picked_12 ca_X6_127 (k_X6_isFaulty hn hk hp) rfl (lt_n hn (by decide)) rfl rfl (Nat.le_of_ble_eq_true rfl) (Nat.le_of_ble_eq_true rfl) (by decide) (by decide) rfl ?_
    rw [hbf]
    refine ev_if_eq (q := 18) 21 dX6_picked_15 (by decide) rfl (fun c_15 => ?_) (fun c_15 => ?_)
    · refine ev_aload_n (q := 22) dX6_picked_21 rfl rfl ?_
      refine ev_callV0lP (q := 25) dX6_picked_22 ca_X6_143 (k_X6_wishWorlds hn hk hp hf) rfl (lt_n hn (by decide)) rfl rfl (Nat.le_of_ble_eq_true rfl) (Nat.le_of_ble_eq_true rfl) (by decide) (by decide) rfl (fun S T hp_22 => ?_)
      refine ev_lst_2 (q := 26) dX6_picked_25 rfl rfl ?_
      refine ev_lload_n (q := 27) dX6_picked_26 rfl rfl ?_
      refine ev_iload_n (q := 28) dX6_picked_27 rfl rfl ?_
      refine ev_lushr (q := 29) dX6_picked_28 rfl ?_
      refine ev_lconst (q := 30) (1) dX6_picked_29 (by decide) rfl ?_
      refine ev_land (q := 31) dX6_picked_30 rfl ?_
      rw [e]
      refine ev_lconst (q := 32) (0) dX6_picked_31 (by decide) rfl ?_
      refine ev_lcmp (q := 33) dX6_picked_32 rfl ?_
      refine ev_if_ne (q := 36) 39 dX6_picked_33 (by decide) rfl (fun c_33 => ?_) (fun c_33 => ?_)
      · exact absurd rfl c_33
      · refine ev_bipush (q := 38) (-5) dX6_picked_36 (by decide) rfl ?_
        exact ev_iretE dX6_picked_38 rfl rfl rfl rfl rfl (hQ _ _)
    · exact absurd rfl c_15
  · exact absurd c_5 (b2i_n0.mpr hv)
theorem k_X6_picked_6 {w : Nat} (hn : 49 ≤ n) (hk : KI I J t sl wy wi he) (hp : PdI I sg) (hv : inb (nI w) 0 (nI (2 ^ t) - 1) = true) (hw : w < 2 ^ t) (hf : ffP I t sg = -6) (hb : lbit (kpL I J t sl sg he) w = true) (hc : I 1 12 = nI 6) : RnS xl xs 3 74 0 0 mX6_picked [.ref 0, .int (nI w)] n I J X (some (.int (-4))) n I J X := by
  intro S T Q hQ
  have h64 := p2_le hk.1.2.2.1
  have hbf : decide (ffP I t sg ≠ -6) = false := decide_eq_false (fun h => h hf)
  have e := lb_sh (S := kpL I J t sl sg he) (w := w) (by omega)
  rw [hb] at e
  show Ev xl xs 3 74 0 0 mX6_picked 0 [some (.ref 0), some (.int (nI w)), none, none, none] [] n (sysH (ov I S) (ovJ J T) X) Q
  refine ev_aload_n (q := 1) dX6_picked_0 rfl rfl ?_
  refine ev_iload_n (q := 2) dX6_picked_1 rfl rfl ?_
  refine ev_callV1i (q := 5) dX6_picked_2 ca_X6_100 (k_X6_isWorld hn hk _) rfl (lt_n hn (by decide)) rfl rfl (Nat.le_of_ble_eq_true rfl) (Nat.le_of_ble_eq_true rfl) (by decide) (by decide) rfl ?_
  refine ev_if_ne (q := 8) 11 dX6_picked_5 (by decide) rfl (fun c_5 => ?_) (fun c_5 => ?_)
  · refine ev_aload_n (q := 12) dX6_picked_11 rfl rfl ?_
    refine ev_callV0i (q := 15) dX6_picked_12 ca_X6_127 (k_X6_isFaulty hn hk hp) rfl (lt_n hn (by decide)) rfl rfl (Nat.le_of_ble_eq_true rfl) (Nat.le_of_ble_eq_true rfl) (by decide) (by decide) rfl ?_
    rw [hbf]
    refine ev_if_eq (q := 18) 21 dX6_picked_15 (by decide) rfl (fun c_15 => ?_) (fun c_15 => ?_)
    · refine ev_aload_n (q := 22) dX6_picked_21 rfl rfl ?_
      refine ev_callV0lP (q := 25) dX6_picked_22 ca_X6_143 (k_X6_wishWorlds hn hk hp hf) rfl (lt_n hn (by decide)) rfl rfl (Nat.le_of_ble_eq_true rfl) (Nat.le_of_ble_eq_true rfl) (by decide) (by decide) rfl (fun S T hp_22 => ?_)
      refine ev_lst_2 (q := 26) dX6_picked_25 rfl rfl ?_
      refine ev_lload_n (q := 27) dX6_picked_26 rfl rfl ?_
      refine ev_iload_n (q := 28) dX6_picked_27 rfl rfl ?_
      refine ev_lushr (q := 29) dX6_picked_28 rfl ?_
      refine ev_lconst (q := 30) (1) dX6_picked_29 (by decide) rfl ?_
      refine ev_land (q := 31) dX6_picked_30 rfl ?_
      rw [e]
      refine ev_lconst (q := 32) (0) dX6_picked_31 (by decide) rfl ?_
      refine ev_lcmp (q := 33) dX6_picked_32 rfl ?_
      refine ev_if_ne (q := 36) 39 dX6_picked_33 (by decide) rfl (fun c_33 => ?_) (fun c_33 => ?_)
      · refine ev_aload_n (q := 40) dX6_picked_39 rfl rfl ?_
        refine ev_get (q := 43) dX6_picked_40 fr_X6_10 rfl (lt_n hn (by decide)) rfl rfl ?_
        refine ev_get (q := 46) dX6_picked_43 fr_X6_258 rfl (lt_n hn (by decide)) rfl rfl ?_
        refine ev_bipush (q := 48) (6) dX6_picked_46 (by decide) rfl ?_
        rw [show ov I _ 1 12 = nI 6 from hc]
        refine ev_icmp_lt (q := 51) 54 dX6_picked_48 (by decide) rfl (fun c_48 => ?_) (fun c_48 => ?_)
        · exact absurd c_48 (by decide)
        · refine ev_bipush (q := 53) (-4) dX6_picked_51 (by decide) rfl ?_
          exact ev_iretE dX6_picked_53 rfl rfl rfl rfl rfl (hQ _ _)
      · exact absurd c_33 (by decide)
    · exact absurd rfl c_15
  · exact absurd c_5 (b2i_n0.mpr hv)
def pkP (I : Nat → Nat → Int32) (J : Nat → Nat → Int64) (t k w : Nat) (Z : Int64) (I' : Nat → Nat → Int32) (J' : Nat → Nat → Int64) : Prop := I' = wr I 1 12 (nI (k + 1)) ∧ (∀ q, q ≠ 6 → J' q = J q) ∧ ∀ m, m < 3 ^ t → fitB J' m = (fitB J m && allN (tkB t m Z w) (2 ^ t))
theorem k_X6_picked {w k : Nat} (hn : 49 ≤ n) (hk : KI I J t sl wy wi he) (ht : TOK I J t) (hp : PdI I sg) (hv : inb (nI w) 0 (nI (2 ^ t) - 1) = true) (hw : w < 2 ^ t) (hf : ffP I t sg = -6) (hb : lbit (kpL I J t sl sg he) w = true) (hc : I 1 12 = nI k) (hc6 : k < 6) : RnG xl xs 3 74 mX6_picked [.ref 0, .int (nI w)] n I J X (some (.int (nI (k + 1)))) (pkP I J t k w (kpL I J t sl sg he)) := by
  intro S T Q hQ
  have h6 := hk.1.2.2.1
  have h64 := p2_le h6
  have h729 := p3_le h6
  have hbf : decide (ffP I t sg ≠ -6) = false := decide_eq_false (fun h => h hf)
  have e := lb_sh (S := kpL I J t sl sg he) (w := w) (by omega)
  rw [hb] at e
  have hZ : ∀ w, 2 ^ t ≤ w → lbit (kpL I J t sl sg he) w = false := fun w hw => mk64_hi h64 hw
  have lp : ∀ j i, i + j = 3 ^ t → ∀ S T J2, (∀ q, q ≠ 6 → J2 q = J q) → (∀ m, fitB J2 m = (fitB J m && (decide (i ≤ m) || allN (tkB t m (kpL I J t sl sg he) w) (2 ^ t)))) → Ev xl xs 3 74 0 0 mX6_picked 57 [some (.ref 0), some (.int (nI w)), some (.long (kpL I J t sl sg he)), none, some (.int (nI i))] [] n (sysH (ov I S) (ovJ J2 T) X) Q := by
    intro j
    induction j using Nat.strongRecOn with
    | _ j ih =>
      intro i hij S T J2 h0 h1
      have e : ∀ h1, _ := fun (h1 : j - 1 < j) => ih (j - 1) h1 (i + 1)
      by_cases hi : 3 ^ t ≤ i
      · have hi : i = 3 ^ t := by omega
        refine ev_iload (q := 59) dX6_picked_57 rfl rfl ?_
        refine ev_aload_n (q := 60) dX6_picked_59 rfl rfl ?_
        refine ev_get (q := 63) dX6_picked_60 fr_X6_33 rfl (lt_n hn (by decide)) rfl rfl ?_
        refine ev_get (q := 66) dX6_picked_63 fr_X6_211 rfl (lt_n hn (by decide)) rfl rfl ?_
        rw [show ov I S 16 0 = nI (3 ^ t) from ht.1]
        refine ev_icmp_ge (q := 69) 110 dX6_picked_66 (by decide) rfl (fun c_66 => ?_) (fun c_66 => ?_)
        · refine ev_aload_n (q := 111) dX6_picked_110 rfl rfl ?_
          refine ev_get (q := 114) dX6_picked_111 fr_X6_10 rfl (lt_n hn (by decide)) rfl rfl ?_
          refine ev_dup (q := 115) (fun _ => rfl) dX6_picked_114 rfl ?_
          refine ev_get (q := 118) dX6_picked_115 fr_X6_258 rfl (lt_n hn (by decide)) rfl rfl ?_
          refine ev_iconst (q := 119) (1) dX6_picked_118 (by decide) rfl ?_
          refine ev_iadd (q := 120) dX6_picked_119 rfl ?_
          rw [show ov I S 1 12 + 1 = nI (k + 1) from by rw [show ov I S 1 12 = nI k from hc]; exact nI_1 k]
          first | refine ev_putIK (q := 123) dX6_picked_120 fa_X6_258 rfl (by decide) (lt_n hn (by decide)) (Nat.le_of_ble_eq_true rfl) ⟨rfl, rfl⟩ rfl rfl rfl ?_ | refine ev_putIR (q := 123) dX6_picked_120 fa_X6_258 rfl (by decide) (lt_n hn (by decide)) (Nat.le_of_ble_eq_true rfl) ⟨rfl, rfl⟩ rfl rfl rfl ?_
          refine ev_aload_n (q := 124) dX6_picked_123 rfl rfl ?_
          refine ev_get (q := 127) dX6_picked_124 fr_X6_10 rfl (lt_n hn (by decide)) rfl rfl ?_
          refine ev_get (q := 130) dX6_picked_127 fr_X6_258 rfl (lt_n hn (by decide)) rfl rfl ?_
          exact ev_iretE dX6_picked_130 rfl rfl rfl rfl rfl (hQ _ _ _ _ ⟨rfl, h0, fun m hm => by rw [h1 m, decide_eq_false (by omega), Bool.false_or]⟩)
        · exact absurd ((nI_leI (by omega) (by omega)).mpr (by omega)) c_66
      · have e := e (by omega) (by omega)
        have htk := fun S T => k_X5_tasteTakes (xl := xl) (xs := xs) (n := n) (S := S) (T := T) (X := X) hn h6 (TOK_J ht (h0 19 (by decide))) (show i < 3 ^ t by omega) hw hZ
        have hi1 := h1 i
        rw [decide_eq_true (Nat.le_refl i), Bool.true_or, Bool.and_true] at hi1
        cases hfi : fitB J2 i with
        | false =>
          rw [hfi] at hi1
          refine ev_iload (q := 59) dX6_picked_57 rfl rfl ?_
          refine ev_aload_n (q := 60) dX6_picked_59 rfl rfl ?_
          refine ev_get (q := 63) dX6_picked_60 fr_X6_33 rfl (lt_n hn (by decide)) rfl rfl ?_
          refine ev_get (q := 66) dX6_picked_63 fr_X6_211 rfl (lt_n hn (by decide)) rfl rfl ?_
          rw [show ov I S 16 0 = nI (3 ^ t) from ht.1]
          refine ev_icmp_ge (q := 69) 110 dX6_picked_66 (by decide) rfl (fun c_66 => ?_) (fun c_66 => ?_)
          · exact absurd ((nI_leI (by omega) (by omega)).mp c_66) hi
          · refine ev_aload_n (q := 70) dX6_picked_69 rfl rfl ?_
            refine ev_get (q := 73) dX6_picked_70 fr_X6_10 rfl (lt_n hn (by decide)) rfl rfl ?_
            refine ev_iload (q := 75) dX6_picked_73 rfl rfl ?_
            refine ev_callV1i (q := 78) dX6_picked_75 ca_X6_261 (k_X4_canFit hn (by omega)) rfl (lt_n hn (by decide)) rfl rfl (Nat.le_of_ble_eq_true rfl) (Nat.le_of_ble_eq_true rfl) (by decide) (by decide) rfl ?_
            rw [hfi]
            refine ev_if_eq (q := 81) 104 dX6_picked_78 (by decide) rfl (fun c_78 => ?_) (fun c_78 => ?_)
            · refine ev_inc_4 (q := 107) (nI (i + 1)) dX6_picked_104 (nI_1 i) rfl rfl ?_
              refine ev_goto 57 dX6_picked_107 (by decide) ?_
              exact e _ _ _ h0 (fun m => by by_cases g : m = i; (rw [g, hfi, ← hi1, Bool.false_and]); (rw [h1 m]; congr 2; exact decide_eq_decide.mpr (by omega)))
            · exact absurd rfl c_78
        | true =>
          rw [hfi] at hi1
          cases htt : allN (tkB t i (kpL I J t sl sg he) w) (2 ^ t) with
          | true =>
            rw [htt] at htk
            refine ev_iload (q := 59) dX6_picked_57 rfl rfl ?_
            refine ev_aload_n (q := 60) dX6_picked_59 rfl rfl ?_
            refine ev_get (q := 63) dX6_picked_60 fr_X6_33 rfl (lt_n hn (by decide)) rfl rfl ?_
            refine ev_get (q := 66) dX6_picked_63 fr_X6_211 rfl (lt_n hn (by decide)) rfl rfl ?_
            rw [show ov I S 16 0 = nI (3 ^ t) from ht.1]
            refine ev_icmp_ge (q := 69) 110 dX6_picked_66 (by decide) rfl (fun c_66 => ?_) (fun c_66 => ?_)
            · exact absurd ((nI_leI (by omega) (by omega)).mp c_66) hi
            · refine ev_aload_n (q := 70) dX6_picked_69 rfl rfl ?_
              refine ev_get (q := 73) dX6_picked_70 fr_X6_10 rfl (lt_n hn (by decide)) rfl rfl ?_
              refine ev_iload (q := 75) dX6_picked_73 rfl rfl ?_
              refine ev_callV1i (q := 78) dX6_picked_75 ca_X6_261 (k_X4_canFit hn (by omega)) rfl (lt_n hn (by decide)) rfl rfl (Nat.le_of_ble_eq_true rfl) (Nat.le_of_ble_eq_true rfl) (by decide) (by decide) rfl ?_
              rw [hfi]
              refine ev_if_eq (q := 81) 104 dX6_picked_78 (by decide) rfl (fun c_78 => ?_) (fun c_78 => ?_)
              · exact absurd c_78 (by decide)
              · refine ev_aload_n (q := 82) dX6_picked_81 rfl rfl ?_
                refine ev_get (q := 85) dX6_picked_82 fr_X6_33 rfl (lt_n hn (by decide)) rfl rfl ?_
                refine ev_iload (q := 87) dX6_picked_85 rfl rfl ?_
                refine ev_lload_n (q := 88) dX6_picked_87 rfl rfl ?_
                refine ev_iload_n (q := 89) dX6_picked_88 rfl rfl ?_
                refine ev_callV3i (q := 92) dX6_picked_89 ca_X6_264 (htk _ _) rfl (lt_n hn (by decide)) rfl rfl (Nat.le_of_ble_eq_true rfl) (Nat.le_of_ble_eq_true rfl) (by decide) (by decide) rfl ?_
                refine ev_if_ne (q := 95) 104 dX6_picked_92 (by decide) rfl (fun c_92 => ?_) (fun c_92 => ?_)
                · refine ev_inc_4 (q := 107) (nI (i + 1)) dX6_picked_104 (nI_1 i) rfl rfl ?_
                  refine ev_goto 57 dX6_picked_107 (by decide) ?_
                  exact e _ _ _ h0 (fun m => by by_cases g : m = i; (rw [g, hfi, ← hi1, htt, Bool.or_true, Bool.and_true]); (rw [h1 m]; congr 2; exact decide_eq_decide.mpr (by omega)))
                · exact absurd c_92 (by decide)
          | false =>
            rw [htt] at htk
            refine ev_iload (q := 59) dX6_picked_57 rfl rfl ?_
            refine ev_aload_n (q := 60) dX6_picked_59 rfl rfl ?_
            refine ev_get (q := 63) dX6_picked_60 fr_X6_33 rfl (lt_n hn (by decide)) rfl rfl ?_
            refine ev_get (q := 66) dX6_picked_63 fr_X6_211 rfl (lt_n hn (by decide)) rfl rfl ?_
            rw [show ov I S 16 0 = nI (3 ^ t) from ht.1]
            refine ev_icmp_ge (q := 69) 110 dX6_picked_66 (by decide) rfl (fun c_66 => ?_) (fun c_66 => ?_)
            · exact absurd ((nI_leI (by omega) (by omega)).mp c_66) hi
            · refine ev_aload_n (q := 70) dX6_picked_69 rfl rfl ?_
              refine ev_get (q := 73) dX6_picked_70 fr_X6_10 rfl (lt_n hn (by decide)) rfl rfl ?_
              refine ev_iload (q := 75) dX6_picked_73 rfl rfl ?_
              refine ev_callV1i (q := 78) dX6_picked_75 ca_X6_261 (k_X4_canFit hn (by omega)) rfl (lt_n hn (by decide)) rfl rfl (Nat.le_of_ble_eq_true rfl) (Nat.le_of_ble_eq_true rfl) (by decide) (by decide) rfl ?_
              rw [hfi]
              refine ev_if_eq (q := 81) 104 dX6_picked_78 (by decide) rfl (fun c_78 => ?_) (fun c_78 => ?_)
              · exact absurd c_78 (by decide)
              · refine ev_aload_n (q := 82) dX6_picked_81 rfl rfl ?_
                refine ev_get (q := 85) dX6_picked_82 fr_X6_33 rfl (lt_n hn (by decide)) rfl rfl ?_
                refine ev_iload (q := 87) dX6_picked_85 rfl rfl ?_
                refine ev_lload_n (q := 88) dX6_picked_87 rfl rfl ?_
                refine ev_iload_n (q := 89) dX6_picked_88 rfl rfl ?_
                refine ev_callV3i (q := 92) dX6_picked_89 ca_X6_264 (htk _ _) rfl (lt_n hn (by decide)) rfl rfl (Nat.le_of_ble_eq_true rfl) (Nat.le_of_ble_eq_true rfl) (by decide) (by decide) rfl ?_
                refine ev_if_ne (q := 95) 104 dX6_picked_92 (by decide) rfl (fun c_92 => ?_) (fun c_92 => ?_)
                · exact absurd rfl c_92
                · refine ev_aload_n (q := 96) dX6_picked_95 rfl rfl ?_
                  refine ev_get (q := 99) dX6_picked_96 fr_X6_10 rfl (lt_n hn (by decide)) rfl rfl ?_
                  refine ev_iload (q := 101) dX6_picked_99 rfl rfl ?_
                  refine ev_callV1vS (q := 104) dX6_picked_101 ca_X6_268 (k_X4_ruleOut hn (by omega)) rfl (lt_n hn (by decide)) rfl rfl (Nat.le_of_ble_eq_true rfl) (Nat.le_of_ble_eq_true rfl) (by decide) (by decide) rfl (fun S T => ?_)
                  refine ev_inc_4 (q := 107) (nI (i + 1)) dX6_picked_104 (nI_1 i) rfl rfl ?_
                  refine ev_goto 57 dX6_picked_107 (by decide) ?_
                  exact e _ _ _ (fun q hq => by rw [← h0 q hq]; simp [setJ, hq]) (fun m => by by_cases g : m = i; (rw [fitB_rule, g, htt, decide_eq_false (show ¬ i + 1 ≤ i by omega)]; simp); (rw [fitB_rule, h1 m, decide_eq_true g, Bool.and_true]; congr 2; exact decide_eq_decide.mpr (by omega)))
  show Ev xl xs 3 74 0 0 mX6_picked 0 [some (.ref 0), some (.int (nI w)), none, none, none] [] n (sysH (ov I S) (ovJ J T) X) Q
  refine ev_aload_n (q := 1) dX6_picked_0 rfl rfl ?_
  refine ev_iload_n (q := 2) dX6_picked_1 rfl rfl ?_
  refine ev_callV1i (q := 5) dX6_picked_2 ca_X6_100 (k_X6_isWorld hn hk _) rfl (lt_n hn (by decide)) rfl rfl (Nat.le_of_ble_eq_true rfl) (Nat.le_of_ble_eq_true rfl) (by decide) (by decide) rfl ?_
  refine ev_if_ne (q := 8) 11 dX6_picked_5 (by decide) rfl (fun c_5 => ?_) (fun c_5 => ?_)
  · refine ev_aload_n (q := 12) dX6_picked_11 rfl rfl ?_
    refine ev_callV0i (q := 15) dX6_picked_12 ca_X6_127 (k_X6_isFaulty hn hk hp) rfl (lt_n hn (by decide)) rfl rfl (Nat.le_of_ble_eq_true rfl) (Nat.le_of_ble_eq_true rfl) (by decide) (by decide) rfl ?_
    rw [hbf]
    refine ev_if_eq (q := 18) 21 dX6_picked_15 (by decide) rfl (fun c_15 => ?_) (fun c_15 => ?_)
    · refine ev_aload_n (q := 22) dX6_picked_21 rfl rfl ?_
      refine ev_callV0lP (q := 25) dX6_picked_22 ca_X6_143 (k_X6_wishWorlds hn hk hp hf) rfl (lt_n hn (by decide)) rfl rfl (Nat.le_of_ble_eq_true rfl) (Nat.le_of_ble_eq_true rfl) (by decide) (by decide) rfl (fun S T hp_22 => ?_)
      refine ev_lst_2 (q := 26) dX6_picked_25 rfl rfl ?_
      refine ev_lload_n (q := 27) dX6_picked_26 rfl rfl ?_
      refine ev_iload_n (q := 28) dX6_picked_27 rfl rfl ?_
      refine ev_lushr (q := 29) dX6_picked_28 rfl ?_
      refine ev_lconst (q := 30) (1) dX6_picked_29 (by decide) rfl ?_
      refine ev_land (q := 31) dX6_picked_30 rfl ?_
      rw [e]
      refine ev_lconst (q := 32) (0) dX6_picked_31 (by decide) rfl ?_
      refine ev_lcmp (q := 33) dX6_picked_32 rfl ?_
      refine ev_if_ne (q := 36) 39 dX6_picked_33 (by decide) rfl (fun c_33 => ?_) (fun c_33 => ?_)
      · refine ev_aload_n (q := 40) dX6_picked_39 rfl rfl ?_
        refine ev_get (q := 43) dX6_picked_40 fr_X6_10 rfl (lt_n hn (by decide)) rfl rfl ?_
        refine ev_get (q := 46) dX6_picked_43 fr_X6_258 rfl (lt_n hn (by decide)) rfl rfl ?_
        refine ev_bipush (q := 48) (6) dX6_picked_46 (by decide) rfl ?_
        rw [show ov I _ 1 12 = nI k from hc]
        refine ev_icmp_lt (q := 51) 54 dX6_picked_48 (by decide) rfl (fun c_48 => ?_) (fun c_48 => ?_)
        · refine ev_iconst (q := 55) (0) dX6_picked_54 (by decide) rfl ?_
          refine ev_ist_4 (q := 57) dX6_picked_55 rfl rfl ?_
          exact lp (3 ^ t) 0 (by omega) _ _ J (fun _ _ => rfl) (fun m => by simp)
        · exact absurd ((nI_ltI (b := 6) (by omega) (by omega)).mpr hc6) c_48
      · exact absurd c_33 (by decide)
    · exact absurd rfl c_15
  · exact absurd c_5 (b2i_n0.mpr hv)
theorem k_X6_fit (hn : 49 ≤ n) (hk : KI I J t sl wy wi he) (ht : TOK I J t) (hft : FTI I J t P) (v : Int32) : RnS xl xs 1 22 0 0 mX6_fit [.ref 0, .int v] n I J X (some (.int (if inb v (-2) (nI t - 1) then ftA I J t P v else -1))) n I J X := by
  intro S T Q hQ
  have h6 := hk.1.2.2.1
  have ht2 := hk.1.2.1
  have h64 := p2_le h6
  have h729 := p3_le h6
  have ent : nI t - 1 = nI (t - 1) := pk_sub (b := 1) (by omega)
  have ent2 : (nI (t - 1)).toInt = (t : Int) - 1 := by rw [nI_toInt (by omega)]; omega
  have ent3 : (nI t).toInt = (t : Int) := nI_toInt (by omega)
  have e2i : (-2 : Int32).toInt = -2 := rfl
  show Ev xl xs 1 22 0 0 mX6_fit 0 [some (.ref 0), some (.int v), none, none, none, none] [] n (sysH (ov I S) (ovJ J T) X) Q
  cases hin : inb v (-2) (nI t - 1) with
  | false =>
    rw [hin] at hQ
    have h1 := inb_cases hin
    rw [ent] at h1
    refine ev_iload_n (q := 1) dX6_fit_0 rfl rfl ?_
    refine ev_bipush (q := 3) (-2) dX6_fit_1 (by decide) rfl ?_
    refine ev_icmp_lt (q := 6) 17 dX6_fit_3 (by decide) rfl (fun c_3 => ?_) (fun c_3 => ?_)
    · refine ev_iconst (q := 18) (-1) dX6_fit_17 (by decide) rfl ?_
      exact ev_iretE dX6_fit_18 rfl rfl rfl rfl rfl (hQ _ _)
    · refine ev_iload_n (q := 7) dX6_fit_6 rfl rfl ?_
      refine ev_aload_n (q := 8) dX6_fit_7 rfl rfl ?_
      refine ev_get (q := 11) dX6_fit_8 fr_X6_10 rfl (lt_n hn (by decide)) rfl rfl ?_
      refine ev_get (q := 14) dX6_fit_11 fr_X6_74 rfl (lt_n hn (by decide)) rfl rfl ?_
      rw [show ov I S 1 0 = nI t from hk.2.1.1]
      refine ev_icmp_lt (q := 17) 19 dX6_fit_14 (by decide) rfl (fun c_14 => ?_) (fun c_14 => ?_)
      · (simp only [i_le, i_lt] at *; omega)
      · refine ev_iconst (q := 18) (-1) dX6_fit_17 (by decide) rfl ?_
        exact ev_iretE dX6_fit_18 rfl rfl rfl rfl rfl (hQ _ _)
  | true =>
    rw [hin, if_pos rfl] at hQ
    have hin2 := hin
    simp only [inb, Bool.and_eq_true, decide_eq_true_eq] at hin2
    obtain ⟨g1, g2⟩ := hin2
    rw [ent] at g2
    have hcf : ∀ k, k < 3 ^ t → fitB J k = tsF I J t P k := hft.2.2.2.2
    unfold ftA at hQ
    generalize tsF I J t P = ts at hQ hcf
    have hQ := hQ S T
    have N0 : nI (3 ^ t) - 1 = nI (3 ^ t) - 1 := rfl
    by_cases hv0 : v < 0
    · have lp : ∀ k, k ≤ 3 ^ t → ∀ c o dg, c + cN ts k = cN ts (3 ^ t) → LQ ts (3 ^ t) k o → Ev xl xs 1 22 0 0 mX6_fit 38 [some (.ref 0), some (.int v), some (.int (nI c)), some (.int (eo o)), some (.int dg), some (.int (nI k - 1))] [] n (sysH (ov I S) (ovJ J T) X) Q := by
        intro k
        induction k with
        | zero =>
          intro _ c o dg hc ho
          have hc : c = cN ts (3 ^ t) := hc
          have ho := LQ_eq ho (flF_LQ (3 ^ t))
          subst hc ho
          refine ev_iload (q := 40) dX6_fit_38 rfl rfl ?_
          refine ev_if_lt (q := 43) 92 dX6_fit_40 (by decide) rfl (fun c_40 => ?_) (fun c_40 => ?_)
          · refine ev_iload_n (q := 93) dX6_fit_92 rfl rfl ?_
            refine ev_iconst (q := 94) (-1) dX6_fit_93 (by decide) rfl ?_
            refine ev_icmp_ne (q := 97) 99 dX6_fit_94 (by decide) rfl (fun c_94 => ?_) (fun c_94 => ?_)
            · have c_94 : ¬ v = -1 := c_94
              refine ev_iload_n (q := 100) dX6_fit_99 rfl rfl ?_
              refine ev_bipush (q := 102) (-2) dX6_fit_100 (by decide) rfl ?_
              refine ev_icmp_ne (q := 105) 109 dX6_fit_102 (by decide) rfl (fun c_102 => ?_) (fun c_102 => ?_)
              · have c_102 : ¬ v = -2 := c_102
                refine ev_iload (q := 111) dX6_fit_109 rfl rfl ?_
                exact ev_iretE dX6_fit_111 rfl rfl (by first | (rw [if_neg c_94, if_pos c_102]; done) | (exfalso; have e1 : v.toInt ≠ -1 := fun e => c_94 (Int32.toInt_inj.mp e); have e2 : v.toInt ≠ -2 := fun e => c_102 (Int32.toInt_inj.mp e); have e4 : (0 : Int32).toInt = 0 := rfl; simp only [i_le, i_lt] at g1 hv0; omega)) rfl rfl hQ
              · have c_102 : v = -2 := c_102
                refine ev_iload_n (q := 106) dX6_fit_105 rfl rfl ?_
                refine ev_goto 111 dX6_fit_106 (by decide) ?_
                exact ev_iretE dX6_fit_111 rfl rfl (by first | (rw [if_neg c_94, if_pos c_102]; done) | (exfalso; have e1 : v.toInt ≠ -1 := fun e => c_94 (Int32.toInt_inj.mp e); have e2 : v.toInt ≠ -2 := fun e => c_102 (Int32.toInt_inj.mp e); have e4 : (0 : Int32).toInt = 0 := rfl; simp only [i_le, i_lt] at g1 hv0; omega)) rfl rfl hQ
            · have c_94 : v = -1 := c_94
              refine ev_iload_n (q := 98) dX6_fit_97 rfl rfl ?_
              exact ev_iretE dX6_fit_98 rfl rfl (by rw [if_pos c_94]) rfl rfl hQ
          · exact absurd (show nI 0 - 1 < 0 by decide) c_40
        | succ k ih =>
          intro hk1 c o dg hc ho
          have hck : cN ts (k + 1) = cN ts k + if ts k then 1 else 0 := rfl
          cases hts : ts k with
          | true =>
            rw [hts, if_pos rfl] at hck
            have e := ih (by omega) (c + 1) (some k) dg (by omega) (LQ_t (by omega) hts)
            have e := ih (by omega) (c + 1) (some k) (dg ||| 0) (by omega) (LQ_t (by omega) hts)
            rw [nI_pred]
            refine ev_iload (q := 40) dX6_fit_38 rfl rfl ?_
            refine ev_if_lt (q := 43) 92 dX6_fit_40 (by decide) rfl (fun c_40 => ?_) (fun c_40 => ?_)
            · exact absurd c_40 (nI_pos (by omega))
            · refine ev_aload_n (q := 44) dX6_fit_43 rfl rfl ?_
              refine ev_get (q := 47) dX6_fit_44 fr_X6_10 rfl (lt_n hn (by decide)) rfl rfl ?_
              refine ev_iload (q := 49) dX6_fit_47 rfl rfl ?_
              refine ev_callV1i (q := 52) dX6_fit_49 ca_X6_261 (k_X4_canFit hn (by omega)) rfl (lt_n hn (by decide)) rfl rfl (Nat.le_of_ble_eq_true rfl) (Nat.le_of_ble_eq_true rfl) (by decide) (by decide) rfl ?_
              rw [hcf k (by omega), hts]
              refine ev_if_eq (q := 55) 86 dX6_fit_52 (by decide) rfl (fun c_52 => ?_) (fun c_52 => ?_)
              · exact absurd c_52 (by decide)
              · refine ev_inc_2 (q := 58) (nI (c + 1)) dX6_fit_55 (nI_1 c) rfl rfl ?_
                refine ev_iload (q := 60) dX6_fit_58 rfl rfl ?_
                refine ev_ist_3 (q := 61) dX6_fit_60 rfl rfl ?_
                refine ev_iload (q := 63) dX6_fit_61 rfl rfl ?_
                refine ev_iload_n (q := 64) dX6_fit_63 rfl rfl ?_
                refine ev_if_ge (q := 67) 71 dX6_fit_64 (by decide) rfl (fun c_64 => ?_) (fun c_64 => ?_)
                · (simp only [i_le, i_lt] at *; omega)
                · refine ev_iconst (q := 68) (0) dX6_fit_67 (by decide) rfl ?_
                  refine ev_goto 83 dX6_fit_68 (by decide) ?_
                  refine ev_ior (q := 84) dX6_fit_83 rfl ?_
                  refine ev_ist_4 (q := 86) dX6_fit_84 rfl rfl ?_
                  refine ev_inc_5 (q := 89) (nI k - 1) dX6_fit_86 (inc_m1 _) rfl rfl ?_
                  refine ev_goto 38 dX6_fit_89 (by decide) ?_
                  exact e
          | false =>
            rw [hts, if_neg (by decide)] at hck
            have e := ih (by omega) c o dg (by omega) (LQ_f ho hts)
            rw [nI_pred]
            refine ev_iload (q := 40) dX6_fit_38 rfl rfl ?_
            refine ev_if_lt (q := 43) 92 dX6_fit_40 (by decide) rfl (fun c_40 => ?_) (fun c_40 => ?_)
            · exact absurd c_40 (nI_pos (by omega))
            · refine ev_aload_n (q := 44) dX6_fit_43 rfl rfl ?_
              refine ev_get (q := 47) dX6_fit_44 fr_X6_10 rfl (lt_n hn (by decide)) rfl rfl ?_
              refine ev_iload (q := 49) dX6_fit_47 rfl rfl ?_
              refine ev_callV1i (q := 52) dX6_fit_49 ca_X6_261 (k_X4_canFit hn (by omega)) rfl (lt_n hn (by decide)) rfl rfl (Nat.le_of_ble_eq_true rfl) (Nat.le_of_ble_eq_true rfl) (by decide) (by decide) rfl ?_
              rw [hcf k (by omega), hts]
              refine ev_if_eq (q := 55) 86 dX6_fit_52 (by decide) rfl (fun c_52 => ?_) (fun c_52 => ?_)
              · refine ev_inc_5 (q := 89) (nI k - 1) dX6_fit_86 (inc_m1 _) rfl rfl ?_
                refine ev_goto 38 dX6_fit_89 (by decide) ?_
                exact e
              · exact absurd rfl c_52
      refine ev_iload_n (q := 1) dX6_fit_0 rfl rfl ?_
      refine ev_bipush (q := 3) (-2) dX6_fit_1 (by decide) rfl ?_
      refine ev_icmp_lt (q := 6) 17 dX6_fit_3 (by decide) rfl (fun c_3 => ?_) (fun c_3 => ?_)
      · (simp only [i_le, i_lt] at *; omega)
      · refine ev_iload_n (q := 7) dX6_fit_6 rfl rfl ?_
        refine ev_aload_n (q := 8) dX6_fit_7 rfl rfl ?_
        refine ev_get (q := 11) dX6_fit_8 fr_X6_10 rfl (lt_n hn (by decide)) rfl rfl ?_
        refine ev_get (q := 14) dX6_fit_11 fr_X6_74 rfl (lt_n hn (by decide)) rfl rfl ?_
        rw [show ov I S 1 0 = nI t from hk.2.1.1]
        refine ev_icmp_lt (q := 17) 19 dX6_fit_14 (by decide) rfl (fun c_14 => ?_) (fun c_14 => ?_)
        · refine ev_iconst (q := 20) (0) dX6_fit_19 (by decide) rfl ?_
          refine ev_ist_2 (q := 21) dX6_fit_20 rfl rfl ?_
          refine ev_bipush (q := 23) (-6) dX6_fit_21 (by decide) rfl ?_
          refine ev_ist_3 (q := 24) dX6_fit_23 rfl rfl ?_
          refine ev_iconst (q := 25) (0) dX6_fit_24 (by decide) rfl ?_
          refine ev_ist_4 (q := 27) dX6_fit_25 rfl rfl ?_
          refine ev_aload_n (q := 28) dX6_fit_27 rfl rfl ?_
          refine ev_get (q := 31) dX6_fit_28 fr_X6_33 rfl (lt_n hn (by decide)) rfl rfl ?_
          refine ev_get (q := 34) dX6_fit_31 fr_X6_211 rfl (lt_n hn (by decide)) rfl rfl ?_
          rw [show ov I S 16 0 = nI (3 ^ t) from ht.1]
          refine ev_iconst (q := 35) (1) dX6_fit_34 (by decide) rfl ?_
          refine ev_isub (q := 36) dX6_fit_35 rfl ?_
          refine ev_ist_5 (q := 38) dX6_fit_36 rfl rfl ?_
          exact lp (3 ^ t) (Nat.le_refl _) 0 none 0 (by omega) (Or.inl ⟨rfl, fun m h1 h2 => absurd h1 (by omega)⟩)
        · (simp only [i_le, i_lt] at *; omega)
    · obtain ⟨th, hth, rfl⟩ : ∃ th, th < t ∧ v = nI th := inb_nat (by omega) (by simp only [inb, Bool.and_eq_true, decide_eq_true_eq]; rw [ent]; exact ⟨by simp only [i_le, i_lt] at *; omega, g2⟩) (by omega)
      rw [if_neg (fun e => hv0 (by rw [e]; decide)), if_neg (fun e => hv0 (by rw [e]; decide)), nI_clamp (by omega)] at hQ
      have lp : ∀ k, k ≤ 3 ^ t → ∀ c o d, DQ t th ts (3 ^ t) k d → Ev xl xs 1 22 0 0 mX6_fit 38 [some (.ref 0), some (.int (nI th)), some (.int c), some (.int o), some (.int (nI d)), some (.int (nI k - 1))] [] n (sysH (ov I S) (ovJ J T) X) Q := by
        intro k
        induction k with
        | zero =>
          intro _ c o d hd
          have hd := DQ_eq hd (fdF_DQ (3 ^ t))
          subst hd
          refine ev_iload (q := 40) dX6_fit_38 rfl rfl ?_
          refine ev_if_lt (q := 43) 92 dX6_fit_40 (by decide) rfl (fun c_40 => ?_) (fun c_40 => ?_)
          · refine ev_iload_n (q := 93) dX6_fit_92 rfl rfl ?_
            refine ev_iconst (q := 94) (-1) dX6_fit_93 (by decide) rfl ?_
            refine ev_icmp_ne (q := 97) 99 dX6_fit_94 (by decide) rfl (fun c_94 => ?_) (fun c_94 => ?_)
            · refine ev_iload_n (q := 100) dX6_fit_99 rfl rfl ?_
              refine ev_bipush (q := 102) (-2) dX6_fit_100 (by decide) rfl ?_
              refine ev_icmp_ne (q := 105) 109 dX6_fit_102 (by decide) rfl (fun c_102 => ?_) (fun c_102 => ?_)
              · refine ev_iload (q := 111) dX6_fit_109 rfl rfl ?_
                exact ev_iretE dX6_fit_111 rfl rfl rfl rfl rfl hQ
              · exact absurd (show nI th = -2 from c_102) (fun e => hv0 (by rw [e]; decide))
            · exact absurd (show nI th = -1 from c_94) (fun e => hv0 (by rw [e]; decide))
          · exact absurd (show nI 0 - 1 < 0 by decide) c_40
        | succ k ih =>
          intro hk1 c o d hd
          have hdl := dig_lt t k th
          cases hts : ts k with
          | true =>
            have e := ih (by omega) (c + 1) (nI k) _ (DQ_t (by omega) hd hts)
            rw [nI_pred]
            refine ev_iload (q := 40) dX6_fit_38 rfl rfl ?_
            refine ev_if_lt (q := 43) 92 dX6_fit_40 (by decide) rfl (fun c_40 => ?_) (fun c_40 => ?_)
            · exact absurd c_40 (nI_pos (by omega))
            · refine ev_aload_n (q := 44) dX6_fit_43 rfl rfl ?_
              refine ev_get (q := 47) dX6_fit_44 fr_X6_10 rfl (lt_n hn (by decide)) rfl rfl ?_
              refine ev_iload (q := 49) dX6_fit_47 rfl rfl ?_
              refine ev_callV1i (q := 52) dX6_fit_49 ca_X6_261 (k_X4_canFit hn (by omega)) rfl (lt_n hn (by decide)) rfl rfl (Nat.le_of_ble_eq_true rfl) (Nat.le_of_ble_eq_true rfl) (by decide) (by decide) rfl ?_
              rw [hcf k (by omega), hts]
              refine ev_if_eq (q := 55) 86 dX6_fit_52 (by decide) rfl (fun c_52 => ?_) (fun c_52 => ?_)
              · exact absurd c_52 (by decide)
              · refine ev_inc_2 (q := 58) (c + 1) dX6_fit_55 rfl rfl rfl ?_
                refine ev_iload (q := 60) dX6_fit_58 rfl rfl ?_
                refine ev_ist_3 (q := 61) dX6_fit_60 rfl rfl ?_
                refine ev_iload (q := 63) dX6_fit_61 rfl rfl ?_
                refine ev_iload_n (q := 64) dX6_fit_63 rfl rfl ?_
                refine ev_if_ge (q := 67) 71 dX6_fit_64 (by decide) rfl (fun c_64 => ?_) (fun c_64 => ?_)
                · refine ev_iconst (q := 72) (1) dX6_fit_71 (by decide) rfl ?_
                  refine ev_aload_n (q := 73) dX6_fit_72 rfl rfl ?_
                  refine ev_get (q := 76) dX6_fit_73 fr_X6_33 rfl (lt_n hn (by decide)) rfl rfl ?_
                  refine ev_iload (q := 78) dX6_fit_76 rfl rfl ?_
                  refine ev_iload_n (q := 79) dX6_fit_78 rfl rfl ?_
                  refine ev_callV2i (q := 82) dX6_fit_79 ca_X6_271 (k_X5_digitOf hn ht h6 (by omega) (by omega)) rfl (lt_n hn (by decide)) rfl rfl (Nat.le_of_ble_eq_true rfl) (Nat.le_of_ble_eq_true rfl) (by decide) (by decide) rfl ?_
                  refine ev_ishl (q := 83) dX6_fit_82 rfl ?_
                  refine ev_ior (q := 84) dX6_fit_83 rfl ?_
                  rw [nI_sh1 (by omega), nI_or]
                  refine ev_ist_4 (q := 86) dX6_fit_84 rfl rfl ?_
                  refine ev_inc_5 (q := 89) (nI k - 1) dX6_fit_86 (inc_m1 _) rfl rfl ?_
                  refine ev_goto 38 dX6_fit_89 (by decide) ?_
                  exact e
                · exact absurd (nI_pos' (by omega)) c_64
          | false =>
            have e := ih (by omega) c o _ (DQ_f hd hts)
            rw [nI_pred]
            refine ev_iload (q := 40) dX6_fit_38 rfl rfl ?_
            refine ev_if_lt (q := 43) 92 dX6_fit_40 (by decide) rfl (fun c_40 => ?_) (fun c_40 => ?_)
            · exact absurd c_40 (nI_pos (by omega))
            · refine ev_aload_n (q := 44) dX6_fit_43 rfl rfl ?_
              refine ev_get (q := 47) dX6_fit_44 fr_X6_10 rfl (lt_n hn (by decide)) rfl rfl ?_
              refine ev_iload (q := 49) dX6_fit_47 rfl rfl ?_
              refine ev_callV1i (q := 52) dX6_fit_49 ca_X6_261 (k_X4_canFit hn (by omega)) rfl (lt_n hn (by decide)) rfl rfl (Nat.le_of_ble_eq_true rfl) (Nat.le_of_ble_eq_true rfl) (by decide) (by decide) rfl ?_
              rw [hcf k (by omega), hts]
              refine ev_if_eq (q := 55) 86 dX6_fit_52 (by decide) rfl (fun c_52 => ?_) (fun c_52 => ?_)
              · refine ev_inc_5 (q := 89) (nI k - 1) dX6_fit_86 (inc_m1 _) rfl rfl ?_
                refine ev_goto 38 dX6_fit_89 (by decide) ?_
                exact e
              · exact absurd rfl c_52
      refine ev_iload_n (q := 1) dX6_fit_0 rfl rfl ?_
      refine ev_bipush (q := 3) (-2) dX6_fit_1 (by decide) rfl ?_
      refine ev_icmp_lt (q := 6) 17 dX6_fit_3 (by decide) rfl (fun c_3 => ?_) (fun c_3 => ?_)
      · (simp only [i_le, i_lt] at *; omega)
      · refine ev_iload_n (q := 7) dX6_fit_6 rfl rfl ?_
        refine ev_aload_n (q := 8) dX6_fit_7 rfl rfl ?_
        refine ev_get (q := 11) dX6_fit_8 fr_X6_10 rfl (lt_n hn (by decide)) rfl rfl ?_
        refine ev_get (q := 14) dX6_fit_11 fr_X6_74 rfl (lt_n hn (by decide)) rfl rfl ?_
        rw [show ov I S 1 0 = nI t from hk.2.1.1]
        refine ev_icmp_lt (q := 17) 19 dX6_fit_14 (by decide) rfl (fun c_14 => ?_) (fun c_14 => ?_)
        · refine ev_iconst (q := 20) (0) dX6_fit_19 (by decide) rfl ?_
          refine ev_ist_2 (q := 21) dX6_fit_20 rfl rfl ?_
          refine ev_bipush (q := 23) (-6) dX6_fit_21 (by decide) rfl ?_
          refine ev_ist_3 (q := 24) dX6_fit_23 rfl rfl ?_
          refine ev_iconst (q := 25) (0) dX6_fit_24 (by decide) rfl ?_
          refine ev_ist_4 (q := 27) dX6_fit_25 rfl rfl ?_
          refine ev_aload_n (q := 28) dX6_fit_27 rfl rfl ?_
          refine ev_get (q := 31) dX6_fit_28 fr_X6_33 rfl (lt_n hn (by decide)) rfl rfl ?_
          refine ev_get (q := 34) dX6_fit_31 fr_X6_211 rfl (lt_n hn (by decide)) rfl rfl ?_
          rw [show ov I S 16 0 = nI (3 ^ t) from ht.1]
          refine ev_iconst (q := 35) (1) dX6_fit_34 (by decide) rfl ?_
          refine ev_isub (q := 36) dX6_fit_35 rfl ?_
          refine ev_ist_5 (q := 38) dX6_fit_36 rfl rfl ?_
          exact lp (3 ^ t) (Nat.le_refl _) 0 (-6) 0 (fun b => by rw [Nat.zero_testBit]; exact ⟨fun h => absurd h (by decide), fun ⟨m, h1, h2, _⟩ => absurd h1 (by omega)⟩)
        · exact absurd ((nI_ltI (by omega) (by omega)).mpr hth) c_14
end CLS12
