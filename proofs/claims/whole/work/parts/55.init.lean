theorem dX0_init_0 : decode cX0_init 0 = .ok (.aload_n 0, 1) := by decide +kernel
theorem dX0_init_1 : decode cX0_init 1 = .ok (.invokespecial 1, 3) := by decide +kernel
theorem dX0_init_4 : decode cX0_init 4 = .ok (.return_, 1) := by decide +kernel
theorem dX1_init_0 : decode cX1_init 0 = .ok (.aload_n 0, 1) := by decide +kernel
theorem dX1_init_1 : decode cX1_init 1 = .ok (.invokespecial 3, 3) := by decide +kernel
theorem dX1_init_4 : decode cX1_init 4 = .ok (.aload_n 0, 1) := by decide +kernel
theorem dX1_init_5 : decode cX1_init 5 = .ok (.bipush 40, 2) := by decide +kernel
theorem dX1_init_7 : decode cX1_init 7 = .ok (.newarray .int, 2) := by decide +kernel
theorem dX1_init_9 : decode cX1_init 9 = .ok (.putfield 9, 3) := by decide +kernel
theorem dX1_init_12 : decode cX1_init 12 = .ok (.aload_n 0, 1) := by decide +kernel
theorem dX1_init_13 : decode cX1_init 13 = .ok (.bipush 24, 2) := by decide +kernel
theorem dX1_init_15 : decode cX1_init 15 = .ok (.newarray .long, 2) := by decide +kernel
theorem dX1_init_17 : decode cX1_init 17 = .ok (.putfield 15, 3) := by decide +kernel
theorem dX1_init_20 : decode cX1_init 20 = .ok (.return_, 1) := by decide +kernel
theorem dX2_init_0 : decode cX2_init 0 = .ok (.aload_n 0, 1) := by decide +kernel
theorem dX2_init_1 : decode cX2_init 1 = .ok (.invokespecial 3, 3) := by decide +kernel
theorem dX2_init_4 : decode cX2_init 4 = .ok (.aload_n 0, 1) := by decide +kernel
theorem dX2_init_5 : decode cX2_init 5 = .ok (.bipush 64, 2) := by decide +kernel
theorem dX2_init_7 : decode cX2_init 7 = .ok (.newarray .int, 2) := by decide +kernel
theorem dX2_init_9 : decode cX2_init 9 = .ok (.putfield 9, 3) := by decide +kernel
theorem dX2_init_12 : decode cX2_init 12 = .ok (.aload_n 0, 1) := by decide +kernel
theorem dX2_init_13 : decode cX2_init 13 = .ok (.bipush 64, 2) := by decide +kernel
theorem dX2_init_15 : decode cX2_init 15 = .ok (.newarray .int, 2) := by decide +kernel
theorem dX2_init_17 : decode cX2_init 17 = .ok (.putfield 15, 3) := by decide +kernel
theorem dX2_init_20 : decode cX2_init 20 = .ok (.aload_n 0, 1) := by decide +kernel
theorem dX2_init_21 : decode cX2_init 21 = .ok (.bipush 64, 2) := by decide +kernel
theorem dX2_init_23 : decode cX2_init 23 = .ok (.newarray .int, 2) := by decide +kernel
theorem dX2_init_25 : decode cX2_init 25 = .ok (.putfield 18, 3) := by decide +kernel
theorem dX2_init_28 : decode cX2_init 28 = .ok (.aload_n 0, 1) := by decide +kernel
theorem dX2_init_29 : decode cX2_init 29 = .ok (.bipush 64, 2) := by decide +kernel
theorem dX2_init_31 : decode cX2_init 31 = .ok (.newarray .int, 2) := by decide +kernel
theorem dX2_init_33 : decode cX2_init 33 = .ok (.putfield 21, 3) := by decide +kernel
theorem dX2_init_36 : decode cX2_init 36 = .ok (.aload_n 0, 1) := by decide +kernel
theorem dX2_init_37 : decode cX2_init 37 = .ok (.bipush 64, 2) := by decide +kernel
theorem dX2_init_39 : decode cX2_init 39 = .ok (.newarray .int, 2) := by decide +kernel
theorem dX2_init_41 : decode cX2_init 41 = .ok (.putfield 24, 3) := by decide +kernel
theorem dX2_init_44 : decode cX2_init 44 = .ok (.aload_n 0, 1) := by decide +kernel
theorem dX2_init_45 : decode cX2_init 45 = .ok (.aload_n 1, 1) := by decide +kernel
theorem dX2_init_46 : decode cX2_init 46 = .ok (.putfield 27, 3) := by decide +kernel
theorem dX2_init_49 : decode cX2_init 49 = .ok (.aload_n 0, 1) := by decide +kernel
theorem dX2_init_50 : decode cX2_init 50 = .ok (.aload_n 2, 1) := by decide +kernel
theorem dX2_init_51 : decode cX2_init 51 = .ok (.putfield 31, 3) := by decide +kernel
theorem dX2_init_54 : decode cX2_init 54 = .ok (.return_, 1) := by decide +kernel
theorem dX3_init_0 : decode cX3_init 0 = .ok (.aload_n 0, 1) := by decide +kernel
theorem dX3_init_1 : decode cX3_init 1 = .ok (.invokespecial 3, 3) := by decide +kernel
theorem dX3_init_4 : decode cX3_init 4 = .ok (.aload_n 0, 1) := by decide +kernel
theorem dX3_init_5 : decode cX3_init 5 = .ok (.bipush 64, 2) := by decide +kernel
theorem dX3_init_7 : decode cX3_init 7 = .ok (.newarray .int, 2) := by decide +kernel
theorem dX3_init_9 : decode cX3_init 9 = .ok (.putfield 9, 3) := by decide +kernel
theorem dX3_init_12 : decode cX3_init 12 = .ok (.aload_n 0, 1) := by decide +kernel
theorem dX3_init_13 : decode cX3_init 13 = .ok (.bipush 64, 2) := by decide +kernel
theorem dX3_init_15 : decode cX3_init 15 = .ok (.newarray .int, 2) := by decide +kernel
theorem dX3_init_17 : decode cX3_init 17 = .ok (.putfield 15, 3) := by decide +kernel
theorem dX3_init_20 : decode cX3_init 20 = .ok (.aload_n 0, 1) := by decide +kernel
theorem dX3_init_21 : decode cX3_init 21 = .ok (.aload_n 1, 1) := by decide +kernel
theorem dX3_init_22 : decode cX3_init 22 = .ok (.putfield 18, 3) := by decide +kernel
theorem dX3_init_25 : decode cX3_init 25 = .ok (.aload_n 0, 1) := by decide +kernel
theorem dX3_init_26 : decode cX3_init 26 = .ok (.aload_n 2, 1) := by decide +kernel
theorem dX3_init_27 : decode cX3_init 27 = .ok (.putfield 22, 3) := by decide +kernel
theorem dX3_init_30 : decode cX3_init 30 = .ok (.return_, 1) := by decide +kernel
theorem dX4_init_0 : decode cX4_init 0 = .ok (.aload_n 0, 1) := by decide +kernel
theorem dX4_init_1 : decode cX4_init 1 = .ok (.invokespecial 3, 3) := by decide +kernel
theorem dX4_init_4 : decode cX4_init 4 = .ok (.aload_n 0, 1) := by decide +kernel
theorem dX4_init_5 : decode cX4_init 5 = .ok (.bipush 24, 2) := by decide +kernel
theorem dX4_init_7 : decode cX4_init 7 = .ok (.newarray .int, 2) := by decide +kernel
theorem dX4_init_9 : decode cX4_init 9 = .ok (.putfield 9, 3) := by decide +kernel
theorem dX4_init_12 : decode cX4_init 12 = .ok (.aload_n 0, 1) := by decide +kernel
theorem dX4_init_13 : decode cX4_init 13 = .ok (.bipush 6, 2) := by decide +kernel
theorem dX4_init_15 : decode cX4_init 15 = .ok (.newarray .int, 2) := by decide +kernel
theorem dX4_init_17 : decode cX4_init 17 = .ok (.putfield 15, 3) := by decide +kernel
theorem dX4_init_20 : decode cX4_init 20 = .ok (.aload_n 0, 1) := by decide +kernel
theorem dX4_init_21 : decode cX4_init 21 = .ok (.iconst 4, 1) := by decide +kernel
theorem dX4_init_22 : decode cX4_init 22 = .ok (.newarray .int, 2) := by decide +kernel
theorem dX4_init_24 : decode cX4_init 24 = .ok (.putfield 18, 3) := by decide +kernel
theorem dX4_init_27 : decode cX4_init 27 = .ok (.aload_n 0, 1) := by decide +kernel
theorem dX4_init_28 : decode cX4_init 28 = .ok (.bipush 16, 2) := by decide +kernel
theorem dX4_init_30 : decode cX4_init 30 = .ok (.newarray .int, 2) := by decide +kernel
theorem dX4_init_32 : decode cX4_init 32 = .ok (.putfield 21, 3) := by decide +kernel
theorem dX4_init_35 : decode cX4_init 35 = .ok (.aload_n 0, 1) := by decide +kernel
theorem dX4_init_36 : decode cX4_init 36 = .ok (.bipush 12, 2) := by decide +kernel
theorem dX4_init_38 : decode cX4_init 38 = .ok (.newarray .long, 2) := by decide +kernel
theorem dX4_init_40 : decode cX4_init 40 = .ok (.putfield 24, 3) := by decide +kernel
theorem dX4_init_43 : decode cX4_init 43 = .ok (.aload_n 0, 1) := by decide +kernel
theorem dX4_init_44 : decode cX4_init 44 = .ok (.bipush 6, 2) := by decide +kernel
theorem dX4_init_46 : decode cX4_init 46 = .ok (.newarray .int, 2) := by decide +kernel
theorem dX4_init_48 : decode cX4_init 48 = .ok (.putfield 28, 3) := by decide +kernel
theorem dX4_init_51 : decode cX4_init 51 = .ok (.aload_n 0, 1) := by decide +kernel
theorem dX4_init_52 : decode cX4_init 52 = .ok (.bipush 6, 2) := by decide +kernel
theorem dX4_init_54 : decode cX4_init 54 = .ok (.newarray .int, 2) := by decide +kernel
theorem dX4_init_56 : decode cX4_init 56 = .ok (.putfield 31, 3) := by decide +kernel
theorem dX4_init_59 : decode cX4_init 59 = .ok (.return_, 1) := by decide +kernel
theorem dX5_init_0 : decode cX5_init 0 = .ok (.aload_n 0, 1) := by decide +kernel
theorem dX5_init_1 : decode cX5_init 1 = .ok (.invokespecial 3, 3) := by decide +kernel
theorem dX5_init_4 : decode cX5_init 4 = .ok (.aload_n 0, 1) := by decide +kernel
theorem dX5_init_5 : decode cX5_init 5 = .ok (.sipush 729, 3) := by decide +kernel
theorem dX5_init_8 : decode cX5_init 8 = .ok (.newarray .int, 2) := by decide +kernel
theorem dX5_init_10 : decode cX5_init 10 = .ok (.putfield 9, 3) := by decide +kernel
theorem dX5_init_13 : decode cX5_init 13 = .ok (.aload_n 0, 1) := by decide +kernel
theorem dX5_init_14 : decode cX5_init 14 = .ok (.sipush 729, 3) := by decide +kernel
theorem dX5_init_17 : decode cX5_init 17 = .ok (.newarray .int, 2) := by decide +kernel
theorem dX5_init_19 : decode cX5_init 19 = .ok (.putfield 15, 3) := by decide +kernel
theorem dX5_init_22 : decode cX5_init 22 = .ok (.aload_n 0, 1) := by decide +kernel
theorem dX5_init_23 : decode cX5_init 23 = .ok (.sipush 729, 3) := by decide +kernel
theorem dX5_init_26 : decode cX5_init 26 = .ok (.newarray .long, 2) := by decide +kernel
theorem dX5_init_28 : decode cX5_init 28 = .ok (.putfield 18, 3) := by decide +kernel
theorem dX5_init_31 : decode cX5_init 31 = .ok (.aload_n 0, 1) := by decide +kernel
theorem dX5_init_32 : decode cX5_init 32 = .ok (.bipush 64, 2) := by decide +kernel
theorem dX5_init_34 : decode cX5_init 34 = .ok (.newarray .int, 2) := by decide +kernel
theorem dX5_init_36 : decode cX5_init 36 = .ok (.putfield 22, 3) := by decide +kernel
theorem dX5_init_39 : decode cX5_init 39 = .ok (.return_, 1) := by decide +kernel
theorem dX6_init_0 : decode cX6_init 0 = .ok (.aload_n 0, 1) := by decide +kernel
theorem dX6_init_1 : decode cX6_init 1 = .ok (.invokespecial 1, 3) := by decide +kernel
theorem dX6_init_4 : decode cX6_init 4 = .ok (.aload_n 0, 1) := by decide +kernel
theorem dX6_init_5 : decode cX6_init 5 = .ok (.new 7, 3) := by decide +kernel
theorem dX6_init_8 : decode cX6_init 8 = .ok (.dup, 1) := by decide +kernel
theorem dX6_init_9 : decode cX6_init 9 = .ok (.invokespecial 9, 3) := by decide +kernel
theorem dX6_init_12 : decode cX6_init 12 = .ok (.putfield 10, 3) := by decide +kernel
theorem dX6_init_15 : decode cX6_init 15 = .ok (.aload_n 0, 1) := by decide +kernel
theorem dX6_init_16 : decode cX6_init 16 = .ok (.iconst 2, 1) := by decide +kernel
theorem dX6_init_17 : decode cX6_init 17 = .ok (.anewarray 7, 3) := by decide +kernel
theorem dX6_init_20 : decode cX6_init 20 = .ok (.putfield 16, 3) := by decide +kernel
theorem dX6_init_23 : decode cX6_init 23 = .ok (.aload_n 0, 1) := by decide +kernel
theorem dX6_init_24 : decode cX6_init 24 = .ok (.new 20, 3) := by decide +kernel
theorem dX6_init_27 : decode cX6_init 27 = .ok (.dup, 1) := by decide +kernel
theorem dX6_init_28 : decode cX6_init 28 = .ok (.invokespecial 22, 3) := by decide +kernel
theorem dX6_init_31 : decode cX6_init 31 = .ok (.putfield 23, 3) := by decide +kernel
theorem dX6_init_34 : decode cX6_init 34 = .ok (.aload_n 0, 1) := by decide +kernel
theorem dX6_init_35 : decode cX6_init 35 = .ok (.new 20, 3) := by decide +kernel
theorem dX6_init_38 : decode cX6_init 38 = .ok (.dup, 1) := by decide +kernel
theorem dX6_init_39 : decode cX6_init 39 = .ok (.invokespecial 22, 3) := by decide +kernel
theorem dX6_init_42 : decode cX6_init 42 = .ok (.putfield 27, 3) := by decide +kernel
theorem dX6_init_45 : decode cX6_init 45 = .ok (.aload_n 0, 1) := by decide +kernel
theorem dX6_init_46 : decode cX6_init 46 = .ok (.new 30, 3) := by decide +kernel
theorem dX6_init_49 : decode cX6_init 49 = .ok (.dup, 1) := by decide +kernel
theorem dX6_init_50 : decode cX6_init 50 = .ok (.invokespecial 32, 3) := by decide +kernel
theorem dX6_init_53 : decode cX6_init 53 = .ok (.putfield 33, 3) := by decide +kernel
theorem dX6_init_56 : decode cX6_init 56 = .ok (.aload_n 0, 1) := by decide +kernel
theorem dX6_init_57 : decode cX6_init 57 = .ok (.new 37, 3) := by decide +kernel
theorem dX6_init_60 : decode cX6_init 60 = .ok (.dup, 1) := by decide +kernel
theorem dX6_init_61 : decode cX6_init 61 = .ok (.aload_n 0, 1) := by decide +kernel
theorem dX6_init_62 : decode cX6_init 62 = .ok (.getfield 10, 3) := by decide +kernel
theorem dX6_init_65 : decode cX6_init 65 = .ok (.aload_n 0, 1) := by decide +kernel
theorem dX6_init_66 : decode cX6_init 66 = .ok (.getfield 33, 3) := by decide +kernel
theorem dX6_init_69 : decode cX6_init 69 = .ok (.invokespecial 39, 3) := by decide +kernel
theorem dX6_init_72 : decode cX6_init 72 = .ok (.putfield 42, 3) := by decide +kernel
theorem dX6_init_75 : decode cX6_init 75 = .ok (.aload_n 0, 1) := by decide +kernel
theorem dX6_init_76 : decode cX6_init 76 = .ok (.new 46, 3) := by decide +kernel
theorem dX6_init_79 : decode cX6_init 79 = .ok (.dup, 1) := by decide +kernel
theorem dX6_init_80 : decode cX6_init 80 = .ok (.aload_n 0, 1) := by decide +kernel
theorem dX6_init_81 : decode cX6_init 81 = .ok (.getfield 10, 3) := by decide +kernel
theorem dX6_init_84 : decode cX6_init 84 = .ok (.aload_n 0, 1) := by decide +kernel
theorem dX6_init_85 : decode cX6_init 85 = .ok (.getfield 33, 3) := by decide +kernel
theorem dX6_init_88 : decode cX6_init 88 = .ok (.invokespecial 48, 3) := by decide +kernel
theorem dX6_init_91 : decode cX6_init 91 = .ok (.putfield 49, 3) := by decide +kernel
theorem dX6_init_94 : decode cX6_init 94 = .ok (.aload_n 0, 1) := by decide +kernel
theorem dX6_init_95 : decode cX6_init 95 = .ok (.new 53, 3) := by decide +kernel
theorem dX6_init_98 : decode cX6_init 98 = .ok (.dup, 1) := by decide +kernel
theorem dX6_init_99 : decode cX6_init 99 = .ok (.invokespecial 55, 3) := by decide +kernel
theorem dX6_init_102 : decode cX6_init 102 = .ok (.putfield 56, 3) := by decide +kernel
theorem dX6_init_105 : decode cX6_init 105 = .ok (.aload_n 0, 1) := by decide +kernel
theorem dX6_init_106 : decode cX6_init 106 = .ok (.bipush 64, 2) := by decide +kernel
theorem dX6_init_108 : decode cX6_init 108 = .ok (.newarray .int, 2) := by decide +kernel
theorem dX6_init_110 : decode cX6_init 110 = .ok (.putfield 60, 3) := by decide +kernel
theorem dX6_init_113 : decode cX6_init 113 = .ok (.aload_n 0, 1) := by decide +kernel
theorem dX6_init_114 : decode cX6_init 114 = .ok (.bipush 64, 2) := by decide +kernel
theorem dX6_init_116 : decode cX6_init 116 = .ok (.newarray .int, 2) := by decide +kernel
theorem dX6_init_118 : decode cX6_init 118 = .ok (.putfield 64, 3) := by decide +kernel
theorem dX6_init_121 : decode cX6_init 121 = .ok (.aload_n 0, 1) := by decide +kernel
theorem dX6_init_122 : decode cX6_init 122 = .ok (.getfield 10, 3) := by decide +kernel
theorem dX6_init_125 : decode cX6_init 125 = .ok (.iconst 4, 1) := by decide +kernel
theorem dX6_init_126 : decode cX6_init 126 = .ok (.invokevirtual 67, 3) := by decide +kernel
theorem dX6_init_129 : decode cX6_init 129 = .ok (.aload_n 0, 1) := by decide +kernel
theorem dX6_init_130 : decode cX6_init 130 = .ok (.getfield 33, 3) := by decide +kernel
theorem dX6_init_133 : decode cX6_init 133 = .ok (.iconst 4, 1) := by decide +kernel
theorem dX6_init_134 : decode cX6_init 134 = .ok (.invokevirtual 71, 3) := by decide +kernel
theorem dX6_init_137 : decode cX6_init 137 = .ok (.return_, 1) := by decide +kernel
theorem dX7_init_0 : decode cX7_init 0 = .ok (.aload_n 0, 1) := by decide +kernel
theorem dX7_init_1 : decode cX7_init 1 = .ok (.invokespecial 1, 3) := by decide +kernel
theorem dX7_init_4 : decode cX7_init 4 = .ok (.aload_n 0, 1) := by decide +kernel
theorem dX7_init_5 : decode cX7_init 5 = .ok (.iconst 4, 1) := by decide +kernel
theorem dX7_init_6 : decode cX7_init 6 = .ok (.putfield 7, 3) := by decide +kernel
theorem dX7_init_9 : decode cX7_init 9 = .ok (.aload_n 0, 1) := by decide +kernel
theorem dX7_init_10 : decode cX7_init 10 = .ok (.bipush 24, 2) := by decide +kernel
theorem dX7_init_12 : decode cX7_init 12 = .ok (.newarray .int, 2) := by decide +kernel
theorem dX7_init_14 : decode cX7_init 14 = .ok (.putfield 13, 3) := by decide +kernel
theorem dX7_init_17 : decode cX7_init 17 = .ok (.aload_n 0, 1) := by decide +kernel
theorem dX7_init_18 : decode cX7_init 18 = .ok (.bipush 6, 2) := by decide +kernel
theorem dX7_init_20 : decode cX7_init 20 = .ok (.newarray .int, 2) := by decide +kernel
theorem dX7_init_22 : decode cX7_init 22 = .ok (.putfield 17, 3) := by decide +kernel
theorem dX7_init_25 : decode cX7_init 25 = .ok (.aload_n 0, 1) := by decide +kernel
theorem dX7_init_26 : decode cX7_init 26 = .ok (.iconst 4, 1) := by decide +kernel
theorem dX7_init_27 : decode cX7_init 27 = .ok (.newarray .int, 2) := by decide +kernel
theorem dX7_init_29 : decode cX7_init 29 = .ok (.putfield 20, 3) := by decide +kernel
theorem dX7_init_32 : decode cX7_init 32 = .ok (.aload_n 0, 1) := by decide +kernel
theorem dX7_init_33 : decode cX7_init 33 = .ok (.bipush 16, 2) := by decide +kernel
theorem dX7_init_35 : decode cX7_init 35 = .ok (.newarray .int, 2) := by decide +kernel
theorem dX7_init_37 : decode cX7_init 37 = .ok (.putfield 23, 3) := by decide +kernel
theorem dX7_init_40 : decode cX7_init 40 = .ok (.aload_n 0, 1) := by decide +kernel
theorem dX7_init_41 : decode cX7_init 41 = .ok (.bipush 6, 2) := by decide +kernel
theorem dX7_init_43 : decode cX7_init 43 = .ok (.newarray .long, 2) := by decide +kernel
theorem dX7_init_45 : decode cX7_init 45 = .ok (.putfield 26, 3) := by decide +kernel
theorem dX7_init_48 : decode cX7_init 48 = .ok (.aload_n 0, 1) := by decide +kernel
theorem dX7_init_49 : decode cX7_init 49 = .ok (.bipush 6, 2) := by decide +kernel
theorem dX7_init_51 : decode cX7_init 51 = .ok (.newarray .int, 2) := by decide +kernel
theorem dX7_init_53 : decode cX7_init 53 = .ok (.putfield 30, 3) := by decide +kernel
theorem dX7_init_56 : decode cX7_init 56 = .ok (.aload_n 0, 1) := by decide +kernel
theorem dX7_init_57 : decode cX7_init 57 = .ok (.bipush 12, 2) := by decide +kernel
theorem dX7_init_59 : decode cX7_init 59 = .ok (.newarray .int, 2) := by decide +kernel
theorem dX7_init_61 : decode cX7_init 61 = .ok (.putfield 33, 3) := by decide +kernel
theorem dX7_init_64 : decode cX7_init 64 = .ok (.aload_n 0, 1) := by decide +kernel
theorem dX7_init_65 : decode cX7_init 65 = .ok (.bipush 40, 2) := by decide +kernel
theorem dX7_init_67 : decode cX7_init 67 = .ok (.newarray .int, 2) := by decide +kernel
theorem dX7_init_69 : decode cX7_init 69 = .ok (.putfield 36, 3) := by decide +kernel
theorem dX7_init_72 : decode cX7_init 72 = .ok (.aload_n 0, 1) := by decide +kernel
theorem dX7_init_73 : decode cX7_init 73 = .ok (.bipush 40, 2) := by decide +kernel
theorem dX7_init_75 : decode cX7_init 75 = .ok (.newarray .int, 2) := by decide +kernel
theorem dX7_init_77 : decode cX7_init 77 = .ok (.putfield 39, 3) := by decide +kernel
theorem dX7_init_80 : decode cX7_init 80 = .ok (.aload_n 0, 1) := by decide +kernel
theorem dX7_init_81 : decode cX7_init 81 = .ok (.bipush 40, 2) := by decide +kernel
theorem dX7_init_83 : decode cX7_init 83 = .ok (.newarray .boolean, 2) := by decide +kernel
theorem dX7_init_85 : decode cX7_init 85 = .ok (.putfield 42, 3) := by decide +kernel
theorem dX7_init_88 : decode cX7_init 88 = .ok (.aload_n 0, 1) := by decide +kernel
theorem dX7_init_89 : decode cX7_init 89 = .ok (.bipush 64, 2) := by decide +kernel
theorem dX7_init_91 : decode cX7_init 91 = .ok (.newarray .int, 2) := by decide +kernel
theorem dX7_init_93 : decode cX7_init 93 = .ok (.putfield 46, 3) := by decide +kernel
theorem dX7_init_96 : decode cX7_init 96 = .ok (.aload_n 0, 1) := by decide +kernel
theorem dX7_init_97 : decode cX7_init 97 = .ok (.bipush 64, 2) := by decide +kernel
theorem dX7_init_99 : decode cX7_init 99 = .ok (.newarray .int, 2) := by decide +kernel
theorem dX7_init_101 : decode cX7_init 101 = .ok (.putfield 49, 3) := by decide +kernel
theorem dX7_init_104 : decode cX7_init 104 = .ok (.aload_n 0, 1) := by decide +kernel
theorem dX7_init_105 : decode cX7_init 105 = .ok (.sipush 200, 3) := by decide +kernel
theorem dX7_init_108 : decode cX7_init 108 = .ok (.newarray .int, 2) := by decide +kernel
theorem dX7_init_110 : decode cX7_init 110 = .ok (.putfield 52, 3) := by decide +kernel
theorem dX7_init_113 : decode cX7_init 113 = .ok (.aload_n 0, 1) := by decide +kernel
theorem dX7_init_114 : decode cX7_init 114 = .ok (.bipush 14, 2) := by decide +kernel
theorem dX7_init_116 : decode cX7_init 116 = .ok (.newarray .long, 2) := by decide +kernel
theorem dX7_init_118 : decode cX7_init 118 = .ok (.putfield 55, 3) := by decide +kernel
theorem dX7_init_121 : decode cX7_init 121 = .ok (.aload_n 0, 1) := by decide +kernel
theorem dX7_init_122 : decode cX7_init 122 = .ok (.iconst 2, 1) := by decide +kernel
theorem dX7_init_123 : decode cX7_init 123 = .ok (.newarray .boolean, 2) := by decide +kernel
theorem dX7_init_125 : decode cX7_init 125 = .ok (.putfield 58, 3) := by decide +kernel
theorem dX7_init_128 : decode cX7_init 128 = .ok (.aload_n 0, 1) := by decide +kernel
theorem dX7_init_129 : decode cX7_init 129 = .ok (.invokevirtual 61, 3) := by decide +kernel
theorem dX7_init_132 : decode cX7_init 132 = .ok (.return_, 1) := by decide +kernel
theorem dX4_copyFrom_0 : decode cX4_copyFrom 0 = .ok (.aload_n 0, 1) := by decide +kernel
theorem dX4_copyFrom_1 : decode cX4_copyFrom 1 = .ok (.aload_n 1, 1) := by decide +kernel
theorem dX4_copyFrom_2 : decode cX4_copyFrom 2 = .ok (.getfield 34, 3) := by decide +kernel
theorem dX4_copyFrom_5 : decode cX4_copyFrom 5 = .ok (.putfield 34, 3) := by decide +kernel
theorem dX4_copyFrom_8 : decode cX4_copyFrom 8 = .ok (.aload_n 0, 1) := by decide +kernel
theorem dX4_copyFrom_9 : decode cX4_copyFrom 9 = .ok (.aload_n 1, 1) := by decide +kernel
theorem dX4_copyFrom_10 : decode cX4_copyFrom 10 = .ok (.getfield 38, 3) := by decide +kernel
theorem dX4_copyFrom_13 : decode cX4_copyFrom 13 = .ok (.putfield 38, 3) := by decide +kernel
theorem dX4_copyFrom_16 : decode cX4_copyFrom 16 = .ok (.aload_n 0, 1) := by decide +kernel
theorem dX4_copyFrom_17 : decode cX4_copyFrom 17 = .ok (.aload_n 1, 1) := by decide +kernel
theorem dX4_copyFrom_18 : decode cX4_copyFrom 18 = .ok (.getfield 41, 3) := by decide +kernel
theorem dX4_copyFrom_21 : decode cX4_copyFrom 21 = .ok (.putfield 41, 3) := by decide +kernel
theorem dX4_copyFrom_24 : decode cX4_copyFrom 24 = .ok (.aload_n 0, 1) := by decide +kernel
theorem dX4_copyFrom_25 : decode cX4_copyFrom 25 = .ok (.aload_n 1, 1) := by decide +kernel
theorem dX4_copyFrom_26 : decode cX4_copyFrom 26 = .ok (.getfield 44, 3) := by decide +kernel
theorem dX4_copyFrom_29 : decode cX4_copyFrom 29 = .ok (.putfield 44, 3) := by decide +kernel
theorem dX4_copyFrom_32 : decode cX4_copyFrom 32 = .ok (.aload_n 0, 1) := by decide +kernel
theorem dX4_copyFrom_33 : decode cX4_copyFrom 33 = .ok (.aload_n 1, 1) := by decide +kernel
theorem dX4_copyFrom_34 : decode cX4_copyFrom 34 = .ok (.getfield 47, 3) := by decide +kernel
theorem dX4_copyFrom_37 : decode cX4_copyFrom 37 = .ok (.putfield 47, 3) := by decide +kernel
theorem dX4_copyFrom_40 : decode cX4_copyFrom 40 = .ok (.aload_n 0, 1) := by decide +kernel
theorem dX4_copyFrom_41 : decode cX4_copyFrom 41 = .ok (.aload_n 1, 1) := by decide +kernel
theorem dX4_copyFrom_42 : decode cX4_copyFrom 42 = .ok (.getfield 54, 3) := by decide +kernel
theorem dX4_copyFrom_45 : decode cX4_copyFrom 45 = .ok (.putfield 54, 3) := by decide +kernel
theorem dX4_copyFrom_48 : decode cX4_copyFrom 48 = .ok (.aload_n 1, 1) := by decide +kernel
theorem dX4_copyFrom_49 : decode cX4_copyFrom 49 = .ok (.getfield 9, 3) := by decide +kernel
theorem dX4_copyFrom_52 : decode cX4_copyFrom 52 = .ok (.iconst 0, 1) := by decide +kernel
theorem dX4_copyFrom_53 : decode cX4_copyFrom 53 = .ok (.aload_n 0, 1) := by decide +kernel
theorem dX4_copyFrom_54 : decode cX4_copyFrom 54 = .ok (.getfield 9, 3) := by decide +kernel
theorem dX4_copyFrom_57 : decode cX4_copyFrom 57 = .ok (.iconst 0, 1) := by decide +kernel
theorem dX4_copyFrom_58 : decode cX4_copyFrom 58 = .ok (.bipush 24, 2) := by decide +kernel
theorem dX4_copyFrom_60 : decode cX4_copyFrom 60 = .ok (.invokestatic 72, 3) := by decide +kernel
theorem dX4_copyFrom_63 : decode cX4_copyFrom 63 = .ok (.aload_n 1, 1) := by decide +kernel
theorem dX4_copyFrom_64 : decode cX4_copyFrom 64 = .ok (.getfield 15, 3) := by decide +kernel
theorem dX4_copyFrom_67 : decode cX4_copyFrom 67 = .ok (.iconst 0, 1) := by decide +kernel
theorem dX4_copyFrom_68 : decode cX4_copyFrom 68 = .ok (.aload_n 0, 1) := by decide +kernel
theorem dX4_copyFrom_69 : decode cX4_copyFrom 69 = .ok (.getfield 15, 3) := by decide +kernel
theorem dX4_copyFrom_72 : decode cX4_copyFrom 72 = .ok (.iconst 0, 1) := by decide +kernel
theorem dX4_copyFrom_73 : decode cX4_copyFrom 73 = .ok (.bipush 6, 2) := by decide +kernel
theorem dX4_copyFrom_75 : decode cX4_copyFrom 75 = .ok (.invokestatic 72, 3) := by decide +kernel
theorem dX4_copyFrom_78 : decode cX4_copyFrom 78 = .ok (.aload_n 1, 1) := by decide +kernel
theorem dX4_copyFrom_79 : decode cX4_copyFrom 79 = .ok (.getfield 18, 3) := by decide +kernel
theorem dX4_copyFrom_82 : decode cX4_copyFrom 82 = .ok (.iconst 0, 1) := by decide +kernel
theorem dX4_copyFrom_83 : decode cX4_copyFrom 83 = .ok (.aload_n 0, 1) := by decide +kernel
theorem dX4_copyFrom_84 : decode cX4_copyFrom 84 = .ok (.getfield 18, 3) := by decide +kernel
theorem dX4_copyFrom_87 : decode cX4_copyFrom 87 = .ok (.iconst 0, 1) := by decide +kernel
theorem dX4_copyFrom_88 : decode cX4_copyFrom 88 = .ok (.iconst 4, 1) := by decide +kernel
theorem dX4_copyFrom_89 : decode cX4_copyFrom 89 = .ok (.invokestatic 72, 3) := by decide +kernel
theorem dX4_copyFrom_92 : decode cX4_copyFrom 92 = .ok (.aload_n 1, 1) := by decide +kernel
theorem dX4_copyFrom_93 : decode cX4_copyFrom 93 = .ok (.getfield 21, 3) := by decide +kernel
theorem dX4_copyFrom_96 : decode cX4_copyFrom 96 = .ok (.iconst 0, 1) := by decide +kernel
theorem dX4_copyFrom_97 : decode cX4_copyFrom 97 = .ok (.aload_n 0, 1) := by decide +kernel
theorem dX4_copyFrom_98 : decode cX4_copyFrom 98 = .ok (.getfield 21, 3) := by decide +kernel
theorem dX4_copyFrom_101 : decode cX4_copyFrom 101 = .ok (.iconst 0, 1) := by decide +kernel
theorem dX4_copyFrom_102 : decode cX4_copyFrom 102 = .ok (.bipush 16, 2) := by decide +kernel
theorem dX4_copyFrom_104 : decode cX4_copyFrom 104 = .ok (.invokestatic 72, 3) := by decide +kernel
theorem dX4_copyFrom_107 : decode cX4_copyFrom 107 = .ok (.aload_n 0, 1) := by decide +kernel
theorem dX4_copyFrom_108 : decode cX4_copyFrom 108 = .ok (.aload_n 1, 1) := by decide +kernel
theorem dX4_copyFrom_109 : decode cX4_copyFrom 109 = .ok (.getfield 58, 3) := by decide +kernel
theorem dX4_copyFrom_112 : decode cX4_copyFrom 112 = .ok (.putfield 58, 3) := by decide +kernel
theorem dX4_copyFrom_115 : decode cX4_copyFrom 115 = .ok (.aload_n 1, 1) := by decide +kernel
theorem dX4_copyFrom_116 : decode cX4_copyFrom 116 = .ok (.getfield 24, 3) := by decide +kernel
theorem dX4_copyFrom_119 : decode cX4_copyFrom 119 = .ok (.iconst 0, 1) := by decide +kernel
theorem dX4_copyFrom_120 : decode cX4_copyFrom 120 = .ok (.aload_n 0, 1) := by decide +kernel
theorem dX4_copyFrom_121 : decode cX4_copyFrom 121 = .ok (.getfield 24, 3) := by decide +kernel
theorem dX4_copyFrom_124 : decode cX4_copyFrom 124 = .ok (.iconst 0, 1) := by decide +kernel
theorem dX4_copyFrom_125 : decode cX4_copyFrom 125 = .ok (.bipush 12, 2) := by decide +kernel
theorem dX4_copyFrom_127 : decode cX4_copyFrom 127 = .ok (.invokestatic 72, 3) := by decide +kernel
theorem dX4_copyFrom_130 : decode cX4_copyFrom 130 = .ok (.aload_n 0, 1) := by decide +kernel
theorem dX4_copyFrom_131 : decode cX4_copyFrom 131 = .ok (.aload_n 1, 1) := by decide +kernel
theorem dX4_copyFrom_132 : decode cX4_copyFrom 132 = .ok (.getfield 64, 3) := by decide +kernel
theorem dX4_copyFrom_135 : decode cX4_copyFrom 135 = .ok (.putfield 64, 3) := by decide +kernel
theorem dX4_copyFrom_138 : decode cX4_copyFrom 138 = .ok (.aload_n 1, 1) := by decide +kernel
theorem dX4_copyFrom_139 : decode cX4_copyFrom 139 = .ok (.getfield 28, 3) := by decide +kernel
theorem dX4_copyFrom_142 : decode cX4_copyFrom 142 = .ok (.iconst 0, 1) := by decide +kernel
theorem dX4_copyFrom_143 : decode cX4_copyFrom 143 = .ok (.aload_n 0, 1) := by decide +kernel
theorem dX4_copyFrom_144 : decode cX4_copyFrom 144 = .ok (.getfield 28, 3) := by decide +kernel
theorem dX4_copyFrom_147 : decode cX4_copyFrom 147 = .ok (.iconst 0, 1) := by decide +kernel
theorem dX4_copyFrom_148 : decode cX4_copyFrom 148 = .ok (.bipush 6, 2) := by decide +kernel
theorem dX4_copyFrom_150 : decode cX4_copyFrom 150 = .ok (.invokestatic 72, 3) := by decide +kernel
theorem dX4_copyFrom_153 : decode cX4_copyFrom 153 = .ok (.aload_n 1, 1) := by decide +kernel
theorem dX4_copyFrom_154 : decode cX4_copyFrom 154 = .ok (.getfield 31, 3) := by decide +kernel
theorem dX4_copyFrom_157 : decode cX4_copyFrom 157 = .ok (.iconst 0, 1) := by decide +kernel
theorem dX4_copyFrom_158 : decode cX4_copyFrom 158 = .ok (.aload_n 0, 1) := by decide +kernel
theorem dX4_copyFrom_159 : decode cX4_copyFrom 159 = .ok (.getfield 31, 3) := by decide +kernel
theorem dX4_copyFrom_162 : decode cX4_copyFrom 162 = .ok (.iconst 0, 1) := by decide +kernel
theorem dX4_copyFrom_163 : decode cX4_copyFrom 163 = .ok (.bipush 6, 2) := by decide +kernel
theorem dX4_copyFrom_165 : decode cX4_copyFrom 165 = .ok (.invokestatic 72, 3) := by decide +kernel
theorem dX4_copyFrom_168 : decode cX4_copyFrom 168 = .ok (.aload_n 0, 1) := by decide +kernel
theorem dX4_copyFrom_169 : decode cX4_copyFrom 169 = .ok (.aload_n 1, 1) := by decide +kernel
theorem dX4_copyFrom_170 : decode cX4_copyFrom 170 = .ok (.getfield 67, 3) := by decide +kernel
theorem dX4_copyFrom_173 : decode cX4_copyFrom 173 = .ok (.putfield 67, 3) := by decide +kernel
theorem dX4_copyFrom_176 : decode cX4_copyFrom 176 = .ok (.return_, 1) := by decide +kernel
theorem dX6_image_0 : decode cX6_image 0 = .ok (.iload_n 1, 1) := by decide +kernel
theorem dX6_image_1 : decode cX6_image 1 = .ok (.ifCond .lt 8, 3) := by decide +kernel
theorem dX6_image_4 : decode cX6_image 4 = .ok (.iload_n 1, 1) := by decide +kernel
theorem dX6_image_5 : decode cX6_image 5 = .ok (.iconst 2, 1) := by decide +kernel
theorem dX6_image_6 : decode cX6_image 6 = .ok (.if_icmp .lt 6, 3) := by decide +kernel
theorem dX6_image_9 : decode cX6_image 9 = .ok (.bipush (-2), 2) := by decide +kernel
theorem dX6_image_11 : decode cX6_image 11 = .ok (.ireturn, 1) := by decide +kernel
theorem dX6_image_12 : decode cX6_image 12 = .ok (.aload_n 0, 1) := by decide +kernel
theorem dX6_image_13 : decode cX6_image 13 = .ok (.getfield 16, 3) := by decide +kernel
theorem dX6_image_16 : decode cX6_image 16 = .ok (.iload_n 1, 1) := by decide +kernel
theorem dX6_image_17 : decode cX6_image 17 = .ok (.aaload, 1) := by decide +kernel
theorem dX6_image_18 : decode cX6_image 18 = .ok (.astore_n 2, 1) := by decide +kernel
theorem dX6_image_19 : decode cX6_image 19 = .ok (.aload_n 2, 1) := by decide +kernel
theorem dX6_image_20 : decode cX6_image 20 = .ok (.ifnonnull 18, 3) := by decide +kernel
theorem dX6_image_23 : decode cX6_image 23 = .ok (.new 7, 3) := by decide +kernel
theorem dX6_image_26 : decode cX6_image 26 = .ok (.dup, 1) := by decide +kernel
theorem dX6_image_27 : decode cX6_image 27 = .ok (.invokespecial 9, 3) := by decide +kernel
theorem dX6_image_30 : decode cX6_image 30 = .ok (.astore_n 2, 1) := by decide +kernel
theorem dX6_image_31 : decode cX6_image 31 = .ok (.aload_n 0, 1) := by decide +kernel
theorem dX6_image_32 : decode cX6_image 32 = .ok (.getfield 16, 3) := by decide +kernel
theorem dX6_image_35 : decode cX6_image 35 = .ok (.iload_n 1, 1) := by decide +kernel
theorem dX6_image_36 : decode cX6_image 36 = .ok (.aload_n 2, 1) := by decide +kernel
theorem dX6_image_37 : decode cX6_image 37 = .ok (.aastore, 1) := by decide +kernel
theorem dX6_image_38 : decode cX6_image 38 = .ok (.aload_n 2, 1) := by decide +kernel
theorem dX6_image_39 : decode cX6_image 39 = .ok (.aload_n 0, 1) := by decide +kernel
theorem dX6_image_40 : decode cX6_image 40 = .ok (.getfield 10, 3) := by decide +kernel
theorem dX6_image_43 : decode cX6_image 43 = .ok (.invokevirtual 300, 3) := by decide +kernel
theorem dX6_image_46 : decode cX6_image 46 = .ok (.iconst 1, 1) := by decide +kernel
theorem dX6_image_47 : decode cX6_image 47 = .ok (.ireturn, 1) := by decide +kernel
theorem dX6_restore_0 : decode cX6_restore 0 = .ok (.iload_n 1, 1) := by decide +kernel
theorem dX6_restore_1 : decode cX6_restore 1 = .ok (.ifCond .lt 8, 3) := by decide +kernel
theorem dX6_restore_4 : decode cX6_restore 4 = .ok (.iload_n 1, 1) := by decide +kernel
theorem dX6_restore_5 : decode cX6_restore 5 = .ok (.iconst 2, 1) := by decide +kernel
theorem dX6_restore_6 : decode cX6_restore 6 = .ok (.if_icmp .lt 6, 3) := by decide +kernel
theorem dX6_restore_9 : decode cX6_restore 9 = .ok (.bipush (-2), 2) := by decide +kernel
theorem dX6_restore_11 : decode cX6_restore 11 = .ok (.ireturn, 1) := by decide +kernel
theorem dX6_restore_12 : decode cX6_restore 12 = .ok (.aload_n 0, 1) := by decide +kernel
theorem dX6_restore_13 : decode cX6_restore 13 = .ok (.getfield 16, 3) := by decide +kernel
theorem dX6_restore_16 : decode cX6_restore 16 = .ok (.iload_n 1, 1) := by decide +kernel
theorem dX6_restore_17 : decode cX6_restore 17 = .ok (.aaload, 1) := by decide +kernel
theorem dX6_restore_18 : decode cX6_restore 18 = .ok (.astore_n 2, 1) := by decide +kernel
theorem dX6_restore_19 : decode cX6_restore 19 = .ok (.aload_n 2, 1) := by decide +kernel
theorem dX6_restore_20 : decode cX6_restore 20 = .ok (.ifnonnull 6, 3) := by decide +kernel
theorem dX6_restore_23 : decode cX6_restore 23 = .ok (.bipush (-3), 2) := by decide +kernel
theorem dX6_restore_25 : decode cX6_restore 25 = .ok (.ireturn, 1) := by decide +kernel
theorem dX6_restore_26 : decode cX6_restore 26 = .ok (.aload_n 0, 1) := by decide +kernel
theorem dX6_restore_27 : decode cX6_restore 27 = .ok (.getfield 10, 3) := by decide +kernel
theorem dX6_restore_30 : decode cX6_restore 30 = .ok (.aload_n 2, 1) := by decide +kernel
theorem dX6_restore_31 : decode cX6_restore 31 = .ok (.invokevirtual 300, 3) := by decide +kernel
theorem dX6_restore_34 : decode cX6_restore 34 = .ok (.aload_n 0, 1) := by decide +kernel
theorem dX6_restore_35 : decode cX6_restore 35 = .ok (.getfield 33, 3) := by decide +kernel
theorem dX6_restore_38 : decode cX6_restore 38 = .ok (.aload_n 0, 1) := by decide +kernel
theorem dX6_restore_39 : decode cX6_restore 39 = .ok (.getfield 10, 3) := by decide +kernel
theorem dX6_restore_42 : decode cX6_restore 42 = .ok (.getfield 74, 3) := by decide +kernel
theorem dX6_restore_45 : decode cX6_restore 45 = .ok (.invokevirtual 71, 3) := by decide +kernel
theorem dX6_restore_48 : decode cX6_restore 48 = .ok (.iconst 1, 1) := by decide +kernel
theorem dX6_restore_49 : decode cX6_restore 49 = .ok (.ireturn, 1) := by decide +kernel
section MAKE2
variable {xl : Nat} {xs : Nat → Int32} {n b : Nat} {h : Nat → PC} {I S : Nat → Nat → Int32} {J T : Nat → Nat → Int64} {X : Nat → Option Nat}
theorem i_X4 (hb : b + 8 ≤ 1000) (h0 : h b = .inr (4, [.int 0, .int 0, .int 0, .int 0, .int 0, .long 0, .ref (b + 1), .ref (b + 2), .ref (b + 3), .ref (b + 4), .int 0, .ref (b + 5), .int 0, .ref (b + 6), .ref (b + 7), .int 0])) (h1 : h (b + 1) = .inl (0, 24, .inl (fun _ => 0))) (h2 : h (b + 2) = .inl (0, 6, .inl (fun _ => 0))) (h3 : h (b + 3) = .inl (0, 4, .inl (fun _ => 0))) (h4 : h (b + 4) = .inl (0, 16, .inl (fun _ => 0))) (h5 : h (b + 5) = .inl (1, 12, .inr (.inl (fun _ => 0)))) (h6 : h (b + 6) = .inl (0, 6, .inl (fun _ => 0))) (h7 : h (b + 7) = .inl (0, 6, .inl (fun _ => 0))) : Rn xl xs 1 26 7 74 mX4_init [.ref b] (b + 1) (hup h b (.inr (4, dX4))) none (b + 8) h := by
  intro Q hQ
  show Ev xl xs 1 26 7 74 mX4_init 0 [some (.ref b)] [] (b + 1) (hup h b (.inr (4, dX4))) Q
  refine ev_aload_n (q := 1) dX4_init_0 rfl rfl ?_
  refine ev_obj (q := 4) dX4_init_1 (tb_in (tt_1 25 rfl) rfl) w_oi w_oc (by decide) (by decide) rfl ?_
  refine ev_aload_n (q := 5) dX4_init_4 rfl rfl ?_
  refine ev_bipush (q := 7) (24) dX4_init_5 (by decide) rfl ?_
  refine ev_newI (q := 9) (N' := 24) dX4_init_7 w_acI (by decide) (by decide) (by decide) (by omega) (by decide) (by decide) rfl ?_
  rw [hup_new h1 (by omega)]
  refine ev_putF (q := 12) dX4_init_9 fa_X4_9 rfl hup_at (by omega) (Nat.le_of_ble_eq_true rfl) (fun _ => ⟨rfl, rfl⟩) rfl ?_
  rw [hup_set]
  refine ev_aload_n (q := 13) dX4_init_12 rfl rfl ?_
  refine ev_bipush (q := 15) (6) dX4_init_13 (by decide) rfl ?_
  refine ev_newI (q := 17) (N' := 6) dX4_init_15 w_acI (by decide) (by decide) (by decide) (by omega) (by decide) (by decide) rfl ?_
  rw [hup_new h2 (by omega)]
  refine ev_putF (q := 20) dX4_init_17 fa_X4_15 rfl hup_at (by omega) (Nat.le_of_ble_eq_true rfl) (fun _ => ⟨rfl, rfl⟩) rfl ?_
  rw [hup_set]
  refine ev_aload_n (q := 21) dX4_init_20 rfl rfl ?_
  refine ev_iconst (q := 22) (4) dX4_init_21 (by decide) rfl ?_
  refine ev_newI (q := 24) (N' := 4) dX4_init_22 w_acI (by decide) (by decide) (by decide) (by omega) (by decide) (by decide) rfl ?_
  rw [hup_new h3 (by omega)]
  refine ev_putF (q := 27) dX4_init_24 fa_X4_18 rfl hup_at (by omega) (Nat.le_of_ble_eq_true rfl) (fun _ => ⟨rfl, rfl⟩) rfl ?_
  rw [hup_set]
  refine ev_aload_n (q := 28) dX4_init_27 rfl rfl ?_
  refine ev_bipush (q := 30) (16) dX4_init_28 (by decide) rfl ?_
  refine ev_newI (q := 32) (N' := 16) dX4_init_30 w_acI (by decide) (by decide) (by decide) (by omega) (by decide) (by decide) rfl ?_
  rw [hup_new h4 (by omega)]
  refine ev_putF (q := 35) dX4_init_32 fa_X4_21 rfl hup_at (by omega) (Nat.le_of_ble_eq_true rfl) (fun _ => ⟨rfl, rfl⟩) rfl ?_
  rw [hup_set]
  refine ev_aload_n (q := 36) dX4_init_35 rfl rfl ?_
  refine ev_bipush (q := 38) (12) dX4_init_36 (by decide) rfl ?_
  refine ev_newJ (q := 40) (N' := 12) dX4_init_38 w_acJ (by decide) (by decide) (by decide) (by omega) (by decide) (by decide) rfl ?_
  rw [hup_new h5 (by omega)]
  refine ev_putF (q := 43) dX4_init_40 fa_X4_24 rfl hup_at (by omega) (Nat.le_of_ble_eq_true rfl) (fun _ => ⟨rfl, rfl⟩) rfl ?_
  rw [hup_set]
  refine ev_aload_n (q := 44) dX4_init_43 rfl rfl ?_
  refine ev_bipush (q := 46) (6) dX4_init_44 (by decide) rfl ?_
  refine ev_newI (q := 48) (N' := 6) dX4_init_46 w_acI (by decide) (by decide) (by decide) (by omega) (by decide) (by decide) rfl ?_
  rw [hup_new h6 (by omega)]
  refine ev_putF (q := 51) dX4_init_48 fa_X4_28 rfl hup_at (by omega) (Nat.le_of_ble_eq_true rfl) (fun _ => ⟨rfl, rfl⟩) rfl ?_
  rw [hup_set]
  refine ev_aload_n (q := 52) dX4_init_51 rfl rfl ?_
  refine ev_bipush (q := 54) (6) dX4_init_52 (by decide) rfl ?_
  refine ev_newI (q := 56) (N' := 6) dX4_init_54 w_acI (by decide) (by decide) (by decide) (by omega) (by decide) (by decide) rfl ?_
  rw [hup_new h7 (by omega)]
  refine ev_putF (q := 59) dX4_init_56 fa_X4_31 rfl hup_at (by omega) (Nat.le_of_ble_eq_true rfl) (fun _ => ⟨rfl, rfl⟩) rfl ?_
  rw [hup_set]
  exact ev_retE dX4_init_59 rfl rfl (hup_id h0) hQ
theorem i_X1 (hb : b + 3 ≤ 1000) (h0 : h b = .inr (1, [.ref (b + 1), .int 0, .ref (b + 2)])) (h1 : h (b + 1) = .inl (0, 40, .inl (fun _ => 0))) (h2 : h (b + 2) = .inl (1, 24, .inr (.inl (fun _ => 0)))) : Rn xl xs 1 26 2 64 mX1_init [.ref b] (b + 1) (hup h b (.inr (1, dX1))) none (b + 3) h := by
  intro Q hQ
  show Ev xl xs 1 26 2 64 mX1_init 0 [some (.ref b)] [] (b + 1) (hup h b (.inr (1, dX1))) Q
  refine ev_aload_n (q := 1) dX1_init_0 rfl rfl ?_
  refine ev_obj (q := 4) dX1_init_1 (tb_in (tt_1 110 rfl) rfl) w_oi w_oc (by decide) (by decide) rfl ?_
  refine ev_aload_n (q := 5) dX1_init_4 rfl rfl ?_
  refine ev_bipush (q := 7) (40) dX1_init_5 (by decide) rfl ?_
  refine ev_newI (q := 9) (N' := 40) dX1_init_7 w_acI (by decide) (by decide) (by decide) (by omega) (by decide) (by decide) rfl ?_
  rw [hup_new h1 (by omega)]
  refine ev_putF (q := 12) dX1_init_9 fa_X1_9 rfl hup_at (by omega) (Nat.le_of_ble_eq_true rfl) (fun _ => ⟨rfl, rfl⟩) rfl ?_
  rw [hup_set]
  refine ev_aload_n (q := 13) dX1_init_12 rfl rfl ?_
  refine ev_bipush (q := 15) (24) dX1_init_13 (by decide) rfl ?_
  refine ev_newJ (q := 17) (N' := 24) dX1_init_15 w_acJ (by decide) (by decide) (by decide) (by omega) (by decide) (by decide) rfl ?_
  rw [hup_new h2 (by omega)]
  refine ev_putF (q := 20) dX1_init_17 fa_X1_15 rfl hup_at (by omega) (Nat.le_of_ble_eq_true rfl) (fun _ => ⟨rfl, rfl⟩) rfl ?_
  rw [hup_set]
  exact ev_retE dX1_init_20 rfl rfl (hup_id h0) hQ
theorem i_X5 (hb : b + 5 ≤ 1000) (h0 : h b = .inr (5, [.int 0, .ref (b + 1), .ref (b + 2), .ref (b + 3), .ref (b + 4)])) (h1 : h (b + 1) = .inl (0, 729, .inl (fun _ => 0))) (h2 : h (b + 2) = .inl (0, 729, .inl (fun _ => 0))) (h3 : h (b + 3) = .inl (1, 729, .inr (.inl (fun _ => 0)))) (h4 : h (b + 4) = .inl (0, 64, .inl (fun _ => 0))) : Rn xl xs 1 26 4 2251 mX5_init [.ref b] (b + 1) (hup h b (.inr (5, dX5))) none (b + 5) h := by
  intro Q hQ
  show Ev xl xs 1 26 4 2251 mX5_init 0 [some (.ref b)] [] (b + 1) (hup h b (.inr (5, dX5))) Q
  refine ev_aload_n (q := 1) dX5_init_0 rfl rfl ?_
  refine ev_obj (q := 4) dX5_init_1 (tb_in (tt_1 128 rfl) rfl) w_oi w_oc (by decide) (by decide) rfl ?_
  refine ev_aload_n (q := 5) dX5_init_4 rfl rfl ?_
  refine ev_sipush (q := 8) (729) dX5_init_5 (by decide) rfl ?_
  refine ev_newI (q := 10) (N' := 729) dX5_init_8 w_acI (by decide) (by decide) (by decide) (by omega) (by decide) (by decide) rfl ?_
  rw [hup_new h1 (by omega)]
  refine ev_putF (q := 13) dX5_init_10 fa_X5_9 rfl hup_at (by omega) (Nat.le_of_ble_eq_true rfl) (fun _ => ⟨rfl, rfl⟩) rfl ?_
  rw [hup_set]
  refine ev_aload_n (q := 14) dX5_init_13 rfl rfl ?_
  refine ev_sipush (q := 17) (729) dX5_init_14 (by decide) rfl ?_
  refine ev_newI (q := 19) (N' := 729) dX5_init_17 w_acI (by decide) (by decide) (by decide) (by omega) (by decide) (by decide) rfl ?_
  rw [hup_new h2 (by omega)]
  refine ev_putF (q := 22) dX5_init_19 fa_X5_15 rfl hup_at (by omega) (Nat.le_of_ble_eq_true rfl) (fun _ => ⟨rfl, rfl⟩) rfl ?_
  rw [hup_set]
  refine ev_aload_n (q := 23) dX5_init_22 rfl rfl ?_
  refine ev_sipush (q := 26) (729) dX5_init_23 (by decide) rfl ?_
  refine ev_newJ (q := 28) (N' := 729) dX5_init_26 w_acJ (by decide) (by decide) (by decide) (by omega) (by decide) (by decide) rfl ?_
  rw [hup_new h3 (by omega)]
  refine ev_putF (q := 31) dX5_init_28 fa_X5_18 rfl hup_at (by omega) (Nat.le_of_ble_eq_true rfl) (fun _ => ⟨rfl, rfl⟩) rfl ?_
  rw [hup_set]
  refine ev_aload_n (q := 32) dX5_init_31 rfl rfl ?_
  refine ev_bipush (q := 34) (64) dX5_init_32 (by decide) rfl ?_
  refine ev_newI (q := 36) (N' := 64) dX5_init_34 w_acI (by decide) (by decide) (by decide) (by omega) (by decide) (by decide) rfl ?_
  rw [hup_new h4 (by omega)]
  refine ev_putF (q := 39) dX5_init_36 fa_X5_22 rfl hup_at (by omega) (Nat.le_of_ble_eq_true rfl) (fun _ => ⟨rfl, rfl⟩) rfl ?_
  rw [hup_set]
  exact ev_retE dX5_init_39 rfl rfl (hup_id h0) hQ
theorem i_X3 {s t : Nat} (hb : b + 3 ≤ 1000) (h0 : h b = .inr (3, [.ref s, .ref t, .ref (b + 1), .ref (b + 2)])) (h1 : h (b + 1) = .inl (0, 64, .inl (fun _ => 0))) (h2 : h (b + 2) = .inl (0, 64, .inl (fun _ => 0))) : Rn xl xs 1 26 2 128 mX3_init [.ref b, .ref s, .ref t] (b + 1) (hup h b (.inr (3, dX3))) none (b + 3) h := by
  intro Q hQ
  show Ev xl xs 1 26 2 128 mX3_init 0 [some (.ref b), some (.ref s), some (.ref t)] [] (b + 1) (hup h b (.inr (3, dX3))) Q
  refine ev_aload_n (q := 1) dX3_init_0 rfl rfl ?_
  refine ev_obj (q := 4) dX3_init_1 (tb_in (tt_1 154 rfl) rfl) w_oi w_oc (by decide) (by decide) rfl ?_
  refine ev_aload_n (q := 5) dX3_init_4 rfl rfl ?_
  refine ev_bipush (q := 7) (64) dX3_init_5 (by decide) rfl ?_
  refine ev_newI (q := 9) (N' := 64) dX3_init_7 w_acI (by decide) (by decide) (by decide) (by omega) (by decide) (by decide) rfl ?_
  rw [hup_new h1 (by omega)]
  refine ev_putF (q := 12) dX3_init_9 fa_X3_9 rfl hup_at (by omega) (Nat.le_of_ble_eq_true rfl) (fun _ => ⟨rfl, rfl⟩) rfl ?_
  rw [hup_set]
  refine ev_aload_n (q := 13) dX3_init_12 rfl rfl ?_
  refine ev_bipush (q := 15) (64) dX3_init_13 (by decide) rfl ?_
  refine ev_newI (q := 17) (N' := 64) dX3_init_15 w_acI (by decide) (by decide) (by decide) (by omega) (by decide) (by decide) rfl ?_
  rw [hup_new h2 (by omega)]
  refine ev_putF (q := 20) dX3_init_17 fa_X3_15 rfl hup_at (by omega) (Nat.le_of_ble_eq_true rfl) (fun _ => ⟨rfl, rfl⟩) rfl ?_
  rw [hup_set]
  refine ev_aload_n (q := 21) dX3_init_20 rfl rfl ?_
  refine ev_aload_n (q := 22) dX3_init_21 rfl rfl ?_
  refine ev_putF (q := 25) dX3_init_22 fa_X3_18 rfl hup_at (by omega) (Nat.le_of_ble_eq_true rfl) (fun _ => ⟨rfl, rfl⟩) rfl ?_
  rw [hup_set]
  refine ev_aload_n (q := 26) dX3_init_25 rfl rfl ?_
  refine ev_aload_n (q := 27) dX3_init_26 rfl rfl ?_
  refine ev_putF (q := 30) dX3_init_27 fa_X3_22 rfl hup_at (by omega) (Nat.le_of_ble_eq_true rfl) (fun _ => ⟨rfl, rfl⟩) rfl ?_
  rw [hup_set]
  exact ev_retE dX3_init_30 rfl rfl (hup_id h0) hQ
theorem i_X2 {s t : Nat} (hb : b + 6 ≤ 1000) (h0 : h b = .inr (2, [.ref s, .ref t, .ref (b + 1), .ref (b + 2), .ref (b + 3), .ref (b + 4), .ref (b + 5), .int 0])) (h1 : h (b + 1) = .inl (0, 64, .inl (fun _ => 0))) (h2 : h (b + 2) = .inl (0, 64, .inl (fun _ => 0))) (h3 : h (b + 3) = .inl (0, 64, .inl (fun _ => 0))) (h4 : h (b + 4) = .inl (0, 64, .inl (fun _ => 0))) (h5 : h (b + 5) = .inl (0, 64, .inl (fun _ => 0))) : Rn xl xs 1 26 5 320 mX2_init [.ref b, .ref s, .ref t] (b + 1) (hup h b (.inr (2, dX2))) none (b + 6) h := by
  intro Q hQ
  show Ev xl xs 1 26 5 320 mX2_init 0 [some (.ref b), some (.ref s), some (.ref t)] [] (b + 1) (hup h b (.inr (2, dX2))) Q
  refine ev_aload_n (q := 1) dX2_init_0 rfl rfl ?_
  refine ev_obj (q := 4) dX2_init_1 (tb_in (tt_1 174 rfl) rfl) w_oi w_oc (by decide) (by decide) rfl ?_
  refine ev_aload_n (q := 5) dX2_init_4 rfl rfl ?_
  refine ev_bipush (q := 7) (64) dX2_init_5 (by decide) rfl ?_
  refine ev_newI (q := 9) (N' := 64) dX2_init_7 w_acI (by decide) (by decide) (by decide) (by omega) (by decide) (by decide) rfl ?_
  rw [hup_new h1 (by omega)]
  refine ev_putF (q := 12) dX2_init_9 fa_X2_9 rfl hup_at (by omega) (Nat.le_of_ble_eq_true rfl) (fun _ => ⟨rfl, rfl⟩) rfl ?_
  rw [hup_set]
  refine ev_aload_n (q := 13) dX2_init_12 rfl rfl ?_
  refine ev_bipush (q := 15) (64) dX2_init_13 (by decide) rfl ?_
  refine ev_newI (q := 17) (N' := 64) dX2_init_15 w_acI (by decide) (by decide) (by decide) (by omega) (by decide) (by decide) rfl ?_
  rw [hup_new h2 (by omega)]
  refine ev_putF (q := 20) dX2_init_17 fa_X2_15 rfl hup_at (by omega) (Nat.le_of_ble_eq_true rfl) (fun _ => ⟨rfl, rfl⟩) rfl ?_
  rw [hup_set]
  refine ev_aload_n (q := 21) dX2_init_20 rfl rfl ?_
  refine ev_bipush (q := 23) (64) dX2_init_21 (by decide) rfl ?_
  refine ev_newI (q := 25) (N' := 64) dX2_init_23 w_acI (by decide) (by decide) (by decide) (by omega) (by decide) (by decide) rfl ?_
  rw [hup_new h3 (by omega)]
  refine ev_putF (q := 28) dX2_init_25 fa_X2_18 rfl hup_at (by omega) (Nat.le_of_ble_eq_true rfl) (fun _ => ⟨rfl, rfl⟩) rfl ?_
  rw [hup_set]
  refine ev_aload_n (q := 29) dX2_init_28 rfl rfl ?_
  refine ev_bipush (q := 31) (64) dX2_init_29 (by decide) rfl ?_
  refine ev_newI (q := 33) (N' := 64) dX2_init_31 w_acI (by decide) (by decide) (by decide) (by omega) (by decide) (by decide) rfl ?_
  rw [hup_new h4 (by omega)]
  refine ev_putF (q := 36) dX2_init_33 fa_X2_21 rfl hup_at (by omega) (Nat.le_of_ble_eq_true rfl) (fun _ => ⟨rfl, rfl⟩) rfl ?_
  rw [hup_set]
  refine ev_aload_n (q := 37) dX2_init_36 rfl rfl ?_
  refine ev_bipush (q := 39) (64) dX2_init_37 (by decide) rfl ?_
  refine ev_newI (q := 41) (N' := 64) dX2_init_39 w_acI (by decide) (by decide) (by decide) (by omega) (by decide) (by decide) rfl ?_
  rw [hup_new h5 (by omega)]
  refine ev_putF (q := 44) dX2_init_41 fa_X2_24 rfl hup_at (by omega) (Nat.le_of_ble_eq_true rfl) (fun _ => ⟨rfl, rfl⟩) rfl ?_
  rw [hup_set]
  refine ev_aload_n (q := 45) dX2_init_44 rfl rfl ?_
  refine ev_aload_n (q := 46) dX2_init_45 rfl rfl ?_
  refine ev_putF (q := 49) dX2_init_46 fa_X2_27 rfl hup_at (by omega) (Nat.le_of_ble_eq_true rfl) (fun _ => ⟨rfl, rfl⟩) rfl ?_
  rw [hup_set]
  refine ev_aload_n (q := 50) dX2_init_49 rfl rfl ?_
  refine ev_aload_n (q := 51) dX2_init_50 rfl rfl ?_
  refine ev_putF (q := 54) dX2_init_51 fa_X2_31 rfl hup_at (by omega) (Nat.le_of_ble_eq_true rfl) (fun _ => ⟨rfl, rfl⟩) rfl ?_
  rw [hup_set]
  exact ev_retE dX2_init_54 rfl rfl (hup_id h0) hQ
theorem i_X0 : Rn xl xs 1 26 0 0 mX0_init [.ref b] n h none n h := by
  intro Q hQ
  show Ev xl xs 1 26 0 0 mX0_init 0 [some (.ref b)] [] n h Q
  refine ev_aload_n (q := 1) dX0_init_0 rfl rfl ?_
  refine ev_obj (q := 4) dX0_init_1 (tb_in (tt_1 207 rfl) rfl) w_oi w_oc (by decide) (by decide) rfl ?_
  exact ev_retE dX0_init_4 rfl rfl rfl hQ
end MAKE2
