theorem dX2_drawUpSaying_0 : decode cX2_drawUpSaying 0 = .ok (.aload_n 0, 1) := by decide +kernel
theorem dX2_drawUpSaying_1 : decode cX2_drawUpSaying 1 = .ok (.getfield 27, 3) := by decide +kernel
theorem dX2_drawUpSaying_4 : decode cX2_drawUpSaying 4 = .ok (.invokevirtual 35, 3) := by decide +kernel
theorem dX2_drawUpSaying_7 : decode cX2_drawUpSaying 7 = .ok (.istore 4, 2) := by decide +kernel
theorem dX2_drawUpSaying_9 : decode cX2_drawUpSaying 9 = .ok (.iconst 0, 1) := by decide +kernel
theorem dX2_drawUpSaying_10 : decode cX2_drawUpSaying 10 = .ok (.istore 5, 2) := by decide +kernel
theorem dX2_drawUpSaying_12 : decode cX2_drawUpSaying 12 = .ok (.iload 5, 2) := by decide +kernel
theorem dX2_drawUpSaying_14 : decode cX2_drawUpSaying 14 = .ok (.iload 4, 2) := by decide +kernel
theorem dX2_drawUpSaying_16 : decode cX2_drawUpSaying 16 = .ok (.if_icmp .ge 18, 3) := by decide +kernel
theorem dX2_drawUpSaying_19 : decode cX2_drawUpSaying 19 = .ok (.aload_n 0, 1) := by decide +kernel
theorem dX2_drawUpSaying_20 : decode cX2_drawUpSaying 20 = .ok (.getfield 18, 3) := by decide +kernel
theorem dX2_drawUpSaying_23 : decode cX2_drawUpSaying 23 = .ok (.iload 5, 2) := by decide +kernel
theorem dX2_drawUpSaying_25 : decode cX2_drawUpSaying 25 = .ok (.bipush (-6), 2) := by decide +kernel
theorem dX2_drawUpSaying_27 : decode cX2_drawUpSaying 27 = .ok (.iastore, 1) := by decide +kernel
theorem dX2_drawUpSaying_28 : decode cX2_drawUpSaying 28 = .ok (.iinc 5 1, 3) := by decide +kernel
theorem dX2_drawUpSaying_31 : decode cX2_drawUpSaying 31 = .ok (.goto (-19), 3) := by decide +kernel
theorem dX2_drawUpSaying_34 : decode cX2_drawUpSaying 34 = .ok (.iconst 0, 1) := by decide +kernel
theorem dX2_drawUpSaying_35 : decode cX2_drawUpSaying 35 = .ok (.istore 5, 2) := by decide +kernel
theorem dX2_drawUpSaying_37 : decode cX2_drawUpSaying 37 = .ok (.iload 5, 2) := by decide +kernel
theorem dX2_drawUpSaying_39 : decode cX2_drawUpSaying 39 = .ok (.iload 4, 2) := by decide +kernel
theorem dX2_drawUpSaying_41 : decode cX2_drawUpSaying 41 = .ok (.if_icmp .ge 110, 3) := by decide +kernel
theorem dX2_drawUpSaying_44 : decode cX2_drawUpSaying 44 = .ok (.iload 5, 2) := by decide +kernel
theorem dX2_drawUpSaying_46 : decode cX2_drawUpSaying 46 = .ok (.iload_n 1, 1) := by decide +kernel
theorem dX2_drawUpSaying_47 : decode cX2_drawUpSaying 47 = .ok (.iconst (-1), 1) := by decide +kernel
theorem dX2_drawUpSaying_48 : decode cX2_drawUpSaying 48 = .ok (.ixor, 1) := by decide +kernel
theorem dX2_drawUpSaying_49 : decode cX2_drawUpSaying 49 = .ok (.iand, 1) := by decide +kernel
theorem dX2_drawUpSaying_50 : decode cX2_drawUpSaying 50 = .ok (.istore 6, 2) := by decide +kernel
theorem dX2_drawUpSaying_52 : decode cX2_drawUpSaying 52 = .ok (.iload_n 3, 1) := by decide +kernel
theorem dX2_drawUpSaying_53 : decode cX2_drawUpSaying 53 = .ok (.ifCond .lt 13, 3) := by decide +kernel
theorem dX2_drawUpSaying_56 : decode cX2_drawUpSaying 56 = .ok (.iload 6, 2) := by decide +kernel
theorem dX2_drawUpSaying_58 : decode cX2_drawUpSaying 58 = .ok (.iload_n 3, 1) := by decide +kernel
theorem dX2_drawUpSaying_59 : decode cX2_drawUpSaying 59 = .ok (.iload_n 1, 1) := by decide +kernel
theorem dX2_drawUpSaying_60 : decode cX2_drawUpSaying 60 = .ok (.iconst (-1), 1) := by decide +kernel
theorem dX2_drawUpSaying_61 : decode cX2_drawUpSaying 61 = .ok (.ixor, 1) := by decide +kernel
theorem dX2_drawUpSaying_62 : decode cX2_drawUpSaying 62 = .ok (.iand, 1) := by decide +kernel
theorem dX2_drawUpSaying_63 : decode cX2_drawUpSaying 63 = .ok (.if_icmp .ne 13, 3) := by decide +kernel
theorem dX2_drawUpSaying_66 : decode cX2_drawUpSaying 66 = .ok (.aload_n 0, 1) := by decide +kernel
theorem dX2_drawUpSaying_67 : decode cX2_drawUpSaying 67 = .ok (.iload 5, 2) := by decide +kernel
theorem dX2_drawUpSaying_69 : decode cX2_drawUpSaying 69 = .ok (.aload_n 2, 1) := by decide +kernel
theorem dX2_drawUpSaying_70 : decode cX2_drawUpSaying 70 = .ok (.invokevirtual 66, 3) := by decide +kernel
theorem dX2_drawUpSaying_73 : decode cX2_drawUpSaying 73 = .ok (.goto 5, 3) := by decide +kernel
theorem dX2_drawUpSaying_76 : decode cX2_drawUpSaying 76 = .ok (.bipush (-3), 2) := by decide +kernel
theorem dX2_drawUpSaying_78 : decode cX2_drawUpSaying 78 = .ok (.istore 7, 2) := by decide +kernel
theorem dX2_drawUpSaying_80 : decode cX2_drawUpSaying 80 = .ok (.iload 7, 2) := by decide +kernel
theorem dX2_drawUpSaying_82 : decode cX2_drawUpSaying 82 = .ok (.ifCond .lt 63, 3) := by decide +kernel
theorem dX2_drawUpSaying_85 : decode cX2_drawUpSaying 85 = .ok (.aload_n 0, 1) := by decide +kernel
theorem dX2_drawUpSaying_86 : decode cX2_drawUpSaying 86 = .ok (.getfield 31, 3) := by decide +kernel
theorem dX2_drawUpSaying_89 : decode cX2_drawUpSaying 89 = .ok (.iload_n 1, 1) := by decide +kernel
theorem dX2_drawUpSaying_90 : decode cX2_drawUpSaying 90 = .ok (.iload 5, 2) := by decide +kernel
theorem dX2_drawUpSaying_92 : decode cX2_drawUpSaying 92 = .ok (.iload_n 1, 1) := by decide +kernel
theorem dX2_drawUpSaying_93 : decode cX2_drawUpSaying 93 = .ok (.iand, 1) := by decide +kernel
theorem dX2_drawUpSaying_94 : decode cX2_drawUpSaying 94 = .ok (.invokevirtual 70, 3) := by decide +kernel
theorem dX2_drawUpSaying_97 : decode cX2_drawUpSaying 97 = .ok (.istore 8, 2) := by decide +kernel
theorem dX2_drawUpSaying_99 : decode cX2_drawUpSaying 99 = .ok (.aload_n 2, 1) := by decide +kernel
theorem dX2_drawUpSaying_100 : decode cX2_drawUpSaying 100 = .ok (.iload 7, 2) := by decide +kernel
theorem dX2_drawUpSaying_102 : decode cX2_drawUpSaying 102 = .ok (.iaload, 1) := by decide +kernel
theorem dX2_drawUpSaying_103 : decode cX2_drawUpSaying 103 = .ok (.iload 8, 2) := by decide +kernel
theorem dX2_drawUpSaying_105 : decode cX2_drawUpSaying 105 = .ok (.aload_n 2, 1) := by decide +kernel
theorem dX2_drawUpSaying_106 : decode cX2_drawUpSaying 106 = .ok (.aload_n 0, 1) := by decide +kernel
theorem dX2_drawUpSaying_107 : decode cX2_drawUpSaying 107 = .ok (.getfield 21, 3) := by decide +kernel
theorem dX2_drawUpSaying_110 : decode cX2_drawUpSaying 110 = .ok (.iload 6, 2) := by decide +kernel
theorem dX2_drawUpSaying_112 : decode cX2_drawUpSaying 112 = .ok (.iaload, 1) := by decide +kernel
theorem dX2_drawUpSaying_113 : decode cX2_drawUpSaying 113 = .ok (.iaload, 1) := by decide +kernel
theorem dX2_drawUpSaying_114 : decode cX2_drawUpSaying 114 = .ok (.aload_n 0, 1) := by decide +kernel
theorem dX2_drawUpSaying_115 : decode cX2_drawUpSaying 115 = .ok (.getfield 18, 3) := by decide +kernel
theorem dX2_drawUpSaying_118 : decode cX2_drawUpSaying 118 = .ok (.iload 6, 2) := by decide +kernel
theorem dX2_drawUpSaying_120 : decode cX2_drawUpSaying 120 = .ok (.iaload, 1) := by decide +kernel
theorem dX2_drawUpSaying_121 : decode cX2_drawUpSaying 121 = .ok (.invokestatic 76, 3) := by decide +kernel
theorem dX2_drawUpSaying_124 : decode cX2_drawUpSaying 124 = .ok (.ifCond .eq 21, 3) := by decide +kernel
theorem dX2_drawUpSaying_127 : decode cX2_drawUpSaying 127 = .ok (.aload_n 0, 1) := by decide +kernel
theorem dX2_drawUpSaying_128 : decode cX2_drawUpSaying 128 = .ok (.getfield 18, 3) := by decide +kernel
theorem dX2_drawUpSaying_131 : decode cX2_drawUpSaying 131 = .ok (.iload 6, 2) := by decide +kernel
theorem dX2_drawUpSaying_133 : decode cX2_drawUpSaying 133 = .ok (.iload 8, 2) := by decide +kernel
theorem dX2_drawUpSaying_135 : decode cX2_drawUpSaying 135 = .ok (.iastore, 1) := by decide +kernel
theorem dX2_drawUpSaying_136 : decode cX2_drawUpSaying 136 = .ok (.aload_n 0, 1) := by decide +kernel
theorem dX2_drawUpSaying_137 : decode cX2_drawUpSaying 137 = .ok (.getfield 21, 3) := by decide +kernel
theorem dX2_drawUpSaying_140 : decode cX2_drawUpSaying 140 = .ok (.iload 6, 2) := by decide +kernel
theorem dX2_drawUpSaying_142 : decode cX2_drawUpSaying 142 = .ok (.iload 7, 2) := by decide +kernel
theorem dX2_drawUpSaying_144 : decode cX2_drawUpSaying 144 = .ok (.iastore, 1) := by decide +kernel
theorem dX2_drawUpSaying_145 : decode cX2_drawUpSaying 145 = .ok (.iinc 5 1, 3) := by decide +kernel
theorem dX2_drawUpSaying_148 : decode cX2_drawUpSaying 148 = .ok (.goto (-111), 3) := by decide +kernel
theorem dX2_drawUpSaying_151 : decode cX2_drawUpSaying 151 = .ok (.return_, 1) := by decide +kernel
theorem dX2_drawUp_0 : decode cX2_drawUp 0 = .ok (.iconst 0, 1) := by decide +kernel
theorem dX2_drawUp_1 : decode cX2_drawUp 1 = .ok (.istore 4, 2) := by decide +kernel
theorem dX2_drawUp_3 : decode cX2_drawUp 3 = .ok (.iload 4, 2) := by decide +kernel
theorem dX2_drawUp_5 : decode cX2_drawUp 5 = .ok (.bipush 64, 2) := by decide +kernel
theorem dX2_drawUp_7 : decode cX2_drawUp 7 = .ok (.if_icmp .ge 27, 3) := by decide +kernel
theorem dX2_drawUp_10 : decode cX2_drawUp 10 = .ok (.aload_n 0, 1) := by decide +kernel
theorem dX2_drawUp_11 : decode cX2_drawUp 11 = .ok (.getfield 9, 3) := by decide +kernel
theorem dX2_drawUp_14 : decode cX2_drawUp 14 = .ok (.iload 4, 2) := by decide +kernel
theorem dX2_drawUp_16 : decode cX2_drawUp 16 = .ok (.bipush (-6), 2) := by decide +kernel
theorem dX2_drawUp_18 : decode cX2_drawUp 18 = .ok (.iastore, 1) := by decide +kernel
theorem dX2_drawUp_19 : decode cX2_drawUp 19 = .ok (.aload_n 0, 1) := by decide +kernel
theorem dX2_drawUp_20 : decode cX2_drawUp 20 = .ok (.getfield 15, 3) := by decide +kernel
theorem dX2_drawUp_23 : decode cX2_drawUp 23 = .ok (.iload 4, 2) := by decide +kernel
theorem dX2_drawUp_25 : decode cX2_drawUp 25 = .ok (.iload 4, 2) := by decide +kernel
theorem dX2_drawUp_27 : decode cX2_drawUp 27 = .ok (.iastore, 1) := by decide +kernel
theorem dX2_drawUp_28 : decode cX2_drawUp 28 = .ok (.iinc 4 1, 3) := by decide +kernel
theorem dX2_drawUp_31 : decode cX2_drawUp 31 = .ok (.goto (-28), 3) := by decide +kernel
theorem dX2_drawUp_34 : decode cX2_drawUp 34 = .ok (.aload_n 0, 1) := by decide +kernel
theorem dX2_drawUp_35 : decode cX2_drawUp 35 = .ok (.getfield 27, 3) := by decide +kernel
theorem dX2_drawUp_38 : decode cX2_drawUp 38 = .ok (.invokevirtual 35, 3) := by decide +kernel
theorem dX2_drawUp_41 : decode cX2_drawUp 41 = .ok (.istore 4, 2) := by decide +kernel
theorem dX2_drawUp_43 : decode cX2_drawUp 43 = .ok (.iconst 0, 1) := by decide +kernel
theorem dX2_drawUp_44 : decode cX2_drawUp 44 = .ok (.istore 5, 2) := by decide +kernel
theorem dX2_drawUp_46 : decode cX2_drawUp 46 = .ok (.iload 5, 2) := by decide +kernel
theorem dX2_drawUp_48 : decode cX2_drawUp 48 = .ok (.iload 4, 2) := by decide +kernel
theorem dX2_drawUp_50 : decode cX2_drawUp 50 = .ok (.if_icmp .ge 62, 3) := by decide +kernel
theorem dX2_drawUp_53 : decode cX2_drawUp 53 = .ok (.iload 5, 2) := by decide +kernel
theorem dX2_drawUp_55 : decode cX2_drawUp 55 = .ok (.invokestatic 41, 3) := by decide +kernel
theorem dX2_drawUp_58 : decode cX2_drawUp 58 = .ok (.iload_n 2, 1) := by decide +kernel
theorem dX2_drawUp_59 : decode cX2_drawUp 59 = .ok (.if_icmp .gt 47, 3) := by decide +kernel
theorem dX2_drawUp_62 : decode cX2_drawUp 62 = .ok (.aload_n 0, 1) := by decide +kernel
theorem dX2_drawUp_63 : decode cX2_drawUp 63 = .ok (.iload 5, 2) := by decide +kernel
theorem dX2_drawUp_65 : decode cX2_drawUp 65 = .ok (.invokevirtual 47, 3) := by decide +kernel
theorem dX2_drawUp_68 : decode cX2_drawUp 68 = .ok (.aload_n 0, 1) := by decide +kernel
theorem dX2_drawUp_69 : decode cX2_drawUp 69 = .ok (.iload 5, 2) := by decide +kernel
theorem dX2_drawUp_71 : decode cX2_drawUp 71 = .ok (.aload_n 1, 1) := by decide +kernel
theorem dX2_drawUp_72 : decode cX2_drawUp 72 = .ok (.iload_n 3, 1) := by decide +kernel
theorem dX2_drawUp_73 : decode cX2_drawUp 73 = .ok (.invokevirtual 51, 3) := by decide +kernel
theorem dX2_drawUp_76 : decode cX2_drawUp 76 = .ok (.iconst 0, 1) := by decide +kernel
theorem dX2_drawUp_77 : decode cX2_drawUp 77 = .ok (.istore 6, 2) := by decide +kernel
theorem dX2_drawUp_79 : decode cX2_drawUp 79 = .ok (.iload 6, 2) := by decide +kernel
theorem dX2_drawUp_81 : decode cX2_drawUp 81 = .ok (.iload 4, 2) := by decide +kernel
theorem dX2_drawUp_83 : decode cX2_drawUp 83 = .ok (.if_icmp .ge 23, 3) := by decide +kernel
theorem dX2_drawUp_86 : decode cX2_drawUp 86 = .ok (.aload_n 0, 1) := by decide +kernel
theorem dX2_drawUp_87 : decode cX2_drawUp 87 = .ok (.iload 6, 2) := by decide +kernel
theorem dX2_drawUp_89 : decode cX2_drawUp 89 = .ok (.iload 6, 2) := by decide +kernel
theorem dX2_drawUp_91 : decode cX2_drawUp 91 = .ok (.iload 5, 2) := by decide +kernel
theorem dX2_drawUp_93 : decode cX2_drawUp 93 = .ok (.iconst (-1), 1) := by decide +kernel
theorem dX2_drawUp_94 : decode cX2_drawUp 94 = .ok (.ixor, 1) := by decide +kernel
theorem dX2_drawUp_95 : decode cX2_drawUp 95 = .ok (.iand, 1) := by decide +kernel
theorem dX2_drawUp_96 : decode cX2_drawUp 96 = .ok (.aload_n 1, 1) := by decide +kernel
theorem dX2_drawUp_97 : decode cX2_drawUp 97 = .ok (.invokevirtual 55, 3) := by decide +kernel
theorem dX2_drawUp_100 : decode cX2_drawUp 100 = .ok (.iinc 6 1, 3) := by decide +kernel
theorem dX2_drawUp_103 : decode cX2_drawUp 103 = .ok (.goto (-24), 3) := by decide +kernel
theorem dX2_drawUp_106 : decode cX2_drawUp 106 = .ok (.iinc 5 1, 3) := by decide +kernel
theorem dX2_drawUp_109 : decode cX2_drawUp 109 = .ok (.goto (-63), 3) := by decide +kernel
theorem dX2_drawUp_112 : decode cX2_drawUp 112 = .ok (.return_, 1) := by decide +kernel
theorem dX6_follow_0 : decode cX6_follow 0 = .ok (.iconst 0, 1) := by decide +kernel
theorem dX6_follow_1 : decode cX6_follow 1 = .ok (.istore_n 2, 1) := by decide +kernel
theorem dX6_follow_2 : decode cX6_follow 2 = .ok (.iload_n 2, 1) := by decide +kernel
theorem dX6_follow_3 : decode cX6_follow 3 = .ok (.bipush 64, 2) := by decide +kernel
theorem dX6_follow_5 : decode cX6_follow 5 = .ok (.if_icmp .ge 26, 3) := by decide +kernel
theorem dX6_follow_8 : decode cX6_follow 8 = .ok (.aload_n 0, 1) := by decide +kernel
theorem dX6_follow_9 : decode cX6_follow 9 = .ok (.getfield 60, 3) := by decide +kernel
theorem dX6_follow_12 : decode cX6_follow 12 = .ok (.iload_n 2, 1) := by decide +kernel
theorem dX6_follow_13 : decode cX6_follow 13 = .ok (.aload_n 1, 1) := by decide +kernel
theorem dX6_follow_14 : decode cX6_follow 14 = .ok (.aload_n 0, 1) := by decide +kernel
theorem dX6_follow_15 : decode cX6_follow 15 = .ok (.getfield 49, 3) := by decide +kernel
theorem dX6_follow_18 : decode cX6_follow 18 = .ok (.getfield 331, 3) := by decide +kernel
theorem dX6_follow_21 : decode cX6_follow 21 = .ok (.iload_n 2, 1) := by decide +kernel
theorem dX6_follow_22 : decode cX6_follow 22 = .ok (.iaload, 1) := by decide +kernel
theorem dX6_follow_23 : decode cX6_follow 23 = .ok (.iaload, 1) := by decide +kernel
theorem dX6_follow_24 : decode cX6_follow 24 = .ok (.iastore, 1) := by decide +kernel
theorem dX6_follow_25 : decode cX6_follow 25 = .ok (.iinc 2 1, 3) := by decide +kernel
theorem dX6_follow_28 : decode cX6_follow 28 = .ok (.goto (-26), 3) := by decide +kernel
theorem dX6_follow_31 : decode cX6_follow 31 = .ok (.return_, 1) := by decide +kernel
theorem dX6_firstOfRow_0 : decode cX6_firstOfRow 0 = .ok (.aload_n 0, 1) := by decide +kernel
theorem dX6_firstOfRow_1 : decode cX6_firstOfRow 1 = .ok (.getfield 49, 3) := by decide +kernel
theorem dX6_firstOfRow_4 : decode cX6_firstOfRow 4 = .ok (.aload_n 0, 1) := by decide +kernel
theorem dX6_firstOfRow_5 : decode cX6_firstOfRow 5 = .ok (.getfield 60, 3) := by decide +kernel
theorem dX6_firstOfRow_8 : decode cX6_firstOfRow 8 = .ok (.iload_n 1, 1) := by decide +kernel
theorem dX6_firstOfRow_9 : decode cX6_firstOfRow 9 = .ok (.aload_n 0, 1) := by decide +kernel
theorem dX6_firstOfRow_10 : decode cX6_firstOfRow 10 = .ok (.getfield 10, 3) := by decide +kernel
theorem dX6_firstOfRow_13 : decode cX6_firstOfRow 13 = .ok (.getfield 103, 3) := by decide +kernel
theorem dX6_firstOfRow_16 : decode cX6_firstOfRow 16 = .ok (.invokevirtual 229, 3) := by decide +kernel
theorem dX6_firstOfRow_19 : decode cX6_firstOfRow 19 = .ok (.iload_n 2, 1) := by decide +kernel
theorem dX6_firstOfRow_20 : decode cX6_firstOfRow 20 = .ok (.ifCond .ne 28, 3) := by decide +kernel
theorem dX6_firstOfRow_23 : decode cX6_firstOfRow 23 = .ok (.aload_n 0, 1) := by decide +kernel
theorem dX6_firstOfRow_24 : decode cX6_firstOfRow 24 = .ok (.getfield 60, 3) := by decide +kernel
theorem dX6_firstOfRow_27 : decode cX6_firstOfRow 27 = .ok (.aload_n 0, 1) := by decide +kernel
theorem dX6_firstOfRow_28 : decode cX6_firstOfRow 28 = .ok (.getfield 49, 3) := by decide +kernel
theorem dX6_firstOfRow_31 : decode cX6_firstOfRow 31 = .ok (.getfield 331, 3) := by decide +kernel
theorem dX6_firstOfRow_34 : decode cX6_firstOfRow 34 = .ok (.aload_n 0, 1) := by decide +kernel
theorem dX6_firstOfRow_35 : decode cX6_firstOfRow 35 = .ok (.getfield 10, 3) := by decide +kernel
theorem dX6_firstOfRow_38 : decode cX6_firstOfRow 38 = .ok (.getfield 103, 3) := by decide +kernel
theorem dX6_firstOfRow_41 : decode cX6_firstOfRow 41 = .ok (.iaload, 1) := by decide +kernel
theorem dX6_firstOfRow_42 : decode cX6_firstOfRow 42 = .ok (.iaload, 1) := by decide +kernel
theorem dX6_firstOfRow_43 : decode cX6_firstOfRow 43 = .ok (.sipush 1000, 3) := by decide +kernel
theorem dX6_firstOfRow_46 : decode cX6_firstOfRow 46 = .ok (.iadd, 1) := by decide +kernel
theorem dX6_firstOfRow_47 : decode cX6_firstOfRow 47 = .ok (.ireturn, 1) := by decide +kernel
theorem dX6_firstOfRow_48 : decode cX6_firstOfRow 48 = .ok (.aload_n 0, 1) := by decide +kernel
theorem dX6_firstOfRow_49 : decode cX6_firstOfRow 49 = .ok (.getfield 49, 3) := by decide +kernel
theorem dX6_firstOfRow_52 : decode cX6_firstOfRow 52 = .ok (.getfield 334, 3) := by decide +kernel
theorem dX6_firstOfRow_55 : decode cX6_firstOfRow 55 = .ok (.aload_n 0, 1) := by decide +kernel
theorem dX6_firstOfRow_56 : decode cX6_firstOfRow 56 = .ok (.getfield 10, 3) := by decide +kernel
theorem dX6_firstOfRow_59 : decode cX6_firstOfRow 59 = .ok (.getfield 103, 3) := by decide +kernel
theorem dX6_firstOfRow_62 : decode cX6_firstOfRow 62 = .ok (.iaload, 1) := by decide +kernel
theorem dX6_firstOfRow_63 : decode cX6_firstOfRow 63 = .ok (.istore_n 3, 1) := by decide +kernel
theorem dX6_firstOfRow_64 : decode cX6_firstOfRow 64 = .ok (.iload_n 3, 1) := by decide +kernel
theorem dX6_firstOfRow_65 : decode cX6_firstOfRow 65 = .ok (.ifCond .ge 8, 3) := by decide +kernel
theorem dX6_firstOfRow_68 : decode cX6_firstOfRow 68 = .ok (.bipush (-6), 2) := by decide +kernel
theorem dX6_firstOfRow_70 : decode cX6_firstOfRow 70 = .ok (.goto 8, 3) := by decide +kernel
theorem dX6_firstOfRow_73 : decode cX6_firstOfRow 73 = .ok (.iload_n 3, 1) := by decide +kernel
theorem dX6_firstOfRow_74 : decode cX6_firstOfRow 74 = .ok (.sipush 1000, 3) := by decide +kernel
theorem dX6_firstOfRow_77 : decode cX6_firstOfRow 77 = .ok (.irem, 1) := by decide +kernel
theorem dX6_firstOfRow_78 : decode cX6_firstOfRow 78 = .ok (.ireturn, 1) := by decide +kernel
theorem dX6_row_0 : decode cX6_row 0 = .ok (.iload_n 1, 1) := by decide +kernel
theorem dX6_row_1 : decode cX6_row 1 = .ok (.iconst 1, 1) := by decide +kernel
theorem dX6_row_2 : decode cX6_row 2 = .ok (.if_icmp .lt 22, 3) := by decide +kernel
theorem dX6_row_5 : decode cX6_row 5 = .ok (.iload_n 1, 1) := by decide +kernel
theorem dX6_row_6 : decode cX6_row 6 = .ok (.iconst 3, 1) := by decide +kernel
theorem dX6_row_7 : decode cX6_row 7 = .ok (.if_icmp .gt 17, 3) := by decide +kernel
theorem dX6_row_10 : decode cX6_row 10 = .ok (.iload_n 2, 1) := by decide +kernel
theorem dX6_row_11 : decode cX6_row 11 = .ok (.invokestatic 223, 3) := by decide +kernel
theorem dX6_row_14 : decode cX6_row 14 = .ok (.ifCond .eq 10, 3) := by decide +kernel
theorem dX6_row_17 : decode cX6_row 17 = .ok (.iload_n 3, 1) := by decide +kernel
theorem dX6_row_18 : decode cX6_row 18 = .ok (.invokestatic 158, 3) := by decide +kernel
theorem dX6_row_21 : decode cX6_row 21 = .ok (.ifCond .ne 6, 3) := by decide +kernel
theorem dX6_row_24 : decode cX6_row 24 = .ok (.bipush (-2), 2) := by decide +kernel
theorem dX6_row_26 : decode cX6_row 26 = .ok (.ireturn, 1) := by decide +kernel
theorem dX6_row_27 : decode cX6_row 27 = .ok (.aload_n 0, 1) := by decide +kernel
theorem dX6_row_28 : decode cX6_row 28 = .ok (.getfield 10, 3) := by decide +kernel
theorem dX6_row_31 : decode cX6_row 31 = .ok (.getfield 85, 3) := by decide +kernel
theorem dX6_row_34 : decode cX6_row 34 = .ok (.aload_n 0, 1) := by decide +kernel
theorem dX6_row_35 : decode cX6_row 35 = .ok (.getfield 10, 3) := by decide +kernel
theorem dX6_row_38 : decode cX6_row 38 = .ok (.getfield 94, 3) := by decide +kernel
theorem dX6_row_41 : decode cX6_row 41 = .ok (.bipush 6, 2) := by decide +kernel
theorem dX6_row_43 : decode cX6_row 43 = .ok (.imul, 1) := by decide +kernel
theorem dX6_row_44 : decode cX6_row 44 = .ok (.iconst 1, 1) := by decide +kernel
theorem dX6_row_45 : decode cX6_row 45 = .ok (.aload_n 0, 1) := by decide +kernel
theorem dX6_row_46 : decode cX6_row 46 = .ok (.getfield 60, 3) := by decide +kernel
theorem dX6_row_49 : decode cX6_row 49 = .ok (.invokestatic 165, 3) := by decide +kernel
theorem dX6_row_52 : decode cX6_row 52 = .ok (.iconst 1, 1) := by decide +kernel
theorem dX6_row_53 : decode cX6_row 53 = .ok (.istore 4, 2) := by decide +kernel
theorem dX6_row_55 : decode cX6_row 55 = .ok (.iload 4, 2) := by decide +kernel
theorem dX6_row_57 : decode cX6_row 57 = .ok (.iload_n 1, 1) := by decide +kernel
theorem dX6_row_58 : decode cX6_row 58 = .ok (.if_icmp .ge 46, 3) := by decide +kernel
theorem dX6_row_61 : decode cX6_row 61 = .ok (.aload_n 0, 1) := by decide +kernel
theorem dX6_row_62 : decode cX6_row 62 = .ok (.getfield 49, 3) := by decide +kernel
theorem dX6_row_65 : decode cX6_row 65 = .ok (.aload_n 0, 1) := by decide +kernel
theorem dX6_row_66 : decode cX6_row 66 = .ok (.getfield 60, 3) := by decide +kernel
theorem dX6_row_69 : decode cX6_row 69 = .ok (.iload_n 2, 1) := by decide +kernel
theorem dX6_row_70 : decode cX6_row 70 = .ok (.bipush (-6), 2) := by decide +kernel
theorem dX6_row_72 : decode cX6_row 72 = .ok (.invokevirtual 229, 3) := by decide +kernel
theorem dX6_row_75 : decode cX6_row 75 = .ok (.aload_n 0, 1) := by decide +kernel
theorem dX6_row_76 : decode cX6_row 76 = .ok (.getfield 60, 3) := by decide +kernel
theorem dX6_row_79 : decode cX6_row 79 = .ok (.iconst 0, 1) := by decide +kernel
theorem dX6_row_80 : decode cX6_row 80 = .ok (.aload_n 0, 1) := by decide +kernel
theorem dX6_row_81 : decode cX6_row 81 = .ok (.getfield 64, 3) := by decide +kernel
theorem dX6_row_84 : decode cX6_row 84 = .ok (.iconst 0, 1) := by decide +kernel
theorem dX6_row_85 : decode cX6_row 85 = .ok (.bipush 64, 2) := by decide +kernel
theorem dX6_row_87 : decode cX6_row 87 = .ok (.invokestatic 233, 3) := by decide +kernel
theorem dX6_row_90 : decode cX6_row 90 = .ok (.aload_n 0, 1) := by decide +kernel
theorem dX6_row_91 : decode cX6_row 91 = .ok (.aload_n 0, 1) := by decide +kernel
theorem dX6_row_92 : decode cX6_row 92 = .ok (.getfield 64, 3) := by decide +kernel
theorem dX6_row_95 : decode cX6_row 95 = .ok (.invokevirtual 239, 3) := by decide +kernel
theorem dX6_row_98 : decode cX6_row 98 = .ok (.iinc 4 1, 3) := by decide +kernel
theorem dX6_row_101 : decode cX6_row 101 = .ok (.goto (-46), 3) := by decide +kernel
theorem dX6_row_104 : decode cX6_row 104 = .ok (.aload_n 0, 1) := by decide +kernel
theorem dX6_row_105 : decode cX6_row 105 = .ok (.iload_n 2, 1) := by decide +kernel
theorem dX6_row_106 : decode cX6_row 106 = .ok (.iload_n 3, 1) := by decide +kernel
theorem dX6_row_107 : decode cX6_row 107 = .ok (.invokevirtual 243, 3) := by decide +kernel
theorem dX6_row_110 : decode cX6_row 110 = .ok (.ireturn, 1) := by decide +kernel
theorem dX6_lamps_0 : decode cX6_lamps 0 = .ok (.iload_n 1, 1) := by decide +kernel
theorem dX6_lamps_1 : decode cX6_lamps 1 = .ok (.invokestatic 78, 3) := by decide +kernel
theorem dX6_lamps_4 : decode cX6_lamps 4 = .ok (.ifCond .eq 14, 3) := by decide +kernel
theorem dX6_lamps_7 : decode cX6_lamps 7 = .ok (.iload_n 1, 1) := by decide +kernel
theorem dX6_lamps_8 : decode cX6_lamps 8 = .ok (.aload_n 0, 1) := by decide +kernel
theorem dX6_lamps_9 : decode cX6_lamps 9 = .ok (.getfield 10, 3) := by decide +kernel
theorem dX6_lamps_12 : decode cX6_lamps 12 = .ok (.getfield 94, 3) := by decide +kernel
theorem dX6_lamps_15 : decode cX6_lamps 15 = .ok (.if_icmp .ne 5, 3) := by decide +kernel
theorem dX6_lamps_18 : decode cX6_lamps 18 = .ok (.iconst (-1), 1) := by decide +kernel
theorem dX6_lamps_19 : decode cX6_lamps 19 = .ok (.ireturn, 1) := by decide +kernel
theorem dX6_lamps_20 : decode cX6_lamps 20 = .ok (.iload_n 2, 1) := by decide +kernel
theorem dX6_lamps_21 : decode cX6_lamps 21 = .ok (.invokestatic 223, 3) := by decide +kernel
theorem dX6_lamps_24 : decode cX6_lamps 24 = .ok (.ifCond .eq 10, 3) := by decide +kernel
theorem dX6_lamps_27 : decode cX6_lamps 27 = .ok (.iload_n 3, 1) := by decide +kernel
theorem dX6_lamps_28 : decode cX6_lamps 28 = .ok (.invokestatic 158, 3) := by decide +kernel
theorem dX6_lamps_31 : decode cX6_lamps 31 = .ok (.ifCond .ne 6, 3) := by decide +kernel
theorem dX6_lamps_34 : decode cX6_lamps 34 = .ok (.bipush (-2), 2) := by decide +kernel
theorem dX6_lamps_36 : decode cX6_lamps 36 = .ok (.ireturn, 1) := by decide +kernel
theorem dX6_lamps_37 : decode cX6_lamps 37 = .ok (.aload_n 0, 1) := by decide +kernel
theorem dX6_lamps_38 : decode cX6_lamps 38 = .ok (.getfield 10, 3) := by decide +kernel
theorem dX6_lamps_41 : decode cX6_lamps 41 = .ok (.getfield 85, 3) := by decide +kernel
theorem dX6_lamps_44 : decode cX6_lamps 44 = .ok (.iload_n 1, 1) := by decide +kernel
theorem dX6_lamps_45 : decode cX6_lamps 45 = .ok (.bipush 6, 2) := by decide +kernel
theorem dX6_lamps_47 : decode cX6_lamps 47 = .ok (.imul, 1) := by decide +kernel
theorem dX6_lamps_48 : decode cX6_lamps 48 = .ok (.iconst 1, 1) := by decide +kernel
theorem dX6_lamps_49 : decode cX6_lamps 49 = .ok (.aload_n 0, 1) := by decide +kernel
theorem dX6_lamps_50 : decode cX6_lamps 50 = .ok (.getfield 60, 3) := by decide +kernel
theorem dX6_lamps_53 : decode cX6_lamps 53 = .ok (.invokestatic 165, 3) := by decide +kernel
theorem dX6_lamps_56 : decode cX6_lamps 56 = .ok (.aload_n 0, 1) := by decide +kernel
theorem dX6_lamps_57 : decode cX6_lamps 57 = .ok (.getfield 49, 3) := by decide +kernel
theorem dX6_lamps_60 : decode cX6_lamps 60 = .ok (.aload_n 0, 1) := by decide +kernel
theorem dX6_lamps_61 : decode cX6_lamps 61 = .ok (.getfield 60, 3) := by decide +kernel
theorem dX6_lamps_64 : decode cX6_lamps 64 = .ok (.iload_n 2, 1) := by decide +kernel
theorem dX6_lamps_65 : decode cX6_lamps 65 = .ok (.bipush (-6), 2) := by decide +kernel
theorem dX6_lamps_67 : decode cX6_lamps 67 = .ok (.invokevirtual 229, 3) := by decide +kernel
theorem dX6_lamps_70 : decode cX6_lamps 70 = .ok (.aload_n 0, 1) := by decide +kernel
theorem dX6_lamps_71 : decode cX6_lamps 71 = .ok (.getfield 10, 3) := by decide +kernel
theorem dX6_lamps_74 : decode cX6_lamps 74 = .ok (.getfield 85, 3) := by decide +kernel
theorem dX6_lamps_77 : decode cX6_lamps 77 = .ok (.aload_n 0, 1) := by decide +kernel
theorem dX6_lamps_78 : decode cX6_lamps 78 = .ok (.getfield 10, 3) := by decide +kernel
theorem dX6_lamps_81 : decode cX6_lamps 81 = .ok (.getfield 94, 3) := by decide +kernel
theorem dX6_lamps_84 : decode cX6_lamps 84 = .ok (.bipush 6, 2) := by decide +kernel
theorem dX6_lamps_86 : decode cX6_lamps 86 = .ok (.imul, 1) := by decide +kernel
theorem dX6_lamps_87 : decode cX6_lamps 87 = .ok (.iconst 1, 1) := by decide +kernel
theorem dX6_lamps_88 : decode cX6_lamps 88 = .ok (.aload_n 0, 1) := by decide +kernel
theorem dX6_lamps_89 : decode cX6_lamps 89 = .ok (.getfield 64, 3) := by decide +kernel
theorem dX6_lamps_92 : decode cX6_lamps 92 = .ok (.invokestatic 165, 3) := by decide +kernel
theorem dX6_lamps_95 : decode cX6_lamps 95 = .ok (.aload_n 0, 1) := by decide +kernel
theorem dX6_lamps_96 : decode cX6_lamps 96 = .ok (.aload_n 0, 1) := by decide +kernel
theorem dX6_lamps_97 : decode cX6_lamps 97 = .ok (.getfield 64, 3) := by decide +kernel
theorem dX6_lamps_100 : decode cX6_lamps 100 = .ok (.invokevirtual 239, 3) := by decide +kernel
theorem dX6_lamps_103 : decode cX6_lamps 103 = .ok (.aload_n 0, 1) := by decide +kernel
theorem dX6_lamps_104 : decode cX6_lamps 104 = .ok (.iload_n 2, 1) := by decide +kernel
theorem dX6_lamps_105 : decode cX6_lamps 105 = .ok (.iload_n 3, 1) := by decide +kernel
theorem dX6_lamps_106 : decode cX6_lamps 106 = .ok (.invokevirtual 243, 3) := by decide +kernel
theorem dX6_lamps_109 : decode cX6_lamps 109 = .ok (.ireturn, 1) := by decide +kernel
theorem so_sd {t num : Nat} : soN t num &&& sdN t num = soN t num := by
  apply Nat.eq_of_testBit_eq
  intro i
  unfold soN sdN
  rw [Nat.testBit_and, Nat.testBit_or]
  cases (tmask 1 t num t).testBit i <;> rfl
theorem nm_iff {t sd so num : Nat} (h6 : t ≤ 6) (hsd : sd < 2 ^ t) (hso : so < 2 ^ t) (hs : so &&& sd = so) (hn : num < 3 ^ t) : (sdN t num = sd ∧ soN t num = so) ↔ num = nmO t sd so := by
  obtain ⟨a1, a2, a3, -⟩ := nmO_A h6 hsd hso hs
  constructor
  · rintro ⟨rfl, rfl⟩
    exact (nmO_B t (by omega) num hn).symm
  · rintro rfl
    exact ⟨a3, a2⟩
theorem aimR {t sd aim r num : Nat} (h6 : t ≤ 6) (hsd : sd < 2 ^ t) (haim : aim < 2 ^ t) (hr : r < 2 ^ t) (hr0 : r &&& sd = 0) (hn : num < 3 ^ t) : (sdN t num = sd ∧ (soN t num ||| r) < aim + 1) ↔ ((sdN t num = sd ∧ (soN t num ||| r) < aim) ∨ (r = aim &&& (63 ^^^ sd) ∧ num = nmO t sd (aim &&& sd))) := by
  have h64 := p2_le h6
  obtain ⟨b1, b2, b3, b4⟩ := bz_D sd (by omega) aim (by omega)
  have hso : aim &&& sd < 2 ^ t := Nat.lt_of_le_of_lt Nat.and_le_left haim
  rw [← nm_iff h6 hsd hso b2 hn]
  have hl := soN_lt (t := t) (num := num)
  constructor
  · rintro ⟨rfl, h2⟩
    by_cases c : (soN t num ||| r) < aim
    · exact Or.inl ⟨rfl, c⟩
    · have e : soN t num ||| r = aim := by omega
      obtain ⟨c1, c2⟩ := bz_E (sdN t num) (by omega) (soN t num) (by omega) so_sd r (by omega) hr0
      rw [e] at c1 c2
      exact Or.inr ⟨c2.symm, rfl, c1.symm⟩
  · rintro (⟨h1, h2⟩ | ⟨h1, h2, h3⟩)
    · exact ⟨h1, by omega⟩
    · refine ⟨h2, ?_⟩
      rw [h3, h1, Nat.or_comm, b4]
      omega
def actP (only : Int32) (sd r : Nat) : Prop := only < 0 ∨ ∃ a, a < 64 ∧ only = nI a ∧ r = a &&& (63 ^^^ sd)
def actA (only : Int32) (a : Nat) : Prop := only < 0 ∨ only = nI a
theorem actAP {only : Int32} {a sd : Nat} (ha : a < 64) (h : actA only a) : actP only sd (a &&& (63 ^^^ sd)) := by
  rcases h with h | h
  · exact Or.inl h
  · exact Or.inr ⟨a, ha, h, rfl⟩
def dsP (I S : Nat → Nat → Int32) (J T : Nat → Nat → Int64) (t sl sd : Nat) (only : Int32) (I' S' : Nat → Nat → Int32) (J' T' : Nat → Nat → Int64) : Prop := J' = J ∧ T' = T ∧ (∀ p, p ≠ 28 → I' p = I p) ∧ PW I' ∧ (∀ p, p ≠ 27 → S' p = S p) ∧ ∀ r, r < 2 ^ t → r &&& sd = 0 → actP only sd r → ∃ x, x < 64 ∧ I' 28 r = nI x ∧ Bq J t sl (S 31) (fun num => sdN t num = sd) r (S' 27 r) x
def duP (I S : Nat → Nat → Int32) (J T : Nat → Nat → Int64) (t sl m : Nat) (only : Int32) (I' S' : Nat → Nat → Int32) (J' T' : Nat → Nat → Int64) : Prop := J' = J ∧ T' = T ∧ (∀ p, p ≠ 28 → I' p = I p) ∧ PW I' ∧ (∀ p, p ≠ 24 → p ≠ 25 → p ≠ 26 → p ≠ 27 → p ≠ 29 → S' p = S p) ∧ (∀ w, w < 64 → ∃ x, x < 64 ∧ S' 26 w = nI x ∧ (2 ^ t ≤ w → x = w)) ∧ ∀ a, a < 2 ^ t → actA only a → S' 25 a = rkO t (bsP J t sl (nI m) (S 31) a) ∧ toF J t sl (nI m) (S 31) a < 64 ∧ S' 26 a = nI (toF J t sl (nI m) (S 31) a) ∧ S 31 (toF J t sl (nI m) (S 31) a) = bsV J t sl (nI m) (S 31) a
theorem cpy64 {I S : Nat → Nat → Int32} {x : Nat} (hx : x < 64) : setI S 32 (va_cpy (ov I S 31) (ov I S 32) (0 : Int32).toNatClampNeg (0 : Int32).toNatClampNeg (64 : Int32).toNatClampNeg) 32 x = S 31 x := by
  show va_cpy (ov I S 31) (ov I S 32) 0 0 64 x = S 31 x
  rw [pk_cpy_in (Nat.zero_le _) (by omega)]
  rw [Nat.sub_zero, Nat.zero_add]
  rfl
theorem fl_wt {I : Nat → Nat → Int32} {J : Nat → Nat → Int64} {t sl wy wi he c : Nat} (hk : KI I J t sl wy wi he) (hc : c < 4) : (∀ w, (1 : Int32) * wsum (fun k => I 2 (6 * c + k)) 6 w < 1000000) ∧ (∀ w, w < 2 ^ t → (1 : Int32) * wsum (fun k => I 2 (6 * c + k)) 6 w = wtF I t c w) := by
  refine ⟨fun w => ?_, fun w hw => by rw [Int32.one_mul]; exact wtK hk hc hw⟩
  rw [Int32.one_mul]
  have := wsum_b (f := fun k => I 2 (6 * c + k)) (w := w) 6 (Nat.le_refl _) (fun i hi => by
    have := hk.2.2.2.1 (6 * c + i) (by omega)
    show wb9 (I 2 (6 * c + i))
    rw [this.1]; exact this.2)
  have e : (1000000 : Int32).toInt = 1000000 := rfl
  rw [i_lt, e]
  omega
theorem toF_congr {J : Nat → Nat → Int64} {t sl a : Nat} {most : Int32} {f g : Nat → Int32} (h : ∀ w, w < 2 ^ t → f w = g w) : toF J t sl most f a = toF J t sl most g a := by
  unfold toF
  rw [bsP_congr h]
  cases bsP J t sl most g a with
  | none => rfl
  | some p => show (upto (fiF J t sl a p.1 p.2 f) (2 ^ t) none).getD 0 = _; rw [fiF_congr h]
theorem toF_lt {J : Nat → Nat → Int64} {t sl a : Nat} {most : Int32} {f : Nat → Int32} (ha : a < 2 ^ t) : toF J t sl most f a < 2 ^ t := by
  unfold toF
  cases bsP J t sl most f a with
  | none => exact ha
  | some p =>
    show (upto (fiF J t sl a p.1 p.2 f) (2 ^ t) none).getD 0 < 2 ^ t
    cases ho : upto (fiF J t sl a p.1 p.2 f) (2 ^ t) none with
    | none => exact Nat.pow_pos (by decide)
    | some v => exact fiF_lt _ _ ho
theorem wtF_28 {I I' : Nat → Nat → Int32} {t c : Nat} (e : ∀ p, p ≠ 28 → I' p = I p) : wtF I' t c = wtF I t c := by
  funext w
  unfold wtF
  rw [e 34 (by decide)]
section CLS15
variable {xl : Nat} {xs : Nat → Int32} {n : Nat} {h : Nat → PC} {I S : Nat → Nat → Int32} {J T : Nat → Nat → Int64} {X : Nat → Option Nat} {t sl wy wi he : Nat}
theorem k_drawUpSaying {sd c : Nat} {only : Int32} (hn : 49 ≤ n) (hk : KI I J t sl wy wi he) (ht : TOK I J t) (hpw : PW I) (hsd : sd < 2 ^ t) (hst : STq S t sl sd (2 ^ t) c) (ho : only < 0 ∨ ∃ a, a < 2 ^ t ∧ only = nI a) : RnX xl xs 2 42 mX2_drawUpSaying [.ref 24, .int (nI sd), .ref 31, .int only] n I S J T X none (dsP I S J T t sl sd only) := by
  intro Q hQ
  have h6 := hk.1.2.2.1
  have h64 := p2_le h6
  show Ev xl xs 2 42 0 0 mX2_drawUpSaying 0 [some (.ref 24), some (.int (nI sd)), some (.ref 31), some (.int only), none, none, none, none, none] [] n (sysH (ov I S) (ovJ J T) X) Q
  have lp2 : ∀ j aim, aim + j = 2 ^ t → ∀ I2 S2, (∀ p, p ≠ 28 → I2 p = I p) → PW I2 → (∀ p, p ≠ 27 → S2 p = S p) → (∀ r, r < 2 ^ t → r &&& sd = 0 → actP only sd r → ∃ x, x < 64 ∧ I2 28 r = nI x ∧ Bq J t sl (S 31) (fun num => sdN t num = sd ∧ (soN t num ||| r) < aim) r (S2 27 r) x) → ∀ a6 a7 a8, Ev xl xs 2 42 0 0 mX2_drawUpSaying 37 [some (.ref 24), some (.int (nI sd)), some (.ref 31), some (.int only), some (.int (nI (2 ^ t))), some (.int (nI aim)), a6, a7, a8] [] n (sysH (ov I2 S2) (ovJ J T) X) Q := by
    intro j
    induction j using Nat.strongRecOn with
    | _ j ih =>
      intro aim haj I2 S2 hI hP hS hB a6 a7 a8
      have e : ∀ h1, _ := fun (h1 : j - 1 < j) => ih (j - 1) h1 (aim + 1)
      by_cases haN : 2 ^ t ≤ aim
      · have haN : aim = 2 ^ t := by omega
        refine ev_iload (q := 39) dX2_drawUpSaying_37 rfl rfl ?_
        refine ev_iload (q := 41) dX2_drawUpSaying_39 rfl rfl ?_
        refine ev_icmp_ge (q := 44) 151 dX2_drawUpSaying_41 (by decide) rfl (fun c_41 => ?_) (fun c_41 => ?_)
        · exact ev_retE dX2_drawUpSaying_151 rfl rfl rfl (hQ _ _ _ _ ⟨rfl, rfl, hI, hP, hS, fun r h1 h2 h3 => by
            obtain ⟨x, g1, g2, g3⟩ := hB r h1 h2 h3
            exact ⟨x, g1, g2, Bq_congr (fun num hnum => ⟨fun g => ⟨g, by rw [haN]; exact Nat.or_lt_two_pow soN_lt h1⟩, fun g => g.1⟩) g3⟩⟩)
        · exact absurd ((nI_leI (by omega) (by omega)).mpr (by omega)) c_41
      · have e := e (by omega) (by omega)
        have haim : aim < 2 ^ t := by omega
        obtain ⟨b1, b2, b3, b4⟩ := bz_D sd (by omega) aim (by omega)
        have hso : aim &&& sd < 2 ^ t := Nat.lt_of_le_of_lt Nat.and_le_left haim
        have hro : aim &&& (63 ^^^ sd) < 2 ^ t := Nat.lt_of_le_of_lt Nat.and_le_left haim
        obtain ⟨n1, n2, n3, -⟩ := nmO_A h6 hsd hso b2
        have hk2 := KI_mono hk hI
        have ht2 := TOK_mono ht hI
        have hst2 : STq S2 t sl sd (2 ^ t) c := by unfold STq at *; rw [hS 24 (by decide), hS 29 (by decide)]; exact hst
        have hoth : ∀ r, r < 2 ^ t → r &&& sd = 0 → actP only sd r → r ≠ aim &&& (63 ^^^ sd) → ∃ x, x < 64 ∧ I2 28 r = nI x ∧ Bq J t sl (S 31) (fun num => sdN t num = sd ∧ (soN t num ||| r) < aim + 1) r (S2 27 r) x := by
          intro r h1 h2 h3 h4
          obtain ⟨x, g1, g2, g3⟩ := hB r h1 h2 h3
          exact ⟨x, g1, g2, Bq_congr (fun num hnum => (aimR h6 hsd haim h1 h2 hnum).trans ⟨fun g => g.elim id (fun g => absurd g.1 h4), Or.inl⟩) g3⟩
        have J76 : ¬ actP only sd (aim &&& (63 ^^^ sd)) → ∀ a7, Ev xl xs 2 42 0 0 mX2_drawUpSaying 76 [some (.ref 24), some (.int (nI sd)), some (.ref 31), some (.int only), some (.int (nI (2 ^ t))), some (.int (nI aim)), some (.int (nI (aim &&& (63 ^^^ sd)))), a7, a8] [] n (sysH (ov I2 S2) (ovJ J T) X) Q := by
          intro hna a7
          refine ev_bipush (q := 78) (-3) dX2_drawUpSaying_76 (by decide) rfl ?_
          refine ev_ist_7 (q := 80) dX2_drawUpSaying_78 rfl rfl ?_
          refine ev_iload (q := 82) dX2_drawUpSaying_80 rfl rfl ?_
          refine ev_if_lt (q := 85) 145 dX2_drawUpSaying_82 (by decide) rfl (fun c_82 => ?_) (fun c_82 => ?_)
          · refine ev_inc_5 (q := 148) (nI (aim + 1)) dX2_drawUpSaying_145 (nI_1 aim) rfl rfl ?_
            refine ev_goto 37 dX2_drawUpSaying_148 (by decide) ?_
            exact e I2 S2 hI hP hS (fun r h1 h2 h3 => hoth r h1 h2 h3 (fun g => hna (g ▸ h3))) _ _ _
          · exact absurd (show (-3 : Int32) < 0 by decide) c_82
        have J66 : actP only sd (aim &&& (63 ^^^ sd)) → ∀ a7, Ev xl xs 2 42 0 0 mX2_drawUpSaying 66 [some (.ref 24), some (.int (nI sd)), some (.ref 31), some (.int only), some (.int (nI (2 ^ t))), some (.int (nI aim)), some (.int (nI (aim &&& (63 ^^^ sd)))), a7, a8] [] n (sysH (ov I2 S2) (ovJ J T) X) Q := by
          intro hact a7
          have hwz : lsO (S2 31) (wZ J t sl sd aim) = tN J t sl (S 31) (nmO t sd (aim &&& sd)) (aim &&& (63 ^^^ sd)) := by
            unfold tN
            rw [← wZ_eq h6 (show aim &&& (63 ^^^ sd) < 64 by omega), n2, n3, b1, hS 31 (by decide)]
          obtain ⟨x, g1, g2, g3⟩ := hB _ hro b3 hact
          have hR : ∀ num, num < 3 ^ t → ((sdN t num = sd ∧ (soN t num ||| (aim &&& (63 ^^^ sd))) < aim + 1) ↔ ((sdN t num = sd ∧ (soN t num ||| (aim &&& (63 ^^^ sd))) < aim) ∨ num = nmO t sd (aim &&& sd))) := fun num hnum => (aimR h6 hsd haim hro b3 hnum).trans ⟨fun g => g.elim Or.inl (fun g => Or.inr g.2), fun g => g.elim Or.inl (fun g => Or.inr ⟨rfl, g⟩)⟩
          cases htn : tN J t sl (S 31) (nmO t sd (aim &&& sd)) (aim &&& (63 ^^^ sd)) with
          | none =>
            have hkeep := Bq_keep h6 hR g3 (Bq_void (y := 0) htn) (Or.inl n6_lt)
            refine ev_aload_n (q := 67) dX2_drawUpSaying_66 rfl rfl ?_
            refine ev_iload (q := 69) dX2_drawUpSaying_67 rfl rfl ?_
            refine ev_aload_n (q := 70) dX2_drawUpSaying_69 rfl rfl ?_
            refine ev_callV2i (q := 73) dX2_drawUpSaying_70 ca_X2_66 (k_worstNear hn hk2 haim hst2) rfl (lt_n hn (by decide)) rfl rfl (Nat.le_of_ble_eq_true rfl) (Nat.le_of_ble_eq_true rfl) (by decide) (by decide) rfl ?_
            rw [hwz, htn]
            refine ev_goto 78 dX2_drawUpSaying_73 (by decide) ?_
            refine ev_ist_7 (q := 80) dX2_drawUpSaying_78 rfl rfl ?_
            refine ev_iload (q := 82) dX2_drawUpSaying_80 rfl rfl ?_
            refine ev_if_lt (q := 85) 145 dX2_drawUpSaying_82 (by decide) rfl (fun c_82 => ?_) (fun c_82 => ?_)
            · refine ev_inc_5 (q := 148) (nI (aim + 1)) dX2_drawUpSaying_145 (nI_1 aim) rfl rfl ?_
              refine ev_goto 37 dX2_drawUpSaying_148 (by decide) ?_
              exact e I2 S2 hI hP hS (fun r h1 h2 h3 => by by_cases g : r = aim &&& (63 ^^^ sd); (subst g; exact ⟨x, g1, g2, hkeep⟩); exact hoth r h1 h2 h3 g) _ _ _
            · exact absurd (show (-3 : Int32) < 0 by decide) c_82
          | some y =>
            have hy : y < 2 ^ t := (tN_char h64 htn).1
            cases hb : isB (S 31 y) (nI (rkN t (nmO t sd (aim &&& sd)))) (S 31 x) (S2 27 (aim &&& (63 ^^^ sd))) with
            | false =>
              have hkeep := Bq_keep h6 hR g3 (Bq_one n1 htn) (Or.inr hb)
              refine ev_aload_n (q := 67) dX2_drawUpSaying_66 rfl rfl ?_
              refine ev_iload (q := 69) dX2_drawUpSaying_67 rfl rfl ?_
              refine ev_aload_n (q := 70) dX2_drawUpSaying_69 rfl rfl ?_
              refine ev_callV2i (q := 73) dX2_drawUpSaying_70 ca_X2_66 (k_worstNear hn hk2 haim hst2) rfl (lt_n hn (by decide)) rfl rfl (Nat.le_of_ble_eq_true rfl) (Nat.le_of_ble_eq_true rfl) (by decide) (by decide) rfl ?_
              rw [hwz, htn]
              refine ev_goto 78 dX2_drawUpSaying_73 (by decide) ?_
              refine ev_ist_7 (q := 80) dX2_drawUpSaying_78 rfl rfl ?_
              refine ev_iload (q := 82) dX2_drawUpSaying_80 rfl rfl ?_
              refine ev_if_lt (q := 85) 145 dX2_drawUpSaying_82 (by decide) rfl (fun c_82 => ?_) (fun c_82 => ?_)
              · exact absurd c_82 (nI_pos (n := y) (by omega))
              · refine ev_aload_n (q := 86) dX2_drawUpSaying_85 rfl rfl ?_
                refine ev_get (q := 89) dX2_drawUpSaying_86 fr_X2_31 rfl (lt_n hn (by decide)) rfl rfl ?_
                refine ev_iload_n (q := 90) dX2_drawUpSaying_89 rfl rfl ?_
                refine ev_iload (q := 92) dX2_drawUpSaying_90 rfl rfl ?_
                refine ev_iload_n (q := 93) dX2_drawUpSaying_92 rfl rfl ?_
                refine ev_iand (q := 94) dX2_drawUpSaying_93 rfl ?_
                rw [nI_and]
                refine ev_callV2i (q := 97) dX2_drawUpSaying_94 ca_X2_70 (k_X5_rankFor hn h6 ht2 hsd hso b2) rfl (lt_n hn (by decide)) rfl rfl (Nat.le_of_ble_eq_true rfl) (Nat.le_of_ble_eq_true rfl) (by decide) (by decide) rfl ?_
                refine ev_ist_8 (q := 99) dX2_drawUpSaying_97 rfl rfl ?_
                refine ev_aload_n (q := 100) dX2_drawUpSaying_99 rfl rfl ?_
                refine ev_iload (q := 102) dX2_drawUpSaying_100 rfl rfl ?_
                refine ev_iaS (q := 103) y dX2_drawUpSaying_102 rfl rfl (by omega) (lt_n hn (by decide)) rfl ?_
                refine ev_iload (q := 105) dX2_drawUpSaying_103 rfl rfl ?_
                refine ev_aload_n (q := 106) dX2_drawUpSaying_105 rfl rfl ?_
                refine ev_aload_n (q := 107) dX2_drawUpSaying_106 rfl rfl ?_
                refine ev_get (q := 110) dX2_drawUpSaying_107 fr_X2_21 rfl (lt_n hn (by decide)) rfl rfl ?_
                refine ev_iload (q := 112) dX2_drawUpSaying_110 rfl rfl ?_
                refine ev_iaS (q := 113) (aim &&& (63 ^^^ sd)) dX2_drawUpSaying_112 rfl rfl (by omega) (lt_n hn (by decide)) rfl ?_
                rw [show ov I2 S2 28 (aim &&& (63 ^^^ sd)) = nI x from g2]
                refine ev_iaS (q := 114) x dX2_drawUpSaying_113 rfl rfl (by omega) (lt_n hn (by decide)) rfl ?_
                refine ev_aload_n (q := 115) dX2_drawUpSaying_114 rfl rfl ?_
                refine ev_get (q := 118) dX2_drawUpSaying_115 fr_X2_18 rfl (lt_n hn (by decide)) rfl rfl ?_
                refine ev_iload (q := 120) dX2_drawUpSaying_118 rfl rfl ?_
                refine ev_iaS (q := 121) (aim &&& (63 ^^^ sd)) dX2_drawUpSaying_120 rfl rfl (by omega) (lt_n hn (by decide)) rfl ?_
                refine ev_callS4i (q := 124) dX2_drawUpSaying_121 ca_X2_76 (c_isBetter _ _ _ _) (Nat.le_of_ble_eq_true rfl) (Nat.le_of_ble_eq_true rfl) (by decide) (by decide) rfl ?_
                rw [show isB (ov I2 S2 31 y) (nI (rkN t (nmO t sd (aim &&& sd)))) (ov I2 S2 31 x) (ov I2 S2 27 (aim &&& (63 ^^^ sd))) = false from (by show isB (S2 31 y) _ (S2 31 x) _ = false; rw [hS 31 (by decide)]; exact hb)]
                refine ev_if_eq (q := 127) 145 dX2_drawUpSaying_124 (by decide) rfl (fun c_124 => ?_) (fun c_124 => ?_)
                · refine ev_inc_5 (q := 148) (nI (aim + 1)) dX2_drawUpSaying_145 (nI_1 aim) rfl rfl ?_
                  refine ev_goto 37 dX2_drawUpSaying_148 (by decide) ?_
                  exact e I2 S2 hI hP hS (fun r h1 h2 h3 => by by_cases g : r = aim &&& (63 ^^^ sd); (subst g; exact ⟨x, g1, g2, hkeep⟩); exact hoth r h1 h2 h3 g) _ _ _
                · exact absurd rfl c_124
            | true =>
              have htake := Bq_take h6 hR g3 (Bq_one n1 htn) (nI_pos (rkN_b h6 n1)) hb
              refine ev_aload_n (q := 67) dX2_drawUpSaying_66 rfl rfl ?_
              refine ev_iload (q := 69) dX2_drawUpSaying_67 rfl rfl ?_
              refine ev_aload_n (q := 70) dX2_drawUpSaying_69 rfl rfl ?_
              refine ev_callV2i (q := 73) dX2_drawUpSaying_70 ca_X2_66 (k_worstNear hn hk2 haim hst2) rfl (lt_n hn (by decide)) rfl rfl (Nat.le_of_ble_eq_true rfl) (Nat.le_of_ble_eq_true rfl) (by decide) (by decide) rfl ?_
              rw [hwz, htn]
              refine ev_goto 78 dX2_drawUpSaying_73 (by decide) ?_
              refine ev_ist_7 (q := 80) dX2_drawUpSaying_78 rfl rfl ?_
              refine ev_iload (q := 82) dX2_drawUpSaying_80 rfl rfl ?_
              refine ev_if_lt (q := 85) 145 dX2_drawUpSaying_82 (by decide) rfl (fun c_82 => ?_) (fun c_82 => ?_)
              · exact absurd c_82 (nI_pos (n := y) (by omega))
              · refine ev_aload_n (q := 86) dX2_drawUpSaying_85 rfl rfl ?_
                refine ev_get (q := 89) dX2_drawUpSaying_86 fr_X2_31 rfl (lt_n hn (by decide)) rfl rfl ?_
                refine ev_iload_n (q := 90) dX2_drawUpSaying_89 rfl rfl ?_
                refine ev_iload (q := 92) dX2_drawUpSaying_90 rfl rfl ?_
                refine ev_iload_n (q := 93) dX2_drawUpSaying_92 rfl rfl ?_
                refine ev_iand (q := 94) dX2_drawUpSaying_93 rfl ?_
                rw [nI_and]
                refine ev_callV2i (q := 97) dX2_drawUpSaying_94 ca_X2_70 (k_X5_rankFor hn h6 ht2 hsd hso b2) rfl (lt_n hn (by decide)) rfl rfl (Nat.le_of_ble_eq_true rfl) (Nat.le_of_ble_eq_true rfl) (by decide) (by decide) rfl ?_
                refine ev_ist_8 (q := 99) dX2_drawUpSaying_97 rfl rfl ?_
                refine ev_aload_n (q := 100) dX2_drawUpSaying_99 rfl rfl ?_
                refine ev_iload (q := 102) dX2_drawUpSaying_100 rfl rfl ?_
                refine ev_iaS (q := 103) y dX2_drawUpSaying_102 rfl rfl (by omega) (lt_n hn (by decide)) rfl ?_
                refine ev_iload (q := 105) dX2_drawUpSaying_103 rfl rfl ?_
                refine ev_aload_n (q := 106) dX2_drawUpSaying_105 rfl rfl ?_
                refine ev_aload_n (q := 107) dX2_drawUpSaying_106 rfl rfl ?_
                refine ev_get (q := 110) dX2_drawUpSaying_107 fr_X2_21 rfl (lt_n hn (by decide)) rfl rfl ?_
                refine ev_iload (q := 112) dX2_drawUpSaying_110 rfl rfl ?_
                refine ev_iaS (q := 113) (aim &&& (63 ^^^ sd)) dX2_drawUpSaying_112 rfl rfl (by omega) (lt_n hn (by decide)) rfl ?_
                rw [show ov I2 S2 28 (aim &&& (63 ^^^ sd)) = nI x from g2]
                refine ev_iaS (q := 114) x dX2_drawUpSaying_113 rfl rfl (by omega) (lt_n hn (by decide)) rfl ?_
                refine ev_aload_n (q := 115) dX2_drawUpSaying_114 rfl rfl ?_
                refine ev_get (q := 118) dX2_drawUpSaying_115 fr_X2_18 rfl (lt_n hn (by decide)) rfl rfl ?_
                refine ev_iload (q := 120) dX2_drawUpSaying_118 rfl rfl ?_
                refine ev_iaS (q := 121) (aim &&& (63 ^^^ sd)) dX2_drawUpSaying_120 rfl rfl (by omega) (lt_n hn (by decide)) rfl ?_
                refine ev_callS4i (q := 124) dX2_drawUpSaying_121 ca_X2_76 (c_isBetter _ _ _ _) (Nat.le_of_ble_eq_true rfl) (Nat.le_of_ble_eq_true rfl) (by decide) (by decide) rfl ?_
                rw [show isB (ov I2 S2 31 y) (nI (rkN t (nmO t sd (aim &&& sd)))) (ov I2 S2 31 x) (ov I2 S2 27 (aim &&& (63 ^^^ sd))) = true from (by show isB (S2 31 y) _ (S2 31 x) _ = true; rw [hS 31 (by decide)]; exact hb)]
                refine ev_if_eq (q := 127) 145 dX2_drawUpSaying_124 (by decide) rfl (fun c_124 => ?_) (fun c_124 => ?_)
                · exact absurd c_124 (by decide)
                · refine ev_aload_n (q := 128) dX2_drawUpSaying_127 rfl rfl ?_
                  refine ev_get (q := 131) dX2_drawUpSaying_128 fr_X2_18 rfl (lt_n hn (by decide)) rfl rfl ?_
                  refine ev_iload (q := 133) dX2_drawUpSaying_131 rfl rfl ?_
                  refine ev_iload (q := 135) dX2_drawUpSaying_133 rfl rfl ?_
                  first | refine ev_isK (q := 136) (aim &&& (63 ^^^ sd)) dX2_drawUpSaying_135 rfl rfl (by omega) (lt_n hn (by decide)) rfl rfl ?_ | refine ev_isR (q := 136) (aim &&& (63 ^^^ sd)) dX2_drawUpSaying_135 rfl rfl (by omega) (lt_n hn (by decide)) rfl rfl ?_
                  refine ev_aload_n (q := 137) dX2_drawUpSaying_136 rfl rfl ?_
                  refine ev_get (q := 140) dX2_drawUpSaying_137 fr_X2_21 rfl (lt_n hn (by decide)) rfl rfl ?_
                  refine ev_iload (q := 142) dX2_drawUpSaying_140 rfl rfl ?_
                  refine ev_iload (q := 144) dX2_drawUpSaying_142 rfl rfl ?_
                  first | refine ev_isK (q := 145) (aim &&& (63 ^^^ sd)) dX2_drawUpSaying_144 rfl rfl (by omega) (lt_n hn (by decide)) rfl rfl ?_ | refine ev_isR (q := 145) (aim &&& (63 ^^^ sd)) dX2_drawUpSaying_144 rfl rfl (by omega) (lt_n hn (by decide)) rfl rfl ?_
                  refine ev_inc_5 (q := 148) (nI (aim + 1)) dX2_drawUpSaying_145 (nI_1 aim) rfl rfl ?_
                  refine ev_goto 37 dX2_drawUpSaying_148 (by decide) ?_
                  refine e _ _ (fun p hp => by rw [← hI p hp]; simp [setI, hp]) (fun w hw => ?_) (fun p hp => by rw [← hS p hp]; simp [setI, hp]) (fun r h1 h2 h3 => ?_) _ _ _
                  · by_cases g : w = aim &&& (63 ^^^ sd)
                    · exact ⟨y, by omega, by rw [g]; show upd (I2 28) _ (nI y) _ = nI y; exact pk_us⟩
                    · obtain ⟨z, z1, z2⟩ := hP w hw
                      exact ⟨z, z1, by rw [← z2]; show upd (I2 28) _ (nI y) w = I2 28 w; exact pk_un g⟩
                  · by_cases g : r = aim &&& (63 ^^^ sd)
                    · subst g
                      refine ⟨y, by omega, by show upd (I2 28) _ (nI y) _ = nI y; exact pk_us, ?_⟩
                      rw [show setI S2 27 (upd (S2 27) (aim &&& (63 ^^^ sd)) (nI (rkN t (nmO t sd (aim &&& sd))))) 27 (aim &&& (63 ^^^ sd)) = nI (rkN t (nmO t sd (aim &&& sd))) from (by show upd (S2 27) _ _ _ = _; exact pk_us)]
                      exact htake
                    · obtain ⟨z, z1, z2, z3⟩ := hoth r h1 h2 h3 g
                      refine ⟨z, z1, by rw [← z2]; show upd (I2 28) _ (nI y) r = I2 28 r; exact pk_un g, ?_⟩
                      rw [show setI S2 27 (upd (S2 27) (aim &&& (63 ^^^ sd)) (nI (rkN t (nmO t sd (aim &&& sd))))) 27 r = S2 27 r from (by show upd (S2 27) _ _ r = S2 27 r; exact pk_un g)]
                      exact z3
        rcases ho with ho | ⟨a0, ha0, ho⟩
        · refine ev_iload (q := 39) dX2_drawUpSaying_37 rfl rfl ?_
          refine ev_iload (q := 41) dX2_drawUpSaying_39 rfl rfl ?_
          refine ev_icmp_ge (q := 44) 151 dX2_drawUpSaying_41 (by decide) rfl (fun c_41 => ?_) (fun c_41 => ?_)
          · exact absurd ((nI_leI (by omega) (by omega)).mp c_41) haN
          · refine ev_iload (q := 46) dX2_drawUpSaying_44 rfl rfl ?_
            refine ev_iload_n (q := 47) dX2_drawUpSaying_46 rfl rfl ?_
            refine ev_iconst (q := 48) (-1) dX2_drawUpSaying_47 (by decide) rfl ?_
            refine ev_ixor (q := 49) dX2_drawUpSaying_48 rfl ?_
            refine ev_iand (q := 50) dX2_drawUpSaying_49 rfl ?_
            rw [nI_not (show aim < 64 by omega) (show sd < 64 by omega)]
            refine ev_ist_6 (q := 52) dX2_drawUpSaying_50 rfl rfl ?_
            refine ev_iload_n (q := 53) dX2_drawUpSaying_52 rfl rfl ?_
            refine ev_if_lt (q := 56) 66 dX2_drawUpSaying_53 (by decide) rfl (fun c_53 => ?_) (fun c_53 => ?_)
            · exact J66 (Or.inl ho) _
            · exact absurd ho c_53
        · subst ho
          refine ev_iload (q := 39) dX2_drawUpSaying_37 rfl rfl ?_
          refine ev_iload (q := 41) dX2_drawUpSaying_39 rfl rfl ?_
          refine ev_icmp_ge (q := 44) 151 dX2_drawUpSaying_41 (by decide) rfl (fun c_41 => ?_) (fun c_41 => ?_)
          · exact absurd ((nI_leI (by omega) (by omega)).mp c_41) haN
          · refine ev_iload (q := 46) dX2_drawUpSaying_44 rfl rfl ?_
            refine ev_iload_n (q := 47) dX2_drawUpSaying_46 rfl rfl ?_
            refine ev_iconst (q := 48) (-1) dX2_drawUpSaying_47 (by decide) rfl ?_
            refine ev_ixor (q := 49) dX2_drawUpSaying_48 rfl ?_
            refine ev_iand (q := 50) dX2_drawUpSaying_49 rfl ?_
            rw [nI_not (show aim < 64 by omega) (show sd < 64 by omega)]
            refine ev_ist_6 (q := 52) dX2_drawUpSaying_50 rfl rfl ?_
            refine ev_iload_n (q := 53) dX2_drawUpSaying_52 rfl rfl ?_
            refine ev_if_lt (q := 56) 66 dX2_drawUpSaying_53 (by decide) rfl (fun c_53 => ?_) (fun c_53 => ?_)
            · exact absurd c_53 (nI_pos (by omega))
            · refine ev_iload (q := 58) dX2_drawUpSaying_56 rfl rfl ?_
              refine ev_iload_n (q := 59) dX2_drawUpSaying_58 rfl rfl ?_
              refine ev_iload_n (q := 60) dX2_drawUpSaying_59 rfl rfl ?_
              refine ev_iconst (q := 61) (-1) dX2_drawUpSaying_60 (by decide) rfl ?_
              refine ev_ixor (q := 62) dX2_drawUpSaying_61 rfl ?_
              refine ev_iand (q := 63) dX2_drawUpSaying_62 rfl ?_
              rw [nI_not (show a0 < 64 by omega) (show sd < 64 by omega)]
              refine ev_icmp_ne (q := 66) 76 dX2_drawUpSaying_63 (by decide) rfl (fun c_63 => ?_) (fun c_63 => ?_)
              · have c_63 : ¬ aim &&& (63 ^^^ sd) = a0 &&& (63 ^^^ sd) := fun g => c_63 (congrArg nI g)
                exact J76 (fun g => by rcases g with g | ⟨a1, g0, g1, g2⟩; exact absurd g (nI_pos (by omega)); exact c_63 (by rw [g2, (nI_eq (by omega) (by omega)).mp g1])) _
              · have hal : a0 &&& (63 ^^^ sd) ≤ a0 := Nat.and_le_left
                have c_63 : aim &&& (63 ^^^ sd) = a0 &&& (63 ^^^ sd) := (nI_eq (by omega) (by omega)).mp c_63
                exact J66 (Or.inr ⟨a0, by omega, rfl, c_63⟩) _
  have lp1 : ∀ j k, k + j = 2 ^ t → Ev xl xs 2 42 0 0 mX2_drawUpSaying 12 [some (.ref 24), some (.int (nI sd)), some (.ref 31), some (.int only), some (.int (nI (2 ^ t))), some (.int (nI k)), none, none, none] [] n (sysH (ov I (fillA S 27 k (fun _ => -6))) (ovJ J T) X) Q := by
    intro j
    induction j using Nat.strongRecOn with
    | _ j ih =>
      intro k hkj
      have e : ∀ h1, _ := fun (h1 : j - 1 < j) => ih (j - 1) h1 (k + 1)
      by_cases hkN : 2 ^ t ≤ k
      · have hkN : k = 2 ^ t := by omega
        refine ev_iload (q := 14) dX2_drawUpSaying_12 rfl rfl ?_
        refine ev_iload (q := 16) dX2_drawUpSaying_14 rfl rfl ?_
        refine ev_icmp_ge (q := 19) 34 dX2_drawUpSaying_16 (by decide) rfl (fun c_16 => ?_) (fun c_16 => ?_)
        · refine ev_iconst (q := 35) (0) dX2_drawUpSaying_34 (by decide) rfl ?_
          refine ev_ist_5 (q := 37) dX2_drawUpSaying_35 rfl rfl ?_
          exact lp2 (2 ^ t) 0 (by omega) I _ (fun _ _ => rfl) hpw (fun p hp => fillA_ne hp) (fun r h1 h2 h3 => by obtain ⟨x, x1, x2⟩ := hpw r (by omega); exact ⟨x, x1, x2, Or.inl ⟨fillA_at (by omega), fun num _ g => absurd g.2 (by omega)⟩⟩) _ _ _
        · exact absurd ((nI_leI (by omega) (by omega)).mpr (by omega)) c_16
      · have e := e (by omega) (by omega)
        refine ev_iload (q := 14) dX2_drawUpSaying_12 rfl rfl ?_
        refine ev_iload (q := 16) dX2_drawUpSaying_14 rfl rfl ?_
        refine ev_icmp_ge (q := 19) 34 dX2_drawUpSaying_16 (by decide) rfl (fun c_16 => ?_) (fun c_16 => ?_)
        · exact absurd ((nI_leI (by omega) (by omega)).mp c_16) hkN
        · refine ev_aload_n (q := 20) dX2_drawUpSaying_19 rfl rfl ?_
          refine ev_get (q := 23) dX2_drawUpSaying_20 fr_X2_18 rfl (lt_n hn (by decide)) rfl rfl ?_
          refine ev_iload (q := 25) dX2_drawUpSaying_23 rfl rfl ?_
          refine ev_bipush (q := 27) (-6) dX2_drawUpSaying_25 (by decide) rfl ?_
          first | refine ev_isK (q := 28) k dX2_drawUpSaying_27 rfl rfl (by omega) (lt_n hn (by decide)) rfl rfl ?_ | refine ev_isR (q := 28) k dX2_drawUpSaying_27 rfl rfl (by omega) (lt_n hn (by decide)) rfl rfl ?_
          rw [show setI (fillA S 27 k (fun _ => -6)) 27 (upd (fillA S 27 k (fun _ => -6) 27) k (-6)) = fillA S 27 (k + 1) (fun _ => -6) from fillA_s S 27 k (fun _ => -6)]
          refine ev_inc_5 (q := 31) (nI (k + 1)) dX2_drawUpSaying_28 (nI_1 k) rfl rfl ?_
          refine ev_goto 12 dX2_drawUpSaying_31 (by decide) ?_
          exact e
  refine ev_aload_n (q := 1) dX2_drawUpSaying_0 rfl rfl ?_
  refine ev_get (q := 4) dX2_drawUpSaying_1 fr_X2_27 rfl (lt_n hn (by decide)) rfl rfl ?_
  refine ev_callV0i (q := 7) dX2_drawUpSaying_4 ca_X2_35 (k_X4_worldCount hn hk) rfl (lt_n hn (by decide)) rfl rfl (Nat.le_of_ble_eq_true rfl) (Nat.le_of_ble_eq_true rfl) (by decide) (by decide) rfl ?_
  refine ev_ist_4 (q := 9) dX2_drawUpSaying_7 rfl rfl ?_
  refine ev_iconst (q := 10) (0) dX2_drawUpSaying_9 (by decide) rfl ?_
  refine ev_ist_5 (q := 12) dX2_drawUpSaying_10 rfl rfl ?_
  have e := lp1 (2 ^ t) 0 (by omega)
  rw [fillA_0] at e
  exact e
theorem k_drawUp {m : Nat} {only : Int32} (hn : 49 ≤ n) (hk : KI I J t sl wy wi he) (ht : TOK I J t) (hpw : PW I) (hm : m ≤ 6) (hf : ∀ w, w < 64 → S 31 w < 1000000) (ho : only < 0 ∨ ∃ a, a < 2 ^ t ∧ only = nI a) : RnX xl xs 3 70 mX2_drawUp [.ref 24, .ref 31, .int (nI m), .int only] n I S J T X none (duP I S J T t sl m only) := by
  intro Q hQ
  have h6 := hk.1.2.2.1
  have h64 := p2_le h6
  show Ev xl xs 3 70 0 0 mX2_drawUp 0 [some (.ref 24), some (.ref 31), some (.int (nI m)), some (.int only), none, none, none] [] n (sysH (ov I S) (ovJ J T) X) Q
  have lp2 : ∀ j sd, sd + j = 2 ^ t → ∀ I2 S2 T2, T2 = T → (∀ p, p ≠ 28 → I2 p = I p) → PW I2 → (∀ p, p ≠ 24 → p ≠ 25 → p ≠ 26 → p ≠ 27 → p ≠ 29 → S2 p = S p) → (∀ w, w < 64 → ∃ x, x < 64 ∧ S2 26 w = nI x ∧ (2 ^ t ≤ w → x = w)) → (∀ a, a < 2 ^ t → actA only a → ∃ x, x < 64 ∧ S2 26 a = nI x ∧ (S2 25 a < 0 → x = a) ∧ Bq J t sl (S 31) (fun num => sdN t num < sd ∧ wd t num ≤ m) a (S2 25 a) x) → ∀ a6, Ev xl xs 3 70 0 0 mX2_drawUp 46 [some (.ref 24), some (.ref 31), some (.int (nI m)), some (.int only), some (.int (nI (2 ^ t))), some (.int (nI sd)), a6] [] n (sysH (ov I2 S2) (ovJ J T2) X) Q := by
    intro j
    induction j using Nat.strongRecOn with
    | _ j ih =>
      intro sd hsj I2 S2 T2 hT hI hP hS hW hB a6
      have e : ∀ h1, _ := fun (h1 : j - 1 < j) => ih (j - 1) h1 (sd + 1)
      by_cases hsN : 2 ^ t ≤ sd
      · have hsN : sd = 2 ^ t := by omega
        refine ev_iload (q := 48) dX2_drawUp_46 rfl rfl ?_
        refine ev_iload (q := 50) dX2_drawUp_48 rfl rfl ?_
        refine ev_icmp_ge (q := 53) 112 dX2_drawUp_50 (by decide) rfl (fun c_50 => ?_) (fun c_50 => ?_)
        · refine ev_retE dX2_drawUp_112 rfl rfl rfl (hQ _ _ _ _ ⟨rfl, hT, hI, hP, hS, hW, fun a h1 h2 => ?_⟩)
          obtain ⟨x, g1, g2, g3, g4⟩ := hB a h1 h2
          have g4 := Bq_congr (R := fun num => wd t num ≤ m) (fun num _ => ⟨fun g => ⟨by rw [hsN]; exact sdN_lt, g⟩, fun g => g.2⟩) g4
          obtain ⟨q1, q2, q3⟩ := Bq_bs h6 (by omega) (fun w hw => hf w (by omega)) g4 g3
          rw [← q2, ← q3]
          exact ⟨q1, g1, g2, rfl⟩
        · exact absurd ((nI_leI (by omega) (by omega)).mpr (by omega)) c_50
      · have e := e (by omega) (by omega)
        have hsd : sd < 2 ^ t := by omega
        have hpl := pop_le 6 sd
        by_cases hpm : pop 6 sd ≤ m
        · have hk2 := KI_mono hk hI
          have ht2 := TOK_mono ht hI
          have lp3 : ∀ j w, w + j = 2 ^ t → ∀ I3 S3 T3, T3 = T → (∀ p, p ≠ 28 → I3 p = I p) → PW I3 → (∀ p, p ≠ 24 → p ≠ 25 → p ≠ 26 → p ≠ 27 → p ≠ 29 → S3 p = S p) → (∀ w, w < 64 → ∃ x, x < 64 ∧ S3 26 w = nI x ∧ (2 ^ t ≤ w → x = w)) → (∀ r, r < 2 ^ t → r &&& sd = 0 → actP only sd r → ∃ x, x < 64 ∧ I3 28 r = nI x ∧ Bq J t sl (S 31) (fun num => sdN t num = sd) r (S3 27 r) x) → (∀ a, a < 2 ^ t → actA only a → ∃ x, x < 64 ∧ S3 26 a = nI x ∧ (S3 25 a < 0 → x = a) ∧ Bq J t sl (S 31) (fun num => sdN t num < (if a < w then sd + 1 else sd) ∧ wd t num ≤ m) a (S3 25 a) x) → Ev xl xs 3 70 0 0 mX2_drawUp 79 [some (.ref 24), some (.ref 31), some (.int (nI m)), some (.int only), some (.int (nI (2 ^ t))), some (.int (nI sd)), some (.int (nI w))] [] n (sysH (ov I3 S3) (ovJ J T3) X) Q := by
            intro j
            induction j using Nat.strongRecOn with
            | _ j ih3 =>
              intro w hwj I3 S3 T3 hT hI hP hS hW hR hB
              have e3 : ∀ h1, _ := fun (h1 : j - 1 < j) => ih3 (j - 1) h1 (w + 1)
              by_cases hwN : 2 ^ t ≤ w
              · have hwN : w = 2 ^ t := by omega
                refine ev_iload (q := 81) dX2_drawUp_79 rfl rfl ?_
                refine ev_iload (q := 83) dX2_drawUp_81 rfl rfl ?_
                refine ev_icmp_ge (q := 86) 106 dX2_drawUp_83 (by decide) rfl (fun c_83 => ?_) (fun c_83 => ?_)
                · refine ev_inc_5 (q := 109) (nI (sd + 1)) dX2_drawUp_106 (nI_1 sd) rfl rfl ?_
                  refine ev_goto 46 dX2_drawUp_109 (by decide) ?_
                  exact e _ _ _ hT hI hP hS hW (fun a h1 h2 => by obtain ⟨x, g1, g2, g3, g4⟩ := hB a h1 h2; rw [if_pos (show a < w by omega)] at g4; exact ⟨x, g1, g2, g3, g4⟩) _
                · exact absurd ((nI_leI (by omega) (by omega)).mpr (by omega)) c_83
              · have e3 := e3 (by omega) (by omega)
                have hw : w < 2 ^ t := by omega
                have hr : w &&& (63 ^^^ sd) < 2 ^ t := Nat.lt_of_le_of_lt Nat.and_le_left hw
                obtain ⟨b1, b2, b3, b4⟩ := bz_D sd (by omega) w (by omega)
                obtain ⟨x, x1, x2⟩ := hP (w &&& (63 ^^^ sd)) (by omega)
                obtain ⟨y, y1, y2, y3⟩ := hW w (by omega)
                have hmg : actA only w → ∃ (_ : S3 25 w < 0 → y = w) (_ : Bq J t sl (S 31) (fun num => sdN t num < sd ∧ wd t num ≤ m) w (S3 25 w) y), Bq J t sl (S 31) (fun num => sdN t num = sd) w (S3 27 (w &&& (63 ^^^ sd))) x := by
                  intro ha
                  obtain ⟨y', g1, g2, g3, g4⟩ := hB w hw ha
                  rw [if_neg (by omega)] at g4
                  have ey : y' = y := (nI_eq (by omega) (by omega)).mp (g2.symm.trans y2)
                  subst ey
                  obtain ⟨x', k1, k2, k3⟩ := hR _ hr b3 (actAP (by omega) ha)
                  have ex : x' = x := (nI_eq (by omega) (by omega)).mp (k2.symm.trans x2)
                  subst ex
                  exact ⟨g3, g4, Bq_rest (fun num g => g) k3⟩
                have hRR : ∀ num, num < 3 ^ t → ((sdN t num < sd + 1 ∧ wd t num ≤ m) ↔ ((sdN t num < sd ∧ wd t num ≤ m) ∨ sdN t num = sd)) := fun num _ => by
                  have := wd_sd (t := t) (num := num) h6
                  constructor
                  · rintro ⟨a1, a2⟩
                    by_cases c : sdN t num = sd
                    · exact Or.inr c
                    · exact Or.inl ⟨by omega, a2⟩
                  · rintro (⟨a1, a2⟩ | c)
                    · exact ⟨by omega, a2⟩
                    · rw [this, c]; exact ⟨by omega, hpm⟩
                have h31 : S3 31 = S 31 := hS 31 (by decide) (by decide) (by decide) (by decide) (by decide)
                refine ev_iload (q := 81) dX2_drawUp_79 rfl rfl ?_
                refine ev_iload (q := 83) dX2_drawUp_81 rfl rfl ?_
                refine ev_icmp_ge (q := 86) 106 dX2_drawUp_83 (by decide) rfl (fun c_83 => ?_) (fun c_83 => ?_)
                · exact absurd ((nI_leI (by omega) (by omega)).mp c_83) hwN
                · refine ev_aload_n (q := 87) dX2_drawUp_86 rfl rfl ?_
                  refine ev_iload (q := 89) dX2_drawUp_87 rfl rfl ?_
                  refine ev_iload (q := 91) dX2_drawUp_89 rfl rfl ?_
                  refine ev_iload (q := 93) dX2_drawUp_91 rfl rfl ?_
                  refine ev_iconst (q := 94) (-1) dX2_drawUp_93 (by decide) rfl ?_
                  refine ev_ixor (q := 95) dX2_drawUp_94 rfl ?_
                  refine ev_iand (q := 96) dX2_drawUp_95 rfl ?_
                  rw [nI_not (show w < 64 by omega) (show sd < 64 by omega)]
                  refine ev_aload_n (q := 97) dX2_drawUp_96 rfl rfl ?_
                  refine ev_callV3vP (q := 100) dX2_drawUp_97 ca_X2_55 (k_takePart hn (by omega) (by omega) rfl x2 x1 y2 y1 rfl) rfl (lt_n hn (by decide)) rfl rfl (Nat.le_of_ble_eq_true rfl) (Nat.le_of_ble_eq_true rfl) (by decide) (by decide) rfl (fun S T hp_97 => ?_)
                  refine ev_inc_6 (q := 103) (nI (w + 1)) dX2_drawUp_100 (nI_1 w) rfl rfl ?_
                  refine ev_goto 79 dX2_drawUp_103 (by decide) ?_
                  obtain ⟨z1, z2, z3, z4⟩ := hp_97
                  refine e3 _ _ _ (z1.trans hT) hI hP (fun p a1 a2 a3 a4 a5 => by rw [z2 p a2 a3]; exact hS p a1 a2 a3 a4 a5) (fun v hv => ?_) (fun r h1 h2 h3 => by rw [z2 27 (by decide) (by decide)]; exact hR r h1 h2 h3) (fun a h1 h2 => ?_)
                  · by_cases c : v = w
                    · subst c
                      rcases z4 with ⟨-, -, -, q⟩ | ⟨-, -, q⟩
                      · exact ⟨x, x1, q, fun g => absurd g (by omega)⟩
                      · exact ⟨y, y1, q, y3⟩
                    · rw [(z3 v c).2]; exact hW v hv
                  · by_cases c : a = w
                    · subst c
                      obtain ⟨g1, g2, g3⟩ := hmg h2
                      rw [h31] at z4
                      rw [if_pos (Nat.lt_succ_self a)]
                      rcases z4 with ⟨q1, q2, q3, q4⟩ | ⟨q1, q3, q4⟩
                      · refine ⟨x, x1, q4, fun g => absurd (q3 ▸ g) q1, ?_⟩
                        rw [q3]; exact Bq_take h6 hRR g2 g3 q1 q2
                      · refine ⟨y, y1, q4, fun g => g1 (q3 ▸ g), ?_⟩
                        rw [q3]; exact Bq_keep h6 hRR g2 g3 q1
                    · obtain ⟨q, g1, g2, g3, g4⟩ := hB a h1 h2
                      rw [(z3 a c).1, (z3 a c).2]
                      rw [show (if a < w + 1 then sd + 1 else sd) = (if a < w then sd + 1 else sd) from (by by_cases d : a < w; (rw [if_pos d, if_pos (by omega)]); (rw [if_neg d, if_neg (by omega)]))]
                      exact ⟨q, g1, g2, g3, g4⟩
          refine ev_iload (q := 48) dX2_drawUp_46 rfl rfl ?_
          refine ev_iload (q := 50) dX2_drawUp_48 rfl rfl ?_
          refine ev_icmp_ge (q := 53) 112 dX2_drawUp_50 (by decide) rfl (fun c_50 => ?_) (fun c_50 => ?_)
          · exact absurd ((nI_leI (by omega) (by omega)).mp c_50) hsN
          · refine ev_iload (q := 55) dX2_drawUp_53 rfl rfl ?_
            refine ev_callS1i (q := 58) dX2_drawUp_55 ca_X2_41 (c_bitI (by omega)) (Nat.le_of_ble_eq_true rfl) (Nat.le_of_ble_eq_true rfl) (by decide) (by decide) rfl ?_
            refine ev_iload_n (q := 59) dX2_drawUp_58 rfl rfl ?_
            refine ev_icmp_gt (q := 62) 106 dX2_drawUp_59 (by decide) rfl (fun c_59 => ?_) (fun c_59 => ?_)
            · exact absurd ((nI_ltI (by omega) (by omega)).mp c_59) (by omega)
            · refine ev_aload_n (q := 63) dX2_drawUp_62 rfl rfl ?_
              refine ev_iload (q := 65) dX2_drawUp_63 rfl rfl ?_
              refine ev_callV1vP (q := 68) dX2_drawUp_65 ca_X2_47 (k_listStirs hn hk2) rfl (lt_n hn (by decide)) rfl rfl (Nat.le_of_ble_eq_true rfl) (Nat.le_of_ble_eq_true rfl) (by decide) (by decide) rfl (fun S T hp_65 => ?_)
              obtain ⟨l1, ⟨c, l2⟩, l3⟩ := hp_65
              refine ev_aload_n (q := 69) dX2_drawUp_68 rfl rfl ?_
              refine ev_iload (q := 71) dX2_drawUp_69 rfl rfl ?_
              refine ev_aload_n (q := 72) dX2_drawUp_71 rfl rfl ?_
              refine ev_iload_n (q := 73) dX2_drawUp_72 rfl rfl ?_
              refine ev_callV3vX (q := 76) dX2_drawUp_73 ca_X2_51 (k_drawUpSaying hn hk2 ht2 hP hsd l2 ho) rfl (lt_n hn (by decide)) rfl rfl (Nat.le_of_ble_eq_true rfl) (Nat.le_of_ble_eq_true rfl) (by decide) (by decide) rfl (fun I2 S J2 T hp_73 => ?_)
              obtain ⟨d1, d2, d3, d4, d5, d6⟩ := hp_73
              subst d1
              refine ev_iconst (q := 77) (0) dX2_drawUp_76 (by decide) rfl ?_
              refine ev_ist_6 (q := 79) dX2_drawUp_77 rfl rfl ?_
              refine lp3 (2 ^ t) 0 (by omega) _ _ _ (d2.trans (l1.trans hT)) (fun p hp => (d3 p hp).trans (hI p hp)) d4 (fun p a1 a2 a3 a4 a5 => by rw [d5 p a4, l3 p a1 a5]; exact hS p a1 a2 a3 a4 a5) (fun v hv => by rw [d5 26 (by decide), l3 26 (by decide) (by decide)]; exact hW v hv) (fun r h1 h2 h3 => ?_) (fun a h1 h2 => ?_)
              · have := d6 r h1 h2 h3
                rw [l3 31 (by decide) (by decide), hS 31 (by decide) (by decide) (by decide) (by decide) (by decide)] at this
                exact this
              · rw [d5 26 (by decide), l3 26 (by decide) (by decide), d5 25 (by decide), l3 25 (by decide) (by decide), if_neg (by omega)]
                exact hB a h1 h2
        · refine ev_iload (q := 48) dX2_drawUp_46 rfl rfl ?_
          refine ev_iload (q := 50) dX2_drawUp_48 rfl rfl ?_
          refine ev_icmp_ge (q := 53) 112 dX2_drawUp_50 (by decide) rfl (fun c_50 => ?_) (fun c_50 => ?_)
          · exact absurd ((nI_leI (by omega) (by omega)).mp c_50) hsN
          · refine ev_iload (q := 55) dX2_drawUp_53 rfl rfl ?_
            refine ev_callS1i (q := 58) dX2_drawUp_55 ca_X2_41 (c_bitI (by omega)) (Nat.le_of_ble_eq_true rfl) (Nat.le_of_ble_eq_true rfl) (by decide) (by decide) rfl ?_
            refine ev_iload_n (q := 59) dX2_drawUp_58 rfl rfl ?_
            refine ev_icmp_gt (q := 62) 106 dX2_drawUp_59 (by decide) rfl (fun c_59 => ?_) (fun c_59 => ?_)
            · refine ev_inc_5 (q := 109) (nI (sd + 1)) dX2_drawUp_106 (nI_1 sd) rfl rfl ?_
              refine ev_goto 46 dX2_drawUp_109 (by decide) ?_
              exact e _ _ _ hT hI hP hS hW (fun a h1 h2 => by obtain ⟨x, g1, g2, g3, g4⟩ := hB a h1 h2; exact ⟨x, g1, g2, g3, Bq_congr (fun num _ => ⟨fun g => ⟨by by_cases c : sdN t num = sd; (have := wd_sd (t := t) (num := num) h6; rw [c] at this; omega); (have := g.1; omega), g.2⟩, fun g => ⟨by have := g.1; omega, g.2⟩⟩) g4⟩) _
            · exact absurd ((nI_ltI (by omega) (by omega)).mpr (by omega)) c_59
  have lp1 : ∀ j k, k + j = 64 → ∀ S2, (∀ p, p ≠ 25 → p ≠ 26 → S2 p = S p) → (∀ w, w < k → S2 25 w = -6 ∧ S2 26 w = nI w) → Ev xl xs 3 70 0 0 mX2_drawUp 3 [some (.ref 24), some (.ref 31), some (.int (nI m)), some (.int only), some (.int (nI k)), none, none] [] n (sysH (ov I S2) (ovJ J T) X) Q := by
    intro j
    induction j using Nat.strongRecOn with
    | _ j ih =>
      intro k hkj S2 h0 h1
      have e : ∀ h1, _ := fun (h1 : j - 1 < j) => ih (j - 1) h1 (k + 1)
      by_cases hkN : 64 ≤ k
      · have hkN : k = 64 := by omega
        subst hkN
        refine ev_iload (q := 5) dX2_drawUp_3 rfl rfl ?_
        refine ev_bipush (q := 7) (64) dX2_drawUp_5 (by decide) rfl ?_
        refine ev_icmp_ge (q := 10) 34 dX2_drawUp_7 (by decide) rfl (fun c_7 => ?_) (fun c_7 => ?_)
        · refine ev_aload_n (q := 35) dX2_drawUp_34 rfl rfl ?_
          refine ev_get (q := 38) dX2_drawUp_35 fr_X2_27 rfl (lt_n hn (by decide)) rfl rfl ?_
          refine ev_callV0i (q := 41) dX2_drawUp_38 ca_X2_35 (k_X4_worldCount hn hk) rfl (lt_n hn (by decide)) rfl rfl (Nat.le_of_ble_eq_true rfl) (Nat.le_of_ble_eq_true rfl) (by decide) (by decide) rfl ?_
          refine ev_ist_4 (q := 43) dX2_drawUp_41 rfl rfl ?_
          refine ev_iconst (q := 44) (0) dX2_drawUp_43 (by decide) rfl ?_
          refine ev_ist_5 (q := 46) dX2_drawUp_44 rfl rfl ?_
          refine lp2 (2 ^ t) 0 (by omega) I S2 T rfl (fun _ _ => rfl) hpw (fun p a1 a2 a3 a4 a5 => h0 p a2 a3) (fun w hw => ⟨w, hw, (h1 w hw).2, fun _ => rfl⟩) (fun a h2 h3 => ⟨a, by omega, (h1 a (by omega)).2, fun _ => rfl, Or.inl ⟨(h1 a (by omega)).1, fun num _ g => absurd g.1 (by omega)⟩⟩) _
        · exact absurd (show (64 : Int32) ≤ nI 64 by decide) c_7
      · have e := e (by omega) (by omega)
        refine ev_iload (q := 5) dX2_drawUp_3 rfl rfl ?_
        refine ev_bipush (q := 7) (64) dX2_drawUp_5 (by decide) rfl ?_
        refine ev_icmp_ge (q := 10) 34 dX2_drawUp_7 (by decide) rfl (fun c_7 => ?_) (fun c_7 => ?_)
        · exact absurd ((nI_leI (a := 64) (by omega) (by omega)).mp c_7) hkN
        · refine ev_aload_n (q := 11) dX2_drawUp_10 rfl rfl ?_
          refine ev_get (q := 14) dX2_drawUp_11 fr_X2_9 rfl (lt_n hn (by decide)) rfl rfl ?_
          refine ev_iload (q := 16) dX2_drawUp_14 rfl rfl ?_
          refine ev_bipush (q := 18) (-6) dX2_drawUp_16 (by decide) rfl ?_
          first | refine ev_isK (q := 19) k dX2_drawUp_18 rfl rfl (by omega) (lt_n hn (by decide)) rfl rfl ?_ | refine ev_isR (q := 19) k dX2_drawUp_18 rfl rfl (by omega) (lt_n hn (by decide)) rfl rfl ?_
          refine ev_aload_n (q := 20) dX2_drawUp_19 rfl rfl ?_
          refine ev_get (q := 23) dX2_drawUp_20 fr_X2_15 rfl (lt_n hn (by decide)) rfl rfl ?_
          refine ev_iload (q := 25) dX2_drawUp_23 rfl rfl ?_
          refine ev_iload (q := 27) dX2_drawUp_25 rfl rfl ?_
          first | refine ev_isK (q := 28) k dX2_drawUp_27 rfl rfl (by omega) (lt_n hn (by decide)) rfl rfl ?_ | refine ev_isR (q := 28) k dX2_drawUp_27 rfl rfl (by omega) (lt_n hn (by decide)) rfl rfl ?_
          refine ev_inc_4 (q := 31) (nI (k + 1)) dX2_drawUp_28 (nI_1 k) rfl rfl ?_
          refine ev_goto 3 dX2_drawUp_31 (by decide) ?_
          refine e _ (fun p a1 a2 => by rw [← h0 p a1 a2]; simp [setI, a1, a2]) (fun w hw => ?_)
          by_cases c : w = k
          · subst c
            exact ⟨by show upd (S2 25) w (-6) w = -6; exact pk_us, by show upd (S2 26) w (nI w) w = nI w; exact pk_us⟩
          · have := h1 w (by omega)
            exact ⟨(show upd (S2 25) k (-6) w = S2 25 w from pk_un c).trans this.1, (show upd (S2 26) k (nI k) w = S2 26 w from pk_un c).trans this.2⟩
  refine ev_iconst (q := 1) (0) dX2_drawUp_0 (by decide) rfl ?_
  refine ev_ist_4 (q := 3) dX2_drawUp_1 rfl rfl ?_
  exact lp1 64 0 (by omega) S (fun _ _ _ => rfl) (fun w hw => absurd hw (by omega))
theorem k_follow (hn : 49 ≤ n) (hW : ∀ w, w < 64 → ∃ x, x < 64 ∧ S 26 w = nI x) : RnP xl xs 0 0 mX6_follow [.ref 0, .ref 32] n I S J T X none (fun S' T' => T' = T ∧ (∀ p, p ≠ 31 → S' p = S p) ∧ ∀ w x, w < 64 → x < 64 → S 26 w = nI x → S' 31 w = S 32 x) := by
  intro Q hQ
  show Ev xl xs 0 0 0 0 mX6_follow 0 [some (.ref 0), some (.ref 32), none] [] n (sysH (ov I S) (ovJ J T) X) Q
  have lp : ∀ j k, k + j = 64 → ∀ S2, (∀ p, p ≠ 31 → S2 p = S p) → (∀ w x, w < k → x < 64 → S 26 w = nI x → S2 31 w = S 32 x) → Ev xl xs 0 0 0 0 mX6_follow 2 [some (.ref 0), some (.ref 32), some (.int (nI k))] [] n (sysH (ov I S2) (ovJ J T) X) Q := by
    intro j
    induction j using Nat.strongRecOn with
    | _ j ih =>
      intro k hkj S2 h0 h1
      have e : ∀ h1, _ := fun (h1 : j - 1 < j) => ih (j - 1) h1 (k + 1)
      by_cases hkN : 64 ≤ k
      · have hkN : k = 64 := by omega
        subst hkN
        refine ev_iload_n (q := 3) dX6_follow_2 rfl rfl ?_
        refine ev_bipush (q := 5) (64) dX6_follow_3 (by decide) rfl ?_
        refine ev_icmp_ge (q := 8) 31 dX6_follow_5 (by decide) rfl (fun c_5 => ?_) (fun c_5 => ?_)
        · exact ev_retE dX6_follow_31 rfl rfl rfl (hQ _ _ ⟨rfl, h0, h1⟩)
        · exact absurd (show (64 : Int32) ≤ nI 64 by decide) c_5
      · have e := e (by omega) (by omega)
        obtain ⟨x, x1, x2⟩ := hW k (by omega)
        have x3 : ov I S2 26 k = nI x := by show S2 26 k = nI x; rw [h0 26 (by decide)]; exact x2
        refine ev_iload_n (q := 3) dX6_follow_2 rfl rfl ?_
        refine ev_bipush (q := 5) (64) dX6_follow_3 (by decide) rfl ?_
        refine ev_icmp_ge (q := 8) 31 dX6_follow_5 (by decide) rfl (fun c_5 => ?_) (fun c_5 => ?_)
        · exact absurd ((nI_leI (a := 64) (by omega) (by omega)).mp c_5) hkN
        · refine ev_aload_n (q := 9) dX6_follow_8 rfl rfl ?_
          refine ev_get (q := 12) dX6_follow_9 fr_X6_60 rfl (lt_n hn (by decide)) rfl rfl ?_
          refine ev_iload_n (q := 13) dX6_follow_12 rfl rfl ?_
          refine ev_aload_n (q := 14) dX6_follow_13 rfl rfl ?_
          refine ev_aload_n (q := 15) dX6_follow_14 rfl rfl ?_
          refine ev_get (q := 18) dX6_follow_15 fr_X6_49 rfl (lt_n hn (by decide)) rfl rfl ?_
          refine ev_get (q := 21) dX6_follow_18 fr_X6_331 rfl (lt_n hn (by decide)) rfl rfl ?_
          refine ev_iload_n (q := 22) dX6_follow_21 rfl rfl ?_
          refine ev_iaS (q := 23) k dX6_follow_22 rfl rfl (by omega) (lt_n hn (by decide)) rfl ?_
          rw [x3]
          refine ev_iaS (q := 24) x dX6_follow_23 rfl rfl (by omega) (lt_n hn (by decide)) rfl ?_
          first | refine ev_isK (q := 25) k dX6_follow_24 rfl rfl (by omega) (lt_n hn (by decide)) rfl rfl ?_ | refine ev_isR (q := 25) k dX6_follow_24 rfl rfl (by omega) (lt_n hn (by decide)) rfl rfl ?_
          refine ev_inc_2 (q := 28) (nI (k + 1)) dX6_follow_25 (nI_1 k) rfl rfl ?_
          refine ev_goto 2 dX6_follow_28 (by decide) ?_
          refine e _ (fun p a1 => by rw [← h0 p a1]; simp [setI, a1]) (fun w z hw hz g => ?_)
          by_cases c : w = k
          · subst c
            have ez : x = z := (nI_eq (by omega) (by omega)).mp (x2.symm.trans g)
            subst ez
            show upd (S2 31) w (S2 32 x) w = S 32 x
            rw [pk_us, h0 32 (by decide)]
          · rw [← h1 w z (by omega) hz g]; show upd (S2 31) k _ w = S2 31 w; exact pk_un c
  refine ev_iconst (q := 1) (0) dX6_follow_0 (by decide) rfl ?_
  refine ev_ist_2 (q := 2) dX6_follow_1 rfl rfl ?_
  exact lp 64 0 (by omega) S (fun _ _ => rfl) (fun w x hw => absurd hw (by omega))
def roP (I : Nat → Nat → Int32) (J : Nat → Nat → Int64) (I' S' : Nat → Nat → Int32) (J' T' : Nat → Nat → Int64) : Prop := J' = J ∧ (∀ p, p ≠ 28 → I' p = I p) ∧ PW I'
theorem k_firstOfRow {m : Nat} {what : Int32} (hn : 49 ≤ n) (hk : KI I J t sl wy wi he) (ht : TOK I J t) (hpw : PW I) (hm : m ≤ 6) (hf : ∀ w, w < 64 → S 31 w < 1000000) : RnX xl xs 4 96 mX6_firstOfRow [.ref 0, .int (nI m), .int what] n I S J T X (some (.int (lastA J t sl (nI m) what (S 31) he))) (roP I J) := by
  intro Q hQ
  have h6 := hk.1.2.2.1
  have h64 := p2_le h6
  have hhl := hk.1.2.2.2.2.2.2.2.2.2.2
  show Ev xl xs 4 96 0 0 mX6_firstOfRow 0 [some (.ref 0), some (.int (nI m)), some (.int what), none] [] n (sysH (ov I S) (ovJ J T) X) Q
  unfold lastA at hQ
  by_cases hw0 : what = 0
  · rw [if_pos hw0] at hQ
    refine ev_aload_n (q := 1) dX6_firstOfRow_0 rfl rfl ?_
    refine ev_get (q := 4) dX6_firstOfRow_1 fr_X6_49 rfl (lt_n hn (by decide)) rfl rfl ?_
    refine ev_aload_n (q := 5) dX6_firstOfRow_4 rfl rfl ?_
    refine ev_get (q := 8) dX6_firstOfRow_5 fr_X6_60 rfl (lt_n hn (by decide)) rfl rfl ?_
    refine ev_iload_n (q := 9) dX6_firstOfRow_8 rfl rfl ?_
    refine ev_aload_n (q := 10) dX6_firstOfRow_9 rfl rfl ?_
    refine ev_get (q := 13) dX6_firstOfRow_10 fr_X6_10 rfl (lt_n hn (by decide)) rfl rfl ?_
    refine ev_get (q := 16) dX6_firstOfRow_13 fr_X6_103 rfl (lt_n hn (by decide)) rfl rfl ?_
    rw [show ov I S 1 1 = nI he from hk.2.1.2.1]
    refine ev_callV3vX (q := 19) dX6_firstOfRow_16 ca_X6_229 (k_drawUp hn hk ht hpw hm hf (Or.inr ⟨he, hhl, rfl⟩)) rfl (lt_n hn (by decide)) rfl rfl (Nat.le_of_ble_eq_true rfl) (Nat.le_of_ble_eq_true rfl) (by decide) (by decide) rfl (fun I2 S J2 T hp_16 => ?_)
    obtain ⟨d1, d2, d3, d4, d5, d6, d7⟩ := hp_16
    obtain ⟨q1, q2, q3, q4⟩ := d7 he hhl (Or.inr rfl)
    have hk2 := KI_mono hk d3
    refine ev_iload_n (q := 20) dX6_firstOfRow_19 rfl rfl ?_
    refine ev_if_ne (q := 23) 48 dX6_firstOfRow_20 (by decide) rfl (fun c_20 => ?_) (fun c_20 => ?_)
    · exact absurd hw0 c_20
    · refine ev_aload_n (q := 24) dX6_firstOfRow_23 rfl rfl ?_
      refine ev_get (q := 27) dX6_firstOfRow_24 fr_X6_60 rfl (lt_n hn (by decide)) rfl rfl ?_
      refine ev_aload_n (q := 28) dX6_firstOfRow_27 rfl rfl ?_
      refine ev_get (q := 31) dX6_firstOfRow_28 fr_X6_49 rfl (lt_n hn (by decide)) rfl rfl ?_
      refine ev_get (q := 34) dX6_firstOfRow_31 fr_X6_331 rfl (lt_n hn (by decide)) rfl rfl ?_
      refine ev_aload_n (q := 35) dX6_firstOfRow_34 rfl rfl ?_
      refine ev_get (q := 38) dX6_firstOfRow_35 fr_X6_10 rfl (lt_n hn (by decide)) rfl rfl ?_
      refine ev_get (q := 41) dX6_firstOfRow_38 fr_X6_103 rfl (lt_n hn (by decide)) rfl rfl ?_
      rw [show ov I2 S 1 1 = nI he from hk2.2.1.2.1]
      refine ev_iaS (q := 42) he dX6_firstOfRow_41 rfl rfl (by omega) (lt_n hn (by decide)) rfl ?_
      rw [show ov I2 S 26 he = nI _ from q3]
      refine ev_iaS (q := 43) _ dX6_firstOfRow_42 rfl rfl q2 (lt_n hn (by decide)) rfl ?_
      have q5 : ov I2 S 31 _ = _ := (congrFun (d5 31 (by decide) (by decide) (by decide) (by decide) (by decide)) _).trans q4
      rw [q5]
      refine ev_sipush (q := 46) (1000) dX6_firstOfRow_43 (by decide) rfl ?_
      refine ev_iadd (q := 47) dX6_firstOfRow_46 rfl ?_
      exact ev_iretE dX6_firstOfRow_47 rfl rfl rfl rfl rfl (hQ _ _ _ _ ⟨d1, d3, d4⟩)
  · rw [if_neg hw0] at hQ
    cases hb : bsP J t sl (nI m) (S 31) he with
    | none =>
      rw [hb] at hQ
      refine ev_aload_n (q := 1) dX6_firstOfRow_0 rfl rfl ?_
      refine ev_get (q := 4) dX6_firstOfRow_1 fr_X6_49 rfl (lt_n hn (by decide)) rfl rfl ?_
      refine ev_aload_n (q := 5) dX6_firstOfRow_4 rfl rfl ?_
      refine ev_get (q := 8) dX6_firstOfRow_5 fr_X6_60 rfl (lt_n hn (by decide)) rfl rfl ?_
      refine ev_iload_n (q := 9) dX6_firstOfRow_8 rfl rfl ?_
      refine ev_aload_n (q := 10) dX6_firstOfRow_9 rfl rfl ?_
      refine ev_get (q := 13) dX6_firstOfRow_10 fr_X6_10 rfl (lt_n hn (by decide)) rfl rfl ?_
      refine ev_get (q := 16) dX6_firstOfRow_13 fr_X6_103 rfl (lt_n hn (by decide)) rfl rfl ?_
      rw [show ov I S 1 1 = nI he from hk.2.1.2.1]
      refine ev_callV3vX (q := 19) dX6_firstOfRow_16 ca_X6_229 (k_drawUp hn hk ht hpw hm hf (Or.inr ⟨he, hhl, rfl⟩)) rfl (lt_n hn (by decide)) rfl rfl (Nat.le_of_ble_eq_true rfl) (Nat.le_of_ble_eq_true rfl) (by decide) (by decide) rfl (fun I2 S J2 T hp_16 => ?_)
      obtain ⟨d1, d2, d3, d4, d5, d6, d7⟩ := hp_16
      obtain ⟨q1, q2, q3, q4⟩ := d7 he hhl (Or.inr rfl)
      have hk2 := KI_mono hk d3
      rw [hb] at q1
      refine ev_iload_n (q := 20) dX6_firstOfRow_19 rfl rfl ?_
      refine ev_if_ne (q := 23) 48 dX6_firstOfRow_20 (by decide) rfl (fun c_20 => ?_) (fun c_20 => ?_)
      · refine ev_aload_n (q := 49) dX6_firstOfRow_48 rfl rfl ?_
        refine ev_get (q := 52) dX6_firstOfRow_49 fr_X6_49 rfl (lt_n hn (by decide)) rfl rfl ?_
        refine ev_get (q := 55) dX6_firstOfRow_52 fr_X6_334 rfl (lt_n hn (by decide)) rfl rfl ?_
        refine ev_aload_n (q := 56) dX6_firstOfRow_55 rfl rfl ?_
        refine ev_get (q := 59) dX6_firstOfRow_56 fr_X6_10 rfl (lt_n hn (by decide)) rfl rfl ?_
        refine ev_get (q := 62) dX6_firstOfRow_59 fr_X6_103 rfl (lt_n hn (by decide)) rfl rfl ?_
        rw [show ov I2 S 1 1 = nI he from hk2.2.1.2.1]
        refine ev_iaS (q := 63) he dX6_firstOfRow_62 rfl rfl (by omega) (lt_n hn (by decide)) rfl ?_
        rw [show ov I2 S 25 he = -6 from q1]
        refine ev_ist_3 (q := 64) dX6_firstOfRow_63 rfl rfl ?_
        refine ev_iload_n (q := 65) dX6_firstOfRow_64 rfl rfl ?_
        refine ev_if_ge (q := 68) 73 dX6_firstOfRow_65 (by decide) rfl (fun c_65 => ?_) (fun c_65 => ?_)
        · exact absurd c_65 (by decide)
        · refine ev_bipush (q := 70) (-6) dX6_firstOfRow_68 (by decide) rfl ?_
          refine ev_goto 78 dX6_firstOfRow_70 (by decide) ?_
          exact ev_iretE dX6_firstOfRow_78 rfl rfl rfl rfl rfl (hQ _ _ _ _ ⟨d1, d3, d4⟩)
      · exact absurd c_20 hw0
    | some p =>
      obtain ⟨u, b⟩ := p
      rw [hb] at hQ
      obtain ⟨hu, -⟩ := bsP_own hb
      obtain ⟨r1, -⟩ := rk_mod h6 hu
      have hrb := rkN_b h6 hu
      refine ev_aload_n (q := 1) dX6_firstOfRow_0 rfl rfl ?_
      refine ev_get (q := 4) dX6_firstOfRow_1 fr_X6_49 rfl (lt_n hn (by decide)) rfl rfl ?_
      refine ev_aload_n (q := 5) dX6_firstOfRow_4 rfl rfl ?_
      refine ev_get (q := 8) dX6_firstOfRow_5 fr_X6_60 rfl (lt_n hn (by decide)) rfl rfl ?_
      refine ev_iload_n (q := 9) dX6_firstOfRow_8 rfl rfl ?_
      refine ev_aload_n (q := 10) dX6_firstOfRow_9 rfl rfl ?_
      refine ev_get (q := 13) dX6_firstOfRow_10 fr_X6_10 rfl (lt_n hn (by decide)) rfl rfl ?_
      refine ev_get (q := 16) dX6_firstOfRow_13 fr_X6_103 rfl (lt_n hn (by decide)) rfl rfl ?_
      rw [show ov I S 1 1 = nI he from hk.2.1.2.1]
      refine ev_callV3vX (q := 19) dX6_firstOfRow_16 ca_X6_229 (k_drawUp hn hk ht hpw hm hf (Or.inr ⟨he, hhl, rfl⟩)) rfl (lt_n hn (by decide)) rfl rfl (Nat.le_of_ble_eq_true rfl) (Nat.le_of_ble_eq_true rfl) (by decide) (by decide) rfl (fun I2 S J2 T hp_16 => ?_)
      obtain ⟨d1, d2, d3, d4, d5, d6, d7⟩ := hp_16
      obtain ⟨q1, q2, q3, q4⟩ := d7 he hhl (Or.inr rfl)
      have hk2 := KI_mono hk d3
      rw [hb] at q1
      refine ev_iload_n (q := 20) dX6_firstOfRow_19 rfl rfl ?_
      refine ev_if_ne (q := 23) 48 dX6_firstOfRow_20 (by decide) rfl (fun c_20 => ?_) (fun c_20 => ?_)
      · refine ev_aload_n (q := 49) dX6_firstOfRow_48 rfl rfl ?_
        refine ev_get (q := 52) dX6_firstOfRow_49 fr_X6_49 rfl (lt_n hn (by decide)) rfl rfl ?_
        refine ev_get (q := 55) dX6_firstOfRow_52 fr_X6_334 rfl (lt_n hn (by decide)) rfl rfl ?_
        refine ev_aload_n (q := 56) dX6_firstOfRow_55 rfl rfl ?_
        refine ev_get (q := 59) dX6_firstOfRow_56 fr_X6_10 rfl (lt_n hn (by decide)) rfl rfl ?_
        refine ev_get (q := 62) dX6_firstOfRow_59 fr_X6_103 rfl (lt_n hn (by decide)) rfl rfl ?_
        rw [show ov I2 S 1 1 = nI he from hk2.2.1.2.1]
        refine ev_iaS (q := 63) he dX6_firstOfRow_62 rfl rfl (by omega) (lt_n hn (by decide)) rfl ?_
        rw [show ov I2 S 25 he = nI (rkN t u) from q1]
        refine ev_ist_3 (q := 64) dX6_firstOfRow_63 rfl rfl ?_
        refine ev_iload_n (q := 65) dX6_firstOfRow_64 rfl rfl ?_
        refine ev_if_ge (q := 68) 73 dX6_firstOfRow_65 (by decide) rfl (fun c_65 => ?_) (fun c_65 => ?_)
        · refine ev_iload_n (q := 74) dX6_firstOfRow_73 rfl rfl ?_
          refine ev_sipush (q := 77) (1000) dX6_firstOfRow_74 (by decide) rfl ?_
          refine ev_irem (q := 78) (by decide) dX6_firstOfRow_77 rfl ?_
          rw [r1]
          exact ev_iretE dX6_firstOfRow_78 rfl rfl rfl rfl rfl (hQ _ _ _ _ ⟨d1, d3, d4⟩)
        · exact absurd (nI_pos' hrb) c_65
      · exact absurd c_20 hw0
theorem k_X6_row (hn : 49 ≤ n) (hk : KI I J t sl wy wi he) (ht : TOK I J t) (hpw : PW I) (kk most what : Int32) : RnX xl xs 5 119 mX6_row [.ref 0, .int kk, .int most, .int what] n I S J T X (some (.int (if inb kk 1 3 && (inb most 0 6 && inb what 0 1) then lastA J t sl most what (rowF J t sl most (wtF I t wi) (kk.toNatClampNeg - 1)) he else -2))) (roP I J) := by
  intro Q hQ
  have h6 := hk.1.2.2.1
  have h64 := p2_le h6
  have hhl := hk.1.2.2.2.2.2.2.2.2.2.2
  have hwi4 := hk.1.2.2.2.2.2.2.2.2.1
  show Ev xl xs 5 119 0 0 mX6_row 0 [some (.ref 0), some (.int kk), some (.int most), some (.int what), none] [] n (sysH (ov I S) (ovJ J T) X) Q
  cases hin : (inb kk 1 3 && (inb most 0 6 && inb what 0 1)) with
  | false =>
    rw [hin] at hQ
    have hQ : ∀ S' T', Q (some (.int (-2))) n (sysH (ov I S') (ovJ J T') X) := fun S' T' => hQ I S' J T' ⟨rfl, fun _ _ => rfl, hpw⟩
    have h1 : ((kk < 1 ∨ 3 < kk) ∨ (inb most 0 6 = false ∨ inb what 0 1 = false)) := by
      rcases Bool.and_eq_false_iff.mp hin with h | h
      · exact Or.inl (inb_cases h)
      · exact Or.inr (Bool.and_eq_false_iff.mp h)
    refine ev_iload_n (q := 1) dX6_row_0 rfl rfl ?_
    refine ev_iconst (q := 2) (1) dX6_row_1 (by decide) rfl ?_
    refine ev_icmp_lt (q := 5) 24 dX6_row_2 (by decide) rfl (fun c_2 => ?_) (fun c_2 => ?_)
    · refine ev_bipush (q := 26) (-2) dX6_row_24 (by decide) rfl ?_
      exact ev_iretE dX6_row_26 rfl rfl rfl rfl rfl (hQ _ _)
    · have c_2 : ¬ kk < 1 := c_2
      refine ev_iload_n (q := 6) dX6_row_5 rfl rfl ?_
      refine ev_iconst (q := 7) (3) dX6_row_6 (by decide) rfl ?_
      refine ev_icmp_gt (q := 10) 24 dX6_row_7 (by decide) rfl (fun c_7 => ?_) (fun c_7 => ?_)
      · refine ev_bipush (q := 26) (-2) dX6_row_24 (by decide) rfl ?_
        exact ev_iretE dX6_row_26 rfl rfl rfl rfl rfl (hQ _ _)
      · have c_7 : ¬ 3 < kk := c_7
        refine ev_iload_n (q := 11) dX6_row_10 rfl rfl ?_
        refine ev_callS1i (q := 14) dX6_row_11 ca_X6_223 (c_X6_isWords _) (Nat.le_of_ble_eq_true rfl) (Nat.le_of_ble_eq_true rfl) (by decide) (by decide) rfl ?_
        refine ev_if_eq (q := 17) 24 dX6_row_14 (by decide) rfl (fun c_14 => ?_) (fun c_14 => ?_)
        · refine ev_bipush (q := 26) (-2) dX6_row_24 (by decide) rfl ?_
          exact ev_iretE dX6_row_26 rfl rfl rfl rfl rfl (hQ _ _)
        · have c_14 := b2i_n0.mp c_14
          refine ev_iload_n (q := 18) dX6_row_17 rfl rfl ?_
          refine ev_callS1i (q := 21) dX6_row_18 ca_X6_158 (c_X6_isBit _) (Nat.le_of_ble_eq_true rfl) (Nat.le_of_ble_eq_true rfl) (by decide) (by decide) rfl ?_
          refine ev_if_ne (q := 24) 27 dX6_row_21 (by decide) rfl (fun c_21 => ?_) (fun c_21 => ?_)
          · (have c_21 := b2i_ne.mp c_21; rcases h1 with (h | h) | (h | h); exact absurd h c_2; exact absurd h c_7; (rw [c_14] at h; cases h); (rw [c_21] at h; cases h))
          · refine ev_bipush (q := 26) (-2) dX6_row_24 (by decide) rfl ?_
            exact ev_iretE dX6_row_26 rfl rfl rfl rfl rfl (hQ _ _)
  | true =>
    rw [hin, if_pos rfl] at hQ
    obtain ⟨g1, g2⟩ := Bool.and_eq_true_iff.mp hin
    obtain ⟨g2, g3⟩ := Bool.and_eq_true_iff.mp g2
    obtain ⟨K, hK1, hK, rfl⟩ := inb_lo (lo := 1) (hi := 3) (by decide) g1 (by decide)
    obtain ⟨m, -, hm, rfl⟩ := inb_lo (lo := 0) (hi := 6) (by decide) g2 (by decide)
    rw [nI_clamp (by omega)] at hQ
    have lp : ∀ j i, i + j = K → 1 ≤ i → ∀ I0 S0 T0, (∀ p, p ≠ 28 → I0 p = I p) → PW I0 → (∀ w, w < 64 → S0 31 w < 1000000) → (∀ w, w < 2 ^ t → S0 31 w = rowF J t sl (nI m) (wtF I t wi) (i - 1) w) → Ev xl xs 5 119 0 0 mX6_row 55 [some (.ref 0), some (.int (nI K)), some (.int (nI m)), some (.int what), some (.int (nI i))] [] n (sysH (ov I0 S0) (ovJ J T0) X) Q := by
      intro j
      induction j using Nat.strongRecOn with
      | _ j ih =>
        intro i hij hi1 I0 S0 T0 hI hP hf hro
        have e : ∀ h1, _ := fun (h1 : j - 1 < j) => ih (j - 1) h1 (i + 1)
        have hk2 := KI_mono hk hI
        have ht2 := TOK_mono ht hI
        by_cases hiK : K ≤ i
        · have hiK : i = K := by omega
          have hla : lastA J t sl (nI m) what (S0 31) he = lastA J t sl (nI m) what (rowF J t sl (nI m) (wtF I t wi) (K - 1)) he := by
            rw [hiK] at hro
            unfold lastA
            rw [bsV_congr hro hhl, bsP_congr hro]
          refine ev_iload (q := 57) dX6_row_55 rfl rfl ?_
          refine ev_iload_n (q := 58) dX6_row_57 rfl rfl ?_
          refine ev_icmp_ge (q := 61) 104 dX6_row_58 (by decide) rfl (fun c_58 => ?_) (fun c_58 => ?_)
          · refine ev_aload_n (q := 105) dX6_row_104 rfl rfl ?_
            refine ev_iload_n (q := 106) dX6_row_105 rfl rfl ?_
            refine ev_iload_n (q := 107) dX6_row_106 rfl rfl ?_
            refine ev_callV2iX (q := 110) dX6_row_107 ca_X6_243 (k_firstOfRow hn hk2 ht2 hP hm hf) rfl (lt_n hn (by decide)) rfl rfl (Nat.le_of_ble_eq_true rfl) (Nat.le_of_ble_eq_true rfl) (by decide) (by decide) rfl (fun I2 S J2 T hp_107 => ?_)
            obtain ⟨d1, d2, d3⟩ := hp_107
            exact ev_iretE dX6_row_110 rfl rfl hla rfl rfl (hQ _ _ _ _ ⟨d1, fun p hp => (d2 p hp).trans (hI p hp), d3⟩)
          · exact absurd ((nI_leI (by omega) (by omega)).mpr (by omega)) c_58
        · have e := e (by omega) (by omega) (by omega)
          rw [show i + 1 - 1 = (i - 1) + 1 by omega] at e
          refine ev_iload (q := 57) dX6_row_55 rfl rfl ?_
          refine ev_iload_n (q := 58) dX6_row_57 rfl rfl ?_
          refine ev_icmp_ge (q := 61) 104 dX6_row_58 (by decide) rfl (fun c_58 => ?_) (fun c_58 => ?_)
          · exact absurd ((nI_leI (by omega) (by omega)).mp c_58) hiK
          · refine ev_aload_n (q := 62) dX6_row_61 rfl rfl ?_
            refine ev_get (q := 65) dX6_row_62 fr_X6_49 rfl (lt_n hn (by decide)) rfl rfl ?_
            refine ev_aload_n (q := 66) dX6_row_65 rfl rfl ?_
            refine ev_get (q := 69) dX6_row_66 fr_X6_60 rfl (lt_n hn (by decide)) rfl rfl ?_
            refine ev_iload_n (q := 70) dX6_row_69 rfl rfl ?_
            refine ev_bipush (q := 72) (-6) dX6_row_70 (by decide) rfl ?_
            refine ev_callV3vX (q := 75) dX6_row_72 ca_X6_229 (k_drawUp hn hk2 ht2 hP hm hf (Or.inl n6_lt)) rfl (lt_n hn (by decide)) rfl rfl (Nat.le_of_ble_eq_true rfl) (Nat.le_of_ble_eq_true rfl) (by decide) (by decide) rfl (fun I2 S J2 T hp_72 => ?_)
            obtain ⟨d1, d2, d3, d4, d5, d6, d7⟩ := hp_72
            subst d1
            have d31 := d5 31 (by decide) (by decide) (by decide) (by decide) (by decide)
            refine ev_aload_n (q := 76) dX6_row_75 rfl rfl ?_
            refine ev_get (q := 79) dX6_row_76 fr_X6_60 rfl (lt_n hn (by decide)) rfl rfl ?_
            refine ev_iconst (q := 80) (0) dX6_row_79 (by decide) rfl ?_
            refine ev_aload_n (q := 81) dX6_row_80 rfl rfl ?_
            refine ev_get (q := 84) dX6_row_81 fr_X6_64 rfl (lt_n hn (by decide)) rfl rfl ?_
            refine ev_iconst (q := 85) (0) dX6_row_84 (by decide) rfl ?_
            refine ev_bipush (q := 87) (64) dX6_row_85 (by decide) rfl ?_
            refine ev_cpyI (q := 90) dX6_row_87 (tb_in (tt_3 88 rfl) rfl) rfl (lt_n hn (by decide)) rfl (lt_n hn (by decide)) (by decide) (by decide) (by decide) (by decide) (by decide) (by decide) (by decide) rfl ?_
            rw [ovI_s _ (fun _ => rfl)]
            have c32 : ∀ x, x < 64 → setI S 32 (va_cpy (ov I2 S 31) (ov I2 S 32) (0 : Int32).toNatClampNeg (0 : Int32).toNatClampNeg (64 : Int32).toNatClampNeg) 32 x = S0 31 x := fun x hx => (cpy64 hx).trans (congrFun d31 x)
            refine ev_aload_n (q := 91) dX6_row_90 rfl rfl ?_
            refine ev_aload_n (q := 92) dX6_row_91 rfl rfl ?_
            refine ev_get (q := 95) dX6_row_92 fr_X6_64 rfl (lt_n hn (by decide)) rfl rfl ?_
            refine ev_callV1vP (q := 98) dX6_row_95 ca_X6_239 (k_follow hn (fun w hw => by obtain ⟨x, x1, x2, -⟩ := d6 w hw; exact ⟨x, x1, x2⟩)) rfl (lt_n hn (by decide)) rfl rfl (Nat.le_of_ble_eq_true rfl) (Nat.le_of_ble_eq_true rfl) (by decide) (by decide) rfl (fun S T hp_95 => ?_)
            obtain ⟨f1, f2, f3⟩ := hp_95
            refine ev_inc_4 (q := 101) (nI (i + 1)) dX6_row_98 (nI_1 i) rfl rfl ?_
            refine ev_goto 55 dX6_row_101 (by decide) ?_
            refine e _ _ _ (fun p hp => (d3 p hp).trans (hI p hp)) d4 (fun w hw => ?_) (fun w hw => ?_)
            · obtain ⟨x, x1, x2, -⟩ := d6 w hw
              rw [f3 w x hw x1 x2, c32 x x1]
              exact hf x x1
            · obtain ⟨-, q2, q3, q4⟩ := d7 w hw (Or.inl n6_lt)
              rw [f3 w _ (by omega) q2 q3, c32 _ q2, q4]
              exact bsV_congr hro hw
    obtain ⟨v1, v2⟩ := fl_wt hk hwi4
    refine ev_iload_n (q := 1) dX6_row_0 rfl rfl ?_
    refine ev_iconst (q := 2) (1) dX6_row_1 (by decide) rfl ?_
    refine ev_icmp_lt (q := 5) 24 dX6_row_2 (by decide) rfl (fun c_2 => ?_) (fun c_2 => ?_)
    · exact absurd ((nI_ltI (b := 1) (by omega) (by omega)).mp c_2) (by omega)
    · refine ev_iload_n (q := 6) dX6_row_5 rfl rfl ?_
      refine ev_iconst (q := 7) (3) dX6_row_6 (by decide) rfl ?_
      refine ev_icmp_gt (q := 10) 24 dX6_row_7 (by decide) rfl (fun c_7 => ?_) (fun c_7 => ?_)
      · exact absurd ((nI_ltI (a := 3) (by omega) (by omega)).mp c_7) (by omega)
      · refine ev_iload_n (q := 11) dX6_row_10 rfl rfl ?_
        refine ev_callS1i (q := 14) dX6_row_11 ca_X6_223 (c_X6_isWords _) (Nat.le_of_ble_eq_true rfl) (Nat.le_of_ble_eq_true rfl) (by decide) (by decide) rfl ?_
        refine ev_if_eq (q := 17) 24 dX6_row_14 (by decide) rfl (fun c_14 => ?_) (fun c_14 => ?_)
        · exact absurd c_14 (b2i_n0.mpr g2)
        · refine ev_iload_n (q := 18) dX6_row_17 rfl rfl ?_
          refine ev_callS1i (q := 21) dX6_row_18 ca_X6_158 (c_X6_isBit _) (Nat.le_of_ble_eq_true rfl) (Nat.le_of_ble_eq_true rfl) (by decide) (by decide) rfl ?_
          refine ev_if_ne (q := 24) 27 dX6_row_21 (by decide) rfl (fun c_21 => ?_) (fun c_21 => ?_)
          · refine ev_aload_n (q := 28) dX6_row_27 rfl rfl ?_
            refine ev_get (q := 31) dX6_row_28 fr_X6_10 rfl (lt_n hn (by decide)) rfl rfl ?_
            refine ev_get (q := 34) dX6_row_31 fr_X6_85 rfl (lt_n hn (by decide)) rfl rfl ?_
            refine ev_aload_n (q := 35) dX6_row_34 rfl rfl ?_
            refine ev_get (q := 38) dX6_row_35 fr_X6_10 rfl (lt_n hn (by decide)) rfl rfl ?_
            refine ev_get (q := 41) dX6_row_38 fr_X6_94 rfl (lt_n hn (by decide)) rfl rfl ?_
            refine ev_bipush (q := 43) (6) dX6_row_41 (by decide) rfl ?_
            rw [show ov I S 1 3 = nI wi from hk.2.1.2.2.2.1]
            refine ev_imul (q := 44) dX6_row_43 rfl ?_
            refine ev_iconst (q := 45) (1) dX6_row_44 (by decide) rfl ?_
            refine ev_aload_n (q := 46) dX6_row_45 rfl rfl ?_
            refine ev_get (q := 49) dX6_row_46 fr_X6_60 rfl (lt_n hn (by decide)) rfl rfl ?_
            rw [show nI wi * 6 = nI (6 * wi) from (pk_mul wi 6).trans (by rw [Nat.mul_comm])]
            refine ev_callS4v (q := 52) dX6_row_49 ca_X6_165 (k_fill_2_31 hn (by omega)) (Nat.le_of_ble_eq_true rfl) (Nat.le_of_ble_eq_true rfl) (by decide) (by decide) rfl ?_
            refine ev_iconst (q := 53) (1) dX6_row_52 (by decide) rfl ?_
            refine ev_ist_4 (q := 55) dX6_row_53 rfl rfl ?_
            exact lp (K - 1) 1 (by omega) (Nat.le_refl _) I _ _ (fun _ _ => rfl) hpw (fun w hw => by rw [fillA_at hw]; exact v1 w) (fun w hw => by rw [fillA_at (by omega)]; exact v2 w hw)
          · exact absurd c_21 (b2i_n0.mpr g3)
theorem k_X6_lamps (hn : 49 ≤ n) (hk : KI I J t sl wy wi he) (ht : TOK I J t) (hpw : PW I) (c most what : Int32) : RnX xl xs 5 119 mX6_lamps [.ref 0, .int c, .int most, .int what] n I S J T X (some (.int (if inb c 0 3 && decide (c ≠ nI wi) then (if inb most 0 6 && inb what 0 1 then lastA J t sl most what (fun w => wtF I t wi (toF J t sl most (wtF I t c.toNatClampNeg) w)) he else -2) else -1))) (roP I J) := by
  intro Q hQ
  have h6 := hk.1.2.2.1
  have h64 := p2_le h6
  have hhl := hk.1.2.2.2.2.2.2.2.2.2.2
  have hwi4 := hk.1.2.2.2.2.2.2.2.2.1
  show Ev xl xs 5 119 0 0 mX6_lamps 0 [some (.ref 0), some (.int c), some (.int most), some (.int what)] [] n (sysH (ov I S) (ovJ J T) X) Q
  cases hin : (inb c 0 3 && decide (c ≠ nI wi)) with
  | false =>
    rw [hin] at hQ
    have hQ : ∀ S' T', Q (some (.int (-1))) n (sysH (ov I S') (ovJ J T') X) := fun S' T' => hQ I S' J T' ⟨rfl, fun _ _ => rfl, hpw⟩
    have h1 : inb c 0 3 = false ∨ c = nI wi := by
      rcases Bool.and_eq_false_iff.mp hin with h | h
      · exact Or.inl h
      · have := of_decide_eq_false h; exact Or.inr (Decidable.not_not.mp this)
    refine ev_iload_n (q := 1) dX6_lamps_0 rfl rfl ?_
    refine ev_callS1i (q := 4) dX6_lamps_1 ca_X6_78 (c_X6_isCousin _) (Nat.le_of_ble_eq_true rfl) (Nat.le_of_ble_eq_true rfl) (by decide) (by decide) rfl ?_
    refine ev_if_eq (q := 7) 18 dX6_lamps_4 (by decide) rfl (fun c_4 => ?_) (fun c_4 => ?_)
    · refine ev_iconst (q := 19) (-1) dX6_lamps_18 (by decide) rfl ?_
      exact ev_iretE dX6_lamps_19 rfl rfl rfl rfl rfl (hQ _ _)
    · have c_4 := b2i_n0.mp c_4
      refine ev_iload_n (q := 8) dX6_lamps_7 rfl rfl ?_
      refine ev_aload_n (q := 9) dX6_lamps_8 rfl rfl ?_
      refine ev_get (q := 12) dX6_lamps_9 fr_X6_10 rfl (lt_n hn (by decide)) rfl rfl ?_
      refine ev_get (q := 15) dX6_lamps_12 fr_X6_94 rfl (lt_n hn (by decide)) rfl rfl ?_
      rw [show ov I S 1 3 = nI wi from hk.2.1.2.2.2.1]
      refine ev_icmp_ne (q := 18) 20 dX6_lamps_15 (by decide) rfl (fun c_15 => ?_) (fun c_15 => ?_)
      · (rcases h1 with h | h; (rw [c_4] at h; cases h); exact absurd h c_15)
      · refine ev_iconst (q := 19) (-1) dX6_lamps_18 (by decide) rfl ?_
        exact ev_iretE dX6_lamps_19 rfl rfl rfl rfl rfl (hQ _ _)
  | true =>
    obtain ⟨g0, g1⟩ := Bool.and_eq_true_iff.mp hin
    have g1 : ¬ c = nI wi := of_decide_eq_true g1
    obtain ⟨cn, -, hcn, rfl⟩ := inb_lo (lo := 0) (hi := 3) (by decide) g0 (by decide)
    rw [hin, if_pos rfl, nI_clamp (by omega)] at hQ
    cases hin2 : (inb most 0 6 && inb what 0 1) with
    | false =>
      rw [hin2] at hQ
      have hQ : ∀ S' T', Q (some (.int (-2))) n (sysH (ov I S') (ovJ J T') X) := fun S' T' => hQ I S' J T' ⟨rfl, fun _ _ => rfl, hpw⟩
      have h1 := Bool.and_eq_false_iff.mp hin2
      refine ev_iload_n (q := 1) dX6_lamps_0 rfl rfl ?_
      refine ev_callS1i (q := 4) dX6_lamps_1 ca_X6_78 (c_X6_isCousin _) (Nat.le_of_ble_eq_true rfl) (Nat.le_of_ble_eq_true rfl) (by decide) (by decide) rfl ?_
      refine ev_if_eq (q := 7) 18 dX6_lamps_4 (by decide) rfl (fun c_4 => ?_) (fun c_4 => ?_)
      · exact absurd c_4 (b2i_n0.mpr g0)
      · refine ev_iload_n (q := 8) dX6_lamps_7 rfl rfl ?_
        refine ev_aload_n (q := 9) dX6_lamps_8 rfl rfl ?_
        refine ev_get (q := 12) dX6_lamps_9 fr_X6_10 rfl (lt_n hn (by decide)) rfl rfl ?_
        refine ev_get (q := 15) dX6_lamps_12 fr_X6_94 rfl (lt_n hn (by decide)) rfl rfl ?_
        rw [show ov I S 1 3 = nI wi from hk.2.1.2.2.2.1]
        refine ev_icmp_ne (q := 18) 20 dX6_lamps_15 (by decide) rfl (fun c_15 => ?_) (fun c_15 => ?_)
        · refine ev_iload_n (q := 21) dX6_lamps_20 rfl rfl ?_
          refine ev_callS1i (q := 24) dX6_lamps_21 ca_X6_223 (c_X6_isWords _) (Nat.le_of_ble_eq_true rfl) (Nat.le_of_ble_eq_true rfl) (by decide) (by decide) rfl ?_
          refine ev_if_eq (q := 27) 34 dX6_lamps_24 (by decide) rfl (fun c_24 => ?_) (fun c_24 => ?_)
          · refine ev_bipush (q := 36) (-2) dX6_lamps_34 (by decide) rfl ?_
            exact ev_iretE dX6_lamps_36 rfl rfl rfl rfl rfl (hQ _ _)
          · have c_24 := b2i_n0.mp c_24
            refine ev_iload_n (q := 28) dX6_lamps_27 rfl rfl ?_
            refine ev_callS1i (q := 31) dX6_lamps_28 ca_X6_158 (c_X6_isBit _) (Nat.le_of_ble_eq_true rfl) (Nat.le_of_ble_eq_true rfl) (by decide) (by decide) rfl ?_
            refine ev_if_ne (q := 34) 37 dX6_lamps_31 (by decide) rfl (fun c_31 => ?_) (fun c_31 => ?_)
            · (have c_31 := b2i_ne.mp c_31; rcases h1 with h | h; (rw [c_24] at h; cases h); (rw [c_31] at h; cases h))
            · refine ev_bipush (q := 36) (-2) dX6_lamps_34 (by decide) rfl ?_
              exact ev_iretE dX6_lamps_36 rfl rfl rfl rfl rfl (hQ _ _)
        · exact absurd c_15 g1
    | true =>
      rw [hin2, if_pos rfl] at hQ
      obtain ⟨g2, g3⟩ := Bool.and_eq_true_iff.mp hin2
      obtain ⟨m, -, hm, rfl⟩ := inb_lo (lo := 0) (hi := 6) (by decide) g2 (by decide)
      obtain ⟨v1, v2⟩ := fl_wt hk (show cn < 4 by omega)
      have hf1 : ∀ w, w < 64 → fillA S 31 64 (fun w => (1 : Int32) * wsum (fun k => I 2 (6 * cn + k)) 6 w) 31 w < 1000000 := fun w hw => by rw [fillA_at hw]; exact v1 w
      have hf2 : ∀ w, w < 2 ^ t → fillA S 31 64 (fun w => (1 : Int32) * wsum (fun k => I 2 (6 * cn + k)) 6 w) 31 w = wtF I t cn w := fun w hw => by rw [fillA_at (by omega)]; exact v2 w hw
      generalize hS1 : fillA S 31 64 (fun w => (1 : Int32) * wsum (fun k => I 2 (6 * cn + k)) 6 w) = S1 at hf1 hf2
      refine ev_iload_n (q := 1) dX6_lamps_0 rfl rfl ?_
      refine ev_callS1i (q := 4) dX6_lamps_1 ca_X6_78 (c_X6_isCousin _) (Nat.le_of_ble_eq_true rfl) (Nat.le_of_ble_eq_true rfl) (by decide) (by decide) rfl ?_
      refine ev_if_eq (q := 7) 18 dX6_lamps_4 (by decide) rfl (fun c_4 => ?_) (fun c_4 => ?_)
      · exact absurd c_4 (b2i_n0.mpr g0)
      · refine ev_iload_n (q := 8) dX6_lamps_7 rfl rfl ?_
        refine ev_aload_n (q := 9) dX6_lamps_8 rfl rfl ?_
        refine ev_get (q := 12) dX6_lamps_9 fr_X6_10 rfl (lt_n hn (by decide)) rfl rfl ?_
        refine ev_get (q := 15) dX6_lamps_12 fr_X6_94 rfl (lt_n hn (by decide)) rfl rfl ?_
        rw [show ov I S 1 3 = nI wi from hk.2.1.2.2.2.1]
        refine ev_icmp_ne (q := 18) 20 dX6_lamps_15 (by decide) rfl (fun c_15 => ?_) (fun c_15 => ?_)
        · refine ev_iload_n (q := 21) dX6_lamps_20 rfl rfl ?_
          refine ev_callS1i (q := 24) dX6_lamps_21 ca_X6_223 (c_X6_isWords _) (Nat.le_of_ble_eq_true rfl) (Nat.le_of_ble_eq_true rfl) (by decide) (by decide) rfl ?_
          refine ev_if_eq (q := 27) 34 dX6_lamps_24 (by decide) rfl (fun c_24 => ?_) (fun c_24 => ?_)
          · exact absurd c_24 (b2i_n0.mpr g2)
          · refine ev_iload_n (q := 28) dX6_lamps_27 rfl rfl ?_
            refine ev_callS1i (q := 31) dX6_lamps_28 ca_X6_158 (c_X6_isBit _) (Nat.le_of_ble_eq_true rfl) (Nat.le_of_ble_eq_true rfl) (by decide) (by decide) rfl ?_
            refine ev_if_ne (q := 34) 37 dX6_lamps_31 (by decide) rfl (fun c_31 => ?_) (fun c_31 => ?_)
            · refine ev_aload_n (q := 38) dX6_lamps_37 rfl rfl ?_
              refine ev_get (q := 41) dX6_lamps_38 fr_X6_10 rfl (lt_n hn (by decide)) rfl rfl ?_
              refine ev_get (q := 44) dX6_lamps_41 fr_X6_85 rfl (lt_n hn (by decide)) rfl rfl ?_
              refine ev_iload_n (q := 45) dX6_lamps_44 rfl rfl ?_
              refine ev_bipush (q := 47) (6) dX6_lamps_45 (by decide) rfl ?_
              refine ev_imul (q := 48) dX6_lamps_47 rfl ?_
              refine ev_iconst (q := 49) (1) dX6_lamps_48 (by decide) rfl ?_
              refine ev_aload_n (q := 50) dX6_lamps_49 rfl rfl ?_
              refine ev_get (q := 53) dX6_lamps_50 fr_X6_60 rfl (lt_n hn (by decide)) rfl rfl ?_
              rw [show nI cn * 6 = nI (6 * cn) from (pk_mul cn 6).trans (by rw [Nat.mul_comm])]
              refine ev_callS4v (q := 56) dX6_lamps_53 ca_X6_165 (k_fill_2_31 hn (by omega)) (Nat.le_of_ble_eq_true rfl) (Nat.le_of_ble_eq_true rfl) (by decide) (by decide) rfl ?_
              rw [hS1]
              refine ev_aload_n (q := 57) dX6_lamps_56 rfl rfl ?_
              refine ev_get (q := 60) dX6_lamps_57 fr_X6_49 rfl (lt_n hn (by decide)) rfl rfl ?_
              refine ev_aload_n (q := 61) dX6_lamps_60 rfl rfl ?_
              refine ev_get (q := 64) dX6_lamps_61 fr_X6_60 rfl (lt_n hn (by decide)) rfl rfl ?_
              refine ev_iload_n (q := 65) dX6_lamps_64 rfl rfl ?_
              refine ev_bipush (q := 67) (-6) dX6_lamps_65 (by decide) rfl ?_
              refine ev_callV3vX (q := 70) dX6_lamps_67 ca_X6_229 (k_drawUp hn hk ht hpw hm hf1 (Or.inl n6_lt)) rfl (lt_n hn (by decide)) rfl rfl (Nat.le_of_ble_eq_true rfl) (Nat.le_of_ble_eq_true rfl) (by decide) (by decide) rfl (fun I2 S J2 T hp_67 => ?_)
              obtain ⟨d1, d2, d3, d4, d5, d6, d7⟩ := hp_67
              subst d1
              have hk2 := KI_mono hk d3
              have ht2 := TOK_mono ht d3
              obtain ⟨u1, u2⟩ := fl_wt hk2 hwi4
              refine ev_aload_n (q := 71) dX6_lamps_70 rfl rfl ?_
              refine ev_get (q := 74) dX6_lamps_71 fr_X6_10 rfl (lt_n hn (by decide)) rfl rfl ?_
              refine ev_get (q := 77) dX6_lamps_74 fr_X6_85 rfl (lt_n hn (by decide)) rfl rfl ?_
              refine ev_aload_n (q := 78) dX6_lamps_77 rfl rfl ?_
              refine ev_get (q := 81) dX6_lamps_78 fr_X6_10 rfl (lt_n hn (by decide)) rfl rfl ?_
              refine ev_get (q := 84) dX6_lamps_81 fr_X6_94 rfl (lt_n hn (by decide)) rfl rfl ?_
              refine ev_bipush (q := 86) (6) dX6_lamps_84 (by decide) rfl ?_
              rw [show ov I2 S 1 3 = nI wi from hk2.2.1.2.2.2.1]
              refine ev_imul (q := 87) dX6_lamps_86 rfl ?_
              refine ev_iconst (q := 88) (1) dX6_lamps_87 (by decide) rfl ?_
              refine ev_aload_n (q := 89) dX6_lamps_88 rfl rfl ?_
              refine ev_get (q := 92) dX6_lamps_89 fr_X6_64 rfl (lt_n hn (by decide)) rfl rfl ?_
              rw [show nI wi * 6 = nI (6 * wi) from (pk_mul wi 6).trans (by rw [Nat.mul_comm])]
              refine ev_callS4v (q := 95) dX6_lamps_92 ca_X6_165 (k_fill_2_32 hn (by omega)) (Nat.le_of_ble_eq_true rfl) (Nat.le_of_ble_eq_true rfl) (by decide) (by decide) rfl ?_
              refine ev_aload_n (q := 96) dX6_lamps_95 rfl rfl ?_
              refine ev_aload_n (q := 97) dX6_lamps_96 rfl rfl ?_
              refine ev_get (q := 100) dX6_lamps_97 fr_X6_64 rfl (lt_n hn (by decide)) rfl rfl ?_
              refine ev_callV1vP (q := 103) dX6_lamps_100 ca_X6_239 (k_follow hn (fun w hw => by obtain ⟨x, x1, x2, -⟩ := d6 w hw; exact ⟨x, x1, x2⟩)) rfl (lt_n hn (by decide)) rfl rfl (Nat.le_of_ble_eq_true rfl) (Nat.le_of_ble_eq_true rfl) (by decide) (by decide) rfl (fun S T hp_100 => ?_)
              obtain ⟨f1, f2, f3⟩ := hp_100
              have hf3 : ∀ w, w < 64 → S 31 w < 1000000 := fun w hw => by
                obtain ⟨x, x1, x2, -⟩ := d6 w hw
                rw [f3 w x hw x1 x2, fillA_at x1]
                exact u1 x
              have hf4 : ∀ w, w < 2 ^ t → S 31 w = wtF I t wi (toF J2 t sl (nI m) (wtF I t cn) w) := fun w hw => by
                obtain ⟨-, q2, q3, q4⟩ := d7 w hw (Or.inl n6_lt)
                have et : toF J2 t sl (nI m) (S1 31) w = toF J2 t sl (nI m) (wtF I t cn) w := toF_congr hf2
                rw [f3 w _ (by omega) q2 q3, fillA_at q2, et, u2 _ (toF_lt hw), wtF_28 d3]
              have hla : lastA J2 t sl (nI m) what (S 31) he = lastA J2 t sl (nI m) what (fun w => wtF I t wi (toF J2 t sl (nI m) (wtF I t cn) w)) he := by unfold lastA; rw [bsV_congr hf4 hhl, bsP_congr hf4]
              refine ev_aload_n (q := 104) dX6_lamps_103 rfl rfl ?_
              refine ev_iload_n (q := 105) dX6_lamps_104 rfl rfl ?_
              refine ev_iload_n (q := 106) dX6_lamps_105 rfl rfl ?_
              refine ev_callV2iX (q := 109) dX6_lamps_106 ca_X6_243 (k_firstOfRow hn hk2 ht2 d4 hm hf3) rfl (lt_n hn (by decide)) rfl rfl (Nat.le_of_ble_eq_true rfl) (Nat.le_of_ble_eq_true rfl) (by decide) (by decide) rfl (fun I2 S J2 T hp_106 => ?_)
              obtain ⟨l1, l2, l3⟩ := hp_106
              exact ev_iretE dX6_lamps_109 rfl rfl hla rfl rfl (hQ _ _ _ _ ⟨l1, fun p hp => (l2 p hp).trans (d3 p hp), l3⟩)
            · exact absurd c_31 (b2i_n0.mpr g3)
        · exact absurd c_15 g1
end CLS15
