theorem dX7_letters_0 : decode cX7_letters 0 = .ok (.iload_n 1, 1) := by decide +kernel
theorem dX7_letters_1 : decode cX7_letters 1 = .ok (.iconst 0, 1) := by decide +kernel
theorem dX7_letters_2 : decode cX7_letters 2 = .ok (.iconst 1, 1) := by decide +kernel
theorem dX7_letters_3 : decode cX7_letters 3 = .ok (.invokestatic 99, 3) := by decide +kernel
theorem dX7_letters_6 : decode cX7_letters 6 = .ok (.ifCond .ne 6, 3) := by decide +kernel
theorem dX7_letters_9 : decode cX7_letters 9 = .ok (.bipush (-2), 2) := by decide +kernel
theorem dX7_letters_11 : decode cX7_letters 11 = .ok (.ireturn, 1) := by decide +kernel
theorem dX7_letters_12 : decode cX7_letters 12 = .ok (.iconst 0, 1) := by decide +kernel
theorem dX7_letters_13 : decode cX7_letters 13 = .ok (.istore_n 2, 1) := by decide +kernel
theorem dX7_letters_14 : decode cX7_letters 14 = .ok (.bipush (-6), 2) := by decide +kernel
theorem dX7_letters_16 : decode cX7_letters 16 = .ok (.istore_n 3, 1) := by decide +kernel
theorem dX7_letters_17 : decode cX7_letters 17 = .ok (.iconst 0, 1) := by decide +kernel
theorem dX7_letters_18 : decode cX7_letters 18 = .ok (.istore 4, 2) := by decide +kernel
theorem dX7_letters_20 : decode cX7_letters 20 = .ok (.iload 4, 2) := by decide +kernel
theorem dX7_letters_22 : decode cX7_letters 22 = .ok (.aload_n 0, 1) := by decide +kernel
theorem dX7_letters_23 : decode cX7_letters 23 = .ok (.invokevirtual 201, 3) := by decide +kernel
theorem dX7_letters_26 : decode cX7_letters 26 = .ok (.if_icmp .ge 114, 3) := by decide +kernel
theorem dX7_letters_29 : decode cX7_letters 29 = .ok (.iconst 1, 1) := by decide +kernel
theorem dX7_letters_30 : decode cX7_letters 30 = .ok (.istore 5, 2) := by decide +kernel
theorem dX7_letters_32 : decode cX7_letters 32 = .ok (.iconst 0, 1) := by decide +kernel
theorem dX7_letters_33 : decode cX7_letters 33 = .ok (.istore 6, 2) := by decide +kernel
theorem dX7_letters_35 : decode cX7_letters 35 = .ok (.iload 6, 2) := by decide +kernel
theorem dX7_letters_37 : decode cX7_letters 37 = .ok (.aload_n 0, 1) := by decide +kernel
theorem dX7_letters_38 : decode cX7_letters 38 = .ok (.getfield 90, 3) := by decide +kernel
theorem dX7_letters_41 : decode cX7_letters 41 = .ok (.if_icmp .ge 50, 3) := by decide +kernel
theorem dX7_letters_44 : decode cX7_letters 44 = .ok (.iload 5, 2) := by decide +kernel
theorem dX7_letters_46 : decode cX7_letters 46 = .ok (.ifCond .eq 45, 3) := by decide +kernel
theorem dX7_letters_49 : decode cX7_letters 49 = .ok (.aload_n 0, 1) := by decide +kernel
theorem dX7_letters_50 : decode cX7_letters 50 = .ok (.iload 4, 2) := by decide +kernel
theorem dX7_letters_52 : decode cX7_letters 52 = .ok (.aload_n 0, 1) := by decide +kernel
theorem dX7_letters_53 : decode cX7_letters 53 = .ok (.getfield 33, 3) := by decide +kernel
theorem dX7_letters_56 : decode cX7_letters 56 = .ok (.iconst 2, 1) := by decide +kernel
theorem dX7_letters_57 : decode cX7_letters 57 = .ok (.iload 6, 2) := by decide +kernel
theorem dX7_letters_59 : decode cX7_letters 59 = .ok (.imul, 1) := by decide +kernel
theorem dX7_letters_60 : decode cX7_letters 60 = .ok (.iaload, 1) := by decide +kernel
theorem dX7_letters_61 : decode cX7_letters 61 = .ok (.invokevirtual 204, 3) := by decide +kernel
theorem dX7_letters_64 : decode cX7_letters 64 = .ok (.aload_n 0, 1) := by decide +kernel
theorem dX7_letters_65 : decode cX7_letters 65 = .ok (.getfield 33, 3) := by decide +kernel
theorem dX7_letters_68 : decode cX7_letters 68 = .ok (.iconst 2, 1) := by decide +kernel
theorem dX7_letters_69 : decode cX7_letters 69 = .ok (.iload 6, 2) := by decide +kernel
theorem dX7_letters_71 : decode cX7_letters 71 = .ok (.imul, 1) := by decide +kernel
theorem dX7_letters_72 : decode cX7_letters 72 = .ok (.iconst 1, 1) := by decide +kernel
theorem dX7_letters_73 : decode cX7_letters 73 = .ok (.iadd, 1) := by decide +kernel
theorem dX7_letters_74 : decode cX7_letters 74 = .ok (.iaload, 1) := by decide +kernel
theorem dX7_letters_75 : decode cX7_letters 75 = .ok (.if_icmp .ne 7, 3) := by decide +kernel
theorem dX7_letters_78 : decode cX7_letters 78 = .ok (.iconst 1, 1) := by decide +kernel
theorem dX7_letters_79 : decode cX7_letters 79 = .ok (.goto 4, 3) := by decide +kernel
theorem dX7_letters_82 : decode cX7_letters 82 = .ok (.iconst 0, 1) := by decide +kernel
theorem dX7_letters_83 : decode cX7_letters 83 = .ok (.istore 5, 2) := by decide +kernel
theorem dX7_letters_85 : decode cX7_letters 85 = .ok (.iinc 6 1, 3) := by decide +kernel
theorem dX7_letters_88 : decode cX7_letters 88 = .ok (.goto (-53), 3) := by decide +kernel
theorem dX7_letters_91 : decode cX7_letters 91 = .ok (.iload 5, 2) := by decide +kernel
theorem dX7_letters_93 : decode cX7_letters 93 = .ok (.ifCond .eq 26, 3) := by decide +kernel
theorem dX7_letters_96 : decode cX7_letters 96 = .ok (.iload_n 3, 1) := by decide +kernel
theorem dX7_letters_97 : decode cX7_letters 97 = .ok (.ifCond .lt 17, 3) := by decide +kernel
theorem dX7_letters_100 : decode cX7_letters 100 = .ok (.aload_n 0, 1) := by decide +kernel
theorem dX7_letters_101 : decode cX7_letters 101 = .ok (.iload 4, 2) := by decide +kernel
theorem dX7_letters_103 : decode cX7_letters 103 = .ok (.invokevirtual 207, 3) := by decide +kernel
theorem dX7_letters_106 : decode cX7_letters 106 = .ok (.aload_n 0, 1) := by decide +kernel
theorem dX7_letters_107 : decode cX7_letters 107 = .ok (.iload_n 3, 1) := by decide +kernel
theorem dX7_letters_108 : decode cX7_letters 108 = .ok (.invokevirtual 207, 3) := by decide +kernel
theorem dX7_letters_111 : decode cX7_letters 111 = .ok (.if_icmp .ge 8, 3) := by decide +kernel
theorem dX7_letters_114 : decode cX7_letters 114 = .ok (.iload 4, 2) := by decide +kernel
theorem dX7_letters_116 : decode cX7_letters 116 = .ok (.goto 4, 3) := by decide +kernel
theorem dX7_letters_119 : decode cX7_letters 119 = .ok (.iload_n 3, 1) := by decide +kernel
theorem dX7_letters_120 : decode cX7_letters 120 = .ok (.istore_n 3, 1) := by decide +kernel
theorem dX7_letters_121 : decode cX7_letters 121 = .ok (.iload_n 2, 1) := by decide +kernel
theorem dX7_letters_122 : decode cX7_letters 122 = .ok (.iload 5, 2) := by decide +kernel
theorem dX7_letters_124 : decode cX7_letters 124 = .ok (.ifCond .eq 7, 3) := by decide +kernel
theorem dX7_letters_127 : decode cX7_letters 127 = .ok (.iconst 1, 1) := by decide +kernel
theorem dX7_letters_128 : decode cX7_letters 128 = .ok (.goto 4, 3) := by decide +kernel
theorem dX7_letters_131 : decode cX7_letters 131 = .ok (.iconst 0, 1) := by decide +kernel
theorem dX7_letters_132 : decode cX7_letters 132 = .ok (.iadd, 1) := by decide +kernel
theorem dX7_letters_133 : decode cX7_letters 133 = .ok (.istore_n 2, 1) := by decide +kernel
theorem dX7_letters_134 : decode cX7_letters 134 = .ok (.iinc 4 1, 3) := by decide +kernel
theorem dX7_letters_137 : decode cX7_letters 137 = .ok (.goto (-117), 3) := by decide +kernel
theorem dX7_letters_140 : decode cX7_letters 140 = .ok (.iload_n 1, 1) := by decide +kernel
theorem dX7_letters_141 : decode cX7_letters 141 = .ok (.ifCond .ne 7, 3) := by decide +kernel
theorem dX7_letters_144 : decode cX7_letters 144 = .ok (.iload_n 2, 1) := by decide +kernel
theorem dX7_letters_145 : decode cX7_letters 145 = .ok (.goto 4, 3) := by decide +kernel
theorem dX7_letters_148 : decode cX7_letters 148 = .ok (.iload_n 3, 1) := by decide +kernel
theorem dX7_letters_149 : decode cX7_letters 149 = .ok (.ireturn, 1) := by decide +kernel
theorem dX7_year_0 : decode cX7_year 0 = .ok (.iload_n 1, 1) := by decide +kernel
theorem dX7_year_1 : decode cX7_year 1 = .ok (.iconst 0, 1) := by decide +kernel
theorem dX7_year_2 : decode cX7_year 2 = .ok (.sipush 9999, 3) := by decide +kernel
theorem dX7_year_5 : decode cX7_year 5 = .ok (.invokestatic 99, 3) := by decide +kernel
theorem dX7_year_8 : decode cX7_year 8 = .ok (.ifCond .eq 22, 3) := by decide +kernel
theorem dX7_year_11 : decode cX7_year 11 = .ok (.iload_n 2, 1) := by decide +kernel
theorem dX7_year_12 : decode cX7_year 12 = .ok (.iconst 1, 1) := by decide +kernel
theorem dX7_year_13 : decode cX7_year 13 = .ok (.bipush 99, 2) := by decide +kernel
theorem dX7_year_15 : decode cX7_year 15 = .ok (.invokestatic 99, 3) := by decide +kernel
theorem dX7_year_18 : decode cX7_year 18 = .ok (.ifCond .eq 12, 3) := by decide +kernel
theorem dX7_year_21 : decode cX7_year 21 = .ok (.iload_n 3, 1) := by decide +kernel
theorem dX7_year_22 : decode cX7_year 22 = .ok (.iconst 0, 1) := by decide +kernel
theorem dX7_year_23 : decode cX7_year 23 = .ok (.iconst 2, 1) := by decide +kernel
theorem dX7_year_24 : decode cX7_year 24 = .ok (.invokestatic 99, 3) := by decide +kernel
theorem dX7_year_27 : decode cX7_year 27 = .ok (.ifCond .ne 6, 3) := by decide +kernel
theorem dX7_year_30 : decode cX7_year 30 = .ok (.bipush (-2), 2) := by decide +kernel
theorem dX7_year_32 : decode cX7_year 32 = .ok (.ireturn, 1) := by decide +kernel
theorem dX7_year_33 : decode cX7_year 33 = .ok (.iload_n 1, 1) := by decide +kernel
theorem dX7_year_34 : decode cX7_year 34 = .ok (.istore 4, 2) := by decide +kernel
theorem dX7_year_36 : decode cX7_year 36 = .ok (.aload_n 0, 1) := by decide +kernel
theorem dX7_year_37 : decode cX7_year 37 = .ok (.getfield 73, 3) := by decide +kernel
theorem dX7_year_40 : decode cX7_year 40 = .ok (.istore 5, 2) := by decide +kernel
theorem dX7_year_42 : decode cX7_year 42 = .ok (.iconst 0, 1) := by decide +kernel
theorem dX7_year_43 : decode cX7_year 43 = .ok (.istore 6, 2) := by decide +kernel
theorem dX7_year_45 : decode cX7_year 45 = .ok (.iconst 0, 1) := by decide +kernel
theorem dX7_year_46 : decode cX7_year 46 = .ok (.istore 7, 2) := by decide +kernel
theorem dX7_year_48 : decode cX7_year 48 = .ok (.iconst 0, 1) := by decide +kernel
theorem dX7_year_49 : decode cX7_year 49 = .ok (.istore 8, 2) := by decide +kernel
theorem dX7_year_51 : decode cX7_year 51 = .ok (.iload 8, 2) := by decide +kernel
theorem dX7_year_53 : decode cX7_year 53 = .ok (.iload_n 2, 1) := by decide +kernel
theorem dX7_year_54 : decode cX7_year 54 = .ok (.if_icmp .ge 94, 3) := by decide +kernel
theorem dX7_year_57 : decode cX7_year 57 = .ok (.bipush 75, 2) := by decide +kernel
theorem dX7_year_59 : decode cX7_year 59 = .ok (.iload 4, 2) := by decide +kernel
theorem dX7_year_61 : decode cX7_year 61 = .ok (.imul, 1) := by decide +kernel
theorem dX7_year_62 : decode cX7_year 62 = .ok (.bipush 74, 2) := by decide +kernel
theorem dX7_year_64 : decode cX7_year 64 = .ok (.iadd, 1) := by decide +kernel
theorem dX7_year_65 : decode cX7_year 65 = .ok (.ldc 243, 2) := by decide +kernel
theorem dX7_year_67 : decode cX7_year 67 = .ok (.irem, 1) := by decide +kernel
theorem dX7_year_68 : decode cX7_year 68 = .ok (.istore 4, 2) := by decide +kernel
theorem dX7_year_70 : decode cX7_year 70 = .ok (.aload_n 0, 1) := by decide +kernel
theorem dX7_year_71 : decode cX7_year 71 = .ok (.iload 4, 2) := by decide +kernel
theorem dX7_year_73 : decode cX7_year 73 = .ok (.aload_n 0, 1) := by decide +kernel
theorem dX7_year_74 : decode cX7_year 74 = .ok (.invokevirtual 201, 3) := by decide +kernel
theorem dX7_year_77 : decode cX7_year 77 = .ok (.irem, 1) := by decide +kernel
theorem dX7_year_78 : decode cX7_year 78 = .ok (.iload 5, 2) := by decide +kernel
theorem dX7_year_80 : decode cX7_year 80 = .ok (.invokevirtual 204, 3) := by decide +kernel
theorem dX7_year_83 : decode cX7_year 83 = .ok (.istore 9, 2) := by decide +kernel
theorem dX7_year_85 : decode cX7_year 85 = .ok (.iload 6, 2) := by decide +kernel
theorem dX7_year_87 : decode cX7_year 87 = .ok (.iload 9, 2) := by decide +kernel
theorem dX7_year_89 : decode cX7_year 89 = .ok (.ifCond .ge 7, 3) := by decide +kernel
theorem dX7_year_92 : decode cX7_year 92 = .ok (.iconst 1, 1) := by decide +kernel
theorem dX7_year_93 : decode cX7_year 93 = .ok (.goto 4, 3) := by decide +kernel
theorem dX7_year_96 : decode cX7_year 96 = .ok (.iconst 0, 1) := by decide +kernel
theorem dX7_year_97 : decode cX7_year 97 = .ok (.iadd, 1) := by decide +kernel
theorem dX7_year_98 : decode cX7_year 98 = .ok (.istore 6, 2) := by decide +kernel
theorem dX7_year_100 : decode cX7_year 100 = .ok (.iload 9, 2) := by decide +kernel
theorem dX7_year_102 : decode cX7_year 102 = .ok (.ifCond .lt 40, 3) := by decide +kernel
theorem dX7_year_105 : decode cX7_year 105 = .ok (.iload 7, 2) := by decide +kernel
theorem dX7_year_107 : decode cX7_year 107 = .ok (.aload_n 0, 1) := by decide +kernel
theorem dX7_year_108 : decode cX7_year 108 = .ok (.aload_n 0, 1) := by decide +kernel
theorem dX7_year_109 : decode cX7_year 109 = .ok (.getfield 67, 3) := by decide +kernel
theorem dX7_year_112 : decode cX7_year 112 = .ok (.iload 9, 2) := by decide +kernel
theorem dX7_year_114 : decode cX7_year 114 = .ok (.invokevirtual 117, 3) := by decide +kernel
theorem dX7_year_117 : decode cX7_year 117 = .ok (.aload_n 0, 1) := by decide +kernel
theorem dX7_year_118 : decode cX7_year 118 = .ok (.aload_n 0, 1) := by decide +kernel
theorem dX7_year_119 : decode cX7_year 119 = .ok (.getfield 67, 3) := by decide +kernel
theorem dX7_year_122 : decode cX7_year 122 = .ok (.iload 5, 2) := by decide +kernel
theorem dX7_year_124 : decode cX7_year 124 = .ok (.invokevirtual 117, 3) := by decide +kernel
theorem dX7_year_127 : decode cX7_year 127 = .ok (.if_icmp .ge 7, 3) := by decide +kernel
theorem dX7_year_130 : decode cX7_year 130 = .ok (.iconst 1, 1) := by decide +kernel
theorem dX7_year_131 : decode cX7_year 131 = .ok (.goto 4, 3) := by decide +kernel
theorem dX7_year_134 : decode cX7_year 134 = .ok (.iconst 0, 1) := by decide +kernel
theorem dX7_year_135 : decode cX7_year 135 = .ok (.iadd, 1) := by decide +kernel
theorem dX7_year_136 : decode cX7_year 136 = .ok (.istore 7, 2) := by decide +kernel
theorem dX7_year_138 : decode cX7_year 138 = .ok (.iload 9, 2) := by decide +kernel
theorem dX7_year_140 : decode cX7_year 140 = .ok (.istore 5, 2) := by decide +kernel
theorem dX7_year_142 : decode cX7_year 142 = .ok (.iinc 8 1, 3) := by decide +kernel
theorem dX7_year_145 : decode cX7_year 145 = .ok (.goto (-94), 3) := by decide +kernel
theorem dX7_year_148 : decode cX7_year 148 = .ok (.iload_n 3, 1) := by decide +kernel
theorem dX7_year_149 : decode cX7_year 149 = .ok (.ifCond .ne 8, 3) := by decide +kernel
theorem dX7_year_152 : decode cX7_year 152 = .ok (.iload 6, 2) := by decide +kernel
theorem dX7_year_154 : decode cX7_year 154 = .ok (.goto 15, 3) := by decide +kernel
theorem dX7_year_157 : decode cX7_year 157 = .ok (.iload_n 3, 1) := by decide +kernel
theorem dX7_year_158 : decode cX7_year 158 = .ok (.iconst 1, 1) := by decide +kernel
theorem dX7_year_159 : decode cX7_year 159 = .ok (.if_icmp .ne 8, 3) := by decide +kernel
theorem dX7_year_162 : decode cX7_year 162 = .ok (.iload 5, 2) := by decide +kernel
theorem dX7_year_164 : decode cX7_year 164 = .ok (.goto 5, 3) := by decide +kernel
theorem dX7_year_167 : decode cX7_year 167 = .ok (.iload 7, 2) := by decide +kernel
theorem dX7_year_169 : decode cX7_year 169 = .ok (.ireturn, 1) := by decide +kernel
theorem dX7_layAhead_0 : decode cX7_layAhead 0 = .ok (.iconst 0, 1) := by decide +kernel
theorem dX7_layAhead_1 : decode cX7_layAhead 1 = .ok (.istore_n 2, 1) := by decide +kernel
theorem dX7_layAhead_2 : decode cX7_layAhead 2 = .ok (.iload_n 2, 1) := by decide +kernel
theorem dX7_layAhead_3 : decode cX7_layAhead 3 = .ok (.aload_n 0, 1) := by decide +kernel
theorem dX7_layAhead_4 : decode cX7_layAhead 4 = .ok (.invokevirtual 95, 3) := by decide +kernel
theorem dX7_layAhead_7 : decode cX7_layAhead 7 = .ok (.if_icmp .ge 21, 3) := by decide +kernel
theorem dX7_layAhead_10 : decode cX7_layAhead 10 = .ok (.aload_n 0, 1) := by decide +kernel
theorem dX7_layAhead_11 : decode cX7_layAhead 11 = .ok (.getfield 49, 3) := by decide +kernel
theorem dX7_layAhead_14 : decode cX7_layAhead 14 = .ok (.iload_n 2, 1) := by decide +kernel
theorem dX7_layAhead_15 : decode cX7_layAhead 15 = .ok (.aload_n 0, 1) := by decide +kernel
theorem dX7_layAhead_16 : decode cX7_layAhead 16 = .ok (.iload_n 1, 1) := by decide +kernel
theorem dX7_layAhead_17 : decode cX7_layAhead 17 = .ok (.iload_n 2, 1) := by decide +kernel
theorem dX7_layAhead_18 : decode cX7_layAhead 18 = .ok (.invokevirtual 117, 3) := by decide +kernel
theorem dX7_layAhead_21 : decode cX7_layAhead 21 = .ok (.iastore, 1) := by decide +kernel
theorem dX7_layAhead_22 : decode cX7_layAhead 22 = .ok (.iinc 2 1, 3) := by decide +kernel
theorem dX7_layAhead_25 : decode cX7_layAhead 25 = .ok (.goto (-23), 3) := by decide +kernel
theorem dX7_layAhead_28 : decode cX7_layAhead 28 = .ok (.return_, 1) := by decide +kernel
theorem dX7_bestFrom_0 : decode cX7_bestFrom 0 = .ok (.aload_n 0, 1) := by decide +kernel
theorem dX7_bestFrom_1 : decode cX7_bestFrom 1 = .ok (.bipush (-6), 2) := by decide +kernel
theorem dX7_bestFrom_3 : decode cX7_bestFrom 3 = .ok (.putfield 210, 3) := by decide +kernel
theorem dX7_bestFrom_6 : decode cX7_bestFrom 6 = .ok (.aload_n 0, 1) := by decide +kernel
theorem dX7_bestFrom_7 : decode cX7_bestFrom 7 = .ok (.getfield 49, 3) := by decide +kernel
theorem dX7_bestFrom_10 : decode cX7_bestFrom 10 = .ok (.iload_n 1, 1) := by decide +kernel
theorem dX7_bestFrom_11 : decode cX7_bestFrom 11 = .ok (.iaload, 1) := by decide +kernel
theorem dX7_bestFrom_12 : decode cX7_bestFrom 12 = .ok (.istore_n 3, 1) := by decide +kernel
theorem dX7_bestFrom_13 : decode cX7_bestFrom 13 = .ok (.iconst 0, 1) := by decide +kernel
theorem dX7_bestFrom_14 : decode cX7_bestFrom 14 = .ok (.istore 4, 2) := by decide +kernel
theorem dX7_bestFrom_16 : decode cX7_bestFrom 16 = .ok (.iload 4, 2) := by decide +kernel
theorem dX7_bestFrom_18 : decode cX7_bestFrom 18 = .ok (.aload_n 0, 1) := by decide +kernel
theorem dX7_bestFrom_19 : decode cX7_bestFrom 19 = .ok (.invokevirtual 201, 3) := by decide +kernel
theorem dX7_bestFrom_22 : decode cX7_bestFrom 22 = .ok (.if_icmp .ge 147, 3) := by decide +kernel
theorem dX7_bestFrom_25 : decode cX7_bestFrom 25 = .ok (.aload_n 0, 1) := by decide +kernel
theorem dX7_bestFrom_26 : decode cX7_bestFrom 26 = .ok (.iload 4, 2) := by decide +kernel
theorem dX7_bestFrom_28 : decode cX7_bestFrom 28 = .ok (.invokevirtual 207, 3) := by decide +kernel
theorem dX7_bestFrom_31 : decode cX7_bestFrom 31 = .ok (.iload_n 2, 1) := by decide +kernel
theorem dX7_bestFrom_32 : decode cX7_bestFrom 32 = .ok (.if_icmp .gt 131, 3) := by decide +kernel
theorem dX7_bestFrom_35 : decode cX7_bestFrom 35 = .ok (.aload_n 0, 1) := by decide +kernel
theorem dX7_bestFrom_36 : decode cX7_bestFrom 36 = .ok (.iload 4, 2) := by decide +kernel
theorem dX7_bestFrom_38 : decode cX7_bestFrom 38 = .ok (.invokevirtual 190, 3) := by decide +kernel
theorem dX7_bestFrom_41 : decode cX7_bestFrom 41 = .ok (.ldc 213, 2) := by decide +kernel
theorem dX7_bestFrom_43 : decode cX7_bestFrom 43 = .ok (.istore 5, 2) := by decide +kernel
theorem dX7_bestFrom_45 : decode cX7_bestFrom 45 = .ok (.iconst 0, 1) := by decide +kernel
theorem dX7_bestFrom_46 : decode cX7_bestFrom 46 = .ok (.istore 6, 2) := by decide +kernel
theorem dX7_bestFrom_48 : decode cX7_bestFrom 48 = .ok (.iload 6, 2) := by decide +kernel
theorem dX7_bestFrom_50 : decode cX7_bestFrom 50 = .ok (.aload_n 0, 1) := by decide +kernel
theorem dX7_bestFrom_51 : decode cX7_bestFrom 51 = .ok (.invokevirtual 95, 3) := by decide +kernel
theorem dX7_bestFrom_54 : decode cX7_bestFrom 54 = .ok (.if_icmp .ge 45, 3) := by decide +kernel
theorem dX7_bestFrom_57 : decode cX7_bestFrom 57 = .ok (.aload_n 0, 1) := by decide +kernel
theorem dX7_bestFrom_58 : decode cX7_bestFrom 58 = .ok (.iload 6, 2) := by decide +kernel
theorem dX7_bestFrom_60 : decode cX7_bestFrom 60 = .ok (.iload_n 1, 1) := by decide +kernel
theorem dX7_bestFrom_61 : decode cX7_bestFrom 61 = .ok (.invokevirtual 194, 3) := by decide +kernel
theorem dX7_bestFrom_64 : decode cX7_bestFrom 64 = .ok (.ifCond .eq 25, 3) := by decide +kernel
theorem dX7_bestFrom_67 : decode cX7_bestFrom 67 = .ok (.aload_n 0, 1) := by decide +kernel
theorem dX7_bestFrom_68 : decode cX7_bestFrom 68 = .ok (.getfield 49, 3) := by decide +kernel
theorem dX7_bestFrom_71 : decode cX7_bestFrom 71 = .ok (.iload 6, 2) := by decide +kernel
theorem dX7_bestFrom_73 : decode cX7_bestFrom 73 = .ok (.iaload, 1) := by decide +kernel
theorem dX7_bestFrom_74 : decode cX7_bestFrom 74 = .ok (.iload 5, 2) := by decide +kernel
theorem dX7_bestFrom_76 : decode cX7_bestFrom 76 = .ok (.if_icmp .ge 13, 3) := by decide +kernel
theorem dX7_bestFrom_79 : decode cX7_bestFrom 79 = .ok (.aload_n 0, 1) := by decide +kernel
theorem dX7_bestFrom_80 : decode cX7_bestFrom 80 = .ok (.getfield 49, 3) := by decide +kernel
theorem dX7_bestFrom_83 : decode cX7_bestFrom 83 = .ok (.iload 6, 2) := by decide +kernel
theorem dX7_bestFrom_85 : decode cX7_bestFrom 85 = .ok (.iaload, 1) := by decide +kernel
theorem dX7_bestFrom_86 : decode cX7_bestFrom 86 = .ok (.goto 5, 3) := by decide +kernel
theorem dX7_bestFrom_89 : decode cX7_bestFrom 89 = .ok (.iload 5, 2) := by decide +kernel
theorem dX7_bestFrom_91 : decode cX7_bestFrom 91 = .ok (.istore 5, 2) := by decide +kernel
theorem dX7_bestFrom_93 : decode cX7_bestFrom 93 = .ok (.iinc 6 1, 3) := by decide +kernel
theorem dX7_bestFrom_96 : decode cX7_bestFrom 96 = .ok (.goto (-48), 3) := by decide +kernel
theorem dX7_bestFrom_99 : decode cX7_bestFrom 99 = .ok (.aload_n 0, 1) := by decide +kernel
theorem dX7_bestFrom_100 : decode cX7_bestFrom 100 = .ok (.getfield 210, 3) := by decide +kernel
theorem dX7_bestFrom_103 : decode cX7_bestFrom 103 = .ok (.ifCond .lt 32, 3) := by decide +kernel
theorem dX7_bestFrom_106 : decode cX7_bestFrom 106 = .ok (.iload 5, 2) := by decide +kernel
theorem dX7_bestFrom_108 : decode cX7_bestFrom 108 = .ok (.iload_n 3, 1) := by decide +kernel
theorem dX7_bestFrom_109 : decode cX7_bestFrom 109 = .ok (.if_icmp .gt 26, 3) := by decide +kernel
theorem dX7_bestFrom_112 : decode cX7_bestFrom 112 = .ok (.iload 5, 2) := by decide +kernel
theorem dX7_bestFrom_114 : decode cX7_bestFrom 114 = .ok (.iload_n 3, 1) := by decide +kernel
theorem dX7_bestFrom_115 : decode cX7_bestFrom 115 = .ok (.if_icmp .ne 24, 3) := by decide +kernel
theorem dX7_bestFrom_118 : decode cX7_bestFrom 118 = .ok (.aload_n 0, 1) := by decide +kernel
theorem dX7_bestFrom_119 : decode cX7_bestFrom 119 = .ok (.iload 4, 2) := by decide +kernel
theorem dX7_bestFrom_121 : decode cX7_bestFrom 121 = .ok (.invokevirtual 207, 3) := by decide +kernel
theorem dX7_bestFrom_124 : decode cX7_bestFrom 124 = .ok (.aload_n 0, 1) := by decide +kernel
theorem dX7_bestFrom_125 : decode cX7_bestFrom 125 = .ok (.aload_n 0, 1) := by decide +kernel
theorem dX7_bestFrom_126 : decode cX7_bestFrom 126 = .ok (.getfield 210, 3) := by decide +kernel
theorem dX7_bestFrom_129 : decode cX7_bestFrom 129 = .ok (.invokevirtual 207, 3) := by decide +kernel
theorem dX7_bestFrom_132 : decode cX7_bestFrom 132 = .ok (.if_icmp .ge 7, 3) := by decide +kernel
theorem dX7_bestFrom_135 : decode cX7_bestFrom 135 = .ok (.iconst 1, 1) := by decide +kernel
theorem dX7_bestFrom_136 : decode cX7_bestFrom 136 = .ok (.goto 4, 3) := by decide +kernel
theorem dX7_bestFrom_139 : decode cX7_bestFrom 139 = .ok (.iconst 0, 1) := by decide +kernel
theorem dX7_bestFrom_140 : decode cX7_bestFrom 140 = .ok (.istore 6, 2) := by decide +kernel
theorem dX7_bestFrom_142 : decode cX7_bestFrom 142 = .ok (.iload 5, 2) := by decide +kernel
theorem dX7_bestFrom_144 : decode cX7_bestFrom 144 = .ok (.ldc 213, 2) := by decide +kernel
theorem dX7_bestFrom_146 : decode cX7_bestFrom 146 = .ok (.if_icmp .ge 17, 3) := by decide +kernel
theorem dX7_bestFrom_149 : decode cX7_bestFrom 149 = .ok (.iload 6, 2) := by decide +kernel
theorem dX7_bestFrom_151 : decode cX7_bestFrom 151 = .ok (.ifCond .eq 12, 3) := by decide +kernel
theorem dX7_bestFrom_154 : decode cX7_bestFrom 154 = .ok (.iload 5, 2) := by decide +kernel
theorem dX7_bestFrom_156 : decode cX7_bestFrom 156 = .ok (.istore_n 3, 1) := by decide +kernel
theorem dX7_bestFrom_157 : decode cX7_bestFrom 157 = .ok (.aload_n 0, 1) := by decide +kernel
theorem dX7_bestFrom_158 : decode cX7_bestFrom 158 = .ok (.iload 4, 2) := by decide +kernel
theorem dX7_bestFrom_160 : decode cX7_bestFrom 160 = .ok (.putfield 210, 3) := by decide +kernel
theorem dX7_bestFrom_163 : decode cX7_bestFrom 163 = .ok (.iinc 4 1, 3) := by decide +kernel
theorem dX7_bestFrom_166 : decode cX7_bestFrom 166 = .ok (.goto (-150), 3) := by decide +kernel
theorem dX7_bestFrom_169 : decode cX7_bestFrom 169 = .ok (.iload_n 3, 1) := by decide +kernel
theorem dX7_bestFrom_170 : decode cX7_bestFrom 170 = .ok (.ireturn, 1) := by decide +kernel
theorem dX7_row_0 : decode cX7_row 0 = .ok (.iload_n 1, 1) := by decide +kernel
theorem dX7_row_1 : decode cX7_row 1 = .ok (.iconst 1, 1) := by decide +kernel
theorem dX7_row_2 : decode cX7_row 2 = .ok (.iconst 3, 1) := by decide +kernel
theorem dX7_row_3 : decode cX7_row 3 = .ok (.invokestatic 99, 3) := by decide +kernel
theorem dX7_row_6 : decode cX7_row 6 = .ok (.ifCond .eq 22, 3) := by decide +kernel
theorem dX7_row_9 : decode cX7_row 9 = .ok (.iload_n 2, 1) := by decide +kernel
theorem dX7_row_10 : decode cX7_row 10 = .ok (.iconst 0, 1) := by decide +kernel
theorem dX7_row_11 : decode cX7_row 11 = .ok (.bipush 6, 2) := by decide +kernel
theorem dX7_row_13 : decode cX7_row 13 = .ok (.invokestatic 99, 3) := by decide +kernel
theorem dX7_row_16 : decode cX7_row 16 = .ok (.ifCond .eq 12, 3) := by decide +kernel
theorem dX7_row_19 : decode cX7_row 19 = .ok (.iload_n 3, 1) := by decide +kernel
theorem dX7_row_20 : decode cX7_row 20 = .ok (.iconst 0, 1) := by decide +kernel
theorem dX7_row_21 : decode cX7_row 21 = .ok (.iconst 1, 1) := by decide +kernel
theorem dX7_row_22 : decode cX7_row 22 = .ok (.invokestatic 99, 3) := by decide +kernel
theorem dX7_row_25 : decode cX7_row 25 = .ok (.ifCond .ne 6, 3) := by decide +kernel
theorem dX7_row_28 : decode cX7_row 28 = .ok (.bipush (-2), 2) := by decide +kernel
theorem dX7_row_30 : decode cX7_row 30 = .ok (.ireturn, 1) := by decide +kernel
theorem dX7_row_31 : decode cX7_row 31 = .ok (.aload_n 0, 1) := by decide +kernel
theorem dX7_row_32 : decode cX7_row 32 = .ok (.aload_n 0, 1) := by decide +kernel
theorem dX7_row_33 : decode cX7_row 33 = .ok (.getfield 67, 3) := by decide +kernel
theorem dX7_row_36 : decode cX7_row 36 = .ok (.invokevirtual 214, 3) := by decide +kernel
theorem dX7_row_39 : decode cX7_row 39 = .ok (.iconst 1, 1) := by decide +kernel
theorem dX7_row_40 : decode cX7_row 40 = .ok (.istore 4, 2) := by decide +kernel
theorem dX7_row_42 : decode cX7_row 42 = .ok (.iload 4, 2) := by decide +kernel
theorem dX7_row_44 : decode cX7_row 44 = .ok (.iload_n 1, 1) := by decide +kernel
theorem dX7_row_45 : decode cX7_row 45 = .ok (.if_icmp .ge 73, 3) := by decide +kernel
theorem dX7_row_48 : decode cX7_row 48 = .ok (.iconst 0, 1) := by decide +kernel
theorem dX7_row_49 : decode cX7_row 49 = .ok (.istore 5, 2) := by decide +kernel
theorem dX7_row_51 : decode cX7_row 51 = .ok (.iload 5, 2) := by decide +kernel
theorem dX7_row_53 : decode cX7_row 53 = .ok (.aload_n 0, 1) := by decide +kernel
theorem dX7_row_54 : decode cX7_row 54 = .ok (.invokevirtual 95, 3) := by decide +kernel
theorem dX7_row_57 : decode cX7_row 57 = .ok (.if_icmp .ge 23, 3) := by decide +kernel
theorem dX7_row_60 : decode cX7_row 60 = .ok (.aload_n 0, 1) := by decide +kernel
theorem dX7_row_61 : decode cX7_row 61 = .ok (.getfield 46, 3) := by decide +kernel
theorem dX7_row_64 : decode cX7_row 64 = .ok (.iload 5, 2) := by decide +kernel
theorem dX7_row_66 : decode cX7_row 66 = .ok (.aload_n 0, 1) := by decide +kernel
theorem dX7_row_67 : decode cX7_row 67 = .ok (.iload 5, 2) := by decide +kernel
theorem dX7_row_69 : decode cX7_row 69 = .ok (.iload_n 2, 1) := by decide +kernel
theorem dX7_row_70 : decode cX7_row 70 = .ok (.invokevirtual 217, 3) := by decide +kernel
theorem dX7_row_73 : decode cX7_row 73 = .ok (.iastore, 1) := by decide +kernel
theorem dX7_row_74 : decode cX7_row 74 = .ok (.iinc 5 1, 3) := by decide +kernel
theorem dX7_row_77 : decode cX7_row 77 = .ok (.goto (-26), 3) := by decide +kernel
theorem dX7_row_80 : decode cX7_row 80 = .ok (.iconst 0, 1) := by decide +kernel
theorem dX7_row_81 : decode cX7_row 81 = .ok (.istore 5, 2) := by decide +kernel
theorem dX7_row_83 : decode cX7_row 83 = .ok (.iload 5, 2) := by decide +kernel
theorem dX7_row_85 : decode cX7_row 85 = .ok (.aload_n 0, 1) := by decide +kernel
theorem dX7_row_86 : decode cX7_row 86 = .ok (.invokevirtual 95, 3) := by decide +kernel
theorem dX7_row_89 : decode cX7_row 89 = .ok (.if_icmp .ge 23, 3) := by decide +kernel
theorem dX7_row_92 : decode cX7_row 92 = .ok (.aload_n 0, 1) := by decide +kernel
theorem dX7_row_93 : decode cX7_row 93 = .ok (.getfield 49, 3) := by decide +kernel
theorem dX7_row_96 : decode cX7_row 96 = .ok (.iload 5, 2) := by decide +kernel
theorem dX7_row_98 : decode cX7_row 98 = .ok (.aload_n 0, 1) := by decide +kernel
theorem dX7_row_99 : decode cX7_row 99 = .ok (.getfield 46, 3) := by decide +kernel
theorem dX7_row_102 : decode cX7_row 102 = .ok (.iload 5, 2) := by decide +kernel
theorem dX7_row_104 : decode cX7_row 104 = .ok (.iaload, 1) := by decide +kernel
theorem dX7_row_105 : decode cX7_row 105 = .ok (.iastore, 1) := by decide +kernel
theorem dX7_row_106 : decode cX7_row 106 = .ok (.iinc 5 1, 3) := by decide +kernel
theorem dX7_row_109 : decode cX7_row 109 = .ok (.goto (-26), 3) := by decide +kernel
theorem dX7_row_112 : decode cX7_row 112 = .ok (.iinc 4 1, 3) := by decide +kernel
theorem dX7_row_115 : decode cX7_row 115 = .ok (.goto (-73), 3) := by decide +kernel
theorem dX7_row_118 : decode cX7_row 118 = .ok (.aload_n 0, 1) := by decide +kernel
theorem dX7_row_119 : decode cX7_row 119 = .ok (.aload_n 0, 1) := by decide +kernel
theorem dX7_row_120 : decode cX7_row 120 = .ok (.getfield 73, 3) := by decide +kernel
theorem dX7_row_123 : decode cX7_row 123 = .ok (.iload_n 2, 1) := by decide +kernel
theorem dX7_row_124 : decode cX7_row 124 = .ok (.invokevirtual 217, 3) := by decide +kernel
theorem dX7_row_127 : decode cX7_row 127 = .ok (.istore 4, 2) := by decide +kernel
theorem dX7_row_129 : decode cX7_row 129 = .ok (.iload_n 3, 1) := by decide +kernel
theorem dX7_row_130 : decode cX7_row 130 = .ok (.ifCond .ne 12, 3) := by decide +kernel
theorem dX7_row_133 : decode cX7_row 133 = .ok (.iload 4, 2) := by decide +kernel
theorem dX7_row_135 : decode cX7_row 135 = .ok (.sipush 1000, 3) := by decide +kernel
theorem dX7_row_138 : decode cX7_row 138 = .ok (.iadd, 1) := by decide +kernel
theorem dX7_row_139 : decode cX7_row 139 = .ok (.goto 7, 3) := by decide +kernel
theorem dX7_row_142 : decode cX7_row 142 = .ok (.aload_n 0, 1) := by decide +kernel
theorem dX7_row_143 : decode cX7_row 143 = .ok (.getfield 210, 3) := by decide +kernel
theorem dX7_row_146 : decode cX7_row 146 = .ok (.ireturn, 1) := by decide +kernel
theorem dX7_lamps_0 : decode cX7_lamps 0 = .ok (.iload_n 1, 1) := by decide +kernel
theorem dX7_lamps_1 : decode cX7_lamps 1 = .ok (.invokestatic 103, 3) := by decide +kernel
theorem dX7_lamps_4 : decode cX7_lamps 4 = .ok (.ifCond .eq 11, 3) := by decide +kernel
theorem dX7_lamps_7 : decode cX7_lamps 7 = .ok (.iload_n 1, 1) := by decide +kernel
theorem dX7_lamps_8 : decode cX7_lamps 8 = .ok (.aload_n 0, 1) := by decide +kernel
theorem dX7_lamps_9 : decode cX7_lamps 9 = .ok (.getfield 67, 3) := by decide +kernel
theorem dX7_lamps_12 : decode cX7_lamps 12 = .ok (.if_icmp .ne 5, 3) := by decide +kernel
theorem dX7_lamps_15 : decode cX7_lamps 15 = .ok (.iconst (-1), 1) := by decide +kernel
theorem dX7_lamps_16 : decode cX7_lamps 16 = .ok (.ireturn, 1) := by decide +kernel
theorem dX7_lamps_17 : decode cX7_lamps 17 = .ok (.iload_n 2, 1) := by decide +kernel
theorem dX7_lamps_18 : decode cX7_lamps 18 = .ok (.iconst 0, 1) := by decide +kernel
theorem dX7_lamps_19 : decode cX7_lamps 19 = .ok (.bipush 6, 2) := by decide +kernel
theorem dX7_lamps_21 : decode cX7_lamps 21 = .ok (.invokestatic 99, 3) := by decide +kernel
theorem dX7_lamps_24 : decode cX7_lamps 24 = .ok (.ifCond .eq 12, 3) := by decide +kernel
theorem dX7_lamps_27 : decode cX7_lamps 27 = .ok (.iload_n 3, 1) := by decide +kernel
theorem dX7_lamps_28 : decode cX7_lamps 28 = .ok (.iconst 0, 1) := by decide +kernel
theorem dX7_lamps_29 : decode cX7_lamps 29 = .ok (.iconst 1, 1) := by decide +kernel
theorem dX7_lamps_30 : decode cX7_lamps 30 = .ok (.invokestatic 99, 3) := by decide +kernel
theorem dX7_lamps_33 : decode cX7_lamps 33 = .ok (.ifCond .ne 6, 3) := by decide +kernel
theorem dX7_lamps_36 : decode cX7_lamps 36 = .ok (.bipush (-2), 2) := by decide +kernel
theorem dX7_lamps_38 : decode cX7_lamps 38 = .ok (.ireturn, 1) := by decide +kernel
theorem dX7_lamps_39 : decode cX7_lamps 39 = .ok (.aload_n 0, 1) := by decide +kernel
theorem dX7_lamps_40 : decode cX7_lamps 40 = .ok (.iload_n 1, 1) := by decide +kernel
theorem dX7_lamps_41 : decode cX7_lamps 41 = .ok (.invokevirtual 214, 3) := by decide +kernel
theorem dX7_lamps_44 : decode cX7_lamps 44 = .ok (.iconst 0, 1) := by decide +kernel
theorem dX7_lamps_45 : decode cX7_lamps 45 = .ok (.istore 4, 2) := by decide +kernel
theorem dX7_lamps_47 : decode cX7_lamps 47 = .ok (.iload 4, 2) := by decide +kernel
theorem dX7_lamps_49 : decode cX7_lamps 49 = .ok (.aload_n 0, 1) := by decide +kernel
theorem dX7_lamps_50 : decode cX7_lamps 50 = .ok (.invokevirtual 95, 3) := by decide +kernel
theorem dX7_lamps_53 : decode cX7_lamps 53 = .ok (.if_icmp .ge 113, 3) := by decide +kernel
theorem dX7_lamps_56 : decode cX7_lamps 56 = .ok (.aload_n 0, 1) := by decide +kernel
theorem dX7_lamps_57 : decode cX7_lamps 57 = .ok (.iload 4, 2) := by decide +kernel
theorem dX7_lamps_59 : decode cX7_lamps 59 = .ok (.iload_n 2, 1) := by decide +kernel
theorem dX7_lamps_60 : decode cX7_lamps 60 = .ok (.invokevirtual 217, 3) := by decide +kernel
theorem dX7_lamps_63 : decode cX7_lamps 63 = .ok (.istore 5, 2) := by decide +kernel
theorem dX7_lamps_65 : decode cX7_lamps 65 = .ok (.iload 4, 2) := by decide +kernel
theorem dX7_lamps_67 : decode cX7_lamps 67 = .ok (.istore 6, 2) := by decide +kernel
theorem dX7_lamps_69 : decode cX7_lamps 69 = .ok (.aload_n 0, 1) := by decide +kernel
theorem dX7_lamps_70 : decode cX7_lamps 70 = .ok (.getfield 210, 3) := by decide +kernel
theorem dX7_lamps_73 : decode cX7_lamps 73 = .ok (.ifCond .lt 70, 3) := by decide +kernel
theorem dX7_lamps_76 : decode cX7_lamps 76 = .ok (.aload_n 0, 1) := by decide +kernel
theorem dX7_lamps_77 : decode cX7_lamps 77 = .ok (.aload_n 0, 1) := by decide +kernel
theorem dX7_lamps_78 : decode cX7_lamps 78 = .ok (.getfield 210, 3) := by decide +kernel
theorem dX7_lamps_81 : decode cX7_lamps 81 = .ok (.invokevirtual 190, 3) := by decide +kernel
theorem dX7_lamps_84 : decode cX7_lamps 84 = .ok (.bipush (-6), 2) := by decide +kernel
theorem dX7_lamps_86 : decode cX7_lamps 86 = .ok (.istore 6, 2) := by decide +kernel
theorem dX7_lamps_88 : decode cX7_lamps 88 = .ok (.iconst 0, 1) := by decide +kernel
theorem dX7_lamps_89 : decode cX7_lamps 89 = .ok (.istore 7, 2) := by decide +kernel
theorem dX7_lamps_91 : decode cX7_lamps 91 = .ok (.iload 7, 2) := by decide +kernel
theorem dX7_lamps_93 : decode cX7_lamps 93 = .ok (.aload_n 0, 1) := by decide +kernel
theorem dX7_lamps_94 : decode cX7_lamps 94 = .ok (.invokevirtual 95, 3) := by decide +kernel
theorem dX7_lamps_97 : decode cX7_lamps 97 = .ok (.if_icmp .ge 46, 3) := by decide +kernel
theorem dX7_lamps_100 : decode cX7_lamps 100 = .ok (.iload 6, 2) := by decide +kernel
theorem dX7_lamps_102 : decode cX7_lamps 102 = .ok (.ifCond .ge 31, 3) := by decide +kernel
theorem dX7_lamps_105 : decode cX7_lamps 105 = .ok (.aload_n 0, 1) := by decide +kernel
theorem dX7_lamps_106 : decode cX7_lamps 106 = .ok (.iload 7, 2) := by decide +kernel
theorem dX7_lamps_108 : decode cX7_lamps 108 = .ok (.iload 4, 2) := by decide +kernel
theorem dX7_lamps_110 : decode cX7_lamps 110 = .ok (.invokevirtual 194, 3) := by decide +kernel
theorem dX7_lamps_113 : decode cX7_lamps 113 = .ok (.ifCond .eq 20, 3) := by decide +kernel
theorem dX7_lamps_116 : decode cX7_lamps 116 = .ok (.aload_n 0, 1) := by decide +kernel
theorem dX7_lamps_117 : decode cX7_lamps 117 = .ok (.getfield 49, 3) := by decide +kernel
theorem dX7_lamps_120 : decode cX7_lamps 120 = .ok (.iload 7, 2) := by decide +kernel
theorem dX7_lamps_122 : decode cX7_lamps 122 = .ok (.iaload, 1) := by decide +kernel
theorem dX7_lamps_123 : decode cX7_lamps 123 = .ok (.iload 5, 2) := by decide +kernel
theorem dX7_lamps_125 : decode cX7_lamps 125 = .ok (.if_icmp .ne 8, 3) := by decide +kernel
theorem dX7_lamps_128 : decode cX7_lamps 128 = .ok (.iload 7, 2) := by decide +kernel
theorem dX7_lamps_130 : decode cX7_lamps 130 = .ok (.goto 5, 3) := by decide +kernel
theorem dX7_lamps_133 : decode cX7_lamps 133 = .ok (.iload 6, 2) := by decide +kernel
theorem dX7_lamps_135 : decode cX7_lamps 135 = .ok (.istore 6, 2) := by decide +kernel
theorem dX7_lamps_137 : decode cX7_lamps 137 = .ok (.iinc 7 1, 3) := by decide +kernel
theorem dX7_lamps_140 : decode cX7_lamps 140 = .ok (.goto (-49), 3) := by decide +kernel
theorem dX7_lamps_143 : decode cX7_lamps 143 = .ok (.aload_n 0, 1) := by decide +kernel
theorem dX7_lamps_144 : decode cX7_lamps 144 = .ok (.getfield 46, 3) := by decide +kernel
theorem dX7_lamps_147 : decode cX7_lamps 147 = .ok (.iload 4, 2) := by decide +kernel
theorem dX7_lamps_149 : decode cX7_lamps 149 = .ok (.aload_n 0, 1) := by decide +kernel
theorem dX7_lamps_150 : decode cX7_lamps 150 = .ok (.aload_n 0, 1) := by decide +kernel
theorem dX7_lamps_151 : decode cX7_lamps 151 = .ok (.getfield 67, 3) := by decide +kernel
theorem dX7_lamps_154 : decode cX7_lamps 154 = .ok (.iload 6, 2) := by decide +kernel
theorem dX7_lamps_156 : decode cX7_lamps 156 = .ok (.invokevirtual 117, 3) := by decide +kernel
theorem dX7_lamps_159 : decode cX7_lamps 159 = .ok (.iastore, 1) := by decide +kernel
theorem dX7_lamps_160 : decode cX7_lamps 160 = .ok (.iinc 4 1, 3) := by decide +kernel
theorem dX7_lamps_163 : decode cX7_lamps 163 = .ok (.goto (-116), 3) := by decide +kernel
theorem dX7_lamps_166 : decode cX7_lamps 166 = .ok (.iconst 0, 1) := by decide +kernel
theorem dX7_lamps_167 : decode cX7_lamps 167 = .ok (.istore 4, 2) := by decide +kernel
theorem dX7_lamps_169 : decode cX7_lamps 169 = .ok (.iload 4, 2) := by decide +kernel
theorem dX7_lamps_171 : decode cX7_lamps 171 = .ok (.aload_n 0, 1) := by decide +kernel
theorem dX7_lamps_172 : decode cX7_lamps 172 = .ok (.invokevirtual 95, 3) := by decide +kernel
theorem dX7_lamps_175 : decode cX7_lamps 175 = .ok (.if_icmp .ge 23, 3) := by decide +kernel
theorem dX7_lamps_178 : decode cX7_lamps 178 = .ok (.aload_n 0, 1) := by decide +kernel
theorem dX7_lamps_179 : decode cX7_lamps 179 = .ok (.getfield 49, 3) := by decide +kernel
theorem dX7_lamps_182 : decode cX7_lamps 182 = .ok (.iload 4, 2) := by decide +kernel
theorem dX7_lamps_184 : decode cX7_lamps 184 = .ok (.aload_n 0, 1) := by decide +kernel
theorem dX7_lamps_185 : decode cX7_lamps 185 = .ok (.getfield 46, 3) := by decide +kernel
theorem dX7_lamps_188 : decode cX7_lamps 188 = .ok (.iload 4, 2) := by decide +kernel
theorem dX7_lamps_190 : decode cX7_lamps 190 = .ok (.iaload, 1) := by decide +kernel
theorem dX7_lamps_191 : decode cX7_lamps 191 = .ok (.iastore, 1) := by decide +kernel
theorem dX7_lamps_192 : decode cX7_lamps 192 = .ok (.iinc 4 1, 3) := by decide +kernel
theorem dX7_lamps_195 : decode cX7_lamps 195 = .ok (.goto (-26), 3) := by decide +kernel
theorem dX7_lamps_198 : decode cX7_lamps 198 = .ok (.aload_n 0, 1) := by decide +kernel
theorem dX7_lamps_199 : decode cX7_lamps 199 = .ok (.aload_n 0, 1) := by decide +kernel
theorem dX7_lamps_200 : decode cX7_lamps 200 = .ok (.getfield 73, 3) := by decide +kernel
theorem dX7_lamps_203 : decode cX7_lamps 203 = .ok (.iload_n 2, 1) := by decide +kernel
theorem dX7_lamps_204 : decode cX7_lamps 204 = .ok (.invokevirtual 217, 3) := by decide +kernel
theorem dX7_lamps_207 : decode cX7_lamps 207 = .ok (.istore 4, 2) := by decide +kernel
theorem dX7_lamps_209 : decode cX7_lamps 209 = .ok (.iload_n 3, 1) := by decide +kernel
theorem dX7_lamps_210 : decode cX7_lamps 210 = .ok (.ifCond .ne 12, 3) := by decide +kernel
theorem dX7_lamps_213 : decode cX7_lamps 213 = .ok (.iload 4, 2) := by decide +kernel
theorem dX7_lamps_215 : decode cX7_lamps 215 = .ok (.sipush 1000, 3) := by decide +kernel
theorem dX7_lamps_218 : decode cX7_lamps 218 = .ok (.iadd, 1) := by decide +kernel
theorem dX7_lamps_219 : decode cX7_lamps 219 = .ok (.goto 7, 3) := by decide +kernel
theorem dX7_lamps_222 : decode cX7_lamps 222 = .ok (.aload_n 0, 1) := by decide +kernel
theorem dX7_lamps_223 : decode cX7_lamps 223 = .ok (.getfield 210, 3) := by decide +kernel
theorem dX7_lamps_226 : decode cX7_lamps 226 = .ok (.ireturn, 1) := by decide +kernel
def fillA (S : Nat → Nat → Int32) (p N : Nat) (f : Nat → Int32) : Nat → Nat → Int32 := setI S p (fun j => if j < N then f j else S p j)
theorem fillA_0 (S : Nat → Nat → Int32) (p : Nat) (f : Nat → Int32) : fillA S p 0 f = S := by
  funext a b
  by_cases ha : a = p
  · subst ha; simp [fillA, setI]
  · simp [fillA, setI, ha]
theorem fillA_s (S : Nat → Nat → Int32) (p k : Nat) (f : Nat → Int32) : setI (fillA S p k f) p (upd (fillA S p k f p) k (f k)) = fillA S p (k + 1) f := by
  funext a b
  by_cases ha : a = p
  · subst ha
    by_cases hb : b = k
    · subst hb; simp [fillA, setI, upd]
    · by_cases h1 : b < k
      · simp [fillA, setI, upd, hb, h1, show b < k + 1 by omega]
      · simp [fillA, setI, upd, hb, h1, show ¬ b < k + 1 by omega]
  · simp [fillA, setI, ha]
theorem fillA_at {S : Nat → Nat → Int32} {p N j : Nat} {f : Nat → Int32} (h : j < N) : fillA S p N f p j = f j := by simp [fillA, setI, h]
theorem fillA_ne {S : Nat → Nat → Int32} {p N q : Nat} {f : Nat → Int32} (h : q ≠ p) : fillA S p N f q = S q := by simp [fillA, setI, h]
/-- the worst of what keeps a term -/
def woF (J : Nat → Nat → Int64) (t sl a : Nat) (f : Nat → Int32) (num : Nat) : Int32 := upto (fun w x => if ktT J t sl num a w && decide (f w < x) then f w else x) (2 ^ t) 1000000
def ownB (J : Nat → Nat → Int64) (t sl a : Nat) (f : Nat → Int32) (most : Int32) : Nat → Option Int32 := fun k => if nI (wd t k) ≤ most then (if woF J t sl a f k < 1000000 then some (woF J t sl a f k) else none) else none
def bsP (J : Nat → Nat → Int64) (t sl : Nat) (most : Int32) (f : Nat → Int32) (a : Nat) : Option (Nat × Int32) := upto (pickB (btW t) (ownB J t sl a f most)) (3 ^ t) none
def bsV (J : Nat → Nat → Int64) (t sl : Nat) (most : Int32) (f : Nat → Int32) (a : Nat) : Int32 := match bsP J t sl most f a with
  | none => f a
  | some p => p.2
def bvA (x : Int32) : Option (Nat × Int32) → Int32
  | none => x
  | some p => p.2
theorem upto_congr {α : Type} {f g : Nat → α → α} {a : α} : ∀ {N : Nat}, (∀ k, k < N → ∀ x, f k x = g k x) → upto f N a = upto g N a
  | 0, _ => rfl
  | N + 1, h => by
    show f N (upto f N a) = g N (upto g N a)
    rw [upto_congr (fun k hk => h k (by omega)), h N (by omega)]
theorem woF_congr {J : Nat → Nat → Int64} {t sl a num : Nat} {f g : Nat → Int32} (h : ∀ w, w < 2 ^ t → f w = g w) : woF J t sl a f num = woF J t sl a g num := upto_congr (fun w hw x => by rw [h w hw])
theorem bsP_congr {J : Nat → Nat → Int64} {t sl a : Nat} {most : Int32} {f g : Nat → Int32} (h : ∀ w, w < 2 ^ t → f w = g w) : bsP J t sl most f a = bsP J t sl most g a := upto_congr (fun k _ x => by simp only [pickB, ownB, woF_congr h])
theorem bsV_congr {J : Nat → Nat → Int64} {t sl a : Nat} {most : Int32} {f g : Nat → Int32} (h : ∀ w, w < 2 ^ t → f w = g w) (ha : a < 2 ^ t) : bsV J t sl most f a = bsV J t sl most g a := by simp only [bsV, bsP_congr h, h a ha]
section MODEL9
variable {xl : Nat} {xs : Nat → Int32} {n : Nat} {h : Nat → PC} {I S : Nat → Nat → Int32} {J T : Nat → Nat → Int64} {X : Nat → Option Nat} {t sl wy wi he : Nat}
theorem s_X7_layAhead {c : Nat} (hn : 49 ≤ n) (hm : MI I t sl wy wi he) (hc : c < 4) : Rn xl xs 2 45 0 0 mX7_layAhead [.ref 33, .int (nI c)] n (sysH (ov I S) (ovJ J T) X) none n (sysH (ov I (fillA S 45 (2 ^ t) (wtF I t c))) (ovJ J T) X) := by
  intro Q hQ
  have h64 := p2_le hm.2.2.1
  show Ev xl xs 2 45 0 0 mX7_layAhead 0 [some (.ref 33), some (.int (nI c)), none] [] n (sysH (ov I S) (ovJ J T) X) Q
  have lp : ∀ j k, k + j = 2 ^ t → Ev xl xs 2 45 0 0 mX7_layAhead 2 [some (.ref 33), some (.int (nI c)), some (.int (nI k))] [] n (sysH (ov I (fillA S 45 k (wtF I t c))) (ovJ J T) X) Q := by
    intro j
    induction j using Nat.strongRecOn with
    | _ j ih =>
      intro k hk
      refine ev_iload_n (q := 3) dX7_layAhead_2 rfl rfl ?_
      refine ev_aload_n (q := 4) dX7_layAhead_3 rfl rfl ?_
      refine ev_callV0i (q := 7) dX7_layAhead_4 ca_X7_95 (s_X7_worlds hn hm) rfl (lt_n hn (by decide)) rfl rfl (Nat.le_of_ble_eq_true rfl) (Nat.le_of_ble_eq_true rfl) (by decide) (by decide) rfl ?_
      refine ev_icmp_ge (q := 10) 28 dX7_layAhead_7 (by decide) rfl (fun c_7 => ?_) (fun c_7 => ?_)
      · have c_7 : 2 ^ t ≤ k := (nI_leI (by omega) (by omega)).mp c_7
        exact ev_retE dX7_layAhead_28 rfl rfl (by rw [show k = 2 ^ t by omega]) hQ
      · have c_7 : ¬ 2 ^ t ≤ k := fun h => c_7 ((nI_leI (by omega) (by omega)).mpr h)
        refine ev_aload_n (q := 11) dX7_layAhead_10 rfl rfl ?_
        refine ev_get (q := 14) dX7_layAhead_11 fr_X7_49 rfl (lt_n hn (by decide)) rfl rfl ?_
        refine ev_iload_n (q := 15) dX7_layAhead_14 rfl rfl ?_
        refine ev_aload_n (q := 16) dX7_layAhead_15 rfl rfl ?_
        refine ev_iload_n (q := 17) dX7_layAhead_16 rfl rfl ?_
        refine ev_iload_n (q := 18) dX7_layAhead_17 rfl rfl ?_
        refine ev_callV2i (q := 21) dX7_layAhead_18 ca_X7_117 (s_X7_worthTo hn hm (by omega) (by omega)) rfl (lt_n hn (by decide)) rfl rfl (Nat.le_of_ble_eq_true rfl) (Nat.le_of_ble_eq_true rfl) (by decide) (by decide) rfl ?_
        refine ev_isS (q := 22) _ dX7_layAhead_21 rfl rfl (by omega) (lt_n hn (by decide)) rfl ?_
        rw [ovf (p := 45) rfl, fillA_s]
        refine ev_inc_2 (q := 25) (nI (k + 1)) dX7_layAhead_22 (nI_1 k) rfl rfl ?_
        refine ev_goto 2 dX7_layAhead_25 (by decide) ?_
        exact ih (j - 1) (by omega) (k + 1) (by omega)
  refine ev_iconst (q := 1) (0) dX7_layAhead_0 (by decide) rfl ?_
  refine ev_ist_2 (q := 2) dX7_layAhead_1 rfl rfl ?_
  have e := lp (2 ^ t) 0 (by omega)
  rw [fillA_0] at e
  exact e
theorem s_X7_bestFrom {a : Nat} {most : Int32} (hn : 49 ≤ n) (hm : MI I t sl wy wi he) (ha : a < 2 ^ t) : RnP xl xs 2 47 mX7_bestFrom [.ref 33, .int (nI a), .int most] n I S J T X (some (.int (bsV J t sl most (S 45) a))) (fun S' T' => T' = T ∧ S' 44 = S 44 ∧ S' 45 = S 45 ∧ S' 33 25 = eoP (bsP J t sl most (S 45) a)) := by
  intro Q hQ
  have hm' := hm
  obtain ⟨ht, ht2, h6, hs, hs6, hwy, h3, hwi, h4, hhe, hhl⟩ := hm'
  have h64 := p2_le h6
  have h729 := p3_le h6
  show Ev xl xs 2 47 0 0 mX7_bestFrom 0 [some (.ref 33), some (.int (nI a)), some (.int most), none, none, none, none] [] n (sysH (ov I S) (ovJ J T) X) Q
  have inner : ∀ (num : Nat) (a3 : Int32) (S' : Nat → Nat → Int32), num < 3 ^ t → S' 45 = S 45 → S' 33 21 = nI (tmask 1 t num t) → S' 33 22 = nI (tmask 2 t num t) → (∀ x, x = woF J t sl a (S 45) num → Ev xl xs 2 47 0 0 mX7_bestFrom 99 [some (.ref 33), some (.int (nI a)), some (.int most), some (.int a3), some (.int (nI num)), some (.int x), some (.int (nI (2 ^ t)))] [] n (sysH (ov I S') (ovJ J T) X) Q) → ∀ j k, k + j = 2 ^ t → Ev xl xs 2 47 0 0 mX7_bestFrom 48 [some (.ref 33), some (.int (nI a)), some (.int most), some (.int a3), some (.int (nI num)), some (.int (upto (fun w x => if ktT J t sl num a w && decide (S 45 w < x) then S 45 w else x) k 1000000)), some (.int (nI k))] [] n (sysH (ov I S') (ovJ J T) X) Q := by
    intro num a3 S' hnum e45 e21 e22 hout j
    have hy6 := tmask_lt 1 t num h6 t (by omega)
    have hz6 := tmask_lt 2 t num h6 t (by omega)
    induction j using Nat.strongRecOn with
    | _ j ih =>
      intro k hk
      refine ev_iload (q := 50) dX7_bestFrom_48 rfl rfl ?_
      refine ev_aload_n (q := 51) dX7_bestFrom_50 rfl rfl ?_
      refine ev_callV0i (q := 54) dX7_bestFrom_51 ca_X7_95 (s_X7_worlds hn hm) rfl (lt_n hn (by decide)) rfl rfl (Nat.le_of_ble_eq_true rfl) (Nat.le_of_ble_eq_true rfl) (by decide) (by decide) rfl ?_
      refine ev_icmp_ge (q := 57) 99 dX7_bestFrom_54 (by decide) rfl (fun c_54 => ?_) (fun c_54 => ?_)
      · have c_54 : 2 ^ t ≤ k := (nI_leI (by omega) (by omega)).mp c_54
        have hk2 : k = 2 ^ t := by omega
        subst hk2
        exact hout _ rfl
      · have c_54 : ¬ 2 ^ t ≤ k := fun h => c_54 ((nI_leI (by omega) (by omega)).mpr h)
        refine ev_aload_n (q := 58) dX7_bestFrom_57 rfl rfl ?_
        refine ev_iload (q := 60) dX7_bestFrom_58 rfl rfl ?_
        refine ev_iload_n (q := 61) dX7_bestFrom_60 rfl rfl ?_
        refine ev_callV2i (q := 64) dX7_bestFrom_61 ca_X7_194 (c_X7_keepsTerm (I := ov I S') (y := tmask 1 t num t) (z := tmask 2 t num t) (sl := sl) hn e21 e22 hs hy6 hz6 hs6 (by omega) (by omega)) rfl (lt_n hn (by decide)) rfl rfl (Nat.le_of_ble_eq_true rfl) (Nat.le_of_ble_eq_true rfl) (by decide) (by decide) rfl ?_
        refine ev_if_eq (q := 67) 89 dX7_bestFrom_64 (by decide) rfl (fun c_64 => ?_) (fun c_64 => ?_)
        · have c_64 : ktT J t sl num a k = false := b2i_0.mp c_64
          refine ev_iload (q := 91) dX7_bestFrom_89 rfl rfl ?_
          refine ev_ist_5 (q := 93) dX7_bestFrom_91 rfl rfl ?_
          refine ev_inc_6 (q := 96) (nI (k + 1)) dX7_bestFrom_93 (nI_1 k) rfl rfl ?_
          refine ev_goto 48 dX7_bestFrom_96 (by decide) ?_
          have e := ih (j - 1) (by omega) (k + 1) (by omega)
          first | (simp only [upto, c_64, c_76, decide_true, decide_false, Bool.and_true, Bool.and_false, if_true, if_false, Bool.true_and, Bool.false_and, Bool.false_eq_true] at e; exact e) | (simp only [upto, c_64, Bool.false_and, Bool.false_eq_true, if_false] at e; exact e)
        · have c_64 : ktT J t sl num a k = true := b2i_n0.mp c_64
          refine ev_aload_n (q := 68) dX7_bestFrom_67 rfl rfl ?_
          refine ev_get (q := 71) dX7_bestFrom_68 fr_X7_49 rfl (lt_n hn (by decide)) rfl rfl ?_
          refine ev_iload (q := 73) dX7_bestFrom_71 rfl rfl ?_
          refine ev_iaS (q := 74) _ dX7_bestFrom_73 rfl rfl (by omega) (lt_n hn (by decide)) rfl ?_
          rw [show ov I S' 45 k = S 45 k from congrFun e45 k]
          refine ev_iload (q := 76) dX7_bestFrom_74 rfl rfl ?_
          refine ev_icmp_ge (q := 79) 89 dX7_bestFrom_76 (by decide) rfl (fun c_76 => ?_) (fun c_76 => ?_)
          · have c_76 : ¬ S 45 k < upto (fun w x => if ktT J t sl num a w && decide (S 45 w < x) then S 45 w else x) k 1000000 := fun h => absurd c_76 (by simp only [i_le, i_lt] at *; omega)
            refine ev_iload (q := 91) dX7_bestFrom_89 rfl rfl ?_
            refine ev_ist_5 (q := 93) dX7_bestFrom_91 rfl rfl ?_
            refine ev_inc_6 (q := 96) (nI (k + 1)) dX7_bestFrom_93 (nI_1 k) rfl rfl ?_
            refine ev_goto 48 dX7_bestFrom_96 (by decide) ?_
            have e := ih (j - 1) (by omega) (k + 1) (by omega)
            first | (simp only [upto, c_64, c_76, decide_true, decide_false, Bool.and_true, Bool.and_false, if_true, if_false, Bool.true_and, Bool.false_and, Bool.false_eq_true] at e; exact e) | (simp only [upto, c_64, Bool.false_and, Bool.false_eq_true, if_false] at e; exact e)
          · have c_76 : S 45 k < upto (fun w x => if ktT J t sl num a w && decide (S 45 w < x) then S 45 w else x) k 1000000 := by simp only [i_le, i_lt] at *; omega
            refine ev_aload_n (q := 80) dX7_bestFrom_79 rfl rfl ?_
            refine ev_get (q := 83) dX7_bestFrom_80 fr_X7_49 rfl (lt_n hn (by decide)) rfl rfl ?_
            refine ev_iload (q := 85) dX7_bestFrom_83 rfl rfl ?_
            refine ev_iaS (q := 86) _ dX7_bestFrom_85 rfl rfl (by omega) (lt_n hn (by decide)) rfl ?_
            rw [show ov I S' 45 k = S 45 k from congrFun e45 k]
            refine ev_goto 91 dX7_bestFrom_86 (by decide) ?_
            refine ev_ist_5 (q := 93) dX7_bestFrom_91 rfl rfl ?_
            refine ev_inc_6 (q := 96) (nI (k + 1)) dX7_bestFrom_93 (nI_1 k) rfl rfl ?_
            refine ev_goto 48 dX7_bestFrom_96 (by decide) ?_
            have e := ih (j - 1) (by omega) (k + 1) (by omega)
            first | (simp only [upto, c_64, c_76, decide_true, decide_false, Bool.and_true, Bool.and_false, if_true, if_false, Bool.true_and, Bool.false_and, Bool.false_eq_true] at e; exact e) | (simp only [upto, c_64, Bool.false_and, Bool.false_eq_true, if_false] at e; exact e)
  have lp : ∀ j k, k + j = 3 ^ t → ∀ S', S' 44 = S 44 → S' 45 = S 45 → S' 33 25 = eoP (upto (pickB (btW t) (ownB J t sl a (S 45) most)) k none) → ∀ a5 a6, Ev xl xs 2 47 0 0 mX7_bestFrom 16 [some (.ref 33), some (.int (nI a)), some (.int most), some (.int (bvA (S 45 a) (upto (pickB (btW t) (ownB J t sl a (S 45) most)) k none))), some (.int (nI k)), a5, a6] [] n (sysH (ov I S') (ovJ J T) X) Q := by
    intro j
    induction j using Nat.strongRecOn with
    | _ j ih =>
      intro k hk S' e44 e45 e25 a5 a6
      have hlt := pickB_lt (better := btW t) (own := ownB J t sl a (S 45) most) k
      have hwk := wd_le (num := k) h6
      have tl : nI (wd t k) ≤ most → ¬ 3 ^ t ≤ k → ∀ x, x = woF J t sl a (S 45) k → Ev xl xs 2 47 0 0 mX7_bestFrom 99 [some (.ref 33), some (.int (nI a)), some (.int most), some (.int (bvA (S 45 a) (upto (pickB (btW t) (ownB J t sl a (S 45) most)) k none))), some (.int (nI k)), some (.int x), some (.int (nI (2 ^ t)))] [] n (sysH (ov I (lyS S' t k)) (ovJ J T) X) Q := by
        intro hwm hkt x hx
        have e25' : ov I (lyS S' t k) 33 25 = eoP (upto (pickB (btW t) (ownB J t sl a (S 45) most)) k none) := e25
        cases ho : upto (pickB (btW t) (ownB J t sl a (S 45) most)) k none with
        | none =>
          rw [ho] at e25'
          refine ev_aload_n (q := 100) dX7_bestFrom_99 rfl rfl ?_
          refine ev_get (q := 103) dX7_bestFrom_100 fr_X7_210 rfl (lt_n hn (by decide)) rfl rfl ?_
          rw [e25']
          refine ev_if_lt (q := 106) 135 dX7_bestFrom_103 (by decide) rfl (fun c_103 => ?_) (fun c_103 => ?_)
          · refine ev_iconst (q := 136) (1) dX7_bestFrom_135 (by decide) rfl ?_
            refine ev_goto 140 dX7_bestFrom_136 (by decide) ?_
            refine ev_ist_6 (q := 142) dX7_bestFrom_140 rfl rfl ?_
            refine ev_iload (q := 144) dX7_bestFrom_142 rfl rfl ?_
            refine ev_ldc (q := 146) co_X7_213 dX7_bestFrom_144 rfl ?_
            refine ev_icmp_ge (q := 149) 163 dX7_bestFrom_146 (by decide) rfl (fun c_146 => ?_) (fun c_146 => ?_)
            · have c_146 : ¬ woF J t sl a (S 45) k < 1000000 := fun h => absurd c_146 (by rw [hx]; simp only [i_le, i_lt] at *; omega)
              refine ev_inc_4 (q := 166) (nI (k + 1)) dX7_bestFrom_163 (nI_1 k) rfl rfl ?_
              refine ev_goto 16 dX7_bestFrom_166 (by decide) ?_
              have e := ih (j - 1) (by omega) (k + 1) (by omega)
              simp only [upto, pickB, ownB, ho, hwm, c_146, if_true, if_false] at e
              first | exact e _ (by exact e44) (by exact e45) (by exact e25') _ _ | (rw [hx]; exact e _ (by exact e44) (by exact e45) (by rfl) _ _)
            · have c_146 : woF J t sl a (S 45) k < 1000000 := by rw [hx] at c_146; simp only [i_le, i_lt] at *; omega
              refine ev_iload (q := 151) dX7_bestFrom_149 rfl rfl ?_
              refine ev_if_eq (q := 154) 163 dX7_bestFrom_151 (by decide) rfl (fun c_151 => ?_) (fun c_151 => ?_)
              · exact absurd c_151 (by decide)
              · refine ev_iload (q := 156) dX7_bestFrom_154 rfl rfl ?_
                refine ev_ist_3 (q := 157) dX7_bestFrom_156 rfl rfl ?_
                refine ev_aload_n (q := 158) dX7_bestFrom_157 rfl rfl ?_
                refine ev_iload (q := 160) dX7_bestFrom_158 rfl rfl ?_
                first | refine ev_putIK (q := 163) dX7_bestFrom_160 fa_X7_210 rfl (by decide) (lt_n hn (by decide)) (Nat.le_of_ble_eq_true rfl) ⟨rfl, rfl⟩ rfl rfl rfl ?_ | refine ev_putIR (q := 163) dX7_bestFrom_160 fa_X7_210 rfl (by decide) (lt_n hn (by decide)) (Nat.le_of_ble_eq_true rfl) ⟨rfl, rfl⟩ rfl rfl rfl ?_
                refine ev_inc_4 (q := 166) (nI (k + 1)) dX7_bestFrom_163 (nI_1 k) rfl rfl ?_
                refine ev_goto 16 dX7_bestFrom_166 (by decide) ?_
                have e := ih (j - 1) (by omega) (k + 1) (by omega)
                simp only [upto, pickB, ownB, ho, hwm, c_146, if_true, if_false] at e
                first | exact e _ (by exact e44) (by exact e45) (by exact e25') _ _ | (rw [hx]; exact e _ (by exact e44) (by exact e45) (by rfl) _ _)
          · exact absurd neg6 c_103
        | some p =>
          obtain ⟨u, b⟩ := p
          have hu := hlt u b ho
          have hwu := wd_le (num := u) h6
          rw [ho] at e25'
          refine ev_aload_n (q := 100) dX7_bestFrom_99 rfl rfl ?_
          refine ev_get (q := 103) dX7_bestFrom_100 fr_X7_210 rfl (lt_n hn (by decide)) rfl rfl ?_
          rw [e25']
          refine ev_if_lt (q := 106) 135 dX7_bestFrom_103 (by decide) rfl (fun c_103 => ?_) (fun c_103 => ?_)
          · exact absurd c_103 (nI_pos (by omega))
          · refine ev_iload (q := 108) dX7_bestFrom_106 rfl rfl ?_
            refine ev_iload_n (q := 109) dX7_bestFrom_108 rfl rfl ?_
            refine ev_icmp_gt (q := 112) 135 dX7_bestFrom_109 (by decide) rfl (fun c_109 => ?_) (fun c_109 => ?_)
            · have hbt : btW t k (woF J t sl a (S 45) k) u b = true := by rw [hx] at c_109; simp [btW, show b < woF J t sl a (S 45) k from c_109]
              refine ev_iconst (q := 136) (1) dX7_bestFrom_135 (by decide) rfl ?_
              refine ev_goto 140 dX7_bestFrom_136 (by decide) ?_
              refine ev_ist_6 (q := 142) dX7_bestFrom_140 rfl rfl ?_
              refine ev_iload (q := 144) dX7_bestFrom_142 rfl rfl ?_
              refine ev_ldc (q := 146) co_X7_213 dX7_bestFrom_144 rfl ?_
              refine ev_icmp_ge (q := 149) 163 dX7_bestFrom_146 (by decide) rfl (fun c_146 => ?_) (fun c_146 => ?_)
              · have c_146 : ¬ woF J t sl a (S 45) k < 1000000 := fun h => absurd c_146 (by rw [hx]; simp only [i_le, i_lt] at *; omega)
                refine ev_inc_4 (q := 166) (nI (k + 1)) dX7_bestFrom_163 (nI_1 k) rfl rfl ?_
                refine ev_goto 16 dX7_bestFrom_166 (by decide) ?_
                have e := ih (j - 1) (by omega) (k + 1) (by omega)
                simp only [upto, pickB, ownB, ho, hwm, c_146, hbt, if_true, if_false, Bool.false_eq_true] at e
                first | exact e _ (by exact e44) (by exact e45) (by exact e25') _ _ | (rw [hx]; exact e _ (by exact e44) (by exact e45) (by rfl) _ _)
              · have c_146 : woF J t sl a (S 45) k < 1000000 := by rw [hx] at c_146; simp only [i_le, i_lt] at *; omega
                refine ev_iload (q := 151) dX7_bestFrom_149 rfl rfl ?_
                refine ev_if_eq (q := 154) 163 dX7_bestFrom_151 (by decide) rfl (fun c_151 => ?_) (fun c_151 => ?_)
                · try (exact absurd c_151 (by decide))
                  all_goals (
                    refine ev_inc_4 (q := 166) (nI (k + 1)) dX7_bestFrom_163 (nI_1 k) rfl rfl ?_
                    refine ev_goto 16 dX7_bestFrom_166 (by decide) ?_
                    have e := ih (j - 1) (by omega) (k + 1) (by omega)
                    simp only [upto, pickB, ownB, ho, hwm, c_146, hbt, if_true, if_false, Bool.false_eq_true] at e
                    first | exact e _ (by exact e44) (by exact e45) (by exact e25') _ _ | (rw [hx]; exact e _ (by exact e44) (by exact e45) (by rfl) _ _)
                  )
                · try (exact absurd rfl c_151)
                  all_goals (
                    refine ev_iload (q := 156) dX7_bestFrom_154 rfl rfl ?_
                    refine ev_ist_3 (q := 157) dX7_bestFrom_156 rfl rfl ?_
                    refine ev_aload_n (q := 158) dX7_bestFrom_157 rfl rfl ?_
                    refine ev_iload (q := 160) dX7_bestFrom_158 rfl rfl ?_
                    first | refine ev_putIK (q := 163) dX7_bestFrom_160 fa_X7_210 rfl (by decide) (lt_n hn (by decide)) (Nat.le_of_ble_eq_true rfl) ⟨rfl, rfl⟩ rfl rfl rfl ?_ | refine ev_putIR (q := 163) dX7_bestFrom_160 fa_X7_210 rfl (by decide) (lt_n hn (by decide)) (Nat.le_of_ble_eq_true rfl) ⟨rfl, rfl⟩ rfl rfl rfl ?_
                    refine ev_inc_4 (q := 166) (nI (k + 1)) dX7_bestFrom_163 (nI_1 k) rfl rfl ?_
                    refine ev_goto 16 dX7_bestFrom_166 (by decide) ?_
                    have e := ih (j - 1) (by omega) (k + 1) (by omega)
                    simp only [upto, pickB, ownB, ho, hwm, c_146, hbt, if_true, if_false, Bool.false_eq_true] at e
                    first | exact e _ (by exact e44) (by exact e45) (by exact e25') _ _ | (rw [hx]; exact e _ (by exact e44) (by exact e45) (by rfl) _ _)
                  )
            · have c_109 : ¬ b < woF J t sl a (S 45) k := by rw [hx] at c_109; exact c_109
              refine ev_iload (q := 114) dX7_bestFrom_112 rfl rfl ?_
              refine ev_iload_n (q := 115) dX7_bestFrom_114 rfl rfl ?_
              refine ev_icmp_ne (q := 118) 139 dX7_bestFrom_115 (by decide) rfl (fun c_115 => ?_) (fun c_115 => ?_)
              · have hbt : btW t k (woF J t sl a (S 45) k) u b = false := by rw [hx] at c_115; simp [btW, c_109, show ¬ woF J t sl a (S 45) k = b from c_115]
                refine ev_iconst (q := 140) (0) dX7_bestFrom_139 (by decide) rfl ?_
                refine ev_ist_6 (q := 142) dX7_bestFrom_140 rfl rfl ?_
                refine ev_iload (q := 144) dX7_bestFrom_142 rfl rfl ?_
                refine ev_ldc (q := 146) co_X7_213 dX7_bestFrom_144 rfl ?_
                refine ev_icmp_ge (q := 149) 163 dX7_bestFrom_146 (by decide) rfl (fun c_146 => ?_) (fun c_146 => ?_)
                · have c_146 : ¬ woF J t sl a (S 45) k < 1000000 := fun h => absurd c_146 (by rw [hx]; simp only [i_le, i_lt] at *; omega)
                  refine ev_inc_4 (q := 166) (nI (k + 1)) dX7_bestFrom_163 (nI_1 k) rfl rfl ?_
                  refine ev_goto 16 dX7_bestFrom_166 (by decide) ?_
                  have e := ih (j - 1) (by omega) (k + 1) (by omega)
                  simp only [upto, pickB, ownB, ho, hwm, c_146, hbt, if_true, if_false, Bool.false_eq_true] at e
                  first | exact e _ (by exact e44) (by exact e45) (by exact e25') _ _ | (rw [hx]; exact e _ (by exact e44) (by exact e45) (by rfl) _ _)
                · have c_146 : woF J t sl a (S 45) k < 1000000 := by rw [hx] at c_146; simp only [i_le, i_lt] at *; omega
                  refine ev_iload (q := 151) dX7_bestFrom_149 rfl rfl ?_
                  refine ev_if_eq (q := 154) 163 dX7_bestFrom_151 (by decide) rfl (fun c_151 => ?_) (fun c_151 => ?_)
                  · try (exact absurd c_151 (by decide))
                    all_goals (
                      refine ev_inc_4 (q := 166) (nI (k + 1)) dX7_bestFrom_163 (nI_1 k) rfl rfl ?_
                      refine ev_goto 16 dX7_bestFrom_166 (by decide) ?_
                      have e := ih (j - 1) (by omega) (k + 1) (by omega)
                      simp only [upto, pickB, ownB, ho, hwm, c_146, hbt, if_true, if_false, Bool.false_eq_true] at e
                      first | exact e _ (by exact e44) (by exact e45) (by exact e25') _ _ | (rw [hx]; exact e _ (by exact e44) (by exact e45) (by rfl) _ _)
                    )
                  · try (exact absurd rfl c_151)
                    all_goals (
                      refine ev_iload (q := 156) dX7_bestFrom_154 rfl rfl ?_
                      refine ev_ist_3 (q := 157) dX7_bestFrom_156 rfl rfl ?_
                      refine ev_aload_n (q := 158) dX7_bestFrom_157 rfl rfl ?_
                      refine ev_iload (q := 160) dX7_bestFrom_158 rfl rfl ?_
                      first | refine ev_putIK (q := 163) dX7_bestFrom_160 fa_X7_210 rfl (by decide) (lt_n hn (by decide)) (Nat.le_of_ble_eq_true rfl) ⟨rfl, rfl⟩ rfl rfl rfl ?_ | refine ev_putIR (q := 163) dX7_bestFrom_160 fa_X7_210 rfl (by decide) (lt_n hn (by decide)) (Nat.le_of_ble_eq_true rfl) ⟨rfl, rfl⟩ rfl rfl rfl ?_
                      refine ev_inc_4 (q := 166) (nI (k + 1)) dX7_bestFrom_163 (nI_1 k) rfl rfl ?_
                      refine ev_goto 16 dX7_bestFrom_166 (by decide) ?_
                      have e := ih (j - 1) (by omega) (k + 1) (by omega)
                      simp only [upto, pickB, ownB, ho, hwm, c_146, hbt, if_true, if_false, Bool.false_eq_true] at e
                      first | exact e _ (by exact e44) (by exact e45) (by exact e25') _ _ | (rw [hx]; exact e _ (by exact e44) (by exact e45) (by rfl) _ _)
                    )
              · have c_115 : woF J t sl a (S 45) k = b := by rw [hx] at c_115; exact c_115
                refine ev_aload_n (q := 119) dX7_bestFrom_118 rfl rfl ?_
                refine ev_iload (q := 121) dX7_bestFrom_119 rfl rfl ?_
                refine ev_callV1i (q := 124) dX7_bestFrom_121 ca_X7_207 (s_X7_words hn hm (by omega)) rfl (lt_n hn (by decide)) rfl rfl (Nat.le_of_ble_eq_true rfl) (Nat.le_of_ble_eq_true rfl) (by decide) (by decide) rfl ?_
                refine ev_aload_n (q := 125) dX7_bestFrom_124 rfl rfl ?_
                refine ev_aload_n (q := 126) dX7_bestFrom_125 rfl rfl ?_
                refine ev_get (q := 129) dX7_bestFrom_126 fr_X7_210 rfl (lt_n hn (by decide)) rfl rfl ?_
                rw [e25']
                refine ev_callV1i (q := 132) dX7_bestFrom_129 ca_X7_207 (s_X7_words (num := u) hn hm (by omega)) rfl (lt_n hn (by decide)) rfl rfl (Nat.le_of_ble_eq_true rfl) (Nat.le_of_ble_eq_true rfl) (by decide) (by decide) rfl ?_
                refine ev_icmp_ge (q := 135) 139 dX7_bestFrom_132 (by decide) rfl (fun c_132 => ?_) (fun c_132 => ?_)
                · have hbt : btW t k (woF J t sl a (S 45) k) u b = false := by have : ¬ wd t k < wd t u := Nat.not_lt.mpr ((nI_leI (by omega) (by omega)).mp c_132); simp [btW, c_109, this]
                  refine ev_iconst (q := 140) (0) dX7_bestFrom_139 (by decide) rfl ?_
                  refine ev_ist_6 (q := 142) dX7_bestFrom_140 rfl rfl ?_
                  refine ev_iload (q := 144) dX7_bestFrom_142 rfl rfl ?_
                  refine ev_ldc (q := 146) co_X7_213 dX7_bestFrom_144 rfl ?_
                  refine ev_icmp_ge (q := 149) 163 dX7_bestFrom_146 (by decide) rfl (fun c_146 => ?_) (fun c_146 => ?_)
                  · have c_146 : ¬ woF J t sl a (S 45) k < 1000000 := fun h => absurd c_146 (by rw [hx]; simp only [i_le, i_lt] at *; omega)
                    refine ev_inc_4 (q := 166) (nI (k + 1)) dX7_bestFrom_163 (nI_1 k) rfl rfl ?_
                    refine ev_goto 16 dX7_bestFrom_166 (by decide) ?_
                    have e := ih (j - 1) (by omega) (k + 1) (by omega)
                    simp only [upto, pickB, ownB, ho, hwm, c_146, hbt, if_true, if_false, Bool.false_eq_true] at e
                    first | exact e _ (by exact e44) (by exact e45) (by exact e25') _ _ | (rw [hx]; exact e _ (by exact e44) (by exact e45) (by rfl) _ _)
                  · have c_146 : woF J t sl a (S 45) k < 1000000 := by rw [hx] at c_146; simp only [i_le, i_lt] at *; omega
                    refine ev_iload (q := 151) dX7_bestFrom_149 rfl rfl ?_
                    refine ev_if_eq (q := 154) 163 dX7_bestFrom_151 (by decide) rfl (fun c_151 => ?_) (fun c_151 => ?_)
                    · try (exact absurd c_151 (by decide))
                      all_goals (
                        refine ev_inc_4 (q := 166) (nI (k + 1)) dX7_bestFrom_163 (nI_1 k) rfl rfl ?_
                        refine ev_goto 16 dX7_bestFrom_166 (by decide) ?_
                        have e := ih (j - 1) (by omega) (k + 1) (by omega)
                        simp only [upto, pickB, ownB, ho, hwm, c_146, hbt, if_true, if_false, Bool.false_eq_true] at e
                        first | exact e _ (by exact e44) (by exact e45) (by exact e25') _ _ | (rw [hx]; exact e _ (by exact e44) (by exact e45) (by rfl) _ _)
                      )
                    · try (exact absurd rfl c_151)
                      all_goals (
                        refine ev_iload (q := 156) dX7_bestFrom_154 rfl rfl ?_
                        refine ev_ist_3 (q := 157) dX7_bestFrom_156 rfl rfl ?_
                        refine ev_aload_n (q := 158) dX7_bestFrom_157 rfl rfl ?_
                        refine ev_iload (q := 160) dX7_bestFrom_158 rfl rfl ?_
                        first | refine ev_putIK (q := 163) dX7_bestFrom_160 fa_X7_210 rfl (by decide) (lt_n hn (by decide)) (Nat.le_of_ble_eq_true rfl) ⟨rfl, rfl⟩ rfl rfl rfl ?_ | refine ev_putIR (q := 163) dX7_bestFrom_160 fa_X7_210 rfl (by decide) (lt_n hn (by decide)) (Nat.le_of_ble_eq_true rfl) ⟨rfl, rfl⟩ rfl rfl rfl ?_
                        refine ev_inc_4 (q := 166) (nI (k + 1)) dX7_bestFrom_163 (nI_1 k) rfl rfl ?_
                        refine ev_goto 16 dX7_bestFrom_166 (by decide) ?_
                        have e := ih (j - 1) (by omega) (k + 1) (by omega)
                        simp only [upto, pickB, ownB, ho, hwm, c_146, hbt, if_true, if_false, Bool.false_eq_true] at e
                        first | exact e _ (by exact e44) (by exact e45) (by exact e25') _ _ | (rw [hx]; exact e _ (by exact e44) (by exact e45) (by rfl) _ _)
                      )
                · have hbt : btW t k (woF J t sl a (S 45) k) u b = true := by have : wd t k < wd t u := Nat.not_le.mp fun h => c_132 ((nI_leI (by omega) (by omega)).mpr h); simp [btW, c_109, c_115, this]
                  refine ev_iconst (q := 136) (1) dX7_bestFrom_135 (by decide) rfl ?_
                  refine ev_goto 140 dX7_bestFrom_136 (by decide) ?_
                  refine ev_ist_6 (q := 142) dX7_bestFrom_140 rfl rfl ?_
                  refine ev_iload (q := 144) dX7_bestFrom_142 rfl rfl ?_
                  refine ev_ldc (q := 146) co_X7_213 dX7_bestFrom_144 rfl ?_
                  refine ev_icmp_ge (q := 149) 163 dX7_bestFrom_146 (by decide) rfl (fun c_146 => ?_) (fun c_146 => ?_)
                  · have c_146 : ¬ woF J t sl a (S 45) k < 1000000 := fun h => absurd c_146 (by rw [hx]; simp only [i_le, i_lt] at *; omega)
                    refine ev_inc_4 (q := 166) (nI (k + 1)) dX7_bestFrom_163 (nI_1 k) rfl rfl ?_
                    refine ev_goto 16 dX7_bestFrom_166 (by decide) ?_
                    have e := ih (j - 1) (by omega) (k + 1) (by omega)
                    simp only [upto, pickB, ownB, ho, hwm, c_146, hbt, if_true, if_false, Bool.false_eq_true] at e
                    first | exact e _ (by exact e44) (by exact e45) (by exact e25') _ _ | (rw [hx]; exact e _ (by exact e44) (by exact e45) (by rfl) _ _)
                  · have c_146 : woF J t sl a (S 45) k < 1000000 := by rw [hx] at c_146; simp only [i_le, i_lt] at *; omega
                    refine ev_iload (q := 151) dX7_bestFrom_149 rfl rfl ?_
                    refine ev_if_eq (q := 154) 163 dX7_bestFrom_151 (by decide) rfl (fun c_151 => ?_) (fun c_151 => ?_)
                    · try (exact absurd c_151 (by decide))
                      all_goals (
                        refine ev_inc_4 (q := 166) (nI (k + 1)) dX7_bestFrom_163 (nI_1 k) rfl rfl ?_
                        refine ev_goto 16 dX7_bestFrom_166 (by decide) ?_
                        have e := ih (j - 1) (by omega) (k + 1) (by omega)
                        simp only [upto, pickB, ownB, ho, hwm, c_146, hbt, if_true, if_false, Bool.false_eq_true] at e
                        first | exact e _ (by exact e44) (by exact e45) (by exact e25') _ _ | (rw [hx]; exact e _ (by exact e44) (by exact e45) (by rfl) _ _)
                      )
                    · try (exact absurd rfl c_151)
                      all_goals (
                        refine ev_iload (q := 156) dX7_bestFrom_154 rfl rfl ?_
                        refine ev_ist_3 (q := 157) dX7_bestFrom_156 rfl rfl ?_
                        refine ev_aload_n (q := 158) dX7_bestFrom_157 rfl rfl ?_
                        refine ev_iload (q := 160) dX7_bestFrom_158 rfl rfl ?_
                        first | refine ev_putIK (q := 163) dX7_bestFrom_160 fa_X7_210 rfl (by decide) (lt_n hn (by decide)) (Nat.le_of_ble_eq_true rfl) ⟨rfl, rfl⟩ rfl rfl rfl ?_ | refine ev_putIR (q := 163) dX7_bestFrom_160 fa_X7_210 rfl (by decide) (lt_n hn (by decide)) (Nat.le_of_ble_eq_true rfl) ⟨rfl, rfl⟩ rfl rfl rfl ?_
                        refine ev_inc_4 (q := 166) (nI (k + 1)) dX7_bestFrom_163 (nI_1 k) rfl rfl ?_
                        refine ev_goto 16 dX7_bestFrom_166 (by decide) ?_
                        have e := ih (j - 1) (by omega) (k + 1) (by omega)
                        simp only [upto, pickB, ownB, ho, hwm, c_146, hbt, if_true, if_false, Bool.false_eq_true] at e
                        first | exact e _ (by exact e44) (by exact e45) (by exact e25') _ _ | (rw [hx]; exact e _ (by exact e44) (by exact e45) (by rfl) _ _)
                      )
      refine ev_iload (q := 18) dX7_bestFrom_16 rfl rfl ?_
      refine ev_aload_n (q := 19) dX7_bestFrom_18 rfl rfl ?_
      refine ev_callV0i (q := 22) dX7_bestFrom_19 ca_X7_201 (s_X7_terms hn hm) rfl (lt_n hn (by decide)) rfl rfl (Nat.le_of_ble_eq_true rfl) (Nat.le_of_ble_eq_true rfl) (by decide) (by decide) rfl ?_
      refine ev_icmp_ge (q := 25) 169 dX7_bestFrom_22 (by decide) rfl (fun c_22 => ?_) (fun c_22 => ?_)
      · have c_22 : 3 ^ t ≤ k := (nI_leI (by omega) (by omega)).mp c_22
        refine ev_iload_n (q := 170) dX7_bestFrom_169 rfl rfl ?_
        have hk2 : k = 3 ^ t := by omega
        subst hk2
        refine ev_iretE dX7_bestFrom_170 rfl rfl (w := bsV J t sl most (S 45) a) ?_ rfl rfl (hQ _ _ ⟨rfl, e44, e45, e25⟩)
        unfold bsV bsP
        cases upto (pickB (btW t) (ownB J t sl a (S 45) most)) (3 ^ t) none <;> rfl
      · have c_22 : ¬ 3 ^ t ≤ k := fun h => c_22 ((nI_leI (by omega) (by omega)).mpr h)
        refine ev_aload_n (q := 26) dX7_bestFrom_25 rfl rfl ?_
        refine ev_iload (q := 28) dX7_bestFrom_26 rfl rfl ?_
        refine ev_callV1i (q := 31) dX7_bestFrom_28 ca_X7_207 (s_X7_words hn hm (by omega)) rfl (lt_n hn (by decide)) rfl rfl (Nat.le_of_ble_eq_true rfl) (Nat.le_of_ble_eq_true rfl) (by decide) (by decide) rfl ?_
        refine ev_iload_n (q := 32) dX7_bestFrom_31 rfl rfl ?_
        refine ev_icmp_gt (q := 35) 163 dX7_bestFrom_32 (by decide) rfl (fun c_32 => ?_) (fun c_32 => ?_)
        · have c_32 : ¬ nI (wd t k) ≤ most := fun h => absurd c_32 (by simp only [i_le, i_lt] at *; omega)
          refine ev_inc_4 (q := 166) (nI (k + 1)) dX7_bestFrom_163 (nI_1 k) rfl rfl ?_
          refine ev_goto 16 dX7_bestFrom_166 (by decide) ?_
          have e := ih (j - 1) (by omega) (k + 1) (by omega)
          have e0 : upto (pickB (btW t) (ownB J t sl a (S 45) most)) (k + 1) none = upto (pickB (btW t) (ownB J t sl a (S 45) most)) k none := by simp only [upto, pickB, ownB, c_32, if_false]
          rw [e0] at e
          exact e _ (by exact e44) (by exact e45) (by exact e25) _ _
        · have c_32 : nI (wd t k) ≤ most := by simp only [i_le, i_lt] at *; omega
          refine ev_aload_n (q := 36) dX7_bestFrom_35 rfl rfl ?_
          refine ev_iload (q := 38) dX7_bestFrom_36 rfl rfl ?_
          refine ev_callV1v (q := 41) dX7_bestFrom_38 ca_X7_190 (s_X7_layTerm hn hm (by omega)) rfl (lt_n hn (by decide)) rfl rfl (Nat.le_of_ble_eq_true rfl) (Nat.le_of_ble_eq_true rfl) (by decide) (by decide) rfl ?_
          refine ev_ldc (q := 43) co_X7_213 dX7_bestFrom_41 rfl ?_
          refine ev_ist_5 (q := 45) dX7_bestFrom_43 rfl rfl ?_
          refine ev_iconst (q := 46) (0) dX7_bestFrom_45 (by decide) rfl ?_
          refine ev_ist_6 (q := 48) dX7_bestFrom_46 rfl rfl ?_
          exact inner k _ (lyS S' t k) (by omega) e45 rfl rfl (tl c_32 c_22) (2 ^ t) 0 (by omega)
  refine ev_aload_n (q := 1) dX7_bestFrom_0 rfl rfl ?_
  refine ev_bipush (q := 3) (-6) dX7_bestFrom_1 (by decide) rfl ?_
  first | refine ev_putIK (q := 6) dX7_bestFrom_3 fa_X7_210 rfl (by decide) (lt_n hn (by decide)) (Nat.le_of_ble_eq_true rfl) ⟨rfl, rfl⟩ rfl rfl rfl ?_ | refine ev_putIR (q := 6) dX7_bestFrom_3 fa_X7_210 rfl (by decide) (lt_n hn (by decide)) (Nat.le_of_ble_eq_true rfl) ⟨rfl, rfl⟩ rfl rfl rfl ?_
  refine ev_aload_n (q := 7) dX7_bestFrom_6 rfl rfl ?_
  refine ev_get (q := 10) dX7_bestFrom_7 fr_X7_49 rfl (lt_n hn (by decide)) rfl rfl ?_
  refine ev_iload_n (q := 11) dX7_bestFrom_10 rfl rfl ?_
  refine ev_iaS (q := 12) a dX7_bestFrom_11 rfl rfl (by omega) (lt_n hn (by decide)) rfl ?_
  refine ev_ist_3 (q := 13) dX7_bestFrom_12 rfl rfl ?_
  refine ev_iconst (q := 14) (0) dX7_bestFrom_13 (by decide) rfl ?_
  refine ev_ist_4 (q := 16) dX7_bestFrom_14 rfl rfl ?_
  exact lp (3 ^ t) 0 (by omega) _ (by rfl) (by rfl) (by rfl) _ _
end MODEL9
