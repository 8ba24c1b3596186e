theorem dX5_digitOf_0 : decode cX5_digitOf 0 = .ok (.aload_n 0, 1) := by decide +kernel
theorem dX5_digitOf_1 : decode cX5_digitOf 1 = .ok (.getfield 9, 3) := by decide +kernel
theorem dX5_digitOf_4 : decode cX5_digitOf 4 = .ok (.iload_n 1, 1) := by decide +kernel
theorem dX5_digitOf_5 : decode cX5_digitOf 5 = .ok (.iaload, 1) := by decide +kernel
theorem dX5_digitOf_6 : decode cX5_digitOf 6 = .ok (.iload_n 2, 1) := by decide +kernel
theorem dX5_digitOf_7 : decode cX5_digitOf 7 = .ok (.ishr, 1) := by decide +kernel
theorem dX5_digitOf_8 : decode cX5_digitOf 8 = .ok (.iconst 1, 1) := by decide +kernel
theorem dX5_digitOf_9 : decode cX5_digitOf 9 = .ok (.iand, 1) := by decide +kernel
theorem dX5_digitOf_10 : decode cX5_digitOf 10 = .ok (.ifCond .ne 5, 3) := by decide +kernel
theorem dX5_digitOf_13 : decode cX5_digitOf 13 = .ok (.iconst 0, 1) := by decide +kernel
theorem dX5_digitOf_14 : decode cX5_digitOf 14 = .ok (.ireturn, 1) := by decide +kernel
theorem dX5_digitOf_15 : decode cX5_digitOf 15 = .ok (.aload_n 0, 1) := by decide +kernel
theorem dX5_digitOf_16 : decode cX5_digitOf 16 = .ok (.getfield 15, 3) := by decide +kernel
theorem dX5_digitOf_19 : decode cX5_digitOf 19 = .ok (.iload_n 1, 1) := by decide +kernel
theorem dX5_digitOf_20 : decode cX5_digitOf 20 = .ok (.iaload, 1) := by decide +kernel
theorem dX5_digitOf_21 : decode cX5_digitOf 21 = .ok (.iload_n 2, 1) := by decide +kernel
theorem dX5_digitOf_22 : decode cX5_digitOf 22 = .ok (.ishr, 1) := by decide +kernel
theorem dX5_digitOf_23 : decode cX5_digitOf 23 = .ok (.iconst 1, 1) := by decide +kernel
theorem dX5_digitOf_24 : decode cX5_digitOf 24 = .ok (.iand, 1) := by decide +kernel
theorem dX5_digitOf_25 : decode cX5_digitOf 25 = .ok (.ifCond .eq 7, 3) := by decide +kernel
theorem dX5_digitOf_28 : decode cX5_digitOf 28 = .ok (.iconst 1, 1) := by decide +kernel
theorem dX5_digitOf_29 : decode cX5_digitOf 29 = .ok (.goto 4, 3) := by decide +kernel
theorem dX5_digitOf_32 : decode cX5_digitOf 32 = .ok (.iconst 2, 1) := by decide +kernel
theorem dX5_digitOf_33 : decode cX5_digitOf 33 = .ok (.ireturn, 1) := by decide +kernel
theorem dX5_wordsOf_0 : decode cX5_wordsOf 0 = .ok (.aload_n 0, 1) := by decide +kernel
theorem dX5_wordsOf_1 : decode cX5_wordsOf 1 = .ok (.getfield 9, 3) := by decide +kernel
theorem dX5_wordsOf_4 : decode cX5_wordsOf 4 = .ok (.iload_n 1, 1) := by decide +kernel
theorem dX5_wordsOf_5 : decode cX5_wordsOf 5 = .ok (.iaload, 1) := by decide +kernel
theorem dX5_wordsOf_6 : decode cX5_wordsOf 6 = .ok (.invokestatic 37, 3) := by decide +kernel
theorem dX5_wordsOf_9 : decode cX5_wordsOf 9 = .ok (.ireturn, 1) := by decide +kernel
theorem dX5_rankOf_0 : decode cX5_rankOf 0 = .ok (.aload_n 0, 1) := by decide +kernel
theorem dX5_rankOf_1 : decode cX5_rankOf 1 = .ok (.iload_n 1, 1) := by decide +kernel
theorem dX5_rankOf_2 : decode cX5_rankOf 2 = .ok (.invokevirtual 43, 3) := by decide +kernel
theorem dX5_rankOf_5 : decode cX5_rankOf 5 = .ok (.sipush 1000, 3) := by decide +kernel
theorem dX5_rankOf_8 : decode cX5_rankOf 8 = .ok (.imul, 1) := by decide +kernel
theorem dX5_rankOf_9 : decode cX5_rankOf 9 = .ok (.iload_n 1, 1) := by decide +kernel
theorem dX5_rankOf_10 : decode cX5_rankOf 10 = .ok (.iadd, 1) := by decide +kernel
theorem dX5_rankOf_11 : decode cX5_rankOf 11 = .ok (.ireturn, 1) := by decide +kernel
theorem dX6_wording_0 : decode cX6_wording 0 = .ok (.iload_n 1, 1) := by decide +kernel
theorem dX6_wording_1 : decode cX6_wording 1 = .ok (.bipush (-99), 2) := by decide +kernel
theorem dX6_wording_3 : decode cX6_wording 3 = .ok (.if_icmp .lt 16, 3) := by decide +kernel
theorem dX6_wording_6 : decode cX6_wording 6 = .ok (.iload_n 1, 1) := by decide +kernel
theorem dX6_wording_7 : decode cX6_wording 7 = .ok (.bipush 99, 2) := by decide +kernel
theorem dX6_wording_9 : decode cX6_wording 9 = .ok (.if_icmp .gt 10, 3) := by decide +kernel
theorem dX6_wording_12 : decode cX6_wording 12 = .ok (.iload_n 2, 1) := by decide +kernel
theorem dX6_wording_13 : decode cX6_wording 13 = .ok (.invokestatic 158, 3) := by decide +kernel
theorem dX6_wording_16 : decode cX6_wording 16 = .ok (.ifCond .ne 6, 3) := by decide +kernel
theorem dX6_wording_19 : decode cX6_wording 19 = .ok (.bipush (-2), 2) := by decide +kernel
theorem dX6_wording_21 : decode cX6_wording 21 = .ok (.ireturn, 1) := by decide +kernel
theorem dX6_wording_22 : decode cX6_wording 22 = .ok (.aload_n 0, 1) := by decide +kernel
theorem dX6_wording_23 : decode cX6_wording 23 = .ok (.getfield 42, 3) := by decide +kernel
theorem dX6_wording_26 : decode cX6_wording 26 = .ok (.invokevirtual 182, 3) := by decide +kernel
theorem dX6_wording_29 : decode cX6_wording 29 = .ok (.aload_n 0, 1) := by decide +kernel
theorem dX6_wording_30 : decode cX6_wording 30 = .ok (.getfield 56, 3) := by decide +kernel
theorem dX6_wording_33 : decode cX6_wording 33 = .ok (.invokevirtual 185, 3) := by decide +kernel
theorem dX6_wording_36 : decode cX6_wording 36 = .ok (.iconst 0, 1) := by decide +kernel
theorem dX6_wording_37 : decode cX6_wording 37 = .ok (.istore_n 3, 1) := by decide +kernel
theorem dX6_wording_38 : decode cX6_wording 38 = .ok (.iload_n 3, 1) := by decide +kernel
theorem dX6_wording_39 : decode cX6_wording 39 = .ok (.aload_n 0, 1) := by decide +kernel
theorem dX6_wording_40 : decode cX6_wording 40 = .ok (.getfield 33, 3) := by decide +kernel
theorem dX6_wording_43 : decode cX6_wording 43 = .ok (.getfield 211, 3) := by decide +kernel
theorem dX6_wording_46 : decode cX6_wording 46 = .ok (.if_icmp .ge 61, 3) := by decide +kernel
theorem dX6_wording_49 : decode cX6_wording 49 = .ok (.aload_n 0, 1) := by decide +kernel
theorem dX6_wording_50 : decode cX6_wording 50 = .ok (.getfield 42, 3) := by decide +kernel
theorem dX6_wording_53 : decode cX6_wording 53 = .ok (.iload_n 3, 1) := by decide +kernel
theorem dX6_wording_54 : decode cX6_wording 54 = .ok (.aload_n 0, 1) := by decide +kernel
theorem dX6_wording_55 : decode cX6_wording 55 = .ok (.getfield 10, 3) := by decide +kernel
theorem dX6_wording_58 : decode cX6_wording 58 = .ok (.getfield 103, 3) := by decide +kernel
theorem dX6_wording_61 : decode cX6_wording 61 = .ok (.invokevirtual 212, 3) := by decide +kernel
theorem dX6_wording_64 : decode cX6_wording 64 = .ok (.istore 4, 2) := by decide +kernel
theorem dX6_wording_66 : decode cX6_wording 66 = .ok (.iload 4, 2) := by decide +kernel
theorem dX6_wording_68 : decode cX6_wording 68 = .ok (.ifCond .lt 33, 3) := by decide +kernel
theorem dX6_wording_71 : decode cX6_wording 71 = .ok (.aload_n 0, 1) := by decide +kernel
theorem dX6_wording_72 : decode cX6_wording 72 = .ok (.getfield 42, 3) := by decide +kernel
theorem dX6_wording_75 : decode cX6_wording 75 = .ok (.getfield 215, 3) := by decide +kernel
theorem dX6_wording_78 : decode cX6_wording 78 = .ok (.iload 4, 2) := by decide +kernel
theorem dX6_wording_80 : decode cX6_wording 80 = .ok (.iaload, 1) := by decide +kernel
theorem dX6_wording_81 : decode cX6_wording 81 = .ok (.iload_n 1, 1) := by decide +kernel
theorem dX6_wording_82 : decode cX6_wording 82 = .ok (.if_icmp .lt 19, 3) := by decide +kernel
theorem dX6_wording_85 : decode cX6_wording 85 = .ok (.aload_n 0, 1) := by decide +kernel
theorem dX6_wording_86 : decode cX6_wording 86 = .ok (.getfield 56, 3) := by decide +kernel
theorem dX6_wording_89 : decode cX6_wording 89 = .ok (.iconst 0, 1) := by decide +kernel
theorem dX6_wording_90 : decode cX6_wording 90 = .ok (.aload_n 0, 1) := by decide +kernel
theorem dX6_wording_91 : decode cX6_wording 91 = .ok (.getfield 33, 3) := by decide +kernel
theorem dX6_wording_94 : decode cX6_wording 94 = .ok (.iload_n 3, 1) := by decide +kernel
theorem dX6_wording_95 : decode cX6_wording 95 = .ok (.invokevirtual 216, 3) := by decide +kernel
theorem dX6_wording_98 : decode cX6_wording 98 = .ok (.invokevirtual 219, 3) := by decide +kernel
theorem dX6_wording_101 : decode cX6_wording 101 = .ok (.iinc 3 1, 3) := by decide +kernel
theorem dX6_wording_104 : decode cX6_wording 104 = .ok (.goto (-66), 3) := by decide +kernel
theorem dX6_wording_107 : decode cX6_wording 107 = .ok (.aload_n 0, 1) := by decide +kernel
theorem dX6_wording_108 : decode cX6_wording 108 = .ok (.getfield 56, 3) := by decide +kernel
theorem dX6_wording_111 : decode cX6_wording 111 = .ok (.getfield 198, 3) := by decide +kernel
theorem dX6_wording_114 : decode cX6_wording 114 = .ok (.ifCond .ne 6, 3) := by decide +kernel
theorem dX6_wording_117 : decode cX6_wording 117 = .ok (.bipush (-6), 2) := by decide +kernel
theorem dX6_wording_119 : decode cX6_wording 119 = .ok (.ireturn, 1) := by decide +kernel
theorem dX6_wording_120 : decode cX6_wording 120 = .ok (.iload_n 2, 1) := by decide +kernel
theorem dX6_wording_121 : decode cX6_wording 121 = .ok (.ifCond .ne 17, 3) := by decide +kernel
theorem dX6_wording_124 : decode cX6_wording 124 = .ok (.aload_n 0, 1) := by decide +kernel
theorem dX6_wording_125 : decode cX6_wording 125 = .ok (.getfield 56, 3) := by decide +kernel
theorem dX6_wording_128 : decode cX6_wording 128 = .ok (.getfield 202, 3) := by decide +kernel
theorem dX6_wording_131 : decode cX6_wording 131 = .ok (.sipush 1000, 3) := by decide +kernel
theorem dX6_wording_134 : decode cX6_wording 134 = .ok (.irem, 1) := by decide +kernel
theorem dX6_wording_135 : decode cX6_wording 135 = .ok (.goto 14, 3) := by decide +kernel
theorem dX6_wording_138 : decode cX6_wording 138 = .ok (.aload_n 0, 1) := by decide +kernel
theorem dX6_wording_139 : decode cX6_wording 139 = .ok (.getfield 56, 3) := by decide +kernel
theorem dX6_wording_142 : decode cX6_wording 142 = .ok (.getfield 202, 3) := by decide +kernel
theorem dX6_wording_145 : decode cX6_wording 145 = .ok (.sipush 1000, 3) := by decide +kernel
theorem dX6_wording_148 : decode cX6_wording 148 = .ok (.idiv, 1) := by decide +kernel
theorem dX6_wording_149 : decode cX6_wording 149 = .ok (.ireturn, 1) := by decide +kernel
theorem dX6_most_0 : decode cX6_most 0 = .ok (.iload_n 1, 1) := by decide +kernel
theorem dX6_most_1 : decode cX6_most 1 = .ok (.invokestatic 223, 3) := by decide +kernel
theorem dX6_most_4 : decode cX6_most 4 = .ok (.ifCond .eq 10, 3) := by decide +kernel
theorem dX6_most_7 : decode cX6_most 7 = .ok (.iload_n 2, 1) := by decide +kernel
theorem dX6_most_8 : decode cX6_most 8 = .ok (.invokestatic 158, 3) := by decide +kernel
theorem dX6_most_11 : decode cX6_most 11 = .ok (.ifCond .ne 6, 3) := by decide +kernel
theorem dX6_most_14 : decode cX6_most 14 = .ok (.bipush (-2), 2) := by decide +kernel
theorem dX6_most_16 : decode cX6_most 16 = .ok (.ireturn, 1) := by decide +kernel
theorem dX6_most_17 : decode cX6_most 17 = .ok (.aload_n 0, 1) := by decide +kernel
theorem dX6_most_18 : decode cX6_most 18 = .ok (.getfield 42, 3) := by decide +kernel
theorem dX6_most_21 : decode cX6_most 21 = .ok (.invokevirtual 182, 3) := by decide +kernel
theorem dX6_most_24 : decode cX6_most 24 = .ok (.aload_n 0, 1) := by decide +kernel
theorem dX6_most_25 : decode cX6_most 25 = .ok (.getfield 56, 3) := by decide +kernel
theorem dX6_most_28 : decode cX6_most 28 = .ok (.invokevirtual 185, 3) := by decide +kernel
theorem dX6_most_31 : decode cX6_most 31 = .ok (.iconst 0, 1) := by decide +kernel
theorem dX6_most_32 : decode cX6_most 32 = .ok (.istore_n 3, 1) := by decide +kernel
theorem dX6_most_33 : decode cX6_most 33 = .ok (.iload_n 3, 1) := by decide +kernel
theorem dX6_most_34 : decode cX6_most 34 = .ok (.aload_n 0, 1) := by decide +kernel
theorem dX6_most_35 : decode cX6_most 35 = .ok (.getfield 33, 3) := by decide +kernel
theorem dX6_most_38 : decode cX6_most 38 = .ok (.getfield 211, 3) := by decide +kernel
theorem dX6_most_41 : decode cX6_most 41 = .ok (.if_icmp .ge 73, 3) := by decide +kernel
theorem dX6_most_44 : decode cX6_most 44 = .ok (.aload_n 0, 1) := by decide +kernel
theorem dX6_most_45 : decode cX6_most 45 = .ok (.getfield 33, 3) := by decide +kernel
theorem dX6_most_48 : decode cX6_most 48 = .ok (.iload_n 3, 1) := by decide +kernel
theorem dX6_most_49 : decode cX6_most 49 = .ok (.invokevirtual 226, 3) := by decide +kernel
theorem dX6_most_52 : decode cX6_most 52 = .ok (.iload_n 1, 1) := by decide +kernel
theorem dX6_most_53 : decode cX6_most 53 = .ok (.if_icmp .gt 21, 3) := by decide +kernel
theorem dX6_most_56 : decode cX6_most 56 = .ok (.aload_n 0, 1) := by decide +kernel
theorem dX6_most_57 : decode cX6_most 57 = .ok (.getfield 42, 3) := by decide +kernel
theorem dX6_most_60 : decode cX6_most 60 = .ok (.iload_n 3, 1) := by decide +kernel
theorem dX6_most_61 : decode cX6_most 61 = .ok (.aload_n 0, 1) := by decide +kernel
theorem dX6_most_62 : decode cX6_most 62 = .ok (.getfield 10, 3) := by decide +kernel
theorem dX6_most_65 : decode cX6_most 65 = .ok (.getfield 103, 3) := by decide +kernel
theorem dX6_most_68 : decode cX6_most 68 = .ok (.invokevirtual 212, 3) := by decide +kernel
theorem dX6_most_71 : decode cX6_most 71 = .ok (.goto 5, 3) := by decide +kernel
theorem dX6_most_74 : decode cX6_most 74 = .ok (.bipush (-6), 2) := by decide +kernel
theorem dX6_most_76 : decode cX6_most 76 = .ok (.istore 4, 2) := by decide +kernel
theorem dX6_most_78 : decode cX6_most 78 = .ok (.iload 4, 2) := by decide +kernel
theorem dX6_most_80 : decode cX6_most 80 = .ok (.ifCond .lt 28, 3) := by decide +kernel
theorem dX6_most_83 : decode cX6_most 83 = .ok (.aload_n 0, 1) := by decide +kernel
theorem dX6_most_84 : decode cX6_most 84 = .ok (.getfield 56, 3) := by decide +kernel
theorem dX6_most_87 : decode cX6_most 87 = .ok (.aload_n 0, 1) := by decide +kernel
theorem dX6_most_88 : decode cX6_most 88 = .ok (.getfield 42, 3) := by decide +kernel
theorem dX6_most_91 : decode cX6_most 91 = .ok (.getfield 215, 3) := by decide +kernel
theorem dX6_most_94 : decode cX6_most 94 = .ok (.iload 4, 2) := by decide +kernel
theorem dX6_most_96 : decode cX6_most 96 = .ok (.iaload, 1) := by decide +kernel
theorem dX6_most_97 : decode cX6_most 97 = .ok (.aload_n 0, 1) := by decide +kernel
theorem dX6_most_98 : decode cX6_most 98 = .ok (.getfield 33, 3) := by decide +kernel
theorem dX6_most_101 : decode cX6_most 101 = .ok (.iload_n 3, 1) := by decide +kernel
theorem dX6_most_102 : decode cX6_most 102 = .ok (.invokevirtual 216, 3) := by decide +kernel
theorem dX6_most_105 : decode cX6_most 105 = .ok (.invokevirtual 219, 3) := by decide +kernel
theorem dX6_most_108 : decode cX6_most 108 = .ok (.iinc 3 1, 3) := by decide +kernel
theorem dX6_most_111 : decode cX6_most 111 = .ok (.goto (-78), 3) := by decide +kernel
theorem dX6_most_114 : decode cX6_most 114 = .ok (.aload_n 0, 1) := by decide +kernel
theorem dX6_most_115 : decode cX6_most 115 = .ok (.getfield 56, 3) := by decide +kernel
theorem dX6_most_118 : decode cX6_most 118 = .ok (.getfield 198, 3) := by decide +kernel
theorem dX6_most_121 : decode cX6_most 121 = .ok (.ifCond .ne 6, 3) := by decide +kernel
theorem dX6_most_124 : decode cX6_most 124 = .ok (.bipush (-6), 2) := by decide +kernel
theorem dX6_most_126 : decode cX6_most 126 = .ok (.ireturn, 1) := by decide +kernel
theorem dX6_most_127 : decode cX6_most 127 = .ok (.iload_n 2, 1) := by decide +kernel
theorem dX6_most_128 : decode cX6_most 128 = .ok (.ifCond .ne 17, 3) := by decide +kernel
theorem dX6_most_131 : decode cX6_most 131 = .ok (.aload_n 0, 1) := by decide +kernel
theorem dX6_most_132 : decode cX6_most 132 = .ok (.getfield 56, 3) := by decide +kernel
theorem dX6_most_135 : decode cX6_most 135 = .ok (.getfield 208, 3) := by decide +kernel
theorem dX6_most_138 : decode cX6_most 138 = .ok (.sipush 1000, 3) := by decide +kernel
theorem dX6_most_141 : decode cX6_most 141 = .ok (.iadd, 1) := by decide +kernel
theorem dX6_most_142 : decode cX6_most 142 = .ok (.goto 14, 3) := by decide +kernel
theorem dX6_most_145 : decode cX6_most 145 = .ok (.aload_n 0, 1) := by decide +kernel
theorem dX6_most_146 : decode cX6_most 146 = .ok (.getfield 56, 3) := by decide +kernel
theorem dX6_most_149 : decode cX6_most 149 = .ok (.getfield 202, 3) := by decide +kernel
theorem dX6_most_152 : decode cX6_most 152 = .ok (.sipush 1000, 3) := by decide +kernel
theorem dX6_most_155 : decode cX6_most 155 = .ok (.irem, 1) := by decide +kernel
theorem dX6_most_156 : decode cX6_most 156 = .ok (.ireturn, 1) := by decide +kernel
theorem dX6_letters_0 : decode cX6_letters 0 = .ok (.iload_n 1, 1) := by decide +kernel
theorem dX6_letters_1 : decode cX6_letters 1 = .ok (.invokestatic 158, 3) := by decide +kernel
theorem dX6_letters_4 : decode cX6_letters 4 = .ok (.ifCond .ne 6, 3) := by decide +kernel
theorem dX6_letters_7 : decode cX6_letters 7 = .ok (.bipush (-2), 2) := by decide +kernel
theorem dX6_letters_9 : decode cX6_letters 9 = .ok (.ireturn, 1) := by decide +kernel
theorem dX6_letters_10 : decode cX6_letters 10 = .ok (.aload_n 0, 1) := by decide +kernel
theorem dX6_letters_11 : decode cX6_letters 11 = .ok (.getfield 42, 3) := by decide +kernel
theorem dX6_letters_14 : decode cX6_letters 14 = .ok (.invokevirtual 182, 3) := by decide +kernel
theorem dX6_letters_17 : decode cX6_letters 17 = .ok (.aload_n 0, 1) := by decide +kernel
theorem dX6_letters_18 : decode cX6_letters 18 = .ok (.getfield 56, 3) := by decide +kernel
theorem dX6_letters_21 : decode cX6_letters 21 = .ok (.invokevirtual 185, 3) := by decide +kernel
theorem dX6_letters_24 : decode cX6_letters 24 = .ok (.iconst 0, 1) := by decide +kernel
theorem dX6_letters_25 : decode cX6_letters 25 = .ok (.istore_n 2, 1) := by decide +kernel
theorem dX6_letters_26 : decode cX6_letters 26 = .ok (.iconst 0, 1) := by decide +kernel
theorem dX6_letters_27 : decode cX6_letters 27 = .ok (.istore_n 3, 1) := by decide +kernel
theorem dX6_letters_28 : decode cX6_letters 28 = .ok (.iload_n 3, 1) := by decide +kernel
theorem dX6_letters_29 : decode cX6_letters 29 = .ok (.aload_n 0, 1) := by decide +kernel
theorem dX6_letters_30 : decode cX6_letters 30 = .ok (.getfield 33, 3) := by decide +kernel
theorem dX6_letters_33 : decode cX6_letters 33 = .ok (.getfield 211, 3) := by decide +kernel
theorem dX6_letters_36 : decode cX6_letters 36 = .ok (.if_icmp .ge 39, 3) := by decide +kernel
theorem dX6_letters_39 : decode cX6_letters 39 = .ok (.aload_n 0, 1) := by decide +kernel
theorem dX6_letters_40 : decode cX6_letters 40 = .ok (.getfield 42, 3) := by decide +kernel
theorem dX6_letters_43 : decode cX6_letters 43 = .ok (.iload_n 3, 1) := by decide +kernel
theorem dX6_letters_44 : decode cX6_letters 44 = .ok (.invokevirtual 283, 3) := by decide +kernel
theorem dX6_letters_47 : decode cX6_letters 47 = .ok (.ifCond .eq 22, 3) := by decide +kernel
theorem dX6_letters_50 : decode cX6_letters 50 = .ok (.iinc 2 1, 3) := by decide +kernel
theorem dX6_letters_53 : decode cX6_letters 53 = .ok (.aload_n 0, 1) := by decide +kernel
theorem dX6_letters_54 : decode cX6_letters 54 = .ok (.getfield 56, 3) := by decide +kernel
theorem dX6_letters_57 : decode cX6_letters 57 = .ok (.iconst 0, 1) := by decide +kernel
theorem dX6_letters_58 : decode cX6_letters 58 = .ok (.aload_n 0, 1) := by decide +kernel
theorem dX6_letters_59 : decode cX6_letters 59 = .ok (.getfield 33, 3) := by decide +kernel
theorem dX6_letters_62 : decode cX6_letters 62 = .ok (.iload_n 3, 1) := by decide +kernel
theorem dX6_letters_63 : decode cX6_letters 63 = .ok (.invokevirtual 216, 3) := by decide +kernel
theorem dX6_letters_66 : decode cX6_letters 66 = .ok (.invokevirtual 219, 3) := by decide +kernel
theorem dX6_letters_69 : decode cX6_letters 69 = .ok (.iinc 3 1, 3) := by decide +kernel
theorem dX6_letters_72 : decode cX6_letters 72 = .ok (.goto (-44), 3) := by decide +kernel
theorem dX6_letters_75 : decode cX6_letters 75 = .ok (.iload_n 1, 1) := by decide +kernel
theorem dX6_letters_76 : decode cX6_letters 76 = .ok (.ifCond .ne 5, 3) := by decide +kernel
theorem dX6_letters_79 : decode cX6_letters 79 = .ok (.iload_n 2, 1) := by decide +kernel
theorem dX6_letters_80 : decode cX6_letters 80 = .ok (.ireturn, 1) := by decide +kernel
theorem dX6_letters_81 : decode cX6_letters 81 = .ok (.aload_n 0, 1) := by decide +kernel
theorem dX6_letters_82 : decode cX6_letters 82 = .ok (.getfield 56, 3) := by decide +kernel
theorem dX6_letters_85 : decode cX6_letters 85 = .ok (.getfield 198, 3) := by decide +kernel
theorem dX6_letters_88 : decode cX6_letters 88 = .ok (.ifCond .eq 17, 3) := by decide +kernel
theorem dX6_letters_91 : decode cX6_letters 91 = .ok (.aload_n 0, 1) := by decide +kernel
theorem dX6_letters_92 : decode cX6_letters 92 = .ok (.getfield 56, 3) := by decide +kernel
theorem dX6_letters_95 : decode cX6_letters 95 = .ok (.getfield 202, 3) := by decide +kernel
theorem dX6_letters_98 : decode cX6_letters 98 = .ok (.sipush 1000, 3) := by decide +kernel
theorem dX6_letters_101 : decode cX6_letters 101 = .ok (.irem, 1) := by decide +kernel
theorem dX6_letters_102 : decode cX6_letters 102 = .ok (.goto 5, 3) := by decide +kernel
theorem dX6_letters_105 : decode cX6_letters 105 = .ok (.bipush (-6), 2) := by decide +kernel
theorem dX6_letters_107 : decode cX6_letters 107 = .ok (.ireturn, 1) := by decide +kernel
theorem dX6_agreed_0 : decode cX6_agreed 0 = .ok (.iload_n 1, 1) := by decide +kernel
theorem dX6_agreed_1 : decode cX6_agreed 1 = .ok (.invokestatic 158, 3) := by decide +kernel
theorem dX6_agreed_4 : decode cX6_agreed 4 = .ok (.ifCond .ne 6, 3) := by decide +kernel
theorem dX6_agreed_7 : decode cX6_agreed 7 = .ok (.bipush (-2), 2) := by decide +kernel
theorem dX6_agreed_9 : decode cX6_agreed 9 = .ok (.ireturn, 1) := by decide +kernel
theorem dX6_agreed_10 : decode cX6_agreed 10 = .ok (.aload_n 0, 1) := by decide +kernel
theorem dX6_agreed_11 : decode cX6_agreed 11 = .ok (.getfield 42, 3) := by decide +kernel
theorem dX6_agreed_14 : decode cX6_agreed 14 = .ok (.invokevirtual 182, 3) := by decide +kernel
theorem dX6_agreed_17 : decode cX6_agreed 17 = .ok (.aload_n 0, 1) := by decide +kernel
theorem dX6_agreed_18 : decode cX6_agreed 18 = .ok (.getfield 56, 3) := by decide +kernel
theorem dX6_agreed_21 : decode cX6_agreed 21 = .ok (.invokevirtual 185, 3) := by decide +kernel
theorem dX6_agreed_24 : decode cX6_agreed 24 = .ok (.aload_n 0, 1) := by decide +kernel
theorem dX6_agreed_25 : decode cX6_agreed 25 = .ok (.invokevirtual 255, 3) := by decide +kernel
theorem dX6_agreed_28 : decode cX6_agreed 28 = .ok (.iconst 0, 1) := by decide +kernel
theorem dX6_agreed_29 : decode cX6_agreed 29 = .ok (.istore_n 2, 1) := by decide +kernel
theorem dX6_agreed_30 : decode cX6_agreed 30 = .ok (.iload_n 2, 1) := by decide +kernel
theorem dX6_agreed_31 : decode cX6_agreed 31 = .ok (.aload_n 0, 1) := by decide +kernel
theorem dX6_agreed_32 : decode cX6_agreed 32 = .ok (.getfield 33, 3) := by decide +kernel
theorem dX6_agreed_35 : decode cX6_agreed 35 = .ok (.getfield 211, 3) := by decide +kernel
theorem dX6_agreed_38 : decode cX6_agreed 38 = .ok (.if_icmp .ge 50, 3) := by decide +kernel
theorem dX6_agreed_41 : decode cX6_agreed 41 = .ok (.aload_n 0, 1) := by decide +kernel
theorem dX6_agreed_42 : decode cX6_agreed 42 = .ok (.getfield 42, 3) := by decide +kernel
theorem dX6_agreed_45 : decode cX6_agreed 45 = .ok (.iload_n 2, 1) := by decide +kernel
theorem dX6_agreed_46 : decode cX6_agreed 46 = .ok (.aload_n 0, 1) := by decide +kernel
theorem dX6_agreed_47 : decode cX6_agreed 47 = .ok (.getfield 10, 3) := by decide +kernel
theorem dX6_agreed_50 : decode cX6_agreed 50 = .ok (.getfield 103, 3) := by decide +kernel
theorem dX6_agreed_53 : decode cX6_agreed 53 = .ok (.invokevirtual 212, 3) := by decide +kernel
theorem dX6_agreed_56 : decode cX6_agreed 56 = .ok (.istore_n 3, 1) := by decide +kernel
theorem dX6_agreed_57 : decode cX6_agreed 57 = .ok (.iload_n 3, 1) := by decide +kernel
theorem dX6_agreed_58 : decode cX6_agreed 58 = .ok (.ifCond .lt 24, 3) := by decide +kernel
theorem dX6_agreed_61 : decode cX6_agreed 61 = .ok (.aload_n 0, 1) := by decide +kernel
theorem dX6_agreed_62 : decode cX6_agreed 62 = .ok (.getfield 56, 3) := by decide +kernel
theorem dX6_agreed_65 : decode cX6_agreed 65 = .ok (.aload_n 0, 1) := by decide +kernel
theorem dX6_agreed_66 : decode cX6_agreed 66 = .ok (.getfield 60, 3) := by decide +kernel
theorem dX6_agreed_69 : decode cX6_agreed 69 = .ok (.iload_n 3, 1) := by decide +kernel
theorem dX6_agreed_70 : decode cX6_agreed 70 = .ok (.iaload, 1) := by decide +kernel
theorem dX6_agreed_71 : decode cX6_agreed 71 = .ok (.aload_n 0, 1) := by decide +kernel
theorem dX6_agreed_72 : decode cX6_agreed 72 = .ok (.getfield 33, 3) := by decide +kernel
theorem dX6_agreed_75 : decode cX6_agreed 75 = .ok (.iload_n 2, 1) := by decide +kernel
theorem dX6_agreed_76 : decode cX6_agreed 76 = .ok (.invokevirtual 216, 3) := by decide +kernel
theorem dX6_agreed_79 : decode cX6_agreed 79 = .ok (.invokevirtual 219, 3) := by decide +kernel
theorem dX6_agreed_82 : decode cX6_agreed 82 = .ok (.iinc 2 1, 3) := by decide +kernel
theorem dX6_agreed_85 : decode cX6_agreed 85 = .ok (.goto (-55), 3) := by decide +kernel
theorem dX6_agreed_88 : decode cX6_agreed 88 = .ok (.aload_n 0, 1) := by decide +kernel
theorem dX6_agreed_89 : decode cX6_agreed 89 = .ok (.getfield 56, 3) := by decide +kernel
theorem dX6_agreed_92 : decode cX6_agreed 92 = .ok (.getfield 198, 3) := by decide +kernel
theorem dX6_agreed_95 : decode cX6_agreed 95 = .ok (.ifCond .ne 6, 3) := by decide +kernel
theorem dX6_agreed_98 : decode cX6_agreed 98 = .ok (.bipush (-6), 2) := by decide +kernel
theorem dX6_agreed_100 : decode cX6_agreed 100 = .ok (.ireturn, 1) := by decide +kernel
theorem dX6_agreed_101 : decode cX6_agreed 101 = .ok (.iload_n 1, 1) := by decide +kernel
theorem dX6_agreed_102 : decode cX6_agreed 102 = .ok (.ifCond .ne 17, 3) := by decide +kernel
theorem dX6_agreed_105 : decode cX6_agreed 105 = .ok (.aload_n 0, 1) := by decide +kernel
theorem dX6_agreed_106 : decode cX6_agreed 106 = .ok (.getfield 56, 3) := by decide +kernel
theorem dX6_agreed_109 : decode cX6_agreed 109 = .ok (.getfield 202, 3) := by decide +kernel
theorem dX6_agreed_112 : decode cX6_agreed 112 = .ok (.sipush 1000, 3) := by decide +kernel
theorem dX6_agreed_115 : decode cX6_agreed 115 = .ok (.irem, 1) := by decide +kernel
theorem dX6_agreed_116 : decode cX6_agreed 116 = .ok (.goto 14, 3) := by decide +kernel
theorem dX6_agreed_119 : decode cX6_agreed 119 = .ok (.aload_n 0, 1) := by decide +kernel
theorem dX6_agreed_120 : decode cX6_agreed 120 = .ok (.getfield 56, 3) := by decide +kernel
theorem dX6_agreed_123 : decode cX6_agreed 123 = .ok (.getfield 208, 3) := by decide +kernel
theorem dX6_agreed_126 : decode cX6_agreed 126 = .ok (.sipush 1000, 3) := by decide +kernel
theorem dX6_agreed_129 : decode cX6_agreed 129 = .ok (.idiv, 1) := by decide +kernel
theorem dX6_agreed_130 : decode cX6_agreed 130 = .ok (.ireturn, 1) := by decide +kernel
theorem dX6_fillMerits_0 : decode cX6_fillMerits 0 = .ok (.iconst 0, 1) := by decide +kernel
theorem dX6_fillMerits_1 : decode cX6_fillMerits 1 = .ok (.istore_n 1, 1) := by decide +kernel
theorem dX6_fillMerits_2 : decode cX6_fillMerits 2 = .ok (.iload_n 1, 1) := by decide +kernel
theorem dX6_fillMerits_3 : decode cX6_fillMerits 3 = .ok (.aload_n 0, 1) := by decide +kernel
theorem dX6_fillMerits_4 : decode cX6_fillMerits 4 = .ok (.getfield 10, 3) := by decide +kernel
theorem dX6_fillMerits_7 : decode cX6_fillMerits 7 = .ok (.invokevirtual 307, 3) := by decide +kernel
theorem dX6_fillMerits_10 : decode cX6_fillMerits 10 = .ok (.if_icmp .ge 57, 3) := by decide +kernel
theorem dX6_fillMerits_13 : decode cX6_fillMerits 13 = .ok (.iconst 0, 1) := by decide +kernel
theorem dX6_fillMerits_14 : decode cX6_fillMerits 14 = .ok (.istore_n 2, 1) := by decide +kernel
theorem dX6_fillMerits_15 : decode cX6_fillMerits 15 = .ok (.iconst 0, 1) := by decide +kernel
theorem dX6_fillMerits_16 : decode cX6_fillMerits 16 = .ok (.istore_n 3, 1) := by decide +kernel
theorem dX6_fillMerits_17 : decode cX6_fillMerits 17 = .ok (.iload_n 3, 1) := by decide +kernel
theorem dX6_fillMerits_18 : decode cX6_fillMerits 18 = .ok (.iconst 4, 1) := by decide +kernel
theorem dX6_fillMerits_19 : decode cX6_fillMerits 19 = .ok (.if_icmp .ge 21, 3) := by decide +kernel
theorem dX6_fillMerits_22 : decode cX6_fillMerits 22 = .ok (.iload_n 2, 1) := by decide +kernel
theorem dX6_fillMerits_23 : decode cX6_fillMerits 23 = .ok (.aload_n 0, 1) := by decide +kernel
theorem dX6_fillMerits_24 : decode cX6_fillMerits 24 = .ok (.getfield 10, 3) := by decide +kernel
theorem dX6_fillMerits_27 : decode cX6_fillMerits 27 = .ok (.iload_n 3, 1) := by decide +kernel
theorem dX6_fillMerits_28 : decode cX6_fillMerits 28 = .ok (.iload_n 1, 1) := by decide +kernel
theorem dX6_fillMerits_29 : decode cX6_fillMerits 29 = .ok (.invokevirtual 109, 3) := by decide +kernel
theorem dX6_fillMerits_32 : decode cX6_fillMerits 32 = .ok (.iadd, 1) := by decide +kernel
theorem dX6_fillMerits_33 : decode cX6_fillMerits 33 = .ok (.istore_n 2, 1) := by decide +kernel
theorem dX6_fillMerits_34 : decode cX6_fillMerits 34 = .ok (.iinc 3 1, 3) := by decide +kernel
theorem dX6_fillMerits_37 : decode cX6_fillMerits 37 = .ok (.goto (-20), 3) := by decide +kernel
theorem dX6_fillMerits_40 : decode cX6_fillMerits 40 = .ok (.aload_n 0, 1) := by decide +kernel
theorem dX6_fillMerits_41 : decode cX6_fillMerits 41 = .ok (.getfield 60, 3) := by decide +kernel
theorem dX6_fillMerits_44 : decode cX6_fillMerits 44 = .ok (.iload_n 1, 1) := by decide +kernel
theorem dX6_fillMerits_45 : decode cX6_fillMerits 45 = .ok (.aload_n 0, 1) := by decide +kernel
theorem dX6_fillMerits_46 : decode cX6_fillMerits 46 = .ok (.iload_n 1, 1) := by decide +kernel
theorem dX6_fillMerits_47 : decode cX6_fillMerits 47 = .ok (.invokevirtual 252, 3) := by decide +kernel
theorem dX6_fillMerits_50 : decode cX6_fillMerits 50 = .ok (.sipush 1000, 3) := by decide +kernel
theorem dX6_fillMerits_53 : decode cX6_fillMerits 53 = .ok (.imul, 1) := by decide +kernel
theorem dX6_fillMerits_54 : decode cX6_fillMerits 54 = .ok (.sipush 500, 3) := by decide +kernel
theorem dX6_fillMerits_57 : decode cX6_fillMerits 57 = .ok (.iadd, 1) := by decide +kernel
theorem dX6_fillMerits_58 : decode cX6_fillMerits 58 = .ok (.iload_n 2, 1) := by decide +kernel
theorem dX6_fillMerits_59 : decode cX6_fillMerits 59 = .ok (.iadd, 1) := by decide +kernel
theorem dX6_fillMerits_60 : decode cX6_fillMerits 60 = .ok (.iastore, 1) := by decide +kernel
theorem dX6_fillMerits_61 : decode cX6_fillMerits 61 = .ok (.iinc 1 1, 3) := by decide +kernel
theorem dX6_fillMerits_64 : decode cX6_fillMerits 64 = .ok (.goto (-62), 3) := by decide +kernel
theorem dX6_fillMerits_67 : decode cX6_fillMerits 67 = .ok (.return_, 1) := by decide +kernel
theorem dX6_year_0 : decode cX6_year 0 = .ok (.iload_n 1, 1) := by decide +kernel
theorem dX6_year_1 : decode cX6_year 1 = .ok (.ifCond .lt 30, 3) := by decide +kernel
theorem dX6_year_4 : decode cX6_year 4 = .ok (.iload_n 1, 1) := by decide +kernel
theorem dX6_year_5 : decode cX6_year 5 = .ok (.sipush 9999, 3) := by decide +kernel
theorem dX6_year_8 : decode cX6_year 8 = .ok (.if_icmp .gt 23, 3) := by decide +kernel
theorem dX6_year_11 : decode cX6_year 11 = .ok (.iload_n 2, 1) := by decide +kernel
theorem dX6_year_12 : decode cX6_year 12 = .ok (.iconst 1, 1) := by decide +kernel
theorem dX6_year_13 : decode cX6_year 13 = .ok (.if_icmp .lt 18, 3) := by decide +kernel
theorem dX6_year_16 : decode cX6_year 16 = .ok (.iload_n 2, 1) := by decide +kernel
theorem dX6_year_17 : decode cX6_year 17 = .ok (.bipush 99, 2) := by decide +kernel
theorem dX6_year_19 : decode cX6_year 19 = .ok (.if_icmp .gt 12, 3) := by decide +kernel
theorem dX6_year_22 : decode cX6_year 22 = .ok (.iload_n 3, 1) := by decide +kernel
theorem dX6_year_23 : decode cX6_year 23 = .ok (.ifCond .lt 8, 3) := by decide +kernel
theorem dX6_year_26 : decode cX6_year 26 = .ok (.iload_n 3, 1) := by decide +kernel
theorem dX6_year_27 : decode cX6_year 27 = .ok (.iconst 2, 1) := by decide +kernel
theorem dX6_year_28 : decode cX6_year 28 = .ok (.if_icmp .le 6, 3) := by decide +kernel
theorem dX6_year_31 : decode cX6_year 31 = .ok (.bipush (-2), 2) := by decide +kernel
theorem dX6_year_33 : decode cX6_year 33 = .ok (.ireturn, 1) := by decide +kernel
theorem dX6_year_34 : decode cX6_year 34 = .ok (.aload_n 0, 1) := by decide +kernel
theorem dX6_year_35 : decode cX6_year 35 = .ok (.getfield 42, 3) := by decide +kernel
theorem dX6_year_38 : decode cX6_year 38 = .ok (.invokevirtual 182, 3) := by decide +kernel
theorem dX6_year_41 : decode cX6_year 41 = .ok (.aload_n 0, 1) := by decide +kernel
theorem dX6_year_42 : decode cX6_year 42 = .ok (.getfield 33, 3) := by decide +kernel
theorem dX6_year_45 : decode cX6_year 45 = .ok (.getfield 211, 3) := by decide +kernel
theorem dX6_year_48 : decode cX6_year 48 = .ok (.ifCond .le 13, 3) := by decide +kernel
theorem dX6_year_51 : decode cX6_year 51 = .ok (.aload_n 0, 1) := by decide +kernel
theorem dX6_year_52 : decode cX6_year 52 = .ok (.getfield 33, 3) := by decide +kernel
theorem dX6_year_55 : decode cX6_year 55 = .ok (.getfield 211, 3) := by decide +kernel
theorem dX6_year_58 : decode cX6_year 58 = .ok (.goto 4, 3) := by decide +kernel
theorem dX6_year_61 : decode cX6_year 61 = .ok (.iconst 1, 1) := by decide +kernel
theorem dX6_year_62 : decode cX6_year 62 = .ok (.istore 4, 2) := by decide +kernel
theorem dX6_year_64 : decode cX6_year 64 = .ok (.iload_n 1, 1) := by decide +kernel
theorem dX6_year_65 : decode cX6_year 65 = .ok (.istore 5, 2) := by decide +kernel
theorem dX6_year_67 : decode cX6_year 67 = .ok (.aload_n 0, 1) := by decide +kernel
theorem dX6_year_68 : decode cX6_year 68 = .ok (.getfield 10, 3) := by decide +kernel
theorem dX6_year_71 : decode cX6_year 71 = .ok (.getfield 103, 3) := by decide +kernel
theorem dX6_year_74 : decode cX6_year 74 = .ok (.istore 6, 2) := by decide +kernel
theorem dX6_year_76 : decode cX6_year 76 = .ok (.iconst 0, 1) := by decide +kernel
theorem dX6_year_77 : decode cX6_year 77 = .ok (.istore 7, 2) := by decide +kernel
theorem dX6_year_79 : decode cX6_year 79 = .ok (.iconst 0, 1) := by decide +kernel
theorem dX6_year_80 : decode cX6_year 80 = .ok (.istore 8, 2) := by decide +kernel
theorem dX6_year_82 : decode cX6_year 82 = .ok (.iconst 0, 1) := by decide +kernel
theorem dX6_year_83 : decode cX6_year 83 = .ok (.istore 9, 2) := by decide +kernel
theorem dX6_year_85 : decode cX6_year 85 = .ok (.iload 9, 2) := by decide +kernel
theorem dX6_year_87 : decode cX6_year 87 = .ok (.iload_n 2, 1) := by decide +kernel
theorem dX6_year_88 : decode cX6_year 88 = .ok (.if_icmp .ge 87, 3) := by decide +kernel
theorem dX6_year_91 : decode cX6_year 91 = .ok (.bipush 75, 2) := by decide +kernel
theorem dX6_year_93 : decode cX6_year 93 = .ok (.iload 5, 2) := by decide +kernel
theorem dX6_year_95 : decode cX6_year 95 = .ok (.imul, 1) := by decide +kernel
theorem dX6_year_96 : decode cX6_year 96 = .ok (.bipush 74, 2) := by decide +kernel
theorem dX6_year_98 : decode cX6_year 98 = .ok (.iadd, 1) := by decide +kernel
theorem dX6_year_99 : decode cX6_year 99 = .ok (.ldc_w 299, 3) := by decide +kernel
theorem dX6_year_102 : decode cX6_year 102 = .ok (.irem, 1) := by decide +kernel
theorem dX6_year_103 : decode cX6_year 103 = .ok (.istore 5, 2) := by decide +kernel
theorem dX6_year_105 : decode cX6_year 105 = .ok (.aload_n 0, 1) := by decide +kernel
theorem dX6_year_106 : decode cX6_year 106 = .ok (.getfield 42, 3) := by decide +kernel
theorem dX6_year_109 : decode cX6_year 109 = .ok (.iload 5, 2) := by decide +kernel
theorem dX6_year_111 : decode cX6_year 111 = .ok (.iload 4, 2) := by decide +kernel
theorem dX6_year_113 : decode cX6_year 113 = .ok (.irem, 1) := by decide +kernel
theorem dX6_year_114 : decode cX6_year 114 = .ok (.iload 6, 2) := by decide +kernel
theorem dX6_year_116 : decode cX6_year 116 = .ok (.invokevirtual 212, 3) := by decide +kernel
theorem dX6_year_119 : decode cX6_year 119 = .ok (.istore 10, 2) := by decide +kernel
theorem dX6_year_121 : decode cX6_year 121 = .ok (.iload 10, 2) := by decide +kernel
theorem dX6_year_123 : decode cX6_year 123 = .ok (.ifCond .ge 9, 3) := by decide +kernel
theorem dX6_year_126 : decode cX6_year 126 = .ok (.iinc 7 1, 3) := by decide +kernel
theorem dX6_year_129 : decode cX6_year 129 = .ok (.goto 40, 3) := by decide +kernel
theorem dX6_year_132 : decode cX6_year 132 = .ok (.iload 8, 2) := by decide +kernel
theorem dX6_year_134 : decode cX6_year 134 = .ok (.aload_n 0, 1) := by decide +kernel
theorem dX6_year_135 : decode cX6_year 135 = .ok (.getfield 42, 3) := by decide +kernel
theorem dX6_year_138 : decode cX6_year 138 = .ok (.getfield 215, 3) := by decide +kernel
theorem dX6_year_141 : decode cX6_year 141 = .ok (.iload 10, 2) := by decide +kernel
theorem dX6_year_143 : decode cX6_year 143 = .ok (.iaload, 1) := by decide +kernel
theorem dX6_year_144 : decode cX6_year 144 = .ok (.aload_n 0, 1) := by decide +kernel
theorem dX6_year_145 : decode cX6_year 145 = .ok (.getfield 42, 3) := by decide +kernel
theorem dX6_year_148 : decode cX6_year 148 = .ok (.getfield 215, 3) := by decide +kernel
theorem dX6_year_151 : decode cX6_year 151 = .ok (.iload 6, 2) := by decide +kernel
theorem dX6_year_153 : decode cX6_year 153 = .ok (.iaload, 1) := by decide +kernel
theorem dX6_year_154 : decode cX6_year 154 = .ok (.if_icmp .ge 7, 3) := by decide +kernel
theorem dX6_year_157 : decode cX6_year 157 = .ok (.iconst 1, 1) := by decide +kernel
theorem dX6_year_158 : decode cX6_year 158 = .ok (.goto 4, 3) := by decide +kernel
theorem dX6_year_161 : decode cX6_year 161 = .ok (.iconst 0, 1) := by decide +kernel
theorem dX6_year_162 : decode cX6_year 162 = .ok (.iadd, 1) := by decide +kernel
theorem dX6_year_163 : decode cX6_year 163 = .ok (.istore 8, 2) := by decide +kernel
theorem dX6_year_165 : decode cX6_year 165 = .ok (.iload 10, 2) := by decide +kernel
theorem dX6_year_167 : decode cX6_year 167 = .ok (.istore 6, 2) := by decide +kernel
theorem dX6_year_169 : decode cX6_year 169 = .ok (.iinc 9 1, 3) := by decide +kernel
theorem dX6_year_172 : decode cX6_year 172 = .ok (.goto (-87), 3) := by decide +kernel
theorem dX6_year_175 : decode cX6_year 175 = .ok (.iload_n 3, 1) := by decide +kernel
theorem dX6_year_176 : decode cX6_year 176 = .ok (.ifCond .ne 6, 3) := by decide +kernel
theorem dX6_year_179 : decode cX6_year 179 = .ok (.iload 7, 2) := by decide +kernel
theorem dX6_year_181 : decode cX6_year 181 = .ok (.ireturn, 1) := by decide +kernel
theorem dX6_year_182 : decode cX6_year 182 = .ok (.iload_n 3, 1) := by decide +kernel
theorem dX6_year_183 : decode cX6_year 183 = .ok (.iconst 1, 1) := by decide +kernel
theorem dX6_year_184 : decode cX6_year 184 = .ok (.if_icmp .ne 8, 3) := by decide +kernel
theorem dX6_year_187 : decode cX6_year 187 = .ok (.iload 6, 2) := by decide +kernel
theorem dX6_year_189 : decode cX6_year 189 = .ok (.goto 5, 3) := by decide +kernel
theorem dX6_year_192 : decode cX6_year 192 = .ok (.iload 8, 2) := by decide +kernel
theorem dX6_year_194 : decode cX6_year 194 = .ok (.ireturn, 1) := by decide +kernel
theorem pop_wd {t num : Nat} : ∀ i, pop i (tmask 1 t num t ||| tmask 2 t num t) = wdc t num (min i t)
  | 0 => by rw [Nat.zero_min]; rfl
  | i + 1 => by
    show pop i _ + (if (tmask 1 t num t ||| tmask 2 t num t).testBit i then 1 else 0) = _
    rw [pop_wd i, Nat.testBit_or, tm_bit, tm_bit]
    by_cases h : i < t
    · rw [show min (i + 1) t = i + 1 by omega, show min i t = i by omega, decide_eq_true h, Bool.true_and, Bool.true_and]
      show _ = wdc t num i + (if 0 < dig t num i then 1 else 0)
      have := dig_lt t num i
      by_cases h0 : dig t num i = 0
      · rw [h0]; rfl
      · by_cases h1 : dig t num i = 1
        · rw [h1]; rfl
        · rw [show dig t num i = 2 by omega]; rfl
    · rw [show min (i + 1) t = t by omega, show min i t = t by omega, decide_eq_false h]; rfl
theorem pop_wd6 {t num : Nat} (h6 : t ≤ 6) : pop 6 (tmask 1 t num t ||| tmask 2 t num t) = wd t num := by
  rw [pop_wd 6, show min 6 t = t by omega]; rfl
def rkN (t num : Nat) : Nat := wd t num * 1000 + num
theorem rk_lt {t k u : Nat} (h6 : t ≤ 6) (huk : u < k) (hk : k < 3 ^ t) : (nI (rkN t k) < nI (rkN t u)) ↔ wd t k < wd t u := by
  have h729 := p3_le h6
  have h1 := wd_le (t := t) (num := k) h6
  have h2 := wd_le (t := t) (num := u) h6
  unfold rkN
  rw [nI_ltI (by omega) (by omega)]
  omega
def boK (t : Nat) (val : Nat → Option Int32) : Nat → Option (Int32 × Int32) → Option (Int32 × Int32) := fun k o => match val k with
  | none => o
  | some v => boF v (nI (rkN t k)) o
theorem boK_n {t k : Nat} {val : Nat → Option Int32} {o : Option (Int32 × Int32)} (h : val k = none) : boK t val k o = o := by unfold boK; rw [h]
theorem boK_s {t k : Nat} {val : Nat → Option Int32} {v : Int32} {o : Option (Int32 × Int32)} (h : val k = some v) : boK t val k o = boF v (nI (rkN t k)) o := by unfold boK; rw [h]
theorem bo_eq {better : Nat → Int32 → Nat → Int32 → Bool} {own val : Nat → Option Int32} {t N : Nat} (h1 : ∀ k, k < N → (own k = none ↔ val k = none)) (h2 : ∀ k u o b v w, u < k → k < N → own k = some o → own u = some b → val k = some v → val u = some w → (better k o u b = true ↔ (w < v ∨ (v = w ∧ nI (rkN t k) < nI (rkN t u))))) : ∀ k, k ≤ N → upto (boK t val) k none = (upto (pickB better own) k none).map (fun p => ((val p.1).getD 0, nI (rkN t p.1)))
  | 0, _ => (show (none : Option (Int32 × Int32)) = none from rfl)
  | k + 1, hk => by
    have ih := bo_eq h1 h2 k (by omega)
    have hlt := pickB_lt (better := better) (own := own) k
    have hown := pickB_own (better := better) (own := own) k
    show boK t val k (upto (boK t val) k none) = (pickB better own k (upto (pickB better own) k none)).map _
    rw [ih]
    generalize upto (pickB better own) k none = s at hlt hown
    cases ho : own k with
    | none =>
      rw [boK_n ((h1 k (by omega)).mp ho)]
      unfold pickB
      rw [ho]
    | some o =>
      obtain ⟨v, hv⟩ : ∃ v, val k = some v := by
        cases hx : val k with
        | none => rw [(h1 k (by omega)).mpr hx] at ho; cases ho
        | some v => exact ⟨v, rfl⟩
      rw [boK_s hv]
      unfold pickB
      rw [ho]
      cases s with
      | none => simp [boF, hv]
      | some p =>
        obtain ⟨u, b⟩ := p
        have hu := hlt u b rfl
        have hb := hown u b rfl
        obtain ⟨w, hw⟩ : ∃ w, val u = some w := by
          cases hx : val u with
          | none => rw [(h1 u (by omega)).mpr hx] at hb; cases hb
          | some v => exact ⟨v, rfl⟩
        have h9 := h2 k u o b v w hu (by omega) ho hb hv hw
        simp only [Option.map_some, hw, Option.getD_some]
        show (if w < v ∨ (v = w ∧ nI (rkN t k) < nI (rkN t u)) then some (v, nI (rkN t k)) else some (w, nI (rkN t u))) = _
        cases hbt : better k o u b with
        | true => rw [if_pos (h9.mp hbt), if_pos rfl]; simp [hv]
        | false => rw [if_neg (fun e => by rw [h9.mpr e] at hbt; cases hbt), if_neg (by decide)]; simp [hw]
theorem boW_eq {t : Nat} {good : Nat → Bool} (h6 : t ≤ 6) : ∀ k, k ≤ 3 ^ t → upto (boK t (fun k => if good k then some 0 else none)) k none = (upto (pickW t good) k none).map (fun u => (0, nI (rkN t u)))
  | 0, _ => (show (none : Option (Int32 × Int32)) = none from rfl)
  | k + 1, hk => by
    have ih := boW_eq (good := good) h6 k (by omega)
    have hlt := pickW_lt (t := t) (good := good) k
    show boK t _ k (upto (boK t _) k none) = (pickW t good k (upto (pickW t good) k none)).map _
    rw [ih]
    generalize upto (pickW t good) k none = s at hlt
    cases hg : good k with
    | false =>
      rw [boK_n (by rw [hg]; rfl)]
      unfold pickW
      rw [hg]
      rfl
    | true =>
      rw [boK_s (v := 0) (by rw [hg]; rfl)]
      unfold pickW
      rw [hg, if_pos rfl]
      cases s with
      | none => rfl
      | some u =>
        have hu := hlt u rfl
        have h9 := rk_lt h6 hu (show k < 3 ^ t by omega)
        show (if (0 : Int32) < 0 ∨ ((0 : Int32) = 0 ∧ nI (rkN t k) < nI (rkN t u)) then some ((0 : Int32), nI (rkN t k)) else some (0, nI (rkN t u))) = Option.map (fun u => ((0 : Int32), nI (rkN t u))) (if wd t k < wd t u then some k else some u)
        by_cases hw : wd t k < wd t u
        · rw [if_pos (Or.inr ⟨rfl, h9.mpr hw⟩), if_pos hw]; rfl
        · rw [if_neg (fun e => e.elim (fun h => absurd h (by decide)) (fun h => hw (h9.mp h.2))), if_neg hw]; rfl
theorem bt_own {t k u : Nat} {o b : Int32} (h6 : t ≤ 6) (hu : u < k) (hk : k < 3 ^ t) : (btW t k o u b = true ↔ (b < o ∨ (o = b ∧ nI (rkN t k) < nI (rkN t u)))) := by
  unfold btW
  rw [rk_lt h6 hu hk]
  simp only [Bool.or_eq_true, Bool.and_eq_true, decide_eq_true_eq]
theorem rk_mod {t u : Nat} (h6 : t ≤ 6) (hu : u < 3 ^ t) : nI (rkN t u) - nI (rkN t u) / 1000 * 1000 = nI u ∧ nI (rkN t u) / 1000 = nI (wd t u) := by
  have h729 := p3_le h6
  have h1 := wd_le (t := t) (num := u) h6
  unfold rkN
  constructor
  · rw [show (1000 : Int32) = nI 1000 from rfl, pk_rem (by omega) (by decide) (by decide)]; congr 1; omega
  · rw [show (1000 : Int32) = nI 1000 from rfl, pk_div (by omega) (by decide) (by decide)]; congr 1; omega
/-- what a world is worth to all, behind the votes -/
def meF (I : Nat → Nat → Int32) (t he w : Nat) : Int32 := voF I t he w * 1000 + 500 + waF I t w
theorem voF_b {I : Nat → Nat → Int32} {J : Nat → Nat → Int64} {t sl wy wi he : Nat} (hk : KI I J t sl wy wi he) (w : Nat) : 0 ≤ (voF I t he w).toInt ∧ (voF I t he w).toInt ≤ 24 := by
  have key : ∀ k, k ≤ 4 → 0 ≤ (upto (fun c s => s + if wtF I t c he < wtF I t c w then I 36 c else 0) k (0 : Int32)).toInt ∧ (upto (fun c s => s + if wtF I t c he < wtF I t c w then I 36 c else 0) k (0 : Int32)).toInt ≤ 6 * k := by
    intro k
    induction k with
    | zero => intro _; exact ⟨(show (0 : Int) ≤ (0 : Int32).toInt by decide), (show (0 : Int32).toInt ≤ 0 by decide)⟩
    | succ k ih =>
      intro hk4
      obtain ⟨i1, i2⟩ := ih (by omega)
      obtain ⟨-, v, hv, e⟩ := hk.2.2.2.2.2 k (by omega)
      have hx : 0 ≤ (if wtF I t k he < wtF I t k w then I 36 k else 0).toInt ∧ (if wtF I t k he < wtF I t k w then I 36 k else 0).toInt ≤ 6 := by
        split
        · rw [e, nI_toInt (by omega)]; omega
        · exact ⟨by decide, by decide⟩
      show 0 ≤ (_ + (if wtF I t k he < wtF I t k w then I 36 k else 0)).toInt ∧ (_ + (if wtF I t k he < wtF I t k w then I 36 k else 0)).toInt ≤ 6 * (k + 1 : Nat)
      rw [ti_add (by omega) (by omega)]
      omega
  exact key 4 (by omega)
theorem waF_b {I : Nat → Nat → Int32} {J : Nat → Nat → Int64} {t sl wy wi he : Nat} (hk : KI I J t sl wy wi he) (w : Nat) : -216 ≤ (waF I t w).toInt ∧ (waF I t w).toInt ≤ 216 := by
  have key : ∀ k : Nat, k ≤ 4 → -(54 * k : Int) ≤ (upto (fun c s => s + wtF I t c w) k (0 : Int32)).toInt ∧ (upto (fun c s => s + wtF I t c w) k (0 : Int32)).toInt ≤ 54 * k := by
    intro k
    induction k with
    | zero => intro _; exact ⟨(show (0 : Int) ≤ (0 : Int32).toInt by decide), (show (0 : Int32).toInt ≤ 0 by decide)⟩
    | succ k ih =>
      intro hk4
      obtain ⟨i1, i2⟩ := ih (by omega)
      have hx := wtF_b hk (show k < 4 by omega) w
      show -(54 * (k + 1 : Nat) : Int) ≤ (_ + wtF I t k w).toInt ∧ (_ + wtF I t k w).toInt ≤ 54 * (k + 1 : Nat)
      rw [ti_add (by omega) (by omega)]
      omega
  exact key 4 (by omega)
theorem ti_mul {a : Nat} {b : Int32} {v : Nat} (hb : b.toInt = v) (h : a * v ≤ 2 ^ 30) (hv : v < 2 ^ 31) : (nI a * b).toInt = (a : Int) * v := by
  obtain ⟨m, hm, e⟩ := nI_of (x := b) (by rw [i_lt, hb, e_0i]; omega)
  have : m = v := by rw [e, nI_toInt hm] at hb; omega
  subst this
  rw [e, pk_mul, nI_toInt (by omega)]
  exact Int.natCast_mul a m
theorem me_own {I : Nat → Nat → Int32} {J : Nat → Nat → Int64} {t sl wy wi he : Nat} (hk : KI I J t sl wy wi he) (w d : Nat) (hd : d ≤ 6) : ∃ (V : Nat) (A : Int), V ≤ 24 ∧ -216 ≤ A ∧ A ≤ 216 ∧ (voF I t he w) = nI V ∧ (meF I t he w).toInt = 1000 * V + 500 + A ∧ (100000 * voF I t he w + 10 * (waF I t w + 500) + 6 - nI d).toInt = 100000 * V + 10 * (A + 500) + 6 - d := by
  obtain ⟨v1, v2⟩ := voF_b hk w
  obtain ⟨a1, a2⟩ := waF_b hk w
  obtain ⟨V, hV31, hV⟩ := nI_of (x := voF I t he w) (by rw [i_lt, e_0i]; omega)
  have hVi : (voF I t he w).toInt = V := by rw [hV, nI_toInt hV31]
  refine ⟨V, (waF I t w).toInt, by omega, a1, a2, hV, ?_, ?_⟩
  · unfold meF
    have e1 : (voF I t he w * 1000).toInt = V * 1000 := by
      rw [hV, show (1000 : Int32) = nI 1000 from rfl, pk_mul, nI_toInt (by omega)]; exact Int.natCast_mul V 1000
    have e5 : (500 : Int32).toInt = 500 := rfl
    have e2 : (voF I t he w * 1000 + 500).toInt = V * 1000 + 500 := by rw [ti_add (by omega) (by rw [e5]; omega), e1, e5]
    rw [ti_add (by omega) (by omega), e2]
    omega
  · have e1 : ((100000 : Int32) * voF I t he w).toInt = 100000 * V := by
      rw [hV, show (100000 : Int32) = nI 100000 from rfl, pk_mul, nI_toInt (by omega)]; exact Int.natCast_mul 100000 V
    have e5 : (500 : Int32).toInt = 500 := rfl
    have e6 : (6 : Int32).toInt = 6 := rfl
    have e2 : (waF I t w + 500).toInt = (waF I t w).toInt + 500 := by rw [ti_add (by omega) (by rw [e5]; omega), e5]
    have e3 : ((10 : Int32) * (waF I t w + 500)).toInt = 10 * ((waF I t w).toInt + 500) := by
      have hb : (waF I t w + 500).toInt = (((waF I t w).toInt + 500).toNat : Nat) := by rw [e2]; omega
      have := ti_mul (a := 10) hb (by omega) (by omega)
      rw [show (10 : Int32) = nI 10 from rfl, this]
      omega
    have big : ∀ {a b : Int32}, -3000000 ≤ a.toInt ∧ a.toInt ≤ 3000000 → -3000000 ≤ b.toInt ∧ b.toInt ≤ 3000000 → (a + b).toInt = a.toInt + b.toInt := fun {a b} h1 h2 => by
      rw [Int32.toInt_add]; exact Int.bmod_eq_of_le (by omega) (by omega)
    have e4 : ((100000 : Int32) * voF I t he w + 10 * (waF I t w + 500)).toInt = 100000 * V + 10 * ((waF I t w).toInt + 500) := by rw [big (by omega) (by omega), e1, e3]
    have e7 : ((100000 : Int32) * voF I t he w + 10 * (waF I t w + 500) + 6).toInt = 100000 * V + 10 * ((waF I t w).toInt + 500) + 6 := by rw [big (by omega) (by rw [e6]; omega), e4, e6]
    have e8 : (nI d).toInt = d := nI_toInt (by omega)
    rw [Int32.toInt_sub, Int.bmod_eq_of_le (by omega) (by omega), e7, e8]
section CLS9
variable {xl : Nat} {xs : Nat → Int32} {n : Nat} {h : Nat → PC} {I S : Nat → Nat → Int32} {J T : Nat → Nat → Int64} {X : Nat → Option Nat} {t sl wy wi he c : Nat}
theorem k_X5_wordsOf {num : Nat} (hn : 49 ≤ n) (ht : TOK I J t) (h6 : t ≤ 6) (hu : num < 3 ^ t) : Rn xl xs 1 20 0 0 mX5_wordsOf [.ref 16, .int (nI num)] n (sysH (ov I S) (ovJ J T) X) (some (.int (nI (wd t num)))) n (sysH (ov I S) (ovJ J T) X) := by
  intro Q hQ
  have h729 := p3_le h6
  have h64 := p2_le h6
  have hsd : tmask 1 t num t ||| tmask 2 t num t < 2 ^ t := Nat.or_lt_two_pow (tmask_lt2 1 t num) (tmask_lt2 2 t num)
  show Ev xl xs 1 20 0 0 mX5_wordsOf 0 [some (.ref 16), some (.int (nI num))] [] n (sysH (ov I S) (ovJ J T) X) Q
  refine ev_aload_n (q := 1) dX5_wordsOf_0 rfl rfl ?_
  refine ev_get (q := 4) dX5_wordsOf_1 fr_X5_9 rfl (lt_n hn (by decide)) rfl rfl ?_
  refine ev_iload_n (q := 5) dX5_wordsOf_4 rfl rfl ?_
  refine ev_iaS (q := 6) num dX5_wordsOf_5 rfl rfl (by omega) (lt_n hn (by decide)) rfl ?_
  rw [show ov I S 17 num = _ from (ht.2.1 num hu).1]
  refine ev_callS1i (q := 9) dX5_wordsOf_6 ca_X5_37 (c_bitI (by omega)) (Nat.le_of_ble_eq_true rfl) (Nat.le_of_ble_eq_true rfl) (by decide) (by decide) rfl ?_
  exact ev_iretE dX5_wordsOf_9 rfl rfl (by rw [pop_wd6 h6]) rfl rfl hQ
theorem k_X5_rankOf {num : Nat} (hn : 49 ≤ n) (ht : TOK I J t) (h6 : t ≤ 6) (hu : num < 3 ^ t) : Rn xl xs 2 41 0 0 mX5_rankOf [.ref 16, .int (nI num)] n (sysH (ov I S) (ovJ J T) X) (some (.int (nI (rkN t num)))) n (sysH (ov I S) (ovJ J T) X) := by
  intro Q hQ
  show Ev xl xs 2 41 0 0 mX5_rankOf 0 [some (.ref 16), some (.int (nI num))] [] n (sysH (ov I S) (ovJ J T) X) Q
  refine ev_aload_n (q := 1) dX5_rankOf_0 rfl rfl ?_
  refine ev_iload_n (q := 2) dX5_rankOf_1 rfl rfl ?_
  refine ev_callV1i (q := 5) dX5_rankOf_2 ca_X5_43 (k_X5_wordsOf hn ht h6 (by omega)) rfl (lt_n hn (by decide)) rfl rfl (Nat.le_of_ble_eq_true rfl) (Nat.le_of_ble_eq_true rfl) (by decide) (by decide) rfl ?_
  refine ev_sipush (q := 8) (1000) dX5_rankOf_5 (by decide) rfl ?_
  refine ev_imul (q := 9) dX5_rankOf_8 rfl ?_
  refine ev_iload_n (q := 10) dX5_rankOf_9 rfl rfl ?_
  refine ev_iadd (q := 11) dX5_rankOf_10 rfl ?_
  exact ev_iretE dX5_rankOf_11 rfl rfl (by unfold rkN; rw [show (1000 : Int32) = nI 1000 from rfl, pk_mul, nI_add]) rfl rfl hQ
theorem k_X5_digitOf {num k : Nat} (hn : 49 ≤ n) (ht : TOK I J t) (h6 : t ≤ 6) (hu : num < 3 ^ t) (hk : k < t) : Rn xl xs 0 0 0 0 mX5_digitOf [.ref 16, .int (nI num), .int (nI k)] n (sysH (ov I S) (ovJ J T) X) (some (.int (nI (dig t num k)))) n (sysH (ov I S) (ovJ J T) X) := by
  intro Q hQ
  have h729 := p3_le h6
  have h64 := p2_le h6
  have hy := tmask_lt2 1 t num
  have hsd : tmask 1 t num t ||| tmask 2 t num t < 2 ^ t := Nat.or_lt_two_pow hy (tmask_lt2 2 t num)
  obtain ⟨h17, h18, -⟩ := ht.2.1 num hu
  have hd3 := dig_lt t num k
  have b1 : (tmask 1 t num t).testBit k = decide (dig t num k = 1) := by rw [tm_bit, decide_eq_true hk, Bool.true_and]
  have b2 : (tmask 1 t num t ||| tmask 2 t num t).testBit k = decide (dig t num k ≠ 0) := by
    rw [Nat.testBit_or, tm_bit, tm_bit, decide_eq_true hk, Bool.true_and, Bool.true_and]
    by_cases h0 : dig t num k = 0
    · rw [h0]; rfl
    · by_cases h1 : dig t num k = 1
      · rw [h1]; rfl
      · rw [show dig t num k = 2 by omega]; rfl
  show Ev xl xs 0 0 0 0 mX5_digitOf 0 [some (.ref 16), some (.int (nI num)), some (.int (nI k))] [] n (sysH (ov I S) (ovJ J T) X) Q
  refine ev_aload_n (q := 1) dX5_digitOf_0 rfl rfl ?_
  refine ev_get (q := 4) dX5_digitOf_1 fr_X5_9 rfl (lt_n hn (by decide)) rfl rfl ?_
  refine ev_iload_n (q := 5) dX5_digitOf_4 rfl rfl ?_
  refine ev_iaS (q := 6) num dX5_digitOf_5 rfl rfl (by omega) (lt_n hn (by decide)) rfl ?_
  rw [show ov I S 17 num = _ from h17]
  refine ev_iload_n (q := 7) dX5_digitOf_6 rfl rfl ?_
  refine ev_ishr (q := 8) dX5_digitOf_7 rfl ?_
  refine ev_iconst (q := 9) (1) dX5_digitOf_8 (by decide) rfl ?_
  refine ev_iand (q := 10) dX5_digitOf_9 rfl ?_
  rw [nI_bit (by omega) (by omega), b2]
  refine ev_if_ne (q := 13) 15 dX5_digitOf_10 (by decide) rfl (fun c_10 => ?_) (fun c_10 => ?_)
  · have c_10 : ¬ dig t num k = 0 := fun h => by rw [h] at c_10; exact absurd rfl c_10
    refine ev_aload_n (q := 16) dX5_digitOf_15 rfl rfl ?_
    refine ev_get (q := 19) dX5_digitOf_16 fr_X5_15 rfl (lt_n hn (by decide)) rfl rfl ?_
    refine ev_iload_n (q := 20) dX5_digitOf_19 rfl rfl ?_
    refine ev_iaS (q := 21) num dX5_digitOf_20 rfl rfl (by omega) (lt_n hn (by decide)) rfl ?_
    rw [show ov I S 18 num = _ from h18]
    refine ev_iload_n (q := 22) dX5_digitOf_21 rfl rfl ?_
    refine ev_ishr (q := 23) dX5_digitOf_22 rfl ?_
    refine ev_iconst (q := 24) (1) dX5_digitOf_23 (by decide) rfl ?_
    refine ev_iand (q := 25) dX5_digitOf_24 rfl ?_
    rw [nI_bit (by omega) (by omega), b1]
    refine ev_if_eq (q := 28) 32 dX5_digitOf_25 (by decide) rfl (fun c_25 => ?_) (fun c_25 => ?_)
    · have c_25 : ¬ dig t num k = 1 := fun h => by rw [h] at c_25; exact absurd c_25 (by decide)
      refine ev_iconst (q := 33) (2) dX5_digitOf_32 (by decide) rfl ?_
      exact ev_iretE dX5_digitOf_33 rfl rfl (by first | (rw [c_10]; rfl) | (rw [c_25]; rfl) | (rw [show dig t num k = 2 by omega]; rfl)) rfl rfl hQ
    · have c_25 : dig t num k = 1 := by by_cases h0 : dig t num k = 1; exact h0; rw [decide_eq_false h0] at c_25; exact absurd rfl c_25
      refine ev_iconst (q := 29) (1) dX5_digitOf_28 (by decide) rfl ?_
      refine ev_goto 33 dX5_digitOf_29 (by decide) ?_
      exact ev_iretE dX5_digitOf_33 rfl rfl (by first | (rw [c_10]; rfl) | (rw [c_25]; rfl) | (rw [show dig t num k = 2 by omega]; rfl)) rfl rfl hQ
  · have c_10 : dig t num k = 0 := by by_cases h0 : dig t num k = 0; exact h0; rw [decide_eq_true h0] at c_10; exact absurd c_10 (by decide)
    refine ev_iconst (q := 14) (0) dX5_digitOf_13 (by decide) rfl ?_
    exact ev_iretE dX5_digitOf_14 rfl rfl (by first | (rw [c_10]; rfl) | (rw [c_25]; rfl) | (rw [show dig t num k = 2 by omega]; rfl)) rfl rfl hQ
theorem hw_made (hk : KI I J t sl wy wi he) (hr : RD I S wy wi) {m : Nat} (hm : m < 2 ^ t) : S 22 m = wtF I t wi m := by
  have h64 := p2_le hk.1.2.2.1
  rw [hr.1 m (by omega)]
  exact wtK hk hk.1.2.2.2.2.2.2.2.2.1 hm
theorem k_X6_wording (hn : 49 ≤ n) (hk : KI I J t sl wy wi he) (ht : TOK I J t) (goal what : Int32) : RnS xl xs 5 118 0 0 mX6_wording [.ref 0, .int goal, .int what] n I J X (some (.int (if inb goal (-99) 99 && inb what 0 1 then (match upto (pickW t (gdW I J t sl wy wi he goal)) (3 ^ t) none with | none => -6 | some u => if what = 0 then nI u else nI (wd t u)) else -2))) n I J X := by
  intro S T Q hQ
  have h6 := hk.1.2.2.1
  have h64 := p2_le h6
  have h729 := p3_le h6
  have hhl := hk.1.2.2.2.2.2.2.2.2.2.2
  show Ev xl xs 5 118 0 0 mX6_wording 0 [some (.ref 0), some (.int goal), some (.int what), none, none] [] n (sysH (ov I S) (ovJ J T) X) Q
  cases hin : (inb goal (-99) 99 && inb what 0 1) with
  | false =>
    rw [hin] at hQ
    have hin2 := Bool.and_eq_false_iff.mp hin
    refine ev_iload_n (q := 1) dX6_wording_0 rfl rfl ?_
    refine ev_bipush (q := 3) (-99) dX6_wording_1 (by decide) rfl ?_
    refine ev_icmp_lt (q := 6) 19 dX6_wording_3 (by decide) rfl (fun c_3 => ?_) (fun c_3 => ?_)
    · refine ev_bipush (q := 21) (-2) dX6_wording_19 (by decide) rfl ?_
      exact ev_iretE dX6_wording_21 rfl rfl rfl rfl rfl (hQ _ _)
    · refine ev_iload_n (q := 7) dX6_wording_6 rfl rfl ?_
      refine ev_bipush (q := 9) (99) dX6_wording_7 (by decide) rfl ?_
      refine ev_icmp_gt (q := 12) 19 dX6_wording_9 (by decide) rfl (fun c_9 => ?_) (fun c_9 => ?_)
      · refine ev_bipush (q := 21) (-2) dX6_wording_19 (by decide) rfl ?_
        exact ev_iretE dX6_wording_21 rfl rfl rfl rfl rfl (hQ _ _)
      · refine ev_iload_n (q := 13) dX6_wording_12 rfl rfl ?_
        refine ev_callS1i (q := 16) dX6_wording_13 ca_X6_158 (c_X6_isBit _) (Nat.le_of_ble_eq_true rfl) (Nat.le_of_ble_eq_true rfl) (by decide) (by decide) rfl ?_
        refine ev_if_ne (q := 19) 22 dX6_wording_16 (by decide) rfl (fun c_16 => ?_) (fun c_16 => ?_)
        · (have c_16 := b2i_ne.mp c_16; have h8 := inb_cases (hin2.resolve_right (by rw [c_16]; decide)); simp only [i_le, i_lt] at *; omega)
        · refine ev_bipush (q := 21) (-2) dX6_wording_19 (by decide) rfl ?_
          exact ev_iretE dX6_wording_21 rfl rfl rfl rfl rfl (hQ _ _)
  | true =>
    rw [hin, if_pos rfl] at hQ
    obtain ⟨g1, g2⟩ := Bool.and_eq_true_iff.mp hin
    simp only [inb, Bool.and_eq_true, decide_eq_true_eq] at g1
    obtain ⟨g3, g4⟩ := g1
    have lp : ∀ j k, k + j = 3 ^ t → ∀ S T a4, RD I S wy wi → BS S (upto (boK t (fun k => if gdW I J t sl wy wi he goal k then some 0 else none)) k none) → Ev xl xs 5 118 0 0 mX6_wording 38 [some (.ref 0), some (.int goal), some (.int what), some (.int (nI k)), a4] [] n (sysH (ov I S) (ovJ J T) X) Q := by
      intro j
      induction j using Nat.strongRecOn with
      | _ j ih =>
        intro k hkj S T a4 hr hbs
        have e : ∀ h1, _ := fun (h1 : j - 1 < j) => ih (j - 1) h1 (k + 1)
        by_cases hkN : 3 ^ t ≤ k
        · have hkN : k = 3 ^ t := by omega
          subst hkN
          rw [boW_eq h6 _ (Nat.le_refl _)] at hbs
          have hlt := pickW_lt (t := t) (good := gdW I J t sl wy wi he goal) (3 ^ t)
          cases ho : upto (pickW t (gdW I J t sl wy wi he goal)) (3 ^ t) none with
          | none =>
            rw [ho] at hbs hQ
            have hb0 : S 30 0 = 0 := hbs
            refine ev_iload_n (q := 39) dX6_wording_38 rfl rfl ?_
            refine ev_aload_n (q := 40) dX6_wording_39 rfl rfl ?_
            refine ev_get (q := 43) dX6_wording_40 fr_X6_33 rfl (lt_n hn (by decide)) rfl rfl ?_
            refine ev_get (q := 46) dX6_wording_43 fr_X6_211 rfl (lt_n hn (by decide)) rfl rfl ?_
            rw [show ov I S 16 0 = nI (3 ^ t) from ht.1]
            refine ev_icmp_ge (q := 49) 107 dX6_wording_46 (by decide) rfl (fun c_46 => ?_) (fun c_46 => ?_)
            · refine ev_aload_n (q := 108) dX6_wording_107 rfl rfl ?_
              refine ev_get (q := 111) dX6_wording_108 fr_X6_56 rfl (lt_n hn (by decide)) rfl rfl ?_
              refine ev_get (q := 114) dX6_wording_111 fr_X6_198 rfl (lt_n hn (by decide)) rfl rfl ?_
              refine ev_if_ne (q := 117) 120 dX6_wording_114 (by decide) rfl (fun c_114 => ?_) (fun c_114 => ?_)
              · exact absurd hb0 c_114
              · refine ev_bipush (q := 119) (-6) dX6_wording_117 (by decide) rfl ?_
                exact ev_iretE dX6_wording_119 rfl rfl rfl rfl rfl (hQ _ _)
            · exact absurd ((nI_leI (by omega) (by omega)).mpr (Nat.le_refl _)) c_46
          | some u =>
            rw [ho] at hbs hQ
            obtain ⟨b0, b1, b2⟩ := hbs
            obtain ⟨r1, r2⟩ := rk_mod h6 (hlt u ho)
            refine ev_iload_n (q := 39) dX6_wording_38 rfl rfl ?_
            refine ev_aload_n (q := 40) dX6_wording_39 rfl rfl ?_
            refine ev_get (q := 43) dX6_wording_40 fr_X6_33 rfl (lt_n hn (by decide)) rfl rfl ?_
            refine ev_get (q := 46) dX6_wording_43 fr_X6_211 rfl (lt_n hn (by decide)) rfl rfl ?_
            rw [show ov I S 16 0 = nI (3 ^ t) from ht.1]
            refine ev_icmp_ge (q := 49) 107 dX6_wording_46 (by decide) rfl (fun c_46 => ?_) (fun c_46 => ?_)
            · refine ev_aload_n (q := 108) dX6_wording_107 rfl rfl ?_
              refine ev_get (q := 111) dX6_wording_108 fr_X6_56 rfl (lt_n hn (by decide)) rfl rfl ?_
              refine ev_get (q := 114) dX6_wording_111 fr_X6_198 rfl (lt_n hn (by decide)) rfl rfl ?_
              refine ev_if_ne (q := 117) 120 dX6_wording_114 (by decide) rfl (fun c_114 => ?_) (fun c_114 => ?_)
              · refine ev_iload_n (q := 121) dX6_wording_120 rfl rfl ?_
                refine ev_if_ne (q := 124) 138 dX6_wording_121 (by decide) rfl (fun c_121 => ?_) (fun c_121 => ?_)
                · have c_121 : ¬ what = 0 := c_121
                  refine ev_aload_n (q := 139) dX6_wording_138 rfl rfl ?_
                  refine ev_get (q := 142) dX6_wording_139 fr_X6_56 rfl (lt_n hn (by decide)) rfl rfl ?_
                  refine ev_get (q := 145) dX6_wording_142 fr_X6_202 rfl (lt_n hn (by decide)) rfl rfl ?_
                  refine ev_sipush (q := 148) (1000) dX6_wording_145 (by decide) rfl ?_
                  rw [show ov I S 30 2 = nI (rkN t u) from b2]
                  refine ev_idiv (q := 149) (by decide) dX6_wording_148 rfl ?_
                  exact ev_iretE dX6_wording_149 rfl rfl (by show _ = (if what = 0 then nI u else nI (wd t u)); first | (rw [if_pos c_121, r1]; done) | (rw [if_neg c_121, r2])) rfl rfl (hQ _ _)
                · have c_121 : what = 0 := c_121
                  refine ev_aload_n (q := 125) dX6_wording_124 rfl rfl ?_
                  refine ev_get (q := 128) dX6_wording_125 fr_X6_56 rfl (lt_n hn (by decide)) rfl rfl ?_
                  refine ev_get (q := 131) dX6_wording_128 fr_X6_202 rfl (lt_n hn (by decide)) rfl rfl ?_
                  refine ev_sipush (q := 134) (1000) dX6_wording_131 (by decide) rfl ?_
                  rw [show ov I S 30 2 = nI (rkN t u) from b2]
                  refine ev_irem (q := 135) (by decide) dX6_wording_134 rfl ?_
                  refine ev_goto 149 dX6_wording_135 (by decide) ?_
                  exact ev_iretE dX6_wording_149 rfl rfl (by show _ = (if what = 0 then nI u else nI (wd t u)); first | (rw [if_pos c_121, r1]; done) | (rw [if_neg c_121, r2])) rfl rfl (hQ _ _)
              · exact absurd (show S 30 0 = 0 from c_114) (by rw [b0]; decide)
            · exact absurd ((nI_leI (by omega) (by omega)).mpr (Nat.le_refl _)) c_46
        · have e := e (by omega) (by omega)
          simp only [upto] at e
          cases hm : mtF I J t sl wy wi k he with
          | none =>
            have hg : gdW I J t sl wy wi he goal k = false := by unfold gdW; rw [hm]
            rw [boK_n (by rw [hg]; rfl)] at e
            refine ev_iload_n (q := 39) dX6_wording_38 rfl rfl ?_
            refine ev_aload_n (q := 40) dX6_wording_39 rfl rfl ?_
            refine ev_get (q := 43) dX6_wording_40 fr_X6_33 rfl (lt_n hn (by decide)) rfl rfl ?_
            refine ev_get (q := 46) dX6_wording_43 fr_X6_211 rfl (lt_n hn (by decide)) rfl rfl ?_
            rw [show ov I S 16 0 = nI (3 ^ t) from ht.1]
            refine ev_icmp_ge (q := 49) 107 dX6_wording_46 (by decide) rfl (fun c_46 => ?_) (fun c_46 => ?_)
            · exact absurd ((nI_leI (by omega) (by omega)).mp c_46) hkN
            · refine ev_aload_n (q := 50) dX6_wording_49 rfl rfl ?_
              refine ev_get (q := 53) dX6_wording_50 fr_X6_42 rfl (lt_n hn (by decide)) rfl rfl ?_
              refine ev_iload_n (q := 54) dX6_wording_53 rfl rfl ?_
              refine ev_aload_n (q := 55) dX6_wording_54 rfl rfl ?_
              refine ev_get (q := 58) dX6_wording_55 fr_X6_10 rfl (lt_n hn (by decide)) rfl rfl ?_
              refine ev_get (q := 61) dX6_wording_58 fr_X6_103 rfl (lt_n hn (by decide)) rfl rfl ?_
              rw [show ov I S 1 1 = nI he from hk.2.1.2.1]
              refine ev_callV2i (q := 64) dX6_wording_61 ca_X6_212 (k_X3_ofTerm hn hk ht hr (by omega) (by omega)) rfl (lt_n hn (by decide)) rfl rfl (Nat.le_of_ble_eq_true rfl) (Nat.le_of_ble_eq_true rfl) (by decide) (by decide) rfl ?_
              rw [hm]
              refine ev_ist_4 (q := 66) dX6_wording_64 rfl rfl ?_
              refine ev_iload (q := 68) dX6_wording_66 rfl rfl ?_
              refine ev_if_lt (q := 71) 101 dX6_wording_68 (by decide) rfl (fun c_68 => ?_) (fun c_68 => ?_)
              · refine ev_inc_3 (q := 104) (nI (k + 1)) dX6_wording_101 (nI_1 k) rfl rfl ?_
                refine ev_goto 38 dX6_wording_104 (by decide) ?_
                exact e _ _ _ hr hbs
              · exact absurd (show (-3 : Int32) < 0 by decide) c_68
          | some m =>
            have hm2 := mtF_lt hm
            have hS := hw_made hk hr hm2
            by_cases hgo : goal ≤ wtF I t wi m
            · have hg : gdW I J t sl wy wi he goal k = true := by unfold gdW; rw [hm]; exact decide_eq_true hgo
              rw [boK_s (v := 0) (by rw [hg]; rfl)] at e
              refine ev_iload_n (q := 39) dX6_wording_38 rfl rfl ?_
              refine ev_aload_n (q := 40) dX6_wording_39 rfl rfl ?_
              refine ev_get (q := 43) dX6_wording_40 fr_X6_33 rfl (lt_n hn (by decide)) rfl rfl ?_
              refine ev_get (q := 46) dX6_wording_43 fr_X6_211 rfl (lt_n hn (by decide)) rfl rfl ?_
              rw [show ov I S 16 0 = nI (3 ^ t) from ht.1]
              refine ev_icmp_ge (q := 49) 107 dX6_wording_46 (by decide) rfl (fun c_46 => ?_) (fun c_46 => ?_)
              · exact absurd ((nI_leI (by omega) (by omega)).mp c_46) hkN
              · refine ev_aload_n (q := 50) dX6_wording_49 rfl rfl ?_
                refine ev_get (q := 53) dX6_wording_50 fr_X6_42 rfl (lt_n hn (by decide)) rfl rfl ?_
                refine ev_iload_n (q := 54) dX6_wording_53 rfl rfl ?_
                refine ev_aload_n (q := 55) dX6_wording_54 rfl rfl ?_
                refine ev_get (q := 58) dX6_wording_55 fr_X6_10 rfl (lt_n hn (by decide)) rfl rfl ?_
                refine ev_get (q := 61) dX6_wording_58 fr_X6_103 rfl (lt_n hn (by decide)) rfl rfl ?_
                rw [show ov I S 1 1 = nI he from hk.2.1.2.1]
                refine ev_callV2i (q := 64) dX6_wording_61 ca_X6_212 (k_X3_ofTerm hn hk ht hr (by omega) (by omega)) rfl (lt_n hn (by decide)) rfl rfl (Nat.le_of_ble_eq_true rfl) (Nat.le_of_ble_eq_true rfl) (by decide) (by decide) rfl ?_
                rw [hm]
                refine ev_ist_4 (q := 66) dX6_wording_64 rfl rfl ?_
                refine ev_iload (q := 68) dX6_wording_66 rfl rfl ?_
                refine ev_if_lt (q := 71) 101 dX6_wording_68 (by decide) rfl (fun c_68 => ?_) (fun c_68 => ?_)
                · exact absurd c_68 (nI_pos (n := m) (by omega))
                · refine ev_aload_n (q := 72) dX6_wording_71 rfl rfl ?_
                  refine ev_get (q := 75) dX6_wording_72 fr_X6_42 rfl (lt_n hn (by decide)) rfl rfl ?_
                  refine ev_get (q := 78) dX6_wording_75 fr_X6_215 rfl (lt_n hn (by decide)) rfl rfl ?_
                  refine ev_iload (q := 80) dX6_wording_78 rfl rfl ?_
                  refine ev_iaS (q := 81) m dX6_wording_80 rfl rfl (by omega) (lt_n hn (by decide)) rfl ?_
                  refine ev_iload_n (q := 82) dX6_wording_81 rfl rfl ?_
                  rw [show ov I S 22 m = wtF I t wi m from hS]
                  refine ev_icmp_lt (q := 85) 101 dX6_wording_82 (by decide) rfl (fun c_82 => ?_) (fun c_82 => ?_)
                  · (simp only [i_le, i_lt] at *; omega)
                  · refine ev_aload_n (q := 86) dX6_wording_85 rfl rfl ?_
                    refine ev_get (q := 89) dX6_wording_86 fr_X6_56 rfl (lt_n hn (by decide)) rfl rfl ?_
                    refine ev_iconst (q := 90) (0) dX6_wording_89 (by decide) rfl ?_
                    refine ev_aload_n (q := 91) dX6_wording_90 rfl rfl ?_
                    refine ev_get (q := 94) dX6_wording_91 fr_X6_33 rfl (lt_n hn (by decide)) rfl rfl ?_
                    refine ev_iload_n (q := 95) dX6_wording_94 rfl rfl ?_
                    refine ev_callV1i (q := 98) dX6_wording_95 ca_X6_216 (k_X5_rankOf hn ht h6 (by omega)) rfl (lt_n hn (by decide)) rfl rfl (Nat.le_of_ble_eq_true rfl) (Nat.le_of_ble_eq_true rfl) (by decide) (by decide) rfl ?_
                    refine ev_callV2vP (q := 101) dX6_wording_98 ca_X6_219 (k_X0_offer hn hbs) rfl (lt_n hn (by decide)) rfl rfl (Nat.le_of_ble_eq_true rfl) (Nat.le_of_ble_eq_true rfl) (by decide) (by decide) rfl (fun S T hp_98 => ?_)
                    obtain ⟨hb2, -, hfr⟩ := hp_98
                    refine ev_inc_3 (q := 104) (nI (k + 1)) dX6_wording_101 (nI_1 k) rfl rfl ?_
                    refine ev_goto 38 dX6_wording_104 (by decide) ?_
                    exact e _ _ _ (RD_mono hr (hfr 22 (by decide)) (hfr 23 (by decide))) hb2
            · have hg : gdW I J t sl wy wi he goal k = false := by unfold gdW; rw [hm]; exact decide_eq_false hgo
              rw [boK_n (by rw [hg]; rfl)] at e
              refine ev_iload_n (q := 39) dX6_wording_38 rfl rfl ?_
              refine ev_aload_n (q := 40) dX6_wording_39 rfl rfl ?_
              refine ev_get (q := 43) dX6_wording_40 fr_X6_33 rfl (lt_n hn (by decide)) rfl rfl ?_
              refine ev_get (q := 46) dX6_wording_43 fr_X6_211 rfl (lt_n hn (by decide)) rfl rfl ?_
              rw [show ov I S 16 0 = nI (3 ^ t) from ht.1]
              refine ev_icmp_ge (q := 49) 107 dX6_wording_46 (by decide) rfl (fun c_46 => ?_) (fun c_46 => ?_)
              · exact absurd ((nI_leI (by omega) (by omega)).mp c_46) hkN
              · refine ev_aload_n (q := 50) dX6_wording_49 rfl rfl ?_
                refine ev_get (q := 53) dX6_wording_50 fr_X6_42 rfl (lt_n hn (by decide)) rfl rfl ?_
                refine ev_iload_n (q := 54) dX6_wording_53 rfl rfl ?_
                refine ev_aload_n (q := 55) dX6_wording_54 rfl rfl ?_
                refine ev_get (q := 58) dX6_wording_55 fr_X6_10 rfl (lt_n hn (by decide)) rfl rfl ?_
                refine ev_get (q := 61) dX6_wording_58 fr_X6_103 rfl (lt_n hn (by decide)) rfl rfl ?_
                rw [show ov I S 1 1 = nI he from hk.2.1.2.1]
                refine ev_callV2i (q := 64) dX6_wording_61 ca_X6_212 (k_X3_ofTerm hn hk ht hr (by omega) (by omega)) rfl (lt_n hn (by decide)) rfl rfl (Nat.le_of_ble_eq_true rfl) (Nat.le_of_ble_eq_true rfl) (by decide) (by decide) rfl ?_
                rw [hm]
                refine ev_ist_4 (q := 66) dX6_wording_64 rfl rfl ?_
                refine ev_iload (q := 68) dX6_wording_66 rfl rfl ?_
                refine ev_if_lt (q := 71) 101 dX6_wording_68 (by decide) rfl (fun c_68 => ?_) (fun c_68 => ?_)
                · exact absurd c_68 (nI_pos (n := m) (by omega))
                · refine ev_aload_n (q := 72) dX6_wording_71 rfl rfl ?_
                  refine ev_get (q := 75) dX6_wording_72 fr_X6_42 rfl (lt_n hn (by decide)) rfl rfl ?_
                  refine ev_get (q := 78) dX6_wording_75 fr_X6_215 rfl (lt_n hn (by decide)) rfl rfl ?_
                  refine ev_iload (q := 80) dX6_wording_78 rfl rfl ?_
                  refine ev_iaS (q := 81) m dX6_wording_80 rfl rfl (by omega) (lt_n hn (by decide)) rfl ?_
                  refine ev_iload_n (q := 82) dX6_wording_81 rfl rfl ?_
                  rw [show ov I S 22 m = wtF I t wi m from hS]
                  refine ev_icmp_lt (q := 85) 101 dX6_wording_82 (by decide) rfl (fun c_82 => ?_) (fun c_82 => ?_)
                  · refine ev_inc_3 (q := 104) (nI (k + 1)) dX6_wording_101 (nI_1 k) rfl rfl ?_
                    refine ev_goto 38 dX6_wording_104 (by decide) ?_
                    exact e _ _ _ hr hbs
                  · (simp only [i_le, i_lt] at *; omega)
    refine ev_iload_n (q := 1) dX6_wording_0 rfl rfl ?_
    refine ev_bipush (q := 3) (-99) dX6_wording_1 (by decide) rfl ?_
    refine ev_icmp_lt (q := 6) 19 dX6_wording_3 (by decide) rfl (fun c_3 => ?_) (fun c_3 => ?_)
    · (simp only [i_le, i_lt] at *; omega)
    · refine ev_iload_n (q := 7) dX6_wording_6 rfl rfl ?_
      refine ev_bipush (q := 9) (99) dX6_wording_7 (by decide) rfl ?_
      refine ev_icmp_gt (q := 12) 19 dX6_wording_9 (by decide) rfl (fun c_9 => ?_) (fun c_9 => ?_)
      · (simp only [i_le, i_lt] at *; omega)
      · refine ev_iload_n (q := 13) dX6_wording_12 rfl rfl ?_
        refine ev_callS1i (q := 16) dX6_wording_13 ca_X6_158 (c_X6_isBit _) (Nat.le_of_ble_eq_true rfl) (Nat.le_of_ble_eq_true rfl) (by decide) (by decide) rfl ?_
        refine ev_if_ne (q := 19) 22 dX6_wording_16 (by decide) rfl (fun c_16 => ?_) (fun c_16 => ?_)
        · refine ev_aload_n (q := 23) dX6_wording_22 rfl rfl ?_
          refine ev_get (q := 26) dX6_wording_23 fr_X6_42 rfl (lt_n hn (by decide)) rfl rfl ?_
          refine ev_callV0v (q := 29) dX6_wording_26 ca_X6_182 (k_X3_ready hn hk) rfl (lt_n hn (by decide)) rfl rfl (Nat.le_of_ble_eq_true rfl) (Nat.le_of_ble_eq_true rfl) (by decide) (by decide) rfl ?_
          refine ev_aload_n (q := 30) dX6_wording_29 rfl rfl ?_
          refine ev_get (q := 33) dX6_wording_30 fr_X6_56 rfl (lt_n hn (by decide)) rfl rfl ?_
          refine ev_callV0v (q := 36) dX6_wording_33 ca_X6_185 (k_X0_clear hn) rfl (lt_n hn (by decide)) rfl rfl (Nat.le_of_ble_eq_true rfl) (Nat.le_of_ble_eq_true rfl) (by decide) (by decide) rfl ?_
          refine ev_iconst (q := 37) (0) dX6_wording_36 (by decide) rfl ?_
          refine ev_ist_3 (q := 38) dX6_wording_37 rfl rfl ?_
          exact lp (3 ^ t) 0 (by omega) _ _ _ (RD_mono RD_rdS rfl rfl) rfl
        · exact absurd c_16 (b2i_n0.mpr g2)
theorem k_X6_letters (hn : 49 ≤ n) (hk : KI I J t sl wy wi he) (ht : TOK I J t) (hc : CMI I t c) (what : Int32) : RnS xl xs 6 140 0 0 mX6_letters [.ref 0, .int what] n I J X (some (.int (if inb what 0 1 then (if what = 0 then upto (fun k s => s + b2i (gdL I J t sl wy wi (cfN I) c k)) (3 ^ t) 0 else eo (upto (pickW t (gdL I J t sl wy wi (cfN I) c)) (3 ^ t) none)) else -2))) n I J X := by
  intro S T Q hQ
  have h6 := hk.1.2.2.1
  have h64 := p2_le h6
  have h729 := p3_le h6
  show Ev xl xs 6 140 0 0 mX6_letters 0 [some (.ref 0), some (.int what), none, none] [] n (sysH (ov I S) (ovJ J T) X) Q
  cases hin : inb what 0 1 with
  | false =>
    rw [hin] at hQ
    refine ev_iload_n (q := 1) dX6_letters_0 rfl rfl ?_
    refine ev_callS1i (q := 4) dX6_letters_1 ca_X6_158 (c_X6_isBit _) (Nat.le_of_ble_eq_true rfl) (Nat.le_of_ble_eq_true rfl) (by decide) (by decide) rfl ?_
    refine ev_if_ne (q := 7) 10 dX6_letters_4 (by decide) rfl (fun c_4 => ?_) (fun c_4 => ?_)
    · exact absurd (b2i_ne.mp c_4) (by rw [hin]; decide)
    · refine ev_bipush (q := 9) (-2) dX6_letters_7 (by decide) rfl ?_
      exact ev_iretE dX6_letters_9 rfl rfl rfl rfl rfl (hQ _ _)
  | true =>
    rw [hin, if_pos rfl] at hQ
    have hda : ∀ k S T, k < 3 ^ t → RD I S wy wi → _ := fun k S T hu hr => k_X3_didAll (xl := xl) (xs := xs) (n := n) (S := S) (T := T) (X := X) (num := k) hn hk ht hr hc hu
    generalize gdL I J t sl wy wi (cfN I) c = gd at hQ hda
    have lp : ∀ j k, k + j = 3 ^ t → ∀ S T, RD I S wy wi → BS S (upto (boK t (fun k => if gd k then some 0 else none)) k none) → Ev xl xs 6 140 0 0 mX6_letters 28 [some (.ref 0), some (.int what), some (.int (upto (fun k s => s + b2i (gd k)) k 0)), some (.int (nI k))] [] n (sysH (ov I S) (ovJ J T) X) Q := by
      intro j
      induction j using Nat.strongRecOn with
      | _ j ih =>
        intro k hkj S T hr hbs
        have e : ∀ h1, _ := fun (h1 : j - 1 < j) => ih (j - 1) h1 (k + 1)
        by_cases hkN : 3 ^ t ≤ k
        · have hkN : k = 3 ^ t := by omega
          subst hkN
          rw [boW_eq h6 _ (Nat.le_refl _)] at hbs
          have hlt := pickW_lt (t := t) (good := gd) (3 ^ t)
          by_cases hw0 : what = 0
          · rw [if_pos hw0] at hQ
            refine ev_iload_n (q := 29) dX6_letters_28 rfl rfl ?_
            refine ev_aload_n (q := 30) dX6_letters_29 rfl rfl ?_
            refine ev_get (q := 33) dX6_letters_30 fr_X6_33 rfl (lt_n hn (by decide)) rfl rfl ?_
            refine ev_get (q := 36) dX6_letters_33 fr_X6_211 rfl (lt_n hn (by decide)) rfl rfl ?_
            rw [show ov I S 16 0 = nI (3 ^ t) from ht.1]
            refine ev_icmp_ge (q := 39) 75 dX6_letters_36 (by decide) rfl (fun c_36 => ?_) (fun c_36 => ?_)
            · refine ev_iload_n (q := 76) dX6_letters_75 rfl rfl ?_
              refine ev_if_ne (q := 79) 81 dX6_letters_76 (by decide) rfl (fun c_76 => ?_) (fun c_76 => ?_)
              · exact absurd hw0 c_76
              · refine ev_iload_n (q := 80) dX6_letters_79 rfl rfl ?_
                exact ev_iretE dX6_letters_80 rfl rfl rfl rfl rfl (hQ _ _)
            · exact absurd ((nI_leI (by omega) (by omega)).mpr (Nat.le_refl _)) c_36
          · rw [if_neg hw0] at hQ
            cases ho : upto (pickW t gd) (3 ^ t) none with
            | none =>
              rw [ho] at hbs hQ
              have hb0 : S 30 0 = 0 := hbs
              refine ev_iload_n (q := 29) dX6_letters_28 rfl rfl ?_
              refine ev_aload_n (q := 30) dX6_letters_29 rfl rfl ?_
              refine ev_get (q := 33) dX6_letters_30 fr_X6_33 rfl (lt_n hn (by decide)) rfl rfl ?_
              refine ev_get (q := 36) dX6_letters_33 fr_X6_211 rfl (lt_n hn (by decide)) rfl rfl ?_
              rw [show ov I S 16 0 = nI (3 ^ t) from ht.1]
              refine ev_icmp_ge (q := 39) 75 dX6_letters_36 (by decide) rfl (fun c_36 => ?_) (fun c_36 => ?_)
              · refine ev_iload_n (q := 76) dX6_letters_75 rfl rfl ?_
                refine ev_if_ne (q := 79) 81 dX6_letters_76 (by decide) rfl (fun c_76 => ?_) (fun c_76 => ?_)
                · refine ev_aload_n (q := 82) dX6_letters_81 rfl rfl ?_
                  refine ev_get (q := 85) dX6_letters_82 fr_X6_56 rfl (lt_n hn (by decide)) rfl rfl ?_
                  refine ev_get (q := 88) dX6_letters_85 fr_X6_198 rfl (lt_n hn (by decide)) rfl rfl ?_
                  refine ev_if_eq (q := 91) 105 dX6_letters_88 (by decide) rfl (fun c_88 => ?_) (fun c_88 => ?_)
                  · refine ev_bipush (q := 107) (-6) dX6_letters_105 (by decide) rfl ?_
                    exact ev_iretE dX6_letters_107 rfl rfl rfl rfl rfl (hQ _ _)
                  · exact absurd hb0 c_88
                · exact absurd c_76 hw0
              · exact absurd ((nI_leI (by omega) (by omega)).mpr (Nat.le_refl _)) c_36
            | some u =>
              rw [ho] at hbs hQ
              obtain ⟨b0, b1, b2⟩ := hbs
              obtain ⟨r1, r2⟩ := rk_mod h6 (hlt u ho)
              refine ev_iload_n (q := 29) dX6_letters_28 rfl rfl ?_
              refine ev_aload_n (q := 30) dX6_letters_29 rfl rfl ?_
              refine ev_get (q := 33) dX6_letters_30 fr_X6_33 rfl (lt_n hn (by decide)) rfl rfl ?_
              refine ev_get (q := 36) dX6_letters_33 fr_X6_211 rfl (lt_n hn (by decide)) rfl rfl ?_
              rw [show ov I S 16 0 = nI (3 ^ t) from ht.1]
              refine ev_icmp_ge (q := 39) 75 dX6_letters_36 (by decide) rfl (fun c_36 => ?_) (fun c_36 => ?_)
              · refine ev_iload_n (q := 76) dX6_letters_75 rfl rfl ?_
                refine ev_if_ne (q := 79) 81 dX6_letters_76 (by decide) rfl (fun c_76 => ?_) (fun c_76 => ?_)
                · refine ev_aload_n (q := 82) dX6_letters_81 rfl rfl ?_
                  refine ev_get (q := 85) dX6_letters_82 fr_X6_56 rfl (lt_n hn (by decide)) rfl rfl ?_
                  refine ev_get (q := 88) dX6_letters_85 fr_X6_198 rfl (lt_n hn (by decide)) rfl rfl ?_
                  refine ev_if_eq (q := 91) 105 dX6_letters_88 (by decide) rfl (fun c_88 => ?_) (fun c_88 => ?_)
                  · exact absurd (show S 30 0 = 0 from c_88) (by rw [b0]; decide)
                  · refine ev_aload_n (q := 92) dX6_letters_91 rfl rfl ?_
                    refine ev_get (q := 95) dX6_letters_92 fr_X6_56 rfl (lt_n hn (by decide)) rfl rfl ?_
                    refine ev_get (q := 98) dX6_letters_95 fr_X6_202 rfl (lt_n hn (by decide)) rfl rfl ?_
                    refine ev_sipush (q := 101) (1000) dX6_letters_98 (by decide) rfl ?_
                    rw [show ov I S 30 2 = nI (rkN t u) from b2]
                    refine ev_irem (q := 102) (by decide) dX6_letters_101 rfl ?_
                    refine ev_goto 107 dX6_letters_102 (by decide) ?_
                    exact ev_iretE dX6_letters_107 rfl rfl r1 rfl rfl (hQ _ _)
                · exact absurd c_76 hw0
              · exact absurd ((nI_leI (by omega) (by omega)).mpr (Nat.le_refl _)) c_36
        · have e := e (by omega) (by omega)
          simp only [upto] at e
          have hda := hda k S T (by omega) hr
          cases hg : gd k with
          | false =>
            rw [boK_n (by rw [hg]; rfl), hg, show ∀ z : Int32, z + b2i false = z from fun z => i_add0 z] at e
            rw [hg] at hda
            refine ev_iload_n (q := 29) dX6_letters_28 rfl rfl ?_
            refine ev_aload_n (q := 30) dX6_letters_29 rfl rfl ?_
            refine ev_get (q := 33) dX6_letters_30 fr_X6_33 rfl (lt_n hn (by decide)) rfl rfl ?_
            refine ev_get (q := 36) dX6_letters_33 fr_X6_211 rfl (lt_n hn (by decide)) rfl rfl ?_
            rw [show ov I S 16 0 = nI (3 ^ t) from ht.1]
            refine ev_icmp_ge (q := 39) 75 dX6_letters_36 (by decide) rfl (fun c_36 => ?_) (fun c_36 => ?_)
            · exact absurd ((nI_leI (by omega) (by omega)).mp c_36) hkN
            · refine ev_aload_n (q := 40) dX6_letters_39 rfl rfl ?_
              refine ev_get (q := 43) dX6_letters_40 fr_X6_42 rfl (lt_n hn (by decide)) rfl rfl ?_
              refine ev_iload_n (q := 44) dX6_letters_43 rfl rfl ?_
              refine ev_callV1i (q := 47) dX6_letters_44 ca_X6_283 hda rfl (lt_n hn (by decide)) rfl rfl (Nat.le_of_ble_eq_true rfl) (Nat.le_of_ble_eq_true rfl) (by decide) (by decide) rfl ?_
              refine ev_if_eq (q := 50) 69 dX6_letters_47 (by decide) rfl (fun c_47 => ?_) (fun c_47 => ?_)
              · refine ev_inc_3 (q := 72) (nI (k + 1)) dX6_letters_69 (nI_1 k) rfl rfl ?_
                refine ev_goto 28 dX6_letters_72 (by decide) ?_
                exact e _ _ hr hbs
              · exact absurd rfl c_47
          | true =>
            rw [boK_s (v := 0) (by rw [hg]; rfl), hg, show ∀ z : Int32, z + b2i true = z + 1 from fun z => rfl] at e
            rw [hg] at hda
            refine ev_iload_n (q := 29) dX6_letters_28 rfl rfl ?_
            refine ev_aload_n (q := 30) dX6_letters_29 rfl rfl ?_
            refine ev_get (q := 33) dX6_letters_30 fr_X6_33 rfl (lt_n hn (by decide)) rfl rfl ?_
            refine ev_get (q := 36) dX6_letters_33 fr_X6_211 rfl (lt_n hn (by decide)) rfl rfl ?_
            rw [show ov I S 16 0 = nI (3 ^ t) from ht.1]
            refine ev_icmp_ge (q := 39) 75 dX6_letters_36 (by decide) rfl (fun c_36 => ?_) (fun c_36 => ?_)
            · exact absurd ((nI_leI (by omega) (by omega)).mp c_36) hkN
            · refine ev_aload_n (q := 40) dX6_letters_39 rfl rfl ?_
              refine ev_get (q := 43) dX6_letters_40 fr_X6_42 rfl (lt_n hn (by decide)) rfl rfl ?_
              refine ev_iload_n (q := 44) dX6_letters_43 rfl rfl ?_
              refine ev_callV1i (q := 47) dX6_letters_44 ca_X6_283 hda rfl (lt_n hn (by decide)) rfl rfl (Nat.le_of_ble_eq_true rfl) (Nat.le_of_ble_eq_true rfl) (by decide) (by decide) rfl ?_
              refine ev_if_eq (q := 50) 69 dX6_letters_47 (by decide) rfl (fun c_47 => ?_) (fun c_47 => ?_)
              · exact absurd c_47 (by decide)
              · refine ev_inc_2 (q := 53) _ dX6_letters_50 rfl rfl rfl ?_
                refine ev_aload_n (q := 54) dX6_letters_53 rfl rfl ?_
                refine ev_get (q := 57) dX6_letters_54 fr_X6_56 rfl (lt_n hn (by decide)) rfl rfl ?_
                refine ev_iconst (q := 58) (0) dX6_letters_57 (by decide) rfl ?_
                refine ev_aload_n (q := 59) dX6_letters_58 rfl rfl ?_
                refine ev_get (q := 62) dX6_letters_59 fr_X6_33 rfl (lt_n hn (by decide)) rfl rfl ?_
                refine ev_iload_n (q := 63) dX6_letters_62 rfl rfl ?_
                refine ev_callV1i (q := 66) dX6_letters_63 ca_X6_216 (k_X5_rankOf hn ht h6 (by omega)) rfl (lt_n hn (by decide)) rfl rfl (Nat.le_of_ble_eq_true rfl) (Nat.le_of_ble_eq_true rfl) (by decide) (by decide) rfl ?_
                refine ev_callV2vP (q := 69) dX6_letters_66 ca_X6_219 (k_X0_offer hn hbs) rfl (lt_n hn (by decide)) rfl rfl (Nat.le_of_ble_eq_true rfl) (Nat.le_of_ble_eq_true rfl) (by decide) (by decide) rfl (fun S T hp_66 => ?_)
                obtain ⟨hb2, -, hfr⟩ := hp_66
                refine ev_inc_3 (q := 72) (nI (k + 1)) dX6_letters_69 (nI_1 k) rfl rfl ?_
                refine ev_goto 28 dX6_letters_72 (by decide) ?_
                exact e _ _ (RD_mono hr (hfr 22 (by decide)) (hfr 23 (by decide))) hb2
    refine ev_iload_n (q := 1) dX6_letters_0 rfl rfl ?_
    refine ev_callS1i (q := 4) dX6_letters_1 ca_X6_158 (c_X6_isBit _) (Nat.le_of_ble_eq_true rfl) (Nat.le_of_ble_eq_true rfl) (by decide) (by decide) rfl ?_
    refine ev_if_ne (q := 7) 10 dX6_letters_4 (by decide) rfl (fun c_4 => ?_) (fun c_4 => ?_)
    · refine ev_aload_n (q := 11) dX6_letters_10 rfl rfl ?_
      refine ev_get (q := 14) dX6_letters_11 fr_X6_42 rfl (lt_n hn (by decide)) rfl rfl ?_
      refine ev_callV0v (q := 17) dX6_letters_14 ca_X6_182 (k_X3_ready hn hk) rfl (lt_n hn (by decide)) rfl rfl (Nat.le_of_ble_eq_true rfl) (Nat.le_of_ble_eq_true rfl) (by decide) (by decide) rfl ?_
      refine ev_aload_n (q := 18) dX6_letters_17 rfl rfl ?_
      refine ev_get (q := 21) dX6_letters_18 fr_X6_56 rfl (lt_n hn (by decide)) rfl rfl ?_
      refine ev_callV0v (q := 24) dX6_letters_21 ca_X6_185 (k_X0_clear hn) rfl (lt_n hn (by decide)) rfl rfl (Nat.le_of_ble_eq_true rfl) (Nat.le_of_ble_eq_true rfl) (by decide) (by decide) rfl ?_
      refine ev_iconst (q := 25) (0) dX6_letters_24 (by decide) rfl ?_
      refine ev_ist_2 (q := 26) dX6_letters_25 rfl rfl ?_
      refine ev_iconst (q := 27) (0) dX6_letters_26 (by decide) rfl ?_
      refine ev_ist_3 (q := 28) dX6_letters_27 rfl rfl ?_
      exact lp (3 ^ t) 0 (by omega) _ _ (RD_mono RD_rdS rfl rfl) rfl
    · exact absurd c_4 (b2i_n0.mpr hin)
theorem k_X6_most (hn : 49 ≤ n) (hk : KI I J t sl wy wi he) (ht : TOK I J t) (most what : Int32) : RnS xl xs 5 118 0 0 mX6_most [.ref 0, .int most, .int what] n I J X (some (.int (if inb most 0 6 && inb what 0 1 then (match upto (pickB (btW t) (ownM I J t sl wy wi he most)) (3 ^ t) none with | none => -6 | some p => if what = 1 then nI p.1 else p.2 + 1000) else -2))) n I J X := by
  intro S T Q hQ
  have h6 := hk.1.2.2.1
  have h64 := p2_le h6
  have h729 := p3_le h6
  have hhl := hk.1.2.2.2.2.2.2.2.2.2.2
  show Ev xl xs 5 118 0 0 mX6_most 0 [some (.ref 0), some (.int most), some (.int what), none, none] [] n (sysH (ov I S) (ovJ J T) X) Q
  cases hin : (inb most 0 6 && inb what 0 1) with
  | false =>
    rw [hin] at hQ
    refine ev_iload_n (q := 1) dX6_most_0 rfl rfl ?_
    refine ev_callS1i (q := 4) dX6_most_1 ca_X6_223 (c_X6_isWords _) (Nat.le_of_ble_eq_true rfl) (Nat.le_of_ble_eq_true rfl) (by decide) (by decide) rfl ?_
    refine ev_if_eq (q := 7) 14 dX6_most_4 (by decide) rfl (fun c_4 => ?_) (fun c_4 => ?_)
    · refine ev_bipush (q := 16) (-2) dX6_most_14 (by decide) rfl ?_
      exact ev_iretE dX6_most_16 rfl rfl rfl rfl rfl (hQ _ _)
    · have c_4 := b2i_n0.mp c_4
      refine ev_iload_n (q := 8) dX6_most_7 rfl rfl ?_
      refine ev_callS1i (q := 11) dX6_most_8 ca_X6_158 (c_X6_isBit _) (Nat.le_of_ble_eq_true rfl) (Nat.le_of_ble_eq_true rfl) (by decide) (by decide) rfl ?_
      refine ev_if_ne (q := 14) 17 dX6_most_11 (by decide) rfl (fun c_11 => ?_) (fun c_11 => ?_)
      · exact absurd (b2i_ne.mp c_11) (by rw [c_4, Bool.true_and] at hin; rw [hin]; decide)
      · refine ev_bipush (q := 16) (-2) dX6_most_14 (by decide) rfl ?_
        exact ev_iretE dX6_most_16 rfl rfl rfl rfl rfl (hQ _ _)
  | true =>
    rw [hin, if_pos rfl] at hQ
    obtain ⟨g1, g2⟩ := Bool.and_eq_true_iff.mp hin
    have hbe := bo_eq (better := btW t) (own := ownM I J t sl wy wi he most) (val := ownM I J t sl wy wi he most) (t := t) (N := 3 ^ t) (fun _ _ => Iff.rfl) (fun k u o b v w hu hkN h1 h2 h3 h4 => by rw [h1] at h3; cases h3; rw [h2] at h4; cases h4; exact bt_own h6 hu hkN)
    have lp : ∀ j k, k + j = 3 ^ t → ∀ S T a4, RD I S wy wi → BS S (upto (boK t (ownM I J t sl wy wi he most)) k none) → Ev xl xs 5 118 0 0 mX6_most 33 [some (.ref 0), some (.int most), some (.int what), some (.int (nI k)), a4] [] n (sysH (ov I S) (ovJ J T) X) Q := by
      intro j
      induction j using Nat.strongRecOn with
      | _ j ih =>
        intro k hkj S T a4 hr hbs
        have e : ∀ h1, _ := fun (h1 : j - 1 < j) => ih (j - 1) h1 (k + 1)
        by_cases hkN : 3 ^ t ≤ k
        · have hkN : k = 3 ^ t := by omega
          subst hkN
          rw [hbe _ (Nat.le_refl _)] at hbs
          have hlt := pickB_lt (better := btW t) (own := ownM I J t sl wy wi he most) (3 ^ t)
          have hown := pickB_own (better := btW t) (own := ownM I J t sl wy wi he most) (3 ^ t)
          cases ho : upto (pickB (btW t) (ownM I J t sl wy wi he most)) (3 ^ t) none with
          | none =>
            rw [ho] at hbs hQ
            have hb0 : S 30 0 = 0 := hbs
            refine ev_iload_n (q := 34) dX6_most_33 rfl rfl ?_
            refine ev_aload_n (q := 35) dX6_most_34 rfl rfl ?_
            refine ev_get (q := 38) dX6_most_35 fr_X6_33 rfl (lt_n hn (by decide)) rfl rfl ?_
            refine ev_get (q := 41) dX6_most_38 fr_X6_211 rfl (lt_n hn (by decide)) rfl rfl ?_
            rw [show ov I S 16 0 = nI (3 ^ t) from ht.1]
            refine ev_icmp_ge (q := 44) 114 dX6_most_41 (by decide) rfl (fun c_41 => ?_) (fun c_41 => ?_)
            · refine ev_aload_n (q := 115) dX6_most_114 rfl rfl ?_
              refine ev_get (q := 118) dX6_most_115 fr_X6_56 rfl (lt_n hn (by decide)) rfl rfl ?_
              refine ev_get (q := 121) dX6_most_118 fr_X6_198 rfl (lt_n hn (by decide)) rfl rfl ?_
              refine ev_if_ne (q := 124) 127 dX6_most_121 (by decide) rfl (fun c_121 => ?_) (fun c_121 => ?_)
              · exact absurd hb0 c_121
              · refine ev_bipush (q := 126) (-6) dX6_most_124 (by decide) rfl ?_
                exact ev_iretE dX6_most_126 rfl rfl rfl rfl rfl (hQ _ _)
            · exact absurd ((nI_leI (by omega) (by omega)).mpr (Nat.le_refl _)) c_41
          | some p =>
            obtain ⟨u, b⟩ := p
            rw [ho] at hbs hQ
            obtain ⟨b0, b1, b2⟩ := hbs
            have b1 : S 30 1 = (ownM I J t sl wy wi he most u).getD 0 := b1
            rw [hown u b ho] at b1
            have b1 : S 30 1 = b := b1
            obtain ⟨r1, r2⟩ := rk_mod h6 (hlt u b ho)
            have hw01 : what = 0 ∨ what = 1 := by rw [inb_01] at g2; simpa using g2
            refine ev_iload_n (q := 34) dX6_most_33 rfl rfl ?_
            refine ev_aload_n (q := 35) dX6_most_34 rfl rfl ?_
            refine ev_get (q := 38) dX6_most_35 fr_X6_33 rfl (lt_n hn (by decide)) rfl rfl ?_
            refine ev_get (q := 41) dX6_most_38 fr_X6_211 rfl (lt_n hn (by decide)) rfl rfl ?_
            rw [show ov I S 16 0 = nI (3 ^ t) from ht.1]
            refine ev_icmp_ge (q := 44) 114 dX6_most_41 (by decide) rfl (fun c_41 => ?_) (fun c_41 => ?_)
            · refine ev_aload_n (q := 115) dX6_most_114 rfl rfl ?_
              refine ev_get (q := 118) dX6_most_115 fr_X6_56 rfl (lt_n hn (by decide)) rfl rfl ?_
              refine ev_get (q := 121) dX6_most_118 fr_X6_198 rfl (lt_n hn (by decide)) rfl rfl ?_
              refine ev_if_ne (q := 124) 127 dX6_most_121 (by decide) rfl (fun c_121 => ?_) (fun c_121 => ?_)
              · refine ev_iload_n (q := 128) dX6_most_127 rfl rfl ?_
                refine ev_if_ne (q := 131) 145 dX6_most_128 (by decide) rfl (fun c_128 => ?_) (fun c_128 => ?_)
                · have c_128 : ¬ what = 0 := c_128
                  have c_w := hw01.resolve_left c_128
                  refine ev_aload_n (q := 146) dX6_most_145 rfl rfl ?_
                  refine ev_get (q := 149) dX6_most_146 fr_X6_56 rfl (lt_n hn (by decide)) rfl rfl ?_
                  refine ev_get (q := 152) dX6_most_149 fr_X6_202 rfl (lt_n hn (by decide)) rfl rfl ?_
                  refine ev_sipush (q := 155) (1000) dX6_most_152 (by decide) rfl ?_
                  rw [show ov I S 30 2 = nI (rkN t u) from b2]
                  refine ev_irem (q := 156) (by decide) dX6_most_155 rfl ?_
                  exact ev_iretE dX6_most_156 rfl rfl (by show _ = (if what = 1 then nI u else b + 1000); first | (rw [if_neg c_w]; done) | (rw [if_pos c_w, r1])) rfl rfl (hQ _ _)
                · have c_128 : what = 0 := c_128
                  have c_w : ¬ what = 1 := by rw [c_128]; decide
                  refine ev_aload_n (q := 132) dX6_most_131 rfl rfl ?_
                  refine ev_get (q := 135) dX6_most_132 fr_X6_56 rfl (lt_n hn (by decide)) rfl rfl ?_
                  refine ev_get (q := 138) dX6_most_135 fr_X6_208 rfl (lt_n hn (by decide)) rfl rfl ?_
                  refine ev_sipush (q := 141) (1000) dX6_most_138 (by decide) rfl ?_
                  rw [show ov I S 30 1 = b from b1]
                  refine ev_iadd (q := 142) dX6_most_141 rfl ?_
                  refine ev_goto 156 dX6_most_142 (by decide) ?_
                  exact ev_iretE dX6_most_156 rfl rfl (by show _ = (if what = 1 then nI u else b + 1000); first | (rw [if_neg c_w]; done) | (rw [if_pos c_w, r1])) rfl rfl (hQ _ _)
              · exact absurd (show S 30 0 = 0 from c_121) (by rw [b0]; decide)
            · exact absurd ((nI_leI (by omega) (by omega)).mpr (Nat.le_refl _)) c_41
        · have e := e (by omega) (by omega)
          simp only [upto] at e
          have hwl := wd_le (t := t) (num := k) h6
          by_cases hwm : nI (wd t k) ≤ most
          · cases hm : mtF I J t sl wy wi k he with
            | none =>
              rw [boK_n (by unfold ownM; rw [if_pos hwm, hm]; rfl)] at e
              refine ev_iload_n (q := 34) dX6_most_33 rfl rfl ?_
              refine ev_aload_n (q := 35) dX6_most_34 rfl rfl ?_
              refine ev_get (q := 38) dX6_most_35 fr_X6_33 rfl (lt_n hn (by decide)) rfl rfl ?_
              refine ev_get (q := 41) dX6_most_38 fr_X6_211 rfl (lt_n hn (by decide)) rfl rfl ?_
              rw [show ov I S 16 0 = nI (3 ^ t) from ht.1]
              refine ev_icmp_ge (q := 44) 114 dX6_most_41 (by decide) rfl (fun c_41 => ?_) (fun c_41 => ?_)
              · exact absurd ((nI_leI (by omega) (by omega)).mp c_41) hkN
              · refine ev_aload_n (q := 45) dX6_most_44 rfl rfl ?_
                refine ev_get (q := 48) dX6_most_45 fr_X6_33 rfl (lt_n hn (by decide)) rfl rfl ?_
                refine ev_iload_n (q := 49) dX6_most_48 rfl rfl ?_
                refine ev_callV1i (q := 52) dX6_most_49 ca_X6_226 (k_X5_wordsOf hn ht h6 (by omega)) rfl (lt_n hn (by decide)) rfl rfl (Nat.le_of_ble_eq_true rfl) (Nat.le_of_ble_eq_true rfl) (by decide) (by decide) rfl ?_
                refine ev_iload_n (q := 53) dX6_most_52 rfl rfl ?_
                refine ev_icmp_gt (q := 56) 74 dX6_most_53 (by decide) rfl (fun c_53 => ?_) (fun c_53 => ?_)
                · (simp only [i_le, i_lt] at *; omega)
                · refine ev_aload_n (q := 57) dX6_most_56 rfl rfl ?_
                  refine ev_get (q := 60) dX6_most_57 fr_X6_42 rfl (lt_n hn (by decide)) rfl rfl ?_
                  refine ev_iload_n (q := 61) dX6_most_60 rfl rfl ?_
                  refine ev_aload_n (q := 62) dX6_most_61 rfl rfl ?_
                  refine ev_get (q := 65) dX6_most_62 fr_X6_10 rfl (lt_n hn (by decide)) rfl rfl ?_
                  refine ev_get (q := 68) dX6_most_65 fr_X6_103 rfl (lt_n hn (by decide)) rfl rfl ?_
                  rw [show ov I S 1 1 = nI he from hk.2.1.2.1]
                  refine ev_callV2i (q := 71) dX6_most_68 ca_X6_212 (k_X3_ofTerm hn hk ht hr (by omega) (by omega)) rfl (lt_n hn (by decide)) rfl rfl (Nat.le_of_ble_eq_true rfl) (Nat.le_of_ble_eq_true rfl) (by decide) (by decide) rfl ?_
                  rw [hm]
                  refine ev_goto 76 dX6_most_71 (by decide) ?_
                  refine ev_ist_4 (q := 78) dX6_most_76 rfl rfl ?_
                  refine ev_iload (q := 80) dX6_most_78 rfl rfl ?_
                  refine ev_if_lt (q := 83) 108 dX6_most_80 (by decide) rfl (fun c_80 => ?_) (fun c_80 => ?_)
                  · refine ev_inc_3 (q := 111) (nI (k + 1)) dX6_most_108 (nI_1 k) rfl rfl ?_
                    refine ev_goto 33 dX6_most_111 (by decide) ?_
                    exact e _ _ _ hr hbs
                  · exact absurd (show (-3 : Int32) < 0 by decide) c_80
            | some m =>
              have hm2 := mtF_lt hm
              have hS := hw_made hk hr hm2
              rw [boK_s (v := wtF I t wi m) (by unfold ownM; rw [if_pos hwm, hm]; rfl)] at e
              refine ev_iload_n (q := 34) dX6_most_33 rfl rfl ?_
              refine ev_aload_n (q := 35) dX6_most_34 rfl rfl ?_
              refine ev_get (q := 38) dX6_most_35 fr_X6_33 rfl (lt_n hn (by decide)) rfl rfl ?_
              refine ev_get (q := 41) dX6_most_38 fr_X6_211 rfl (lt_n hn (by decide)) rfl rfl ?_
              rw [show ov I S 16 0 = nI (3 ^ t) from ht.1]
              refine ev_icmp_ge (q := 44) 114 dX6_most_41 (by decide) rfl (fun c_41 => ?_) (fun c_41 => ?_)
              · exact absurd ((nI_leI (by omega) (by omega)).mp c_41) hkN
              · refine ev_aload_n (q := 45) dX6_most_44 rfl rfl ?_
                refine ev_get (q := 48) dX6_most_45 fr_X6_33 rfl (lt_n hn (by decide)) rfl rfl ?_
                refine ev_iload_n (q := 49) dX6_most_48 rfl rfl ?_
                refine ev_callV1i (q := 52) dX6_most_49 ca_X6_226 (k_X5_wordsOf hn ht h6 (by omega)) rfl (lt_n hn (by decide)) rfl rfl (Nat.le_of_ble_eq_true rfl) (Nat.le_of_ble_eq_true rfl) (by decide) (by decide) rfl ?_
                refine ev_iload_n (q := 53) dX6_most_52 rfl rfl ?_
                refine ev_icmp_gt (q := 56) 74 dX6_most_53 (by decide) rfl (fun c_53 => ?_) (fun c_53 => ?_)
                · (simp only [i_le, i_lt] at *; omega)
                · refine ev_aload_n (q := 57) dX6_most_56 rfl rfl ?_
                  refine ev_get (q := 60) dX6_most_57 fr_X6_42 rfl (lt_n hn (by decide)) rfl rfl ?_
                  refine ev_iload_n (q := 61) dX6_most_60 rfl rfl ?_
                  refine ev_aload_n (q := 62) dX6_most_61 rfl rfl ?_
                  refine ev_get (q := 65) dX6_most_62 fr_X6_10 rfl (lt_n hn (by decide)) rfl rfl ?_
                  refine ev_get (q := 68) dX6_most_65 fr_X6_103 rfl (lt_n hn (by decide)) rfl rfl ?_
                  rw [show ov I S 1 1 = nI he from hk.2.1.2.1]
                  refine ev_callV2i (q := 71) dX6_most_68 ca_X6_212 (k_X3_ofTerm hn hk ht hr (by omega) (by omega)) rfl (lt_n hn (by decide)) rfl rfl (Nat.le_of_ble_eq_true rfl) (Nat.le_of_ble_eq_true rfl) (by decide) (by decide) rfl ?_
                  rw [hm]
                  refine ev_goto 76 dX6_most_71 (by decide) ?_
                  refine ev_ist_4 (q := 78) dX6_most_76 rfl rfl ?_
                  refine ev_iload (q := 80) dX6_most_78 rfl rfl ?_
                  refine ev_if_lt (q := 83) 108 dX6_most_80 (by decide) rfl (fun c_80 => ?_) (fun c_80 => ?_)
                  · exact absurd c_80 (nI_pos (n := m) (by omega))
                  · refine ev_aload_n (q := 84) dX6_most_83 rfl rfl ?_
                    refine ev_get (q := 87) dX6_most_84 fr_X6_56 rfl (lt_n hn (by decide)) rfl rfl ?_
                    refine ev_aload_n (q := 88) dX6_most_87 rfl rfl ?_
                    refine ev_get (q := 91) dX6_most_88 fr_X6_42 rfl (lt_n hn (by decide)) rfl rfl ?_
                    refine ev_get (q := 94) dX6_most_91 fr_X6_215 rfl (lt_n hn (by decide)) rfl rfl ?_
                    refine ev_iload (q := 96) dX6_most_94 rfl rfl ?_
                    refine ev_iaS (q := 97) m dX6_most_96 rfl rfl (by omega) (lt_n hn (by decide)) rfl ?_
                    rw [show ov I S 22 m = wtF I t wi m from hS]
                    refine ev_aload_n (q := 98) dX6_most_97 rfl rfl ?_
                    refine ev_get (q := 101) dX6_most_98 fr_X6_33 rfl (lt_n hn (by decide)) rfl rfl ?_
                    refine ev_iload_n (q := 102) dX6_most_101 rfl rfl ?_
                    refine ev_callV1i (q := 105) dX6_most_102 ca_X6_216 (k_X5_rankOf hn ht h6 (by omega)) rfl (lt_n hn (by decide)) rfl rfl (Nat.le_of_ble_eq_true rfl) (Nat.le_of_ble_eq_true rfl) (by decide) (by decide) rfl ?_
                    refine ev_callV2vP (q := 108) dX6_most_105 ca_X6_219 (k_X0_offer hn hbs) rfl (lt_n hn (by decide)) rfl rfl (Nat.le_of_ble_eq_true rfl) (Nat.le_of_ble_eq_true rfl) (by decide) (by decide) rfl (fun S T hp_105 => ?_)
                    obtain ⟨hb2, -, hfr⟩ := hp_105
                    refine ev_inc_3 (q := 111) (nI (k + 1)) dX6_most_108 (nI_1 k) rfl rfl ?_
                    refine ev_goto 33 dX6_most_111 (by decide) ?_
                    exact e _ _ _ (RD_mono hr (hfr 22 (by decide)) (hfr 23 (by decide))) hb2
          · rw [boK_n (by unfold ownM; rw [if_neg hwm])] at e
            refine ev_iload_n (q := 34) dX6_most_33 rfl rfl ?_
            refine ev_aload_n (q := 35) dX6_most_34 rfl rfl ?_
            refine ev_get (q := 38) dX6_most_35 fr_X6_33 rfl (lt_n hn (by decide)) rfl rfl ?_
            refine ev_get (q := 41) dX6_most_38 fr_X6_211 rfl (lt_n hn (by decide)) rfl rfl ?_
            rw [show ov I S 16 0 = nI (3 ^ t) from ht.1]
            refine ev_icmp_ge (q := 44) 114 dX6_most_41 (by decide) rfl (fun c_41 => ?_) (fun c_41 => ?_)
            · exact absurd ((nI_leI (by omega) (by omega)).mp c_41) hkN
            · refine ev_aload_n (q := 45) dX6_most_44 rfl rfl ?_
              refine ev_get (q := 48) dX6_most_45 fr_X6_33 rfl (lt_n hn (by decide)) rfl rfl ?_
              refine ev_iload_n (q := 49) dX6_most_48 rfl rfl ?_
              refine ev_callV1i (q := 52) dX6_most_49 ca_X6_226 (k_X5_wordsOf hn ht h6 (by omega)) rfl (lt_n hn (by decide)) rfl rfl (Nat.le_of_ble_eq_true rfl) (Nat.le_of_ble_eq_true rfl) (by decide) (by decide) rfl ?_
              refine ev_iload_n (q := 53) dX6_most_52 rfl rfl ?_
              refine ev_icmp_gt (q := 56) 74 dX6_most_53 (by decide) rfl (fun c_53 => ?_) (fun c_53 => ?_)
              · refine ev_bipush (q := 76) (-6) dX6_most_74 (by decide) rfl ?_
                refine ev_ist_4 (q := 78) dX6_most_76 rfl rfl ?_
                refine ev_iload (q := 80) dX6_most_78 rfl rfl ?_
                refine ev_if_lt (q := 83) 108 dX6_most_80 (by decide) rfl (fun c_80 => ?_) (fun c_80 => ?_)
                · refine ev_inc_3 (q := 111) (nI (k + 1)) dX6_most_108 (nI_1 k) rfl rfl ?_
                  refine ev_goto 33 dX6_most_111 (by decide) ?_
                  exact e _ _ _ hr hbs
                · exact absurd neg6 c_80
              · (simp only [i_le, i_lt] at *; omega)
    refine ev_iload_n (q := 1) dX6_most_0 rfl rfl ?_
    refine ev_callS1i (q := 4) dX6_most_1 ca_X6_223 (c_X6_isWords _) (Nat.le_of_ble_eq_true rfl) (Nat.le_of_ble_eq_true rfl) (by decide) (by decide) rfl ?_
    refine ev_if_eq (q := 7) 14 dX6_most_4 (by decide) rfl (fun c_4 => ?_) (fun c_4 => ?_)
    · exact absurd c_4 (b2i_n0.mpr g1)
    · refine ev_iload_n (q := 8) dX6_most_7 rfl rfl ?_
      refine ev_callS1i (q := 11) dX6_most_8 ca_X6_158 (c_X6_isBit _) (Nat.le_of_ble_eq_true rfl) (Nat.le_of_ble_eq_true rfl) (by decide) (by decide) rfl ?_
      refine ev_if_ne (q := 14) 17 dX6_most_11 (by decide) rfl (fun c_11 => ?_) (fun c_11 => ?_)
      · refine ev_aload_n (q := 18) dX6_most_17 rfl rfl ?_
        refine ev_get (q := 21) dX6_most_18 fr_X6_42 rfl (lt_n hn (by decide)) rfl rfl ?_
        refine ev_callV0v (q := 24) dX6_most_21 ca_X6_182 (k_X3_ready hn hk) rfl (lt_n hn (by decide)) rfl rfl (Nat.le_of_ble_eq_true rfl) (Nat.le_of_ble_eq_true rfl) (by decide) (by decide) rfl ?_
        refine ev_aload_n (q := 25) dX6_most_24 rfl rfl ?_
        refine ev_get (q := 28) dX6_most_25 fr_X6_56 rfl (lt_n hn (by decide)) rfl rfl ?_
        refine ev_callV0v (q := 31) dX6_most_28 ca_X6_185 (k_X0_clear hn) rfl (lt_n hn (by decide)) rfl rfl (Nat.le_of_ble_eq_true rfl) (Nat.le_of_ble_eq_true rfl) (by decide) (by decide) rfl ?_
        refine ev_iconst (q := 32) (0) dX6_most_31 (by decide) rfl ?_
        refine ev_ist_3 (q := 33) dX6_most_32 rfl rfl ?_
        exact lp (3 ^ t) 0 (by omega) _ _ _ (RD_mono RD_rdS rfl rfl) rfl
      · exact absurd c_11 (b2i_n0.mpr g2)
end CLS9
