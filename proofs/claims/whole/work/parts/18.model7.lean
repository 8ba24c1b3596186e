theorem dX7_wording_0 : decode cX7_wording 0 = .ok (.iload_n 1, 1) := by decide +kernel
theorem dX7_wording_1 : decode cX7_wording 1 = .ok (.bipush (-99), 2) := by decide +kernel
theorem dX7_wording_3 : decode cX7_wording 3 = .ok (.bipush 99, 2) := by decide +kernel
theorem dX7_wording_5 : decode cX7_wording 5 = .ok (.invokestatic 99, 3) := by decide +kernel
theorem dX7_wording_8 : decode cX7_wording 8 = .ok (.ifCond .eq 12, 3) := by decide +kernel
theorem dX7_wording_11 : decode cX7_wording 11 = .ok (.iload_n 2, 1) := by decide +kernel
theorem dX7_wording_12 : decode cX7_wording 12 = .ok (.iconst 0, 1) := by decide +kernel
theorem dX7_wording_13 : decode cX7_wording 13 = .ok (.iconst 1, 1) := by decide +kernel
theorem dX7_wording_14 : decode cX7_wording 14 = .ok (.invokestatic 99, 3) := by decide +kernel
theorem dX7_wording_17 : decode cX7_wording 17 = .ok (.ifCond .ne 6, 3) := by decide +kernel
theorem dX7_wording_20 : decode cX7_wording 20 = .ok (.bipush (-2), 2) := by decide +kernel
theorem dX7_wording_22 : decode cX7_wording 22 = .ok (.ireturn, 1) := by decide +kernel
theorem dX7_wording_23 : decode cX7_wording 23 = .ok (.bipush (-6), 2) := by decide +kernel
theorem dX7_wording_25 : decode cX7_wording 25 = .ok (.istore_n 3, 1) := by decide +kernel
theorem dX7_wording_26 : decode cX7_wording 26 = .ok (.iconst 0, 1) := by decide +kernel
theorem dX7_wording_27 : decode cX7_wording 27 = .ok (.istore 4, 2) := by decide +kernel
theorem dX7_wording_29 : decode cX7_wording 29 = .ok (.iload 4, 2) := by decide +kernel
theorem dX7_wording_31 : decode cX7_wording 31 = .ok (.aload_n 0, 1) := by decide +kernel
theorem dX7_wording_32 : decode cX7_wording 32 = .ok (.invokevirtual 201, 3) := by decide +kernel
theorem dX7_wording_35 : decode cX7_wording 35 = .ok (.if_icmp .ge 77, 3) := by decide +kernel
theorem dX7_wording_38 : decode cX7_wording 38 = .ok (.aload_n 0, 1) := by decide +kernel
theorem dX7_wording_39 : decode cX7_wording 39 = .ok (.iload 4, 2) := by decide +kernel
theorem dX7_wording_41 : decode cX7_wording 41 = .ok (.aload_n 0, 1) := by decide +kernel
theorem dX7_wording_42 : decode cX7_wording 42 = .ok (.getfield 73, 3) := by decide +kernel
theorem dX7_wording_45 : decode cX7_wording 45 = .ok (.invokevirtual 204, 3) := by decide +kernel
theorem dX7_wording_48 : decode cX7_wording 48 = .ok (.istore 5, 2) := by decide +kernel
theorem dX7_wording_50 : decode cX7_wording 50 = .ok (.iload 5, 2) := by decide +kernel
theorem dX7_wording_52 : decode cX7_wording 52 = .ok (.ifCond .lt 21, 3) := by decide +kernel
theorem dX7_wording_55 : decode cX7_wording 55 = .ok (.aload_n 0, 1) := by decide +kernel
theorem dX7_wording_56 : decode cX7_wording 56 = .ok (.aload_n 0, 1) := by decide +kernel
theorem dX7_wording_57 : decode cX7_wording 57 = .ok (.getfield 67, 3) := by decide +kernel
theorem dX7_wording_60 : decode cX7_wording 60 = .ok (.iload 5, 2) := by decide +kernel
theorem dX7_wording_62 : decode cX7_wording 62 = .ok (.invokevirtual 117, 3) := by decide +kernel
theorem dX7_wording_65 : decode cX7_wording 65 = .ok (.iload_n 1, 1) := by decide +kernel
theorem dX7_wording_66 : decode cX7_wording 66 = .ok (.if_icmp .lt 7, 3) := by decide +kernel
theorem dX7_wording_69 : decode cX7_wording 69 = .ok (.iconst 1, 1) := by decide +kernel
theorem dX7_wording_70 : decode cX7_wording 70 = .ok (.goto 4, 3) := by decide +kernel
theorem dX7_wording_73 : decode cX7_wording 73 = .ok (.iconst 0, 1) := by decide +kernel
theorem dX7_wording_74 : decode cX7_wording 74 = .ok (.istore 6, 2) := by decide +kernel
theorem dX7_wording_76 : decode cX7_wording 76 = .ok (.iload 6, 2) := by decide +kernel
theorem dX7_wording_78 : decode cX7_wording 78 = .ok (.ifCond .eq 26, 3) := by decide +kernel
theorem dX7_wording_81 : decode cX7_wording 81 = .ok (.iload_n 3, 1) := by decide +kernel
theorem dX7_wording_82 : decode cX7_wording 82 = .ok (.ifCond .lt 17, 3) := by decide +kernel
theorem dX7_wording_85 : decode cX7_wording 85 = .ok (.aload_n 0, 1) := by decide +kernel
theorem dX7_wording_86 : decode cX7_wording 86 = .ok (.iload 4, 2) := by decide +kernel
theorem dX7_wording_88 : decode cX7_wording 88 = .ok (.invokevirtual 207, 3) := by decide +kernel
theorem dX7_wording_91 : decode cX7_wording 91 = .ok (.aload_n 0, 1) := by decide +kernel
theorem dX7_wording_92 : decode cX7_wording 92 = .ok (.iload_n 3, 1) := by decide +kernel
theorem dX7_wording_93 : decode cX7_wording 93 = .ok (.invokevirtual 207, 3) := by decide +kernel
theorem dX7_wording_96 : decode cX7_wording 96 = .ok (.if_icmp .ge 8, 3) := by decide +kernel
theorem dX7_wording_99 : decode cX7_wording 99 = .ok (.iload 4, 2) := by decide +kernel
theorem dX7_wording_101 : decode cX7_wording 101 = .ok (.goto 4, 3) := by decide +kernel
theorem dX7_wording_104 : decode cX7_wording 104 = .ok (.iload_n 3, 1) := by decide +kernel
theorem dX7_wording_105 : decode cX7_wording 105 = .ok (.istore_n 3, 1) := by decide +kernel
theorem dX7_wording_106 : decode cX7_wording 106 = .ok (.iinc 4 1, 3) := by decide +kernel
theorem dX7_wording_109 : decode cX7_wording 109 = .ok (.goto (-80), 3) := by decide +kernel
theorem dX7_wording_112 : decode cX7_wording 112 = .ok (.iload_n 3, 1) := by decide +kernel
theorem dX7_wording_113 : decode cX7_wording 113 = .ok (.ifCond .lt 7, 3) := by decide +kernel
theorem dX7_wording_116 : decode cX7_wording 116 = .ok (.iload_n 2, 1) := by decide +kernel
theorem dX7_wording_117 : decode cX7_wording 117 = .ok (.ifCond .ne 7, 3) := by decide +kernel
theorem dX7_wording_120 : decode cX7_wording 120 = .ok (.iload_n 3, 1) := by decide +kernel
theorem dX7_wording_121 : decode cX7_wording 121 = .ok (.goto 8, 3) := by decide +kernel
theorem dX7_wording_124 : decode cX7_wording 124 = .ok (.aload_n 0, 1) := by decide +kernel
theorem dX7_wording_125 : decode cX7_wording 125 = .ok (.iload_n 3, 1) := by decide +kernel
theorem dX7_wording_126 : decode cX7_wording 126 = .ok (.invokevirtual 207, 3) := by decide +kernel
theorem dX7_wording_129 : decode cX7_wording 129 = .ok (.ireturn, 1) := by decide +kernel
theorem dX7_most_0 : decode cX7_most 0 = .ok (.iload_n 1, 1) := by decide +kernel
theorem dX7_most_1 : decode cX7_most 1 = .ok (.iconst 0, 1) := by decide +kernel
theorem dX7_most_2 : decode cX7_most 2 = .ok (.bipush 6, 2) := by decide +kernel
theorem dX7_most_4 : decode cX7_most 4 = .ok (.invokestatic 99, 3) := by decide +kernel
theorem dX7_most_7 : decode cX7_most 7 = .ok (.ifCond .eq 12, 3) := by decide +kernel
theorem dX7_most_10 : decode cX7_most 10 = .ok (.iload_n 2, 1) := by decide +kernel
theorem dX7_most_11 : decode cX7_most 11 = .ok (.iconst 0, 1) := by decide +kernel
theorem dX7_most_12 : decode cX7_most 12 = .ok (.iconst 1, 1) := by decide +kernel
theorem dX7_most_13 : decode cX7_most 13 = .ok (.invokestatic 99, 3) := by decide +kernel
theorem dX7_most_16 : decode cX7_most 16 = .ok (.ifCond .ne 6, 3) := by decide +kernel
theorem dX7_most_19 : decode cX7_most 19 = .ok (.bipush (-2), 2) := by decide +kernel
theorem dX7_most_21 : decode cX7_most 21 = .ok (.ireturn, 1) := by decide +kernel
theorem dX7_most_22 : decode cX7_most 22 = .ok (.bipush (-6), 2) := by decide +kernel
theorem dX7_most_24 : decode cX7_most 24 = .ok (.istore_n 3, 1) := by decide +kernel
theorem dX7_most_25 : decode cX7_most 25 = .ok (.iconst 0, 1) := by decide +kernel
theorem dX7_most_26 : decode cX7_most 26 = .ok (.istore 4, 2) := by decide +kernel
theorem dX7_most_28 : decode cX7_most 28 = .ok (.iconst 0, 1) := by decide +kernel
theorem dX7_most_29 : decode cX7_most 29 = .ok (.istore 5, 2) := by decide +kernel
theorem dX7_most_31 : decode cX7_most 31 = .ok (.iload 5, 2) := by decide +kernel
theorem dX7_most_33 : decode cX7_most 33 = .ok (.aload_n 0, 1) := by decide +kernel
theorem dX7_most_34 : decode cX7_most 34 = .ok (.invokevirtual 201, 3) := by decide +kernel
theorem dX7_most_37 : decode cX7_most 37 = .ok (.if_icmp .ge 101, 3) := by decide +kernel
theorem dX7_most_40 : decode cX7_most 40 = .ok (.aload_n 0, 1) := by decide +kernel
theorem dX7_most_41 : decode cX7_most 41 = .ok (.iload 5, 2) := by decide +kernel
theorem dX7_most_43 : decode cX7_most 43 = .ok (.invokevirtual 207, 3) := by decide +kernel
theorem dX7_most_46 : decode cX7_most 46 = .ok (.iload_n 1, 1) := by decide +kernel
theorem dX7_most_47 : decode cX7_most 47 = .ok (.if_icmp .gt 16, 3) := by decide +kernel
theorem dX7_most_50 : decode cX7_most 50 = .ok (.aload_n 0, 1) := by decide +kernel
theorem dX7_most_51 : decode cX7_most 51 = .ok (.iload 5, 2) := by decide +kernel
theorem dX7_most_53 : decode cX7_most 53 = .ok (.aload_n 0, 1) := by decide +kernel
theorem dX7_most_54 : decode cX7_most 54 = .ok (.getfield 73, 3) := by decide +kernel
theorem dX7_most_57 : decode cX7_most 57 = .ok (.invokevirtual 204, 3) := by decide +kernel
theorem dX7_most_60 : decode cX7_most 60 = .ok (.goto 5, 3) := by decide +kernel
theorem dX7_most_63 : decode cX7_most 63 = .ok (.bipush (-6), 2) := by decide +kernel
theorem dX7_most_65 : decode cX7_most 65 = .ok (.istore 6, 2) := by decide +kernel
theorem dX7_most_67 : decode cX7_most 67 = .ok (.iload 6, 2) := by decide +kernel
theorem dX7_most_69 : decode cX7_most 69 = .ok (.ifCond .ge 7, 3) := by decide +kernel
theorem dX7_most_72 : decode cX7_most 72 = .ok (.iconst 0, 1) := by decide +kernel
theorem dX7_most_73 : decode cX7_most 73 = .ok (.goto 13, 3) := by decide +kernel
theorem dX7_most_76 : decode cX7_most 76 = .ok (.aload_n 0, 1) := by decide +kernel
theorem dX7_most_77 : decode cX7_most 77 = .ok (.aload_n 0, 1) := by decide +kernel
theorem dX7_most_78 : decode cX7_most 78 = .ok (.getfield 67, 3) := by decide +kernel
theorem dX7_most_81 : decode cX7_most 81 = .ok (.iload 6, 2) := by decide +kernel
theorem dX7_most_83 : decode cX7_most 83 = .ok (.invokevirtual 117, 3) := by decide +kernel
theorem dX7_most_86 : decode cX7_most 86 = .ok (.istore 7, 2) := by decide +kernel
theorem dX7_most_88 : decode cX7_most 88 = .ok (.iload 6, 2) := by decide +kernel
theorem dX7_most_90 : decode cX7_most 90 = .ok (.ifCond .lt 42, 3) := by decide +kernel
theorem dX7_most_93 : decode cX7_most 93 = .ok (.iload_n 3, 1) := by decide +kernel
theorem dX7_most_94 : decode cX7_most 94 = .ok (.ifCond .lt 31, 3) := by decide +kernel
theorem dX7_most_97 : decode cX7_most 97 = .ok (.iload 7, 2) := by decide +kernel
theorem dX7_most_99 : decode cX7_most 99 = .ok (.iload 4, 2) := by decide +kernel
theorem dX7_most_101 : decode cX7_most 101 = .ok (.if_icmp .gt 24, 3) := by decide +kernel
theorem dX7_most_104 : decode cX7_most 104 = .ok (.iload 7, 2) := by decide +kernel
theorem dX7_most_106 : decode cX7_most 106 = .ok (.iload 4, 2) := by decide +kernel
theorem dX7_most_108 : decode cX7_most 108 = .ok (.if_icmp .ne 24, 3) := by decide +kernel
theorem dX7_most_111 : decode cX7_most 111 = .ok (.aload_n 0, 1) := by decide +kernel
theorem dX7_most_112 : decode cX7_most 112 = .ok (.iload 5, 2) := by decide +kernel
theorem dX7_most_114 : decode cX7_most 114 = .ok (.invokevirtual 207, 3) := by decide +kernel
theorem dX7_most_117 : decode cX7_most 117 = .ok (.aload_n 0, 1) := by decide +kernel
theorem dX7_most_118 : decode cX7_most 118 = .ok (.iload_n 3, 1) := by decide +kernel
theorem dX7_most_119 : decode cX7_most 119 = .ok (.invokevirtual 207, 3) := by decide +kernel
theorem dX7_most_122 : decode cX7_most 122 = .ok (.if_icmp .ge 10, 3) := by decide +kernel
theorem dX7_most_125 : decode cX7_most 125 = .ok (.iload 5, 2) := by decide +kernel
theorem dX7_most_127 : decode cX7_most 127 = .ok (.istore_n 3, 1) := by decide +kernel
theorem dX7_most_128 : decode cX7_most 128 = .ok (.iload 7, 2) := by decide +kernel
theorem dX7_most_130 : decode cX7_most 130 = .ok (.istore 4, 2) := by decide +kernel
theorem dX7_most_132 : decode cX7_most 132 = .ok (.iinc 5 1, 3) := by decide +kernel
theorem dX7_most_135 : decode cX7_most 135 = .ok (.goto (-104), 3) := by decide +kernel
theorem dX7_most_138 : decode cX7_most 138 = .ok (.iload_n 3, 1) := by decide +kernel
theorem dX7_most_139 : decode cX7_most 139 = .ok (.ifCond .lt 8, 3) := by decide +kernel
theorem dX7_most_142 : decode cX7_most 142 = .ok (.iload_n 2, 1) := by decide +kernel
theorem dX7_most_143 : decode cX7_most 143 = .ok (.iconst 1, 1) := by decide +kernel
theorem dX7_most_144 : decode cX7_most 144 = .ok (.if_icmp .ne 7, 3) := by decide +kernel
theorem dX7_most_147 : decode cX7_most 147 = .ok (.iload_n 3, 1) := by decide +kernel
theorem dX7_most_148 : decode cX7_most 148 = .ok (.goto 9, 3) := by decide +kernel
theorem dX7_most_151 : decode cX7_most 151 = .ok (.iload 4, 2) := by decide +kernel
theorem dX7_most_153 : decode cX7_most 153 = .ok (.sipush 1000, 3) := by decide +kernel
theorem dX7_most_156 : decode cX7_most 156 = .ok (.iadd, 1) := by decide +kernel
theorem dX7_most_157 : decode cX7_most 157 = .ok (.ireturn, 1) := by decide +kernel
theorem dX7_votesFor_0 : decode cX7_votesFor 0 = .ok (.iconst 0, 1) := by decide +kernel
theorem dX7_votesFor_1 : decode cX7_votesFor 1 = .ok (.istore_n 2, 1) := by decide +kernel
theorem dX7_votesFor_2 : decode cX7_votesFor 2 = .ok (.iconst 0, 1) := by decide +kernel
theorem dX7_votesFor_3 : decode cX7_votesFor 3 = .ok (.istore_n 3, 1) := by decide +kernel
theorem dX7_votesFor_4 : decode cX7_votesFor 4 = .ok (.iload_n 3, 1) := by decide +kernel
theorem dX7_votesFor_5 : decode cX7_votesFor 5 = .ok (.iconst 4, 1) := by decide +kernel
theorem dX7_votesFor_6 : decode cX7_votesFor 6 = .ok (.if_icmp .ge 40, 3) := by decide +kernel
theorem dX7_votesFor_9 : decode cX7_votesFor 9 = .ok (.iload_n 2, 1) := by decide +kernel
theorem dX7_votesFor_10 : decode cX7_votesFor 10 = .ok (.aload_n 0, 1) := by decide +kernel
theorem dX7_votesFor_11 : decode cX7_votesFor 11 = .ok (.iload_n 3, 1) := by decide +kernel
theorem dX7_votesFor_12 : decode cX7_votesFor 12 = .ok (.iload_n 1, 1) := by decide +kernel
theorem dX7_votesFor_13 : decode cX7_votesFor 13 = .ok (.invokevirtual 117, 3) := by decide +kernel
theorem dX7_votesFor_16 : decode cX7_votesFor 16 = .ok (.aload_n 0, 1) := by decide +kernel
theorem dX7_votesFor_17 : decode cX7_votesFor 17 = .ok (.iload_n 3, 1) := by decide +kernel
theorem dX7_votesFor_18 : decode cX7_votesFor 18 = .ok (.aload_n 0, 1) := by decide +kernel
theorem dX7_votesFor_19 : decode cX7_votesFor 19 = .ok (.getfield 73, 3) := by decide +kernel
theorem dX7_votesFor_22 : decode cX7_votesFor 22 = .ok (.invokevirtual 117, 3) := by decide +kernel
theorem dX7_votesFor_25 : decode cX7_votesFor 25 = .ok (.if_icmp .le 12, 3) := by decide +kernel
theorem dX7_votesFor_28 : decode cX7_votesFor 28 = .ok (.aload_n 0, 1) := by decide +kernel
theorem dX7_votesFor_29 : decode cX7_votesFor 29 = .ok (.getfield 20, 3) := by decide +kernel
theorem dX7_votesFor_32 : decode cX7_votesFor 32 = .ok (.iload_n 3, 1) := by decide +kernel
theorem dX7_votesFor_33 : decode cX7_votesFor 33 = .ok (.iaload, 1) := by decide +kernel
theorem dX7_votesFor_34 : decode cX7_votesFor 34 = .ok (.goto 4, 3) := by decide +kernel
theorem dX7_votesFor_37 : decode cX7_votesFor 37 = .ok (.iconst 0, 1) := by decide +kernel
theorem dX7_votesFor_38 : decode cX7_votesFor 38 = .ok (.iadd, 1) := by decide +kernel
theorem dX7_votesFor_39 : decode cX7_votesFor 39 = .ok (.istore_n 2, 1) := by decide +kernel
theorem dX7_votesFor_40 : decode cX7_votesFor 40 = .ok (.iinc 3 1, 3) := by decide +kernel
theorem dX7_votesFor_43 : decode cX7_votesFor 43 = .ok (.goto (-39), 3) := by decide +kernel
theorem dX7_votesFor_46 : decode cX7_votesFor 46 = .ok (.iload_n 2, 1) := by decide +kernel
theorem dX7_votesFor_47 : decode cX7_votesFor 47 = .ok (.ireturn, 1) := by decide +kernel
theorem dX7_worthToAll_0 : decode cX7_worthToAll 0 = .ok (.iconst 0, 1) := by decide +kernel
theorem dX7_worthToAll_1 : decode cX7_worthToAll 1 = .ok (.istore_n 2, 1) := by decide +kernel
theorem dX7_worthToAll_2 : decode cX7_worthToAll 2 = .ok (.iconst 0, 1) := by decide +kernel
theorem dX7_worthToAll_3 : decode cX7_worthToAll 3 = .ok (.istore_n 3, 1) := by decide +kernel
theorem dX7_worthToAll_4 : decode cX7_worthToAll 4 = .ok (.iload_n 3, 1) := by decide +kernel
theorem dX7_worthToAll_5 : decode cX7_worthToAll 5 = .ok (.iconst 4, 1) := by decide +kernel
theorem dX7_worthToAll_6 : decode cX7_worthToAll 6 = .ok (.if_icmp .ge 18, 3) := by decide +kernel
theorem dX7_worthToAll_9 : decode cX7_worthToAll 9 = .ok (.iload_n 2, 1) := by decide +kernel
theorem dX7_worthToAll_10 : decode cX7_worthToAll 10 = .ok (.aload_n 0, 1) := by decide +kernel
theorem dX7_worthToAll_11 : decode cX7_worthToAll 11 = .ok (.iload_n 3, 1) := by decide +kernel
theorem dX7_worthToAll_12 : decode cX7_worthToAll 12 = .ok (.iload_n 1, 1) := by decide +kernel
theorem dX7_worthToAll_13 : decode cX7_worthToAll 13 = .ok (.invokevirtual 117, 3) := by decide +kernel
theorem dX7_worthToAll_16 : decode cX7_worthToAll 16 = .ok (.iadd, 1) := by decide +kernel
theorem dX7_worthToAll_17 : decode cX7_worthToAll 17 = .ok (.istore_n 2, 1) := by decide +kernel
theorem dX7_worthToAll_18 : decode cX7_worthToAll 18 = .ok (.iinc 3 1, 3) := by decide +kernel
theorem dX7_worthToAll_21 : decode cX7_worthToAll 21 = .ok (.goto (-17), 3) := by decide +kernel
theorem dX7_worthToAll_24 : decode cX7_worthToAll 24 = .ok (.iload_n 2, 1) := by decide +kernel
theorem dX7_worthToAll_25 : decode cX7_worthToAll 25 = .ok (.ireturn, 1) := by decide +kernel
theorem dX7_agreed_0 : decode cX7_agreed 0 = .ok (.iload_n 1, 1) := by decide +kernel
theorem dX7_agreed_1 : decode cX7_agreed 1 = .ok (.iconst 0, 1) := by decide +kernel
theorem dX7_agreed_2 : decode cX7_agreed 2 = .ok (.iconst 1, 1) := by decide +kernel
theorem dX7_agreed_3 : decode cX7_agreed 3 = .ok (.invokestatic 99, 3) := by decide +kernel
theorem dX7_agreed_6 : decode cX7_agreed 6 = .ok (.ifCond .ne 6, 3) := by decide +kernel
theorem dX7_agreed_9 : decode cX7_agreed 9 = .ok (.bipush (-2), 2) := by decide +kernel
theorem dX7_agreed_11 : decode cX7_agreed 11 = .ok (.ireturn, 1) := by decide +kernel
theorem dX7_agreed_12 : decode cX7_agreed 12 = .ok (.bipush (-6), 2) := by decide +kernel
theorem dX7_agreed_14 : decode cX7_agreed 14 = .ok (.istore_n 2, 1) := by decide +kernel
theorem dX7_agreed_15 : decode cX7_agreed 15 = .ok (.iconst 0, 1) := by decide +kernel
theorem dX7_agreed_16 : decode cX7_agreed 16 = .ok (.istore_n 3, 1) := by decide +kernel
theorem dX7_agreed_17 : decode cX7_agreed 17 = .ok (.iconst 0, 1) := by decide +kernel
theorem dX7_agreed_18 : decode cX7_agreed 18 = .ok (.istore 4, 2) := by decide +kernel
theorem dX7_agreed_20 : decode cX7_agreed 20 = .ok (.iload 4, 2) := by decide +kernel
theorem dX7_agreed_22 : decode cX7_agreed 22 = .ok (.aload_n 0, 1) := by decide +kernel
theorem dX7_agreed_23 : decode cX7_agreed 23 = .ok (.invokevirtual 201, 3) := by decide +kernel
theorem dX7_agreed_26 : decode cX7_agreed 26 = .ok (.if_icmp .ge 86, 3) := by decide +kernel
theorem dX7_agreed_29 : decode cX7_agreed 29 = .ok (.aload_n 0, 1) := by decide +kernel
theorem dX7_agreed_30 : decode cX7_agreed 30 = .ok (.iload 4, 2) := by decide +kernel
theorem dX7_agreed_32 : decode cX7_agreed 32 = .ok (.aload_n 0, 1) := by decide +kernel
theorem dX7_agreed_33 : decode cX7_agreed 33 = .ok (.getfield 73, 3) := by decide +kernel
theorem dX7_agreed_36 : decode cX7_agreed 36 = .ok (.invokevirtual 204, 3) := by decide +kernel
theorem dX7_agreed_39 : decode cX7_agreed 39 = .ok (.istore 5, 2) := by decide +kernel
theorem dX7_agreed_41 : decode cX7_agreed 41 = .ok (.iload 5, 2) := by decide +kernel
theorem dX7_agreed_43 : decode cX7_agreed 43 = .ok (.ifCond .ge 7, 3) := by decide +kernel
theorem dX7_agreed_46 : decode cX7_agreed 46 = .ok (.iconst 0, 1) := by decide +kernel
theorem dX7_agreed_47 : decode cX7_agreed 47 = .ok (.goto 36, 3) := by decide +kernel
theorem dX7_agreed_50 : decode cX7_agreed 50 = .ok (.ldc 223, 2) := by decide +kernel
theorem dX7_agreed_52 : decode cX7_agreed 52 = .ok (.aload_n 0, 1) := by decide +kernel
theorem dX7_agreed_53 : decode cX7_agreed 53 = .ok (.iload 5, 2) := by decide +kernel
theorem dX7_agreed_55 : decode cX7_agreed 55 = .ok (.invokevirtual 220, 3) := by decide +kernel
theorem dX7_agreed_58 : decode cX7_agreed 58 = .ok (.imul, 1) := by decide +kernel
theorem dX7_agreed_59 : decode cX7_agreed 59 = .ok (.bipush 10, 2) := by decide +kernel
theorem dX7_agreed_61 : decode cX7_agreed 61 = .ok (.aload_n 0, 1) := by decide +kernel
theorem dX7_agreed_62 : decode cX7_agreed 62 = .ok (.iload 5, 2) := by decide +kernel
theorem dX7_agreed_64 : decode cX7_agreed 64 = .ok (.invokevirtual 224, 3) := by decide +kernel
theorem dX7_agreed_67 : decode cX7_agreed 67 = .ok (.sipush 500, 3) := by decide +kernel
theorem dX7_agreed_70 : decode cX7_agreed 70 = .ok (.iadd, 1) := by decide +kernel
theorem dX7_agreed_71 : decode cX7_agreed 71 = .ok (.imul, 1) := by decide +kernel
theorem dX7_agreed_72 : decode cX7_agreed 72 = .ok (.iadd, 1) := by decide +kernel
theorem dX7_agreed_73 : decode cX7_agreed 73 = .ok (.bipush 6, 2) := by decide +kernel
theorem dX7_agreed_75 : decode cX7_agreed 75 = .ok (.iadd, 1) := by decide +kernel
theorem dX7_agreed_76 : decode cX7_agreed 76 = .ok (.aload_n 0, 1) := by decide +kernel
theorem dX7_agreed_77 : decode cX7_agreed 77 = .ok (.iload 4, 2) := by decide +kernel
theorem dX7_agreed_79 : decode cX7_agreed 79 = .ok (.invokevirtual 207, 3) := by decide +kernel
theorem dX7_agreed_82 : decode cX7_agreed 82 = .ok (.isub, 1) := by decide +kernel
theorem dX7_agreed_83 : decode cX7_agreed 83 = .ok (.istore 6, 2) := by decide +kernel
theorem dX7_agreed_85 : decode cX7_agreed 85 = .ok (.iload 5, 2) := by decide +kernel
theorem dX7_agreed_87 : decode cX7_agreed 87 = .ok (.ifCond .lt 19, 3) := by decide +kernel
theorem dX7_agreed_90 : decode cX7_agreed 90 = .ok (.iload_n 2, 1) := by decide +kernel
theorem dX7_agreed_91 : decode cX7_agreed 91 = .ok (.ifCond .lt 9, 3) := by decide +kernel
theorem dX7_agreed_94 : decode cX7_agreed 94 = .ok (.iload 6, 2) := by decide +kernel
theorem dX7_agreed_96 : decode cX7_agreed 96 = .ok (.iload_n 3, 1) := by decide +kernel
theorem dX7_agreed_97 : decode cX7_agreed 97 = .ok (.if_icmp .le 9, 3) := by decide +kernel
theorem dX7_agreed_100 : decode cX7_agreed 100 = .ok (.iload 4, 2) := by decide +kernel
theorem dX7_agreed_102 : decode cX7_agreed 102 = .ok (.istore_n 2, 1) := by decide +kernel
theorem dX7_agreed_103 : decode cX7_agreed 103 = .ok (.iload 6, 2) := by decide +kernel
theorem dX7_agreed_105 : decode cX7_agreed 105 = .ok (.istore_n 3, 1) := by decide +kernel
theorem dX7_agreed_106 : decode cX7_agreed 106 = .ok (.iinc 4 1, 3) := by decide +kernel
theorem dX7_agreed_109 : decode cX7_agreed 109 = .ok (.goto (-89), 3) := by decide +kernel
theorem dX7_agreed_112 : decode cX7_agreed 112 = .ok (.iload_n 2, 1) := by decide +kernel
theorem dX7_agreed_113 : decode cX7_agreed 113 = .ok (.ifCond .lt 7, 3) := by decide +kernel
theorem dX7_agreed_116 : decode cX7_agreed 116 = .ok (.iload_n 1, 1) := by decide +kernel
theorem dX7_agreed_117 : decode cX7_agreed 117 = .ok (.ifCond .ne 7, 3) := by decide +kernel
theorem dX7_agreed_120 : decode cX7_agreed 120 = .ok (.iload_n 2, 1) := by decide +kernel
theorem dX7_agreed_121 : decode cX7_agreed 121 = .ok (.goto 7, 3) := by decide +kernel
theorem dX7_agreed_124 : decode cX7_agreed 124 = .ok (.iload_n 3, 1) := by decide +kernel
theorem dX7_agreed_125 : decode cX7_agreed 125 = .ok (.ldc 223, 2) := by decide +kernel
theorem dX7_agreed_127 : decode cX7_agreed 127 = .ok (.idiv, 1) := by decide +kernel
theorem dX7_agreed_128 : decode cX7_agreed 128 = .ok (.ireturn, 1) := by decide +kernel
def pickW (t : Nat) (good : Nat → Bool) : Nat → Option Nat → Option Nat := fun k fd => if good k then (match fd with
  | none => some k
  | some u => if wd t k < wd t u then some k else some u) else fd
def pickB (better : Nat → Int32 → Nat → Int32 → Bool) (own : Nat → Option Int32) : Nat → Option (Nat × Int32) → Option (Nat × Int32) := fun k s => match own k with
  | none => s
  | some o => match s with
    | none => some (k, o)
    | some (u, b) => if better k o u b then some (k, o) else some (u, b)
theorem pickW_lt {t : Nat} {good : Nat → Bool} : ∀ k v, upto (pickW t good) k none = some v → v < k
  | 0, v, h => by cases h
  | k + 1, v, h => by
    have ih := pickW_lt (t := t) (good := good) k
    have h : pickW t good k (upto (pickW t good) k none) = some v := h
    generalize upto (pickW t good) k none = o at h ih
    unfold pickW at h
    split at h
    · cases o with
      | none => cases h; omega
      | some u =>
        have := ih u rfl
        dsimp only at h
        split at h <;> cases h <;> omega
    · have := ih v h; omega
theorem pickB_lt {better : Nat → Int32 → Nat → Int32 → Bool} {own : Nat → Option Int32} : ∀ k v b, upto (pickB better own) k none = some (v, b) → v < k
  | 0, v, b, h => by cases h
  | k + 1, v, b, h => by
    have ih := pickB_lt (better := better) (own := own) k
    have h : pickB better own k (upto (pickB better own) k none) = some (v, b) := h
    generalize upto (pickB better own) k none = o at h ih
    unfold pickB at h
    split at h
    · have := ih v b h; omega
    · cases o with
      | none => cases h; omega
      | some u =>
        obtain ⟨u, c⟩ := u
        have := ih u c rfl
        dsimp only at h
        split at h <;> cases h <;> omega
theorem neg6 : (-6 : Int32) < 0 := by decide
def gdW (I : Nat → Nat → Int32) (J : Nat → Nat → Int64) (t sl wy wi he : Nat) (goal : Int32) : Nat → Bool := fun k => match mtF I J t sl wy wi k he with
  | none => false
  | some v => decide (goal ≤ wtF I t wi v)
def eoP : Option (Nat × Int32) → Int32
  | none => -6
  | some p => nI p.1
def bvP : Option (Nat × Int32) → Int32
  | none => 0
  | some p => p.2
def btW (t : Nat) : Nat → Int32 → Nat → Int32 → Bool := fun k o u b => decide (b < o) || (decide (o = b) && decide (wd t k < wd t u))
def ownM (I : Nat → Nat → Int32) (J : Nat → Nat → Int64) (t sl wy wi he : Nat) (most : Int32) : Nat → Option Int32 := fun k => if nI (wd t k) ≤ most then (mtF I J t sl wy wi k he).map (wtF I t wi) else none
def voF (I : Nat → Nat → Int32) (t he w : Nat) : Int32 := upto (fun c s => s + if wtF I t c he < wtF I t c w then I 36 c else 0) 4 0
def waF (I : Nat → Nat → Int32) (t w : Nat) : Int32 := upto (fun c s => s + wtF I t c w) 4 0
def ownA (I : Nat → Nat → Int32) (J : Nat → Nat → Int64) (t sl wy wi he : Nat) : Nat → Option Int32 := fun k => (mtF I J t sl wy wi k he).map (fun v => 100000 * voF I t he v + 10 * (waF I t v + 500) + 6 - nI (wd t k))
theorem wd_le {t num : Nat} (h6 : t ≤ 6) : wd t num ≤ 6 := Nat.le_trans (wdc_le t num t) h6
section MODEL7
variable {xl : Nat} {xs : Nat → Int32} {n : Nat} {h : Nat → PC} {I S : Nat → Nat → Int32} {J T : Nat → Nat → Int64} {X : Nat → Option Nat} {t sl wy wi he : Nat}
theorem s_X7_wording (hn : 49 ≤ n) (hm : MI I t sl wy wi he) (goal what : Int32) : RnS xl xs 5 114 0 0 mX7_wording [.ref 33, .int goal, .int what] n I J X (some (.int (if inb goal (-99) 99 && inb what 0 1 then (match upto (pickW t (gdW I J t sl wy wi he goal)) (3 ^ t) none with | none => -6 | some u => if what = 0 then nI u else nI (wd t u)) else -2))) n I J X := by
  intro S T Q hQ
  have hm' := hm
  obtain ⟨ht, ht2, h6, hs, hs6, hwy, h3, hwi, h4, hhe, hhl⟩ := hm'
  have h64 := p2_le h6
  have h729 := p3_le h6
  show Ev xl xs 5 114 0 0 mX7_wording 0 [some (.ref 33), some (.int goal), some (.int what), none, none, none, none] [] n (sysH (ov I S) (ovJ J T) X) Q
  cases hin : (inb goal (-99) 99 && inb what 0 1) with
  | false =>
    rw [hin] at hQ
    refine ev_iload_n (q := 1) dX7_wording_0 rfl rfl ?_
    refine ev_bipush (q := 3) (-99) dX7_wording_1 (by decide) rfl ?_
    refine ev_bipush (q := 5) (99) dX7_wording_3 (by decide) rfl ?_
    refine ev_callS3i (q := 8) dX7_wording_5 ca_X7_99 (c_X7_in _ _ _) (Nat.le_of_ble_eq_true rfl) (Nat.le_of_ble_eq_true rfl) (by decide) (by decide) rfl ?_
    refine ev_if_eq (q := 11) 20 dX7_wording_8 (by decide) rfl (fun c_8 => ?_) (fun c_8 => ?_)
    · have c_8 := b2i_0.mp c_8
      refine ev_bipush (q := 22) (-2) dX7_wording_20 (by decide) rfl ?_
      exact ev_iretE dX7_wording_22 rfl rfl rfl rfl rfl (hQ _ _)
    · have c_8 := b2i_n0.mp c_8
      refine ev_iload_n (q := 12) dX7_wording_11 rfl rfl ?_
      refine ev_iconst (q := 13) (0) dX7_wording_12 (by decide) rfl ?_
      refine ev_iconst (q := 14) (1) dX7_wording_13 (by decide) rfl ?_
      refine ev_callS3i (q := 17) dX7_wording_14 ca_X7_99 (c_X7_in _ _ _) (Nat.le_of_ble_eq_true rfl) (Nat.le_of_ble_eq_true rfl) (by decide) (by decide) rfl ?_
      refine ev_if_ne (q := 20) 23 dX7_wording_17 (by decide) rfl (fun c_17 => ?_) (fun c_17 => ?_)
      · exact absurd (b2i_ne.mp c_17) (by rw [c_8, Bool.true_and] at hin; rw [hin]; decide)
      · refine ev_bipush (q := 22) (-2) dX7_wording_20 (by decide) rfl ?_
        exact ev_iretE dX7_wording_22 rfl rfl rfl rfl rfl (hQ _ _)
  | true =>
    rw [hin] at hQ
    have hin := Bool.and_eq_true_iff.mp hin
    have lp : ∀ j k, k + j = 3 ^ t → ∀ S T a5 a6, Ev xl xs 5 114 0 0 mX7_wording 29 [some (.ref 33), some (.int goal), some (.int what), some (.int (eo (upto (pickW t (gdW I J t sl wy wi he goal)) k none))), some (.int (nI k)), a5, a6] [] n (sysH (ov I S) (ovJ J T) X) Q := by
      intro j
      induction j using Nat.strongRecOn with
      | _ j ih =>
        intro k hk S T a5 a6
        have hlt := pickW_lt (t := t) (good := gdW I J t sl wy wi he goal) k
        have hwk := wd_le (num := k) h6
        cases ho : upto (pickW t (gdW I J t sl wy wi he goal)) k none with
        | none =>
          cases hmk : mtF I J t sl wy wi k he with
          | none =>
            refine ev_iload (q := 31) dX7_wording_29 rfl rfl ?_
            refine ev_aload_n (q := 32) dX7_wording_31 rfl rfl ?_
            refine ev_callV0i (q := 35) dX7_wording_32 ca_X7_201 (s_X7_terms hn hm) rfl (lt_n hn (by decide)) rfl rfl (Nat.le_of_ble_eq_true rfl) (Nat.le_of_ble_eq_true rfl) (by decide) (by decide) rfl ?_
            refine ev_icmp_ge (q := 38) 112 dX7_wording_35 (by decide) rfl (fun c_35 => ?_) (fun c_35 => ?_)
            · have c_35 : 3 ^ t ≤ k := (nI_leI (by omega) (by omega)).mp c_35
              refine ev_iload_n (q := 113) dX7_wording_112 rfl rfl ?_
              refine ev_if_lt (q := 116) 120 dX7_wording_113 (by decide) rfl (fun c_113 => ?_) (fun c_113 => ?_)
              · refine ev_iload_n (q := 121) dX7_wording_120 rfl rfl ?_
                refine ev_goto 129 dX7_wording_121 (by decide) ?_
                exact ev_iretE dX7_wording_129 rfl rfl (by rw [show 3 ^ t = k by omega, ho]; rfl) rfl rfl (hQ _ _)
              · exact absurd neg6 c_113
            · have c_35 : ¬ 3 ^ t ≤ k := fun h => c_35 ((nI_leI (by omega) (by omega)).mpr h)
              refine ev_aload_n (q := 39) dX7_wording_38 rfl rfl ?_
              refine ev_iload (q := 41) dX7_wording_39 rfl rfl ?_
              refine ev_aload_n (q := 42) dX7_wording_41 rfl rfl ?_
              refine ev_get (q := 45) dX7_wording_42 fr_X7_73 rfl (lt_n hn (by decide)) rfl rfl ?_
              rw [show ov I S 33 7 = nI he from hhe]
              refine ev_callV2iS (q := 48) dX7_wording_45 ca_X7_204 (s_X7_madeOfTerm hn hm (by omega) (by omega)) rfl (lt_n hn (by decide)) rfl rfl (Nat.le_of_ble_eq_true rfl) (Nat.le_of_ble_eq_true rfl) (by decide) (by decide) rfl (fun S T => ?_)
              rw [hmk]
              refine ev_ist_5 (q := 50) dX7_wording_48 rfl rfl ?_
              refine ev_iload (q := 52) dX7_wording_50 rfl rfl ?_
              refine ev_if_lt (q := 55) 73 dX7_wording_52 (by decide) rfl (fun c_52 => ?_) (fun c_52 => ?_)
              · refine ev_iconst (q := 74) (0) dX7_wording_73 (by decide) rfl ?_
                refine ev_ist_6 (q := 76) dX7_wording_74 rfl rfl ?_
                refine ev_iload (q := 78) dX7_wording_76 rfl rfl ?_
                refine ev_if_eq (q := 81) 104 dX7_wording_78 (by decide) rfl (fun c_78 => ?_) (fun c_78 => ?_)
                · refine ev_iload_n (q := 105) dX7_wording_104 rfl rfl ?_
                  refine ev_ist_3 (q := 106) dX7_wording_105 rfl rfl ?_
                  refine ev_inc_4 (q := 109) (nI (k + 1)) dX7_wording_106 (nI_1 k) rfl rfl ?_
                  refine ev_goto 29 dX7_wording_109 (by decide) ?_
                  have e := ih (j - 1) (by omega) (k + 1) (by omega) S T
                  simp only [upto, pickW, gdW, ho, hmk] at e
                  exact e _ _
                · exact absurd rfl c_78
              · exact absurd neg6 c_52
          | some v =>
            have hv := mtF_lt hmk
            refine ev_iload (q := 31) dX7_wording_29 rfl rfl ?_
            refine ev_aload_n (q := 32) dX7_wording_31 rfl rfl ?_
            refine ev_callV0i (q := 35) dX7_wording_32 ca_X7_201 (s_X7_terms hn hm) rfl (lt_n hn (by decide)) rfl rfl (Nat.le_of_ble_eq_true rfl) (Nat.le_of_ble_eq_true rfl) (by decide) (by decide) rfl ?_
            refine ev_icmp_ge (q := 38) 112 dX7_wording_35 (by decide) rfl (fun c_35 => ?_) (fun c_35 => ?_)
            · have c_35 : 3 ^ t ≤ k := (nI_leI (by omega) (by omega)).mp c_35
              refine ev_iload_n (q := 113) dX7_wording_112 rfl rfl ?_
              refine ev_if_lt (q := 116) 120 dX7_wording_113 (by decide) rfl (fun c_113 => ?_) (fun c_113 => ?_)
              · refine ev_iload_n (q := 121) dX7_wording_120 rfl rfl ?_
                refine ev_goto 129 dX7_wording_121 (by decide) ?_
                exact ev_iretE dX7_wording_129 rfl rfl (by rw [show 3 ^ t = k by omega, ho]; rfl) rfl rfl (hQ _ _)
              · exact absurd neg6 c_113
            · have c_35 : ¬ 3 ^ t ≤ k := fun h => c_35 ((nI_leI (by omega) (by omega)).mpr h)
              refine ev_aload_n (q := 39) dX7_wording_38 rfl rfl ?_
              refine ev_iload (q := 41) dX7_wording_39 rfl rfl ?_
              refine ev_aload_n (q := 42) dX7_wording_41 rfl rfl ?_
              refine ev_get (q := 45) dX7_wording_42 fr_X7_73 rfl (lt_n hn (by decide)) rfl rfl ?_
              rw [show ov I S 33 7 = nI he from hhe]
              refine ev_callV2iS (q := 48) dX7_wording_45 ca_X7_204 (s_X7_madeOfTerm hn hm (by omega) (by omega)) rfl (lt_n hn (by decide)) rfl rfl (Nat.le_of_ble_eq_true rfl) (Nat.le_of_ble_eq_true rfl) (by decide) (by decide) rfl (fun S T => ?_)
              rw [hmk]
              refine ev_ist_5 (q := 50) dX7_wording_48 rfl rfl ?_
              refine ev_iload (q := 52) dX7_wording_50 rfl rfl ?_
              refine ev_if_lt (q := 55) 73 dX7_wording_52 (by decide) rfl (fun c_52 => ?_) (fun c_52 => ?_)
              · exact absurd c_52 (nI_pos (by omega))
              · refine ev_aload_n (q := 56) dX7_wording_55 rfl rfl ?_
                refine ev_aload_n (q := 57) dX7_wording_56 rfl rfl ?_
                refine ev_get (q := 60) dX7_wording_57 fr_X7_67 rfl (lt_n hn (by decide)) rfl rfl ?_
                rw [show ov I S 33 5 = nI wi from hwi]
                refine ev_iload (q := 62) dX7_wording_60 rfl rfl ?_
                refine ev_callV2i (q := 65) dX7_wording_62 ca_X7_117 (s_X7_worthTo (w := v) hn hm (by omega) (by omega)) rfl (lt_n hn (by decide)) rfl rfl (Nat.le_of_ble_eq_true rfl) (Nat.le_of_ble_eq_true rfl) (by decide) (by decide) rfl ?_
                refine ev_iload_n (q := 66) dX7_wording_65 rfl rfl ?_
                refine ev_icmp_lt (q := 69) 73 dX7_wording_66 (by decide) rfl (fun c_66 => ?_) (fun c_66 => ?_)
                · have c_66 : ¬ goal ≤ wtF I t wi v := fun h => absurd c_66 (by simp only [i_le, i_lt] at *; omega)
                  refine ev_iconst (q := 74) (0) dX7_wording_73 (by decide) rfl ?_
                  refine ev_ist_6 (q := 76) dX7_wording_74 rfl rfl ?_
                  refine ev_iload (q := 78) dX7_wording_76 rfl rfl ?_
                  refine ev_if_eq (q := 81) 104 dX7_wording_78 (by decide) rfl (fun c_78 => ?_) (fun c_78 => ?_)
                  · have c_78 : ¬ goal ≤ wtF I t wi v := by first | exact c_66 | exact absurd c_78 (by decide)
                    refine ev_iload_n (q := 105) dX7_wording_104 rfl rfl ?_
                    refine ev_ist_3 (q := 106) dX7_wording_105 rfl rfl ?_
                    refine ev_inc_4 (q := 109) (nI (k + 1)) dX7_wording_106 (nI_1 k) rfl rfl ?_
                    refine ev_goto 29 dX7_wording_109 (by decide) ?_
                    have e := ih (j - 1) (by omega) (k + 1) (by omega) S T
                    simp only [upto, pickW, gdW, ho, hmk, c_78, decide_true, decide_false, if_true, if_false] at e
                    exact e _ _
                  · have c_78 : goal ≤ wtF I t wi v := by first | exact c_66 | exact absurd rfl c_78
                    refine ev_iload_n (q := 82) dX7_wording_81 rfl rfl ?_
                    refine ev_if_lt (q := 85) 99 dX7_wording_82 (by decide) rfl (fun c_82 => ?_) (fun c_82 => ?_)
                    · refine ev_iload (q := 101) dX7_wording_99 rfl rfl ?_
                      refine ev_goto 105 dX7_wording_101 (by decide) ?_
                      refine ev_ist_3 (q := 106) dX7_wording_105 rfl rfl ?_
                      refine ev_inc_4 (q := 109) (nI (k + 1)) dX7_wording_106 (nI_1 k) rfl rfl ?_
                      refine ev_goto 29 dX7_wording_109 (by decide) ?_
                      have e := ih (j - 1) (by omega) (k + 1) (by omega) S T
                      simp only [upto, pickW, gdW, ho, hmk, c_78, decide_true, decide_false, if_true, if_false] at e
                      exact e _ _
                    · exact absurd neg6 c_82
                · have c_66 : goal ≤ wtF I t wi v := by simp only [i_le, i_lt] at *; omega
                  refine ev_iconst (q := 70) (1) dX7_wording_69 (by decide) rfl ?_
                  refine ev_goto 74 dX7_wording_70 (by decide) ?_
                  refine ev_ist_6 (q := 76) dX7_wording_74 rfl rfl ?_
                  refine ev_iload (q := 78) dX7_wording_76 rfl rfl ?_
                  refine ev_if_eq (q := 81) 104 dX7_wording_78 (by decide) rfl (fun c_78 => ?_) (fun c_78 => ?_)
                  · have c_78 : ¬ goal ≤ wtF I t wi v := by first | exact c_66 | exact absurd c_78 (by decide)
                    refine ev_iload_n (q := 105) dX7_wording_104 rfl rfl ?_
                    refine ev_ist_3 (q := 106) dX7_wording_105 rfl rfl ?_
                    refine ev_inc_4 (q := 109) (nI (k + 1)) dX7_wording_106 (nI_1 k) rfl rfl ?_
                    refine ev_goto 29 dX7_wording_109 (by decide) ?_
                    have e := ih (j - 1) (by omega) (k + 1) (by omega) S T
                    simp only [upto, pickW, gdW, ho, hmk, c_78, decide_true, decide_false, if_true, if_false] at e
                    exact e _ _
                  · have c_78 : goal ≤ wtF I t wi v := by first | exact c_66 | exact absurd rfl c_78
                    refine ev_iload_n (q := 82) dX7_wording_81 rfl rfl ?_
                    refine ev_if_lt (q := 85) 99 dX7_wording_82 (by decide) rfl (fun c_82 => ?_) (fun c_82 => ?_)
                    · refine ev_iload (q := 101) dX7_wording_99 rfl rfl ?_
                      refine ev_goto 105 dX7_wording_101 (by decide) ?_
                      refine ev_ist_3 (q := 106) dX7_wording_105 rfl rfl ?_
                      refine ev_inc_4 (q := 109) (nI (k + 1)) dX7_wording_106 (nI_1 k) rfl rfl ?_
                      refine ev_goto 29 dX7_wording_109 (by decide) ?_
                      have e := ih (j - 1) (by omega) (k + 1) (by omega) S T
                      simp only [upto, pickW, gdW, ho, hmk, c_78, decide_true, decide_false, if_true, if_false] at e
                      exact e _ _
                    · exact absurd neg6 c_82
        | some u =>
          have hu := hlt u ho
          have hwu := wd_le (num := u) h6
          cases hmk : mtF I J t sl wy wi k he with
          | none =>
            refine ev_iload (q := 31) dX7_wording_29 rfl rfl ?_
            refine ev_aload_n (q := 32) dX7_wording_31 rfl rfl ?_
            refine ev_callV0i (q := 35) dX7_wording_32 ca_X7_201 (s_X7_terms hn hm) rfl (lt_n hn (by decide)) rfl rfl (Nat.le_of_ble_eq_true rfl) (Nat.le_of_ble_eq_true rfl) (by decide) (by decide) rfl ?_
            refine ev_icmp_ge (q := 38) 112 dX7_wording_35 (by decide) rfl (fun c_35 => ?_) (fun c_35 => ?_)
            · have c_35 : 3 ^ t ≤ k := (nI_leI (by omega) (by omega)).mp c_35
              refine ev_iload_n (q := 113) dX7_wording_112 rfl rfl ?_
              refine ev_if_lt (q := 116) 120 dX7_wording_113 (by decide) rfl (fun c_113 => ?_) (fun c_113 => ?_)
              · exact absurd c_113 (nI_pos (by omega))
              · refine ev_iload_n (q := 117) dX7_wording_116 rfl rfl ?_
                refine ev_if_ne (q := 120) 124 dX7_wording_117 (by decide) rfl (fun c_117 => ?_) (fun c_117 => ?_)
                · refine ev_aload_n (q := 125) dX7_wording_124 rfl rfl ?_
                  refine ev_iload_n (q := 126) dX7_wording_125 rfl rfl ?_
                  refine ev_callV1i (q := 129) dX7_wording_126 ca_X7_207 (s_X7_words (num := u) hn hm (by omega)) rfl (lt_n hn (by decide)) rfl rfl (Nat.le_of_ble_eq_true rfl) (Nat.le_of_ble_eq_true rfl) (by decide) (by decide) rfl ?_
                  exact ev_iretE dX7_wording_129 rfl rfl (by rw [show 3 ^ t = k by omega, ho]; first | (simp [c_117]; done) | (simp [c_117]; rfl)) rfl rfl (hQ _ _)
                · refine ev_iload_n (q := 121) dX7_wording_120 rfl rfl ?_
                  refine ev_goto 129 dX7_wording_121 (by decide) ?_
                  exact ev_iretE dX7_wording_129 rfl rfl (by rw [show 3 ^ t = k by omega, ho]; first | (simp [c_117]; done) | (simp [c_117]; rfl)) rfl rfl (hQ _ _)
            · have c_35 : ¬ 3 ^ t ≤ k := fun h => c_35 ((nI_leI (by omega) (by omega)).mpr h)
              refine ev_aload_n (q := 39) dX7_wording_38 rfl rfl ?_
              refine ev_iload (q := 41) dX7_wording_39 rfl rfl ?_
              refine ev_aload_n (q := 42) dX7_wording_41 rfl rfl ?_
              refine ev_get (q := 45) dX7_wording_42 fr_X7_73 rfl (lt_n hn (by decide)) rfl rfl ?_
              rw [show ov I S 33 7 = nI he from hhe]
              refine ev_callV2iS (q := 48) dX7_wording_45 ca_X7_204 (s_X7_madeOfTerm hn hm (by omega) (by omega)) rfl (lt_n hn (by decide)) rfl rfl (Nat.le_of_ble_eq_true rfl) (Nat.le_of_ble_eq_true rfl) (by decide) (by decide) rfl (fun S T => ?_)
              rw [hmk]
              refine ev_ist_5 (q := 50) dX7_wording_48 rfl rfl ?_
              refine ev_iload (q := 52) dX7_wording_50 rfl rfl ?_
              refine ev_if_lt (q := 55) 73 dX7_wording_52 (by decide) rfl (fun c_52 => ?_) (fun c_52 => ?_)
              · refine ev_iconst (q := 74) (0) dX7_wording_73 (by decide) rfl ?_
                refine ev_ist_6 (q := 76) dX7_wording_74 rfl rfl ?_
                refine ev_iload (q := 78) dX7_wording_76 rfl rfl ?_
                refine ev_if_eq (q := 81) 104 dX7_wording_78 (by decide) rfl (fun c_78 => ?_) (fun c_78 => ?_)
                · refine ev_iload_n (q := 105) dX7_wording_104 rfl rfl ?_
                  refine ev_ist_3 (q := 106) dX7_wording_105 rfl rfl ?_
                  refine ev_inc_4 (q := 109) (nI (k + 1)) dX7_wording_106 (nI_1 k) rfl rfl ?_
                  refine ev_goto 29 dX7_wording_109 (by decide) ?_
                  have e := ih (j - 1) (by omega) (k + 1) (by omega) S T
                  simp only [upto, pickW, gdW, ho, hmk] at e
                  exact e _ _
                · exact absurd rfl c_78
              · exact absurd neg6 c_52
          | some v =>
            have hv := mtF_lt hmk
            refine ev_iload (q := 31) dX7_wording_29 rfl rfl ?_
            refine ev_aload_n (q := 32) dX7_wording_31 rfl rfl ?_
            refine ev_callV0i (q := 35) dX7_wording_32 ca_X7_201 (s_X7_terms hn hm) rfl (lt_n hn (by decide)) rfl rfl (Nat.le_of_ble_eq_true rfl) (Nat.le_of_ble_eq_true rfl) (by decide) (by decide) rfl ?_
            refine ev_icmp_ge (q := 38) 112 dX7_wording_35 (by decide) rfl (fun c_35 => ?_) (fun c_35 => ?_)
            · have c_35 : 3 ^ t ≤ k := (nI_leI (by omega) (by omega)).mp c_35
              refine ev_iload_n (q := 113) dX7_wording_112 rfl rfl ?_
              refine ev_if_lt (q := 116) 120 dX7_wording_113 (by decide) rfl (fun c_113 => ?_) (fun c_113 => ?_)
              · exact absurd c_113 (nI_pos (by omega))
              · refine ev_iload_n (q := 117) dX7_wording_116 rfl rfl ?_
                refine ev_if_ne (q := 120) 124 dX7_wording_117 (by decide) rfl (fun c_117 => ?_) (fun c_117 => ?_)
                · refine ev_aload_n (q := 125) dX7_wording_124 rfl rfl ?_
                  refine ev_iload_n (q := 126) dX7_wording_125 rfl rfl ?_
                  refine ev_callV1i (q := 129) dX7_wording_126 ca_X7_207 (s_X7_words (num := u) hn hm (by omega)) rfl (lt_n hn (by decide)) rfl rfl (Nat.le_of_ble_eq_true rfl) (Nat.le_of_ble_eq_true rfl) (by decide) (by decide) rfl ?_
                  exact ev_iretE dX7_wording_129 rfl rfl (by rw [show 3 ^ t = k by omega, ho]; first | (simp [c_117]; done) | (simp [c_117]; rfl)) rfl rfl (hQ _ _)
                · refine ev_iload_n (q := 121) dX7_wording_120 rfl rfl ?_
                  refine ev_goto 129 dX7_wording_121 (by decide) ?_
                  exact ev_iretE dX7_wording_129 rfl rfl (by rw [show 3 ^ t = k by omega, ho]; first | (simp [c_117]; done) | (simp [c_117]; rfl)) rfl rfl (hQ _ _)
            · have c_35 : ¬ 3 ^ t ≤ k := fun h => c_35 ((nI_leI (by omega) (by omega)).mpr h)
              refine ev_aload_n (q := 39) dX7_wording_38 rfl rfl ?_
              refine ev_iload (q := 41) dX7_wording_39 rfl rfl ?_
              refine ev_aload_n (q := 42) dX7_wording_41 rfl rfl ?_
              refine ev_get (q := 45) dX7_wording_42 fr_X7_73 rfl (lt_n hn (by decide)) rfl rfl ?_
              rw [show ov I S 33 7 = nI he from hhe]
              refine ev_callV2iS (q := 48) dX7_wording_45 ca_X7_204 (s_X7_madeOfTerm hn hm (by omega) (by omega)) rfl (lt_n hn (by decide)) rfl rfl (Nat.le_of_ble_eq_true rfl) (Nat.le_of_ble_eq_true rfl) (by decide) (by decide) rfl (fun S T => ?_)
              rw [hmk]
              refine ev_ist_5 (q := 50) dX7_wording_48 rfl rfl ?_
              refine ev_iload (q := 52) dX7_wording_50 rfl rfl ?_
              refine ev_if_lt (q := 55) 73 dX7_wording_52 (by decide) rfl (fun c_52 => ?_) (fun c_52 => ?_)
              · exact absurd c_52 (nI_pos (by omega))
              · refine ev_aload_n (q := 56) dX7_wording_55 rfl rfl ?_
                refine ev_aload_n (q := 57) dX7_wording_56 rfl rfl ?_
                refine ev_get (q := 60) dX7_wording_57 fr_X7_67 rfl (lt_n hn (by decide)) rfl rfl ?_
                rw [show ov I S 33 5 = nI wi from hwi]
                refine ev_iload (q := 62) dX7_wording_60 rfl rfl ?_
                refine ev_callV2i (q := 65) dX7_wording_62 ca_X7_117 (s_X7_worthTo (w := v) hn hm (by omega) (by omega)) rfl (lt_n hn (by decide)) rfl rfl (Nat.le_of_ble_eq_true rfl) (Nat.le_of_ble_eq_true rfl) (by decide) (by decide) rfl ?_
                refine ev_iload_n (q := 66) dX7_wording_65 rfl rfl ?_
                refine ev_icmp_lt (q := 69) 73 dX7_wording_66 (by decide) rfl (fun c_66 => ?_) (fun c_66 => ?_)
                · have c_66 : ¬ goal ≤ wtF I t wi v := fun h => absurd c_66 (by simp only [i_le, i_lt] at *; omega)
                  refine ev_iconst (q := 74) (0) dX7_wording_73 (by decide) rfl ?_
                  refine ev_ist_6 (q := 76) dX7_wording_74 rfl rfl ?_
                  refine ev_iload (q := 78) dX7_wording_76 rfl rfl ?_
                  refine ev_if_eq (q := 81) 104 dX7_wording_78 (by decide) rfl (fun c_78 => ?_) (fun c_78 => ?_)
                  · have c_78 : ¬ goal ≤ wtF I t wi v := by first | exact c_66 | exact absurd c_78 (by decide)
                    refine ev_iload_n (q := 105) dX7_wording_104 rfl rfl ?_
                    refine ev_ist_3 (q := 106) dX7_wording_105 rfl rfl ?_
                    refine ev_inc_4 (q := 109) (nI (k + 1)) dX7_wording_106 (nI_1 k) rfl rfl ?_
                    refine ev_goto 29 dX7_wording_109 (by decide) ?_
                    have e := ih (j - 1) (by omega) (k + 1) (by omega) S T
                    first | (simp only [upto, pickW, gdW, ho, hmk, c_78, c_96, decide_true, decide_false, if_true, if_false] at e; exact e _ _) | (simp only [upto, pickW, gdW, ho, hmk, c_78, decide_true, decide_false, if_true, if_false] at e; exact e _ _)
                  · have c_78 : goal ≤ wtF I t wi v := by first | exact c_66 | exact absurd rfl c_78
                    refine ev_iload_n (q := 82) dX7_wording_81 rfl rfl ?_
                    refine ev_if_lt (q := 85) 99 dX7_wording_82 (by decide) rfl (fun c_82 => ?_) (fun c_82 => ?_)
                    · exact absurd c_82 (nI_pos (by omega))
                    · refine ev_aload_n (q := 86) dX7_wording_85 rfl rfl ?_
                      refine ev_iload (q := 88) dX7_wording_86 rfl rfl ?_
                      refine ev_callV1i (q := 91) dX7_wording_88 ca_X7_207 (s_X7_words hn hm (by omega)) rfl (lt_n hn (by decide)) rfl rfl (Nat.le_of_ble_eq_true rfl) (Nat.le_of_ble_eq_true rfl) (by decide) (by decide) rfl ?_
                      refine ev_aload_n (q := 92) dX7_wording_91 rfl rfl ?_
                      refine ev_iload_n (q := 93) dX7_wording_92 rfl rfl ?_
                      refine ev_callV1i (q := 96) dX7_wording_93 ca_X7_207 (s_X7_words (num := u) hn hm (by omega)) rfl (lt_n hn (by decide)) rfl rfl (Nat.le_of_ble_eq_true rfl) (Nat.le_of_ble_eq_true rfl) (by decide) (by decide) rfl ?_
                      refine ev_icmp_ge (q := 99) 104 dX7_wording_96 (by decide) rfl (fun c_96 => ?_) (fun c_96 => ?_)
                      · have c_96 : ¬ wd t k < wd t u := Nat.not_lt.mpr ((nI_leI (by omega) (by omega)).mp c_96)
                        refine ev_iload_n (q := 105) dX7_wording_104 rfl rfl ?_
                        refine ev_ist_3 (q := 106) dX7_wording_105 rfl rfl ?_
                        refine ev_inc_4 (q := 109) (nI (k + 1)) dX7_wording_106 (nI_1 k) rfl rfl ?_
                        refine ev_goto 29 dX7_wording_109 (by decide) ?_
                        have e := ih (j - 1) (by omega) (k + 1) (by omega) S T
                        first | (simp only [upto, pickW, gdW, ho, hmk, c_78, c_96, decide_true, decide_false, if_true, if_false] at e; exact e _ _) | (simp only [upto, pickW, gdW, ho, hmk, c_78, decide_true, decide_false, if_true, if_false] at e; exact e _ _)
                      · have c_96 : wd t k < wd t u := Nat.not_le.mp fun h => c_96 ((nI_leI (by omega) (by omega)).mpr h)
                        refine ev_iload (q := 101) dX7_wording_99 rfl rfl ?_
                        refine ev_goto 105 dX7_wording_101 (by decide) ?_
                        refine ev_ist_3 (q := 106) dX7_wording_105 rfl rfl ?_
                        refine ev_inc_4 (q := 109) (nI (k + 1)) dX7_wording_106 (nI_1 k) rfl rfl ?_
                        refine ev_goto 29 dX7_wording_109 (by decide) ?_
                        have e := ih (j - 1) (by omega) (k + 1) (by omega) S T
                        first | (simp only [upto, pickW, gdW, ho, hmk, c_78, c_96, decide_true, decide_false, if_true, if_false] at e; exact e _ _) | (simp only [upto, pickW, gdW, ho, hmk, c_78, decide_true, decide_false, if_true, if_false] at e; exact e _ _)
                · have c_66 : goal ≤ wtF I t wi v := by simp only [i_le, i_lt] at *; omega
                  refine ev_iconst (q := 70) (1) dX7_wording_69 (by decide) rfl ?_
                  refine ev_goto 74 dX7_wording_70 (by decide) ?_
                  refine ev_ist_6 (q := 76) dX7_wording_74 rfl rfl ?_
                  refine ev_iload (q := 78) dX7_wording_76 rfl rfl ?_
                  refine ev_if_eq (q := 81) 104 dX7_wording_78 (by decide) rfl (fun c_78 => ?_) (fun c_78 => ?_)
                  · have c_78 : ¬ goal ≤ wtF I t wi v := by first | exact c_66 | exact absurd c_78 (by decide)
                    refine ev_iload_n (q := 105) dX7_wording_104 rfl rfl ?_
                    refine ev_ist_3 (q := 106) dX7_wording_105 rfl rfl ?_
                    refine ev_inc_4 (q := 109) (nI (k + 1)) dX7_wording_106 (nI_1 k) rfl rfl ?_
                    refine ev_goto 29 dX7_wording_109 (by decide) ?_
                    have e := ih (j - 1) (by omega) (k + 1) (by omega) S T
                    first | (simp only [upto, pickW, gdW, ho, hmk, c_78, c_96, decide_true, decide_false, if_true, if_false] at e; exact e _ _) | (simp only [upto, pickW, gdW, ho, hmk, c_78, decide_true, decide_false, if_true, if_false] at e; exact e _ _)
                  · have c_78 : goal ≤ wtF I t wi v := by first | exact c_66 | exact absurd rfl c_78
                    refine ev_iload_n (q := 82) dX7_wording_81 rfl rfl ?_
                    refine ev_if_lt (q := 85) 99 dX7_wording_82 (by decide) rfl (fun c_82 => ?_) (fun c_82 => ?_)
                    · exact absurd c_82 (nI_pos (by omega))
                    · refine ev_aload_n (q := 86) dX7_wording_85 rfl rfl ?_
                      refine ev_iload (q := 88) dX7_wording_86 rfl rfl ?_
                      refine ev_callV1i (q := 91) dX7_wording_88 ca_X7_207 (s_X7_words hn hm (by omega)) rfl (lt_n hn (by decide)) rfl rfl (Nat.le_of_ble_eq_true rfl) (Nat.le_of_ble_eq_true rfl) (by decide) (by decide) rfl ?_
                      refine ev_aload_n (q := 92) dX7_wording_91 rfl rfl ?_
                      refine ev_iload_n (q := 93) dX7_wording_92 rfl rfl ?_
                      refine ev_callV1i (q := 96) dX7_wording_93 ca_X7_207 (s_X7_words (num := u) hn hm (by omega)) rfl (lt_n hn (by decide)) rfl rfl (Nat.le_of_ble_eq_true rfl) (Nat.le_of_ble_eq_true rfl) (by decide) (by decide) rfl ?_
                      refine ev_icmp_ge (q := 99) 104 dX7_wording_96 (by decide) rfl (fun c_96 => ?_) (fun c_96 => ?_)
                      · have c_96 : ¬ wd t k < wd t u := Nat.not_lt.mpr ((nI_leI (by omega) (by omega)).mp c_96)
                        refine ev_iload_n (q := 105) dX7_wording_104 rfl rfl ?_
                        refine ev_ist_3 (q := 106) dX7_wording_105 rfl rfl ?_
                        refine ev_inc_4 (q := 109) (nI (k + 1)) dX7_wording_106 (nI_1 k) rfl rfl ?_
                        refine ev_goto 29 dX7_wording_109 (by decide) ?_
                        have e := ih (j - 1) (by omega) (k + 1) (by omega) S T
                        first | (simp only [upto, pickW, gdW, ho, hmk, c_78, c_96, decide_true, decide_false, if_true, if_false] at e; exact e _ _) | (simp only [upto, pickW, gdW, ho, hmk, c_78, decide_true, decide_false, if_true, if_false] at e; exact e _ _)
                      · have c_96 : wd t k < wd t u := Nat.not_le.mp fun h => c_96 ((nI_leI (by omega) (by omega)).mpr h)
                        refine ev_iload (q := 101) dX7_wording_99 rfl rfl ?_
                        refine ev_goto 105 dX7_wording_101 (by decide) ?_
                        refine ev_ist_3 (q := 106) dX7_wording_105 rfl rfl ?_
                        refine ev_inc_4 (q := 109) (nI (k + 1)) dX7_wording_106 (nI_1 k) rfl rfl ?_
                        refine ev_goto 29 dX7_wording_109 (by decide) ?_
                        have e := ih (j - 1) (by omega) (k + 1) (by omega) S T
                        first | (simp only [upto, pickW, gdW, ho, hmk, c_78, c_96, decide_true, decide_false, if_true, if_false] at e; exact e _ _) | (simp only [upto, pickW, gdW, ho, hmk, c_78, decide_true, decide_false, if_true, if_false] at e; exact e _ _)
    refine ev_iload_n (q := 1) dX7_wording_0 rfl rfl ?_
    refine ev_bipush (q := 3) (-99) dX7_wording_1 (by decide) rfl ?_
    refine ev_bipush (q := 5) (99) dX7_wording_3 (by decide) rfl ?_
    refine ev_callS3i (q := 8) dX7_wording_5 ca_X7_99 (c_X7_in _ _ _) (Nat.le_of_ble_eq_true rfl) (Nat.le_of_ble_eq_true rfl) (by decide) (by decide) rfl ?_
    refine ev_if_eq (q := 11) 20 dX7_wording_8 (by decide) rfl (fun c_8 => ?_) (fun c_8 => ?_)
    · exact absurd c_8 (b2i_n0.mpr hin.1)
    · refine ev_iload_n (q := 12) dX7_wording_11 rfl rfl ?_
      refine ev_iconst (q := 13) (0) dX7_wording_12 (by decide) rfl ?_
      refine ev_iconst (q := 14) (1) dX7_wording_13 (by decide) rfl ?_
      refine ev_callS3i (q := 17) dX7_wording_14 ca_X7_99 (c_X7_in _ _ _) (Nat.le_of_ble_eq_true rfl) (Nat.le_of_ble_eq_true rfl) (by decide) (by decide) rfl ?_
      refine ev_if_ne (q := 20) 23 dX7_wording_17 (by decide) rfl (fun c_17 => ?_) (fun c_17 => ?_)
      · refine ev_bipush (q := 25) (-6) dX7_wording_23 (by decide) rfl ?_
        refine ev_ist_3 (q := 26) dX7_wording_25 rfl rfl ?_
        refine ev_iconst (q := 27) (0) dX7_wording_26 (by decide) rfl ?_
        refine ev_ist_4 (q := 29) dX7_wording_27 rfl rfl ?_
        exact lp (3 ^ t) 0 (by omega) _ _ _ _
      · exact absurd c_17 (b2i_n0.mpr hin.2)
end MODEL7
