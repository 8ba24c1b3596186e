theorem dX7_isPair_0 : decode cX7_isPair 0 = .ok (.iload_n 0, 1) := by decide +kernel
theorem dX7_isPair_1 : decode cX7_isPair 1 = .ok (.bipush 38, 2) := by decide +kernel
theorem dX7_isPair_3 : decode cX7_isPair 3 = .ok (.if_icmp .eq 27, 3) := by decide +kernel
theorem dX7_isPair_6 : decode cX7_isPair 6 = .ok (.iload_n 0, 1) := by decide +kernel
theorem dX7_isPair_7 : decode cX7_isPair 7 = .ok (.bipush 124, 2) := by decide +kernel
theorem dX7_isPair_9 : decode cX7_isPair 9 = .ok (.if_icmp .eq 21, 3) := by decide +kernel
theorem dX7_isPair_12 : decode cX7_isPair 12 = .ok (.iload_n 0, 1) := by decide +kernel
theorem dX7_isPair_13 : decode cX7_isPair 13 = .ok (.bipush 62, 2) := by decide +kernel
theorem dX7_isPair_15 : decode cX7_isPair 15 = .ok (.if_icmp .eq 15, 3) := by decide +kernel
theorem dX7_isPair_18 : decode cX7_isPair 18 = .ok (.iload_n 0, 1) := by decide +kernel
theorem dX7_isPair_19 : decode cX7_isPair 19 = .ok (.bipush 61, 2) := by decide +kernel
theorem dX7_isPair_21 : decode cX7_isPair 21 = .ok (.if_icmp .eq 9, 3) := by decide +kernel
theorem dX7_isPair_24 : decode cX7_isPair 24 = .ok (.iload_n 0, 1) := by decide +kernel
theorem dX7_isPair_25 : decode cX7_isPair 25 = .ok (.bipush 94, 2) := by decide +kernel
theorem dX7_isPair_27 : decode cX7_isPair 27 = .ok (.if_icmp .ne 7, 3) := by decide +kernel
theorem dX7_isPair_30 : decode cX7_isPair 30 = .ok (.iconst 1, 1) := by decide +kernel
theorem dX7_isPair_31 : decode cX7_isPair 31 = .ok (.goto 4, 3) := by decide +kernel
theorem dX7_isPair_34 : decode cX7_isPair 34 = .ok (.iconst 0, 1) := by decide +kernel
theorem dX7_isPair_35 : decode cX7_isPair 35 = .ok (.ireturn, 1) := by decide +kernel
theorem dX7_isLetter_0 : decode cX7_isLetter 0 = .ok (.iload_n 1, 1) := by decide +kernel
theorem dX7_isLetter_1 : decode cX7_isLetter 1 = .ok (.bipush 97, 2) := by decide +kernel
theorem dX7_isLetter_3 : decode cX7_isLetter 3 = .ok (.bipush 97, 2) := by decide +kernel
theorem dX7_isLetter_5 : decode cX7_isLetter 5 = .ok (.aload_n 0, 1) := by decide +kernel
theorem dX7_isLetter_6 : decode cX7_isLetter 6 = .ok (.getfield 7, 3) := by decide +kernel
theorem dX7_isLetter_9 : decode cX7_isLetter 9 = .ok (.iadd, 1) := by decide +kernel
theorem dX7_isLetter_10 : decode cX7_isLetter 10 = .ok (.iconst 1, 1) := by decide +kernel
theorem dX7_isLetter_11 : decode cX7_isLetter 11 = .ok (.isub, 1) := by decide +kernel
theorem dX7_isLetter_12 : decode cX7_isLetter 12 = .ok (.invokestatic 99, 3) := by decide +kernel
theorem dX7_isLetter_15 : decode cX7_isLetter 15 = .ok (.ireturn, 1) := by decide +kernel
theorem dX7_faultOf_0 : decode cX7_faultOf 0 = .ok (.iconst 1, 1) := by decide +kernel
theorem dX7_faultOf_1 : decode cX7_faultOf 1 = .ok (.istore_n 1, 1) := by decide +kernel
theorem dX7_faultOf_2 : decode cX7_faultOf 2 = .ok (.iconst 0, 1) := by decide +kernel
theorem dX7_faultOf_3 : decode cX7_faultOf 3 = .ok (.istore_n 2, 1) := by decide +kernel
theorem dX7_faultOf_4 : decode cX7_faultOf 4 = .ok (.iconst 0, 1) := by decide +kernel
theorem dX7_faultOf_5 : decode cX7_faultOf 5 = .ok (.istore_n 3, 1) := by decide +kernel
theorem dX7_faultOf_6 : decode cX7_faultOf 6 = .ok (.iload_n 3, 1) := by decide +kernel
theorem dX7_faultOf_7 : decode cX7_faultOf 7 = .ok (.aload_n 0, 1) := by decide +kernel
theorem dX7_faultOf_8 : decode cX7_faultOf 8 = .ok (.getfield 121, 3) := by decide +kernel
theorem dX7_faultOf_11 : decode cX7_faultOf 11 = .ok (.if_icmp .ge 152, 3) := by decide +kernel
theorem dX7_faultOf_14 : decode cX7_faultOf 14 = .ok (.aload_n 0, 1) := by decide +kernel
theorem dX7_faultOf_15 : decode cX7_faultOf 15 = .ok (.getfield 36, 3) := by decide +kernel
theorem dX7_faultOf_18 : decode cX7_faultOf 18 = .ok (.iload_n 3, 1) := by decide +kernel
theorem dX7_faultOf_19 : decode cX7_faultOf 19 = .ok (.iaload, 1) := by decide +kernel
theorem dX7_faultOf_20 : decode cX7_faultOf 20 = .ok (.istore 4, 2) := by decide +kernel
theorem dX7_faultOf_22 : decode cX7_faultOf 22 = .ok (.aload_n 0, 1) := by decide +kernel
theorem dX7_faultOf_23 : decode cX7_faultOf 23 = .ok (.iload 4, 2) := by decide +kernel
theorem dX7_faultOf_25 : decode cX7_faultOf 25 = .ok (.invokevirtual 124, 3) := by decide +kernel
theorem dX7_faultOf_28 : decode cX7_faultOf 28 = .ok (.ifCond .ne 21, 3) := by decide +kernel
theorem dX7_faultOf_31 : decode cX7_faultOf 31 = .ok (.iload_n 2, 1) := by decide +kernel
theorem dX7_faultOf_32 : decode cX7_faultOf 32 = .ok (.ifCond .ne 21, 3) := by decide +kernel
theorem dX7_faultOf_35 : decode cX7_faultOf 35 = .ok (.iload 4, 2) := by decide +kernel
theorem dX7_faultOf_37 : decode cX7_faultOf 37 = .ok (.bipush 48, 2) := by decide +kernel
theorem dX7_faultOf_39 : decode cX7_faultOf 39 = .ok (.if_icmp .eq 10, 3) := by decide +kernel
theorem dX7_faultOf_42 : decode cX7_faultOf 42 = .ok (.iload 4, 2) := by decide +kernel
theorem dX7_faultOf_44 : decode cX7_faultOf 44 = .ok (.bipush 49, 2) := by decide +kernel
theorem dX7_faultOf_46 : decode cX7_faultOf 46 = .ok (.if_icmp .ne 7, 3) := by decide +kernel
theorem dX7_faultOf_49 : decode cX7_faultOf 49 = .ok (.iconst 1, 1) := by decide +kernel
theorem dX7_faultOf_50 : decode cX7_faultOf 50 = .ok (.goto 4, 3) := by decide +kernel
theorem dX7_faultOf_53 : decode cX7_faultOf 53 = .ok (.iconst 0, 1) := by decide +kernel
theorem dX7_faultOf_54 : decode cX7_faultOf 54 = .ok (.istore 5, 2) := by decide +kernel
theorem dX7_faultOf_56 : decode cX7_faultOf 56 = .ok (.iload_n 3, 1) := by decide +kernel
theorem dX7_faultOf_57 : decode cX7_faultOf 57 = .ok (.bipush 24, 2) := by decide +kernel
theorem dX7_faultOf_59 : decode cX7_faultOf 59 = .ok (.if_icmp .ge 50, 3) := by decide +kernel
theorem dX7_faultOf_62 : decode cX7_faultOf 62 = .ok (.iload_n 2, 1) := by decide +kernel
theorem dX7_faultOf_63 : decode cX7_faultOf 63 = .ok (.ifCond .eq 11, 3) := by decide +kernel
theorem dX7_faultOf_66 : decode cX7_faultOf 66 = .ok (.iload 5, 2) := by decide +kernel
theorem dX7_faultOf_68 : decode cX7_faultOf 68 = .ok (.ifCond .eq 41, 3) := by decide +kernel
theorem dX7_faultOf_71 : decode cX7_faultOf 71 = .ok (.goto 34, 3) := by decide +kernel
theorem dX7_faultOf_74 : decode cX7_faultOf 74 = .ok (.iload_n 1, 1) := by decide +kernel
theorem dX7_faultOf_75 : decode cX7_faultOf 75 = .ok (.ifCond .le 34, 3) := by decide +kernel
theorem dX7_faultOf_78 : decode cX7_faultOf 78 = .ok (.iload 5, 2) := by decide +kernel
theorem dX7_faultOf_80 : decode cX7_faultOf 80 = .ok (.ifCond .ne 25, 3) := by decide +kernel
theorem dX7_faultOf_83 : decode cX7_faultOf 83 = .ok (.iload 4, 2) := by decide +kernel
theorem dX7_faultOf_85 : decode cX7_faultOf 85 = .ok (.bipush 126, 2) := by decide +kernel
theorem dX7_faultOf_87 : decode cX7_faultOf 87 = .ok (.if_icmp .eq 18, 3) := by decide +kernel
theorem dX7_faultOf_90 : decode cX7_faultOf 90 = .ok (.iload 4, 2) := by decide +kernel
theorem dX7_faultOf_92 : decode cX7_faultOf 92 = .ok (.bipush 45, 2) := by decide +kernel
theorem dX7_faultOf_94 : decode cX7_faultOf 94 = .ok (.if_icmp .eq 11, 3) := by decide +kernel
theorem dX7_faultOf_97 : decode cX7_faultOf 97 = .ok (.iload 4, 2) := by decide +kernel
theorem dX7_faultOf_99 : decode cX7_faultOf 99 = .ok (.invokestatic 127, 3) := by decide +kernel
theorem dX7_faultOf_102 : decode cX7_faultOf 102 = .ok (.ifCond .eq 7, 3) := by decide +kernel
theorem dX7_faultOf_105 : decode cX7_faultOf 105 = .ok (.iconst 1, 1) := by decide +kernel
theorem dX7_faultOf_106 : decode cX7_faultOf 106 = .ok (.goto 4, 3) := by decide +kernel
theorem dX7_faultOf_109 : decode cX7_faultOf 109 = .ok (.iconst 0, 1) := by decide +kernel
theorem dX7_faultOf_110 : decode cX7_faultOf 110 = .ok (.istore 6, 2) := by decide +kernel
theorem dX7_faultOf_112 : decode cX7_faultOf 112 = .ok (.iload 6, 2) := by decide +kernel
theorem dX7_faultOf_114 : decode cX7_faultOf 114 = .ok (.ifCond .ne 5, 3) := by decide +kernel
theorem dX7_faultOf_117 : decode cX7_faultOf 117 = .ok (.iload_n 3, 1) := by decide +kernel
theorem dX7_faultOf_118 : decode cX7_faultOf 118 = .ok (.ireturn, 1) := by decide +kernel
theorem dX7_faultOf_119 : decode cX7_faultOf 119 = .ok (.iload 4, 2) := by decide +kernel
theorem dX7_faultOf_121 : decode cX7_faultOf 121 = .ok (.bipush 126, 2) := by decide +kernel
theorem dX7_faultOf_123 : decode cX7_faultOf 123 = .ok (.if_icmp .ne 7, 3) := by decide +kernel
theorem dX7_faultOf_126 : decode cX7_faultOf 126 = .ok (.iconst 1, 1) := by decide +kernel
theorem dX7_faultOf_127 : decode cX7_faultOf 127 = .ok (.goto 4, 3) := by decide +kernel
theorem dX7_faultOf_130 : decode cX7_faultOf 130 = .ok (.iconst 0, 1) := by decide +kernel
theorem dX7_faultOf_131 : decode cX7_faultOf 131 = .ok (.istore_n 2, 1) := by decide +kernel
theorem dX7_faultOf_132 : decode cX7_faultOf 132 = .ok (.iload_n 1, 1) := by decide +kernel
theorem dX7_faultOf_133 : decode cX7_faultOf 133 = .ok (.iload 5, 2) := by decide +kernel
theorem dX7_faultOf_135 : decode cX7_faultOf 135 = .ok (.ifCond .eq 7, 3) := by decide +kernel
theorem dX7_faultOf_138 : decode cX7_faultOf 138 = .ok (.iconst (-1), 1) := by decide +kernel
theorem dX7_faultOf_139 : decode cX7_faultOf 139 = .ok (.goto 16, 3) := by decide +kernel
theorem dX7_faultOf_142 : decode cX7_faultOf 142 = .ok (.iload 4, 2) := by decide +kernel
theorem dX7_faultOf_144 : decode cX7_faultOf 144 = .ok (.invokestatic 127, 3) := by decide +kernel
theorem dX7_faultOf_147 : decode cX7_faultOf 147 = .ok (.ifCond .eq 7, 3) := by decide +kernel
theorem dX7_faultOf_150 : decode cX7_faultOf 150 = .ok (.iconst 1, 1) := by decide +kernel
theorem dX7_faultOf_151 : decode cX7_faultOf 151 = .ok (.goto 4, 3) := by decide +kernel
theorem dX7_faultOf_154 : decode cX7_faultOf 154 = .ok (.iconst 0, 1) := by decide +kernel
theorem dX7_faultOf_155 : decode cX7_faultOf 155 = .ok (.iadd, 1) := by decide +kernel
theorem dX7_faultOf_156 : decode cX7_faultOf 156 = .ok (.istore_n 1, 1) := by decide +kernel
theorem dX7_faultOf_157 : decode cX7_faultOf 157 = .ok (.iinc 3 1, 3) := by decide +kernel
theorem dX7_faultOf_160 : decode cX7_faultOf 160 = .ok (.goto (-154), 3) := by decide +kernel
theorem dX7_faultOf_163 : decode cX7_faultOf 163 = .ok (.iload_n 1, 1) := by decide +kernel
theorem dX7_faultOf_164 : decode cX7_faultOf 164 = .ok (.ifCond .ne 8, 3) := by decide +kernel
theorem dX7_faultOf_167 : decode cX7_faultOf 167 = .ok (.bipush (-6), 2) := by decide +kernel
theorem dX7_faultOf_169 : decode cX7_faultOf 169 = .ok (.goto 7, 3) := by decide +kernel
theorem dX7_faultOf_172 : decode cX7_faultOf 172 = .ok (.aload_n 0, 1) := by decide +kernel
theorem dX7_faultOf_173 : decode cX7_faultOf 173 = .ok (.getfield 121, 3) := by decide +kernel
theorem dX7_faultOf_176 : decode cX7_faultOf 176 = .ok (.ireturn, 1) := by decide +kernel
theorem dX7_fault_0 : decode cX7_fault 0 = .ok (.aload_n 0, 1) := by decide +kernel
theorem dX7_fault_1 : decode cX7_fault 1 = .ok (.invokevirtual 130, 3) := by decide +kernel
theorem dX7_fault_4 : decode cX7_fault 4 = .ok (.ireturn, 1) := by decide +kernel
theorem dX7_layPad_0 : decode cX7_layPad 0 = .ok (.aload_n 0, 1) := by decide +kernel
theorem dX7_layPad_1 : decode cX7_layPad 1 = .ok (.aload_n 0, 1) := by decide +kernel
theorem dX7_layPad_2 : decode cX7_layPad 2 = .ok (.getfield 121, 3) := by decide +kernel
theorem dX7_layPad_5 : decode cX7_layPad 5 = .ok (.putfield 133, 3) := by decide +kernel
theorem dX7_layPad_8 : decode cX7_layPad 8 = .ok (.iconst 0, 1) := by decide +kernel
theorem dX7_layPad_9 : decode cX7_layPad 9 = .ok (.istore_n 1, 1) := by decide +kernel
theorem dX7_layPad_10 : decode cX7_layPad 10 = .ok (.iload_n 1, 1) := by decide +kernel
theorem dX7_layPad_11 : decode cX7_layPad 11 = .ok (.aload_n 0, 1) := by decide +kernel
theorem dX7_layPad_12 : decode cX7_layPad 12 = .ok (.getfield 121, 3) := by decide +kernel
theorem dX7_layPad_15 : decode cX7_layPad 15 = .ok (.if_icmp .ge 21, 3) := by decide +kernel
theorem dX7_layPad_18 : decode cX7_layPad 18 = .ok (.aload_n 0, 1) := by decide +kernel
theorem dX7_layPad_19 : decode cX7_layPad 19 = .ok (.getfield 39, 3) := by decide +kernel
theorem dX7_layPad_22 : decode cX7_layPad 22 = .ok (.iload_n 1, 1) := by decide +kernel
theorem dX7_layPad_23 : decode cX7_layPad 23 = .ok (.aload_n 0, 1) := by decide +kernel
theorem dX7_layPad_24 : decode cX7_layPad 24 = .ok (.getfield 36, 3) := by decide +kernel
theorem dX7_layPad_27 : decode cX7_layPad 27 = .ok (.iload_n 1, 1) := by decide +kernel
theorem dX7_layPad_28 : decode cX7_layPad 28 = .ok (.iaload, 1) := by decide +kernel
theorem dX7_layPad_29 : decode cX7_layPad 29 = .ok (.iastore, 1) := by decide +kernel
theorem dX7_layPad_30 : decode cX7_layPad 30 = .ok (.iinc 1 1, 3) := by decide +kernel
theorem dX7_layPad_33 : decode cX7_layPad 33 = .ok (.goto (-23), 3) := by decide +kernel
theorem dX7_layPad_36 : decode cX7_layPad 36 = .ok (.return_, 1) := by decide +kernel
theorem dX7_pairOf_0 : decode cX7_pairOf 0 = .ok (.iload_n 1, 1) := by decide +kernel
theorem dX7_pairOf_1 : decode cX7_pairOf 1 = .ok (.lookupswitch 96 #[(38, 43), (61, 85), (62, 71), (124, 57)], 43) := by decide +kernel
theorem dX7_pairOf_44 : decode cX7_pairOf 44 = .ok (.iload_n 2, 1) := by decide +kernel
theorem dX7_pairOf_45 : decode cX7_pairOf 45 = .ok (.ifCond .eq 11, 3) := by decide +kernel
theorem dX7_pairOf_48 : decode cX7_pairOf 48 = .ok (.iload_n 3, 1) := by decide +kernel
theorem dX7_pairOf_49 : decode cX7_pairOf 49 = .ok (.ifCond .eq 7, 3) := by decide +kernel
theorem dX7_pairOf_52 : decode cX7_pairOf 52 = .ok (.iconst 1, 1) := by decide +kernel
theorem dX7_pairOf_53 : decode cX7_pairOf 53 = .ok (.goto 4, 3) := by decide +kernel
theorem dX7_pairOf_56 : decode cX7_pairOf 56 = .ok (.iconst 0, 1) := by decide +kernel
theorem dX7_pairOf_57 : decode cX7_pairOf 57 = .ok (.ireturn, 1) := by decide +kernel
theorem dX7_pairOf_58 : decode cX7_pairOf 58 = .ok (.iload_n 2, 1) := by decide +kernel
theorem dX7_pairOf_59 : decode cX7_pairOf 59 = .ok (.ifCond .ne 7, 3) := by decide +kernel
theorem dX7_pairOf_62 : decode cX7_pairOf 62 = .ok (.iload_n 3, 1) := by decide +kernel
theorem dX7_pairOf_63 : decode cX7_pairOf 63 = .ok (.ifCond .eq 7, 3) := by decide +kernel
theorem dX7_pairOf_66 : decode cX7_pairOf 66 = .ok (.iconst 1, 1) := by decide +kernel
theorem dX7_pairOf_67 : decode cX7_pairOf 67 = .ok (.goto 4, 3) := by decide +kernel
theorem dX7_pairOf_70 : decode cX7_pairOf 70 = .ok (.iconst 0, 1) := by decide +kernel
theorem dX7_pairOf_71 : decode cX7_pairOf 71 = .ok (.ireturn, 1) := by decide +kernel
theorem dX7_pairOf_72 : decode cX7_pairOf 72 = .ok (.iload_n 2, 1) := by decide +kernel
theorem dX7_pairOf_73 : decode cX7_pairOf 73 = .ok (.ifCond .eq 7, 3) := by decide +kernel
theorem dX7_pairOf_76 : decode cX7_pairOf 76 = .ok (.iload_n 3, 1) := by decide +kernel
theorem dX7_pairOf_77 : decode cX7_pairOf 77 = .ok (.ifCond .eq 7, 3) := by decide +kernel
theorem dX7_pairOf_80 : decode cX7_pairOf 80 = .ok (.iconst 1, 1) := by decide +kernel
theorem dX7_pairOf_81 : decode cX7_pairOf 81 = .ok (.goto 4, 3) := by decide +kernel
theorem dX7_pairOf_84 : decode cX7_pairOf 84 = .ok (.iconst 0, 1) := by decide +kernel
theorem dX7_pairOf_85 : decode cX7_pairOf 85 = .ok (.ireturn, 1) := by decide +kernel
theorem dX7_pairOf_86 : decode cX7_pairOf 86 = .ok (.iload_n 2, 1) := by decide +kernel
theorem dX7_pairOf_87 : decode cX7_pairOf 87 = .ok (.iload_n 3, 1) := by decide +kernel
theorem dX7_pairOf_88 : decode cX7_pairOf 88 = .ok (.if_icmp .ne 7, 3) := by decide +kernel
theorem dX7_pairOf_91 : decode cX7_pairOf 91 = .ok (.iconst 1, 1) := by decide +kernel
theorem dX7_pairOf_92 : decode cX7_pairOf 92 = .ok (.goto 4, 3) := by decide +kernel
theorem dX7_pairOf_95 : decode cX7_pairOf 95 = .ok (.iconst 0, 1) := by decide +kernel
theorem dX7_pairOf_96 : decode cX7_pairOf 96 = .ok (.ireturn, 1) := by decide +kernel
theorem dX7_pairOf_97 : decode cX7_pairOf 97 = .ok (.iload_n 2, 1) := by decide +kernel
theorem dX7_pairOf_98 : decode cX7_pairOf 98 = .ok (.iload_n 3, 1) := by decide +kernel
theorem dX7_pairOf_99 : decode cX7_pairOf 99 = .ok (.if_icmp .eq 7, 3) := by decide +kernel
theorem dX7_pairOf_102 : decode cX7_pairOf 102 = .ok (.iconst 1, 1) := by decide +kernel
theorem dX7_pairOf_103 : decode cX7_pairOf 103 = .ok (.goto 4, 3) := by decide +kernel
theorem dX7_pairOf_106 : decode cX7_pairOf 106 = .ok (.iconst 0, 1) := by decide +kernel
theorem dX7_pairOf_107 : decode cX7_pairOf 107 = .ok (.ireturn, 1) := by decide +kernel
theorem dX7_isSo_0 : decode cX7_isSo 0 = .ok (.iconst 0, 1) := by decide +kernel
theorem dX7_isSo_1 : decode cX7_isSo 1 = .ok (.istore_n 3, 1) := by decide +kernel
theorem dX7_isSo_2 : decode cX7_isSo 2 = .ok (.aload_n 0, 1) := by decide +kernel
theorem dX7_isSo_3 : decode cX7_isSo 3 = .ok (.getfield 133, 3) := by decide +kernel
theorem dX7_isSo_6 : decode cX7_isSo 6 = .ok (.iconst 1, 1) := by decide +kernel
theorem dX7_isSo_7 : decode cX7_isSo 7 = .ok (.isub, 1) := by decide +kernel
theorem dX7_isSo_8 : decode cX7_isSo 8 = .ok (.istore 4, 2) := by decide +kernel
theorem dX7_isSo_10 : decode cX7_isSo 10 = .ok (.iload 4, 2) := by decide +kernel
theorem dX7_isSo_12 : decode cX7_isSo 12 = .ok (.ifCond .lt 205, 3) := by decide +kernel
theorem dX7_isSo_15 : decode cX7_isSo 15 = .ok (.aload_n 0, 1) := by decide +kernel
theorem dX7_isSo_16 : decode cX7_isSo 16 = .ok (.getfield 39, 3) := by decide +kernel
theorem dX7_isSo_19 : decode cX7_isSo 19 = .ok (.iload 4, 2) := by decide +kernel
theorem dX7_isSo_21 : decode cX7_isSo 21 = .ok (.iaload, 1) := by decide +kernel
theorem dX7_isSo_22 : decode cX7_isSo 22 = .ok (.istore 5, 2) := by decide +kernel
theorem dX7_isSo_24 : decode cX7_isSo 24 = .ok (.aload_n 0, 1) := by decide +kernel
theorem dX7_isSo_25 : decode cX7_isSo 25 = .ok (.iload 5, 2) := by decide +kernel
theorem dX7_isSo_27 : decode cX7_isSo 27 = .ok (.invokevirtual 124, 3) := by decide +kernel
theorem dX7_isSo_30 : decode cX7_isSo 30 = .ok (.ifCond .eq 69, 3) := by decide +kernel
theorem dX7_isSo_33 : decode cX7_isSo 33 = .ok (.iload_n 1, 1) := by decide +kernel
theorem dX7_isSo_34 : decode cX7_isSo 34 = .ok (.iload 5, 2) := by decide +kernel
theorem dX7_isSo_36 : decode cX7_isSo 36 = .ok (.bipush 97, 2) := by decide +kernel
theorem dX7_isSo_38 : decode cX7_isSo 38 = .ok (.isub, 1) := by decide +kernel
theorem dX7_isSo_39 : decode cX7_isSo 39 = .ok (.invokestatic 113, 3) := by decide +kernel
theorem dX7_isSo_42 : decode cX7_isSo 42 = .ok (.istore 6, 2) := by decide +kernel
theorem dX7_isSo_44 : decode cX7_isSo 44 = .ok (.aload_n 0, 1) := by decide +kernel
theorem dX7_isSo_45 : decode cX7_isSo 45 = .ok (.getfield 42, 3) := by decide +kernel
theorem dX7_isSo_48 : decode cX7_isSo 48 = .ok (.iload_n 3, 1) := by decide +kernel
theorem dX7_isSo_49 : decode cX7_isSo 49 = .ok (.iload 4, 2) := by decide +kernel
theorem dX7_isSo_51 : decode cX7_isSo 51 = .ok (.ifCond .le 39, 3) := by decide +kernel
theorem dX7_isSo_54 : decode cX7_isSo 54 = .ok (.aload_n 0, 1) := by decide +kernel
theorem dX7_isSo_55 : decode cX7_isSo 55 = .ok (.getfield 39, 3) := by decide +kernel
theorem dX7_isSo_58 : decode cX7_isSo 58 = .ok (.iload 4, 2) := by decide +kernel
theorem dX7_isSo_60 : decode cX7_isSo 60 = .ok (.iconst 1, 1) := by decide +kernel
theorem dX7_isSo_61 : decode cX7_isSo 61 = .ok (.isub, 1) := by decide +kernel
theorem dX7_isSo_62 : decode cX7_isSo 62 = .ok (.iaload, 1) := by decide +kernel
theorem dX7_isSo_63 : decode cX7_isSo 63 = .ok (.bipush 126, 2) := by decide +kernel
theorem dX7_isSo_65 : decode cX7_isSo 65 = .ok (.if_icmp .ne 25, 3) := by decide +kernel
theorem dX7_isSo_68 : decode cX7_isSo 68 = .ok (.iload 6, 2) := by decide +kernel
theorem dX7_isSo_70 : decode cX7_isSo 70 = .ok (.iload_n 2, 1) := by decide +kernel
theorem dX7_isSo_71 : decode cX7_isSo 71 = .ok (.iload 5, 2) := by decide +kernel
theorem dX7_isSo_73 : decode cX7_isSo 73 = .ok (.bipush 97, 2) := by decide +kernel
theorem dX7_isSo_75 : decode cX7_isSo 75 = .ok (.isub, 1) := by decide +kernel
theorem dX7_isSo_76 : decode cX7_isSo 76 = .ok (.invokestatic 113, 3) := by decide +kernel
theorem dX7_isSo_79 : decode cX7_isSo 79 = .ok (.if_icmp .ne 7, 3) := by decide +kernel
theorem dX7_isSo_82 : decode cX7_isSo 82 = .ok (.iconst 1, 1) := by decide +kernel
theorem dX7_isSo_83 : decode cX7_isSo 83 = .ok (.goto 9, 3) := by decide +kernel
theorem dX7_isSo_86 : decode cX7_isSo 86 = .ok (.iconst 0, 1) := by decide +kernel
theorem dX7_isSo_87 : decode cX7_isSo 87 = .ok (.goto 5, 3) := by decide +kernel
theorem dX7_isSo_90 : decode cX7_isSo 90 = .ok (.iload 6, 2) := by decide +kernel
theorem dX7_isSo_92 : decode cX7_isSo 92 = .ok (.bastore, 1) := by decide +kernel
theorem dX7_isSo_93 : decode cX7_isSo 93 = .ok (.iinc 3 1, 3) := by decide +kernel
theorem dX7_isSo_96 : decode cX7_isSo 96 = .ok (.goto 115, 3) := by decide +kernel
theorem dX7_isSo_99 : decode cX7_isSo 99 = .ok (.iload 5, 2) := by decide +kernel
theorem dX7_isSo_101 : decode cX7_isSo 101 = .ok (.bipush 48, 2) := by decide +kernel
theorem dX7_isSo_103 : decode cX7_isSo 103 = .ok (.if_icmp .eq 10, 3) := by decide +kernel
theorem dX7_isSo_106 : decode cX7_isSo 106 = .ok (.iload 5, 2) := by decide +kernel
theorem dX7_isSo_108 : decode cX7_isSo 108 = .ok (.bipush 49, 2) := by decide +kernel
theorem dX7_isSo_110 : decode cX7_isSo 110 = .ok (.if_icmp .ne 27, 3) := by decide +kernel
theorem dX7_isSo_113 : decode cX7_isSo 113 = .ok (.aload_n 0, 1) := by decide +kernel
theorem dX7_isSo_114 : decode cX7_isSo 114 = .ok (.getfield 42, 3) := by decide +kernel
theorem dX7_isSo_117 : decode cX7_isSo 117 = .ok (.iload_n 3, 1) := by decide +kernel
theorem dX7_isSo_118 : decode cX7_isSo 118 = .ok (.iload 5, 2) := by decide +kernel
theorem dX7_isSo_120 : decode cX7_isSo 120 = .ok (.bipush 49, 2) := by decide +kernel
theorem dX7_isSo_122 : decode cX7_isSo 122 = .ok (.if_icmp .ne 7, 3) := by decide +kernel
theorem dX7_isSo_125 : decode cX7_isSo 125 = .ok (.iconst 1, 1) := by decide +kernel
theorem dX7_isSo_126 : decode cX7_isSo 126 = .ok (.goto 4, 3) := by decide +kernel
theorem dX7_isSo_129 : decode cX7_isSo 129 = .ok (.iconst 0, 1) := by decide +kernel
theorem dX7_isSo_130 : decode cX7_isSo 130 = .ok (.bastore, 1) := by decide +kernel
theorem dX7_isSo_131 : decode cX7_isSo 131 = .ok (.iinc 3 1, 3) := by decide +kernel
theorem dX7_isSo_134 : decode cX7_isSo 134 = .ok (.goto 77, 3) := by decide +kernel
theorem dX7_isSo_137 : decode cX7_isSo 137 = .ok (.iload 5, 2) := by decide +kernel
theorem dX7_isSo_139 : decode cX7_isSo 139 = .ok (.bipush 45, 2) := by decide +kernel
theorem dX7_isSo_141 : decode cX7_isSo 141 = .ok (.if_icmp .ne 30, 3) := by decide +kernel
theorem dX7_isSo_144 : decode cX7_isSo 144 = .ok (.aload_n 0, 1) := by decide +kernel
theorem dX7_isSo_145 : decode cX7_isSo 145 = .ok (.getfield 42, 3) := by decide +kernel
theorem dX7_isSo_148 : decode cX7_isSo 148 = .ok (.iload_n 3, 1) := by decide +kernel
theorem dX7_isSo_149 : decode cX7_isSo 149 = .ok (.iconst 1, 1) := by decide +kernel
theorem dX7_isSo_150 : decode cX7_isSo 150 = .ok (.isub, 1) := by decide +kernel
theorem dX7_isSo_151 : decode cX7_isSo 151 = .ok (.aload_n 0, 1) := by decide +kernel
theorem dX7_isSo_152 : decode cX7_isSo 152 = .ok (.getfield 42, 3) := by decide +kernel
theorem dX7_isSo_155 : decode cX7_isSo 155 = .ok (.iload_n 3, 1) := by decide +kernel
theorem dX7_isSo_156 : decode cX7_isSo 156 = .ok (.iconst 1, 1) := by decide +kernel
theorem dX7_isSo_157 : decode cX7_isSo 157 = .ok (.isub, 1) := by decide +kernel
theorem dX7_isSo_158 : decode cX7_isSo 158 = .ok (.baload, 1) := by decide +kernel
theorem dX7_isSo_159 : decode cX7_isSo 159 = .ok (.ifCond .ne 7, 3) := by decide +kernel
theorem dX7_isSo_162 : decode cX7_isSo 162 = .ok (.iconst 1, 1) := by decide +kernel
theorem dX7_isSo_163 : decode cX7_isSo 163 = .ok (.goto 4, 3) := by decide +kernel
theorem dX7_isSo_166 : decode cX7_isSo 166 = .ok (.iconst 0, 1) := by decide +kernel
theorem dX7_isSo_167 : decode cX7_isSo 167 = .ok (.bastore, 1) := by decide +kernel
theorem dX7_isSo_168 : decode cX7_isSo 168 = .ok (.goto 43, 3) := by decide +kernel
theorem dX7_isSo_171 : decode cX7_isSo 171 = .ok (.iload 5, 2) := by decide +kernel
theorem dX7_isSo_173 : decode cX7_isSo 173 = .ok (.bipush 126, 2) := by decide +kernel
theorem dX7_isSo_175 : decode cX7_isSo 175 = .ok (.if_icmp .eq 36, 3) := by decide +kernel
theorem dX7_isSo_178 : decode cX7_isSo 178 = .ok (.aload_n 0, 1) := by decide +kernel
theorem dX7_isSo_179 : decode cX7_isSo 179 = .ok (.getfield 42, 3) := by decide +kernel
theorem dX7_isSo_182 : decode cX7_isSo 182 = .ok (.iload_n 3, 1) := by decide +kernel
theorem dX7_isSo_183 : decode cX7_isSo 183 = .ok (.iconst 2, 1) := by decide +kernel
theorem dX7_isSo_184 : decode cX7_isSo 184 = .ok (.isub, 1) := by decide +kernel
theorem dX7_isSo_185 : decode cX7_isSo 185 = .ok (.aload_n 0, 1) := by decide +kernel
theorem dX7_isSo_186 : decode cX7_isSo 186 = .ok (.iload 5, 2) := by decide +kernel
theorem dX7_isSo_188 : decode cX7_isSo 188 = .ok (.aload_n 0, 1) := by decide +kernel
theorem dX7_isSo_189 : decode cX7_isSo 189 = .ok (.getfield 42, 3) := by decide +kernel
theorem dX7_isSo_192 : decode cX7_isSo 192 = .ok (.iload_n 3, 1) := by decide +kernel
theorem dX7_isSo_193 : decode cX7_isSo 193 = .ok (.iconst 1, 1) := by decide +kernel
theorem dX7_isSo_194 : decode cX7_isSo 194 = .ok (.isub, 1) := by decide +kernel
theorem dX7_isSo_195 : decode cX7_isSo 195 = .ok (.baload, 1) := by decide +kernel
theorem dX7_isSo_196 : decode cX7_isSo 196 = .ok (.aload_n 0, 1) := by decide +kernel
theorem dX7_isSo_197 : decode cX7_isSo 197 = .ok (.getfield 42, 3) := by decide +kernel
theorem dX7_isSo_200 : decode cX7_isSo 200 = .ok (.iload_n 3, 1) := by decide +kernel
theorem dX7_isSo_201 : decode cX7_isSo 201 = .ok (.iconst 2, 1) := by decide +kernel
theorem dX7_isSo_202 : decode cX7_isSo 202 = .ok (.isub, 1) := by decide +kernel
theorem dX7_isSo_203 : decode cX7_isSo 203 = .ok (.baload, 1) := by decide +kernel
theorem dX7_isSo_204 : decode cX7_isSo 204 = .ok (.invokevirtual 136, 3) := by decide +kernel
theorem dX7_isSo_207 : decode cX7_isSo 207 = .ok (.bastore, 1) := by decide +kernel
theorem dX7_isSo_208 : decode cX7_isSo 208 = .ok (.iinc 3 (-1), 3) := by decide +kernel
theorem dX7_isSo_211 : decode cX7_isSo 211 = .ok (.iinc 4 (-1), 3) := by decide +kernel
theorem dX7_isSo_214 : decode cX7_isSo 214 = .ok (.goto (-204), 3) := by decide +kernel
theorem dX7_isSo_217 : decode cX7_isSo 217 = .ok (.aload_n 0, 1) := by decide +kernel
theorem dX7_isSo_218 : decode cX7_isSo 218 = .ok (.getfield 42, 3) := by decide +kernel
theorem dX7_isSo_221 : decode cX7_isSo 221 = .ok (.iconst 0, 1) := by decide +kernel
theorem dX7_isSo_222 : decode cX7_isSo 222 = .ok (.baload, 1) := by decide +kernel
theorem dX7_isSo_223 : decode cX7_isSo 223 = .ok (.ireturn, 1) := by decide +kernel
theorem dX7_saidOf_0 : decode cX7_saidOf 0 = .ok (.iconst 0, 1) := by decide +kernel
theorem dX7_saidOf_1 : decode cX7_saidOf 1 = .ok (.istore_n 1, 1) := by decide +kernel
theorem dX7_saidOf_2 : decode cX7_saidOf 2 = .ok (.iconst 0, 1) := by decide +kernel
theorem dX7_saidOf_3 : decode cX7_saidOf 3 = .ok (.istore_n 2, 1) := by decide +kernel
theorem dX7_saidOf_4 : decode cX7_saidOf 4 = .ok (.iload_n 2, 1) := by decide +kernel
theorem dX7_saidOf_5 : decode cX7_saidOf 5 = .ok (.aload_n 0, 1) := by decide +kernel
theorem dX7_saidOf_6 : decode cX7_saidOf 6 = .ok (.getfield 133, 3) := by decide +kernel
theorem dX7_saidOf_9 : decode cX7_saidOf 9 = .ok (.if_icmp .ge 40, 3) := by decide +kernel
theorem dX7_saidOf_12 : decode cX7_saidOf 12 = .ok (.iload_n 1, 1) := by decide +kernel
theorem dX7_saidOf_13 : decode cX7_saidOf 13 = .ok (.aload_n 0, 1) := by decide +kernel
theorem dX7_saidOf_14 : decode cX7_saidOf 14 = .ok (.aload_n 0, 1) := by decide +kernel
theorem dX7_saidOf_15 : decode cX7_saidOf 15 = .ok (.getfield 39, 3) := by decide +kernel
theorem dX7_saidOf_18 : decode cX7_saidOf 18 = .ok (.iload_n 2, 1) := by decide +kernel
theorem dX7_saidOf_19 : decode cX7_saidOf 19 = .ok (.iaload, 1) := by decide +kernel
theorem dX7_saidOf_20 : decode cX7_saidOf 20 = .ok (.invokevirtual 124, 3) := by decide +kernel
theorem dX7_saidOf_23 : decode cX7_saidOf 23 = .ok (.ifCond .eq 17, 3) := by decide +kernel
theorem dX7_saidOf_26 : decode cX7_saidOf 26 = .ok (.iconst 1, 1) := by decide +kernel
theorem dX7_saidOf_27 : decode cX7_saidOf 27 = .ok (.aload_n 0, 1) := by decide +kernel
theorem dX7_saidOf_28 : decode cX7_saidOf 28 = .ok (.getfield 39, 3) := by decide +kernel
theorem dX7_saidOf_31 : decode cX7_saidOf 31 = .ok (.iload_n 2, 1) := by decide +kernel
theorem dX7_saidOf_32 : decode cX7_saidOf 32 = .ok (.iaload, 1) := by decide +kernel
theorem dX7_saidOf_33 : decode cX7_saidOf 33 = .ok (.bipush 97, 2) := by decide +kernel
theorem dX7_saidOf_35 : decode cX7_saidOf 35 = .ok (.isub, 1) := by decide +kernel
theorem dX7_saidOf_36 : decode cX7_saidOf 36 = .ok (.ishl, 1) := by decide +kernel
theorem dX7_saidOf_37 : decode cX7_saidOf 37 = .ok (.goto 4, 3) := by decide +kernel
theorem dX7_saidOf_40 : decode cX7_saidOf 40 = .ok (.iconst 0, 1) := by decide +kernel
theorem dX7_saidOf_41 : decode cX7_saidOf 41 = .ok (.ior, 1) := by decide +kernel
theorem dX7_saidOf_42 : decode cX7_saidOf 42 = .ok (.istore_n 1, 1) := by decide +kernel
theorem dX7_saidOf_43 : decode cX7_saidOf 43 = .ok (.iinc 2 1, 3) := by decide +kernel
theorem dX7_saidOf_46 : decode cX7_saidOf 46 = .ok (.goto (-42), 3) := by decide +kernel
theorem dX7_saidOf_49 : decode cX7_saidOf 49 = .ok (.iload_n 1, 1) := by decide +kernel
theorem dX7_saidOf_50 : decode cX7_saidOf 50 = .ok (.ireturn, 1) := by decide +kernel
def isPr (s : Int32) : Bool := decide (s = 38) || (decide (s = 124) || (decide (s = 62) || (decide (s = 61) || decide (s = 94))))
def isLt (t : Nat) (s : Int32) : Bool := inb s 97 (97 + nI t - 1)
def leafM (t : Nat) (s : Int32) (ld : Bool) : Bool := isLt t s || (!ld && (decide (s = 48) || decide (s = 49)))
def fitsM (t : Nat) (s : Int32) (k : Nat) (wa : Int32) (ld : Bool) : Bool := decide (k < 24) && (if ld then leafM t s ld else decide (0 < wa) && (leafM t s ld || (decide (s = 126) || (decide (s = 45) || isPr s))))
def dlM (t : Nat) (s : Int32) (ld : Bool) : Int32 := if leafM t s ld then -1 else if isPr s then 1 else 0
def ffM (t : Nat) (pd : Nat → Int32) (sg : Nat) : Nat → Nat → Int32 → Bool → Int32
  | 0, _, wa, _ => if wa = 0 then -6 else nI sg
  | j + 1, k, wa, ld => if fitsM t (pd k) k wa ld then ffM t pd sg j (k + 1) (wa + dlM t (pd k) ld) (decide (pd k = 126)) else nI k
def prF (s : Int32) (a b : Bool) : Bool := if s = 38 then a && b else if s = 124 then a || b else if s = 62 then !a || b else if s = 61 then a == b else a != b
section MODEL13
variable {xl : Nat} {xs : Nat → Int32} {n : Nat} {h : Nat → PC} {I S : Nat → Nat → Int32} {J T : Nat → Nat → Int64} {X : Nat → Option Nat} {t sl wy wi he : Nat}
theorem c_X7_isPair (s : Int32) : Rn xl xs 0 0 0 0 mX7_isPair [.int s] n h (some (.int (b2i (isPr s)))) n h := by
  intro Q hQ
  show Ev xl xs 0 0 0 0 mX7_isPair 0 [some (.int s)] [] n h Q
  refine ev_iload_n (q := 1) dX7_isPair_0 rfl rfl ?_
  refine ev_bipush (q := 3) (38) dX7_isPair_1 (by decide) rfl ?_
  refine ev_icmp_eq (q := 6) 30 dX7_isPair_3 (by decide) rfl (fun c_3 => ?_) (fun c_3 => ?_)
  · refine ev_iconst (q := 31) (1) dX7_isPair_30 (by decide) rfl ?_
    refine ev_goto 35 dX7_isPair_31 (by decide) ?_
    exact ev_iretE dX7_isPair_35 rfl (nar_b2i _) (by simp [isPr, b2i, *]) rfl rfl hQ
  · refine ev_iload_n (q := 7) dX7_isPair_6 rfl rfl ?_
    refine ev_bipush (q := 9) (124) dX7_isPair_7 (by decide) rfl ?_
    refine ev_icmp_eq (q := 12) 30 dX7_isPair_9 (by decide) rfl (fun c_9 => ?_) (fun c_9 => ?_)
    · refine ev_iconst (q := 31) (1) dX7_isPair_30 (by decide) rfl ?_
      refine ev_goto 35 dX7_isPair_31 (by decide) ?_
      exact ev_iretE dX7_isPair_35 rfl (nar_b2i _) (by simp [isPr, b2i, *]) rfl rfl hQ
    · refine ev_iload_n (q := 13) dX7_isPair_12 rfl rfl ?_
      refine ev_bipush (q := 15) (62) dX7_isPair_13 (by decide) rfl ?_
      refine ev_icmp_eq (q := 18) 30 dX7_isPair_15 (by decide) rfl (fun c_15 => ?_) (fun c_15 => ?_)
      · refine ev_iconst (q := 31) (1) dX7_isPair_30 (by decide) rfl ?_
        refine ev_goto 35 dX7_isPair_31 (by decide) ?_
        exact ev_iretE dX7_isPair_35 rfl (nar_b2i _) (by simp [isPr, b2i, *]) rfl rfl hQ
      · refine ev_iload_n (q := 19) dX7_isPair_18 rfl rfl ?_
        refine ev_bipush (q := 21) (61) dX7_isPair_19 (by decide) rfl ?_
        refine ev_icmp_eq (q := 24) 30 dX7_isPair_21 (by decide) rfl (fun c_21 => ?_) (fun c_21 => ?_)
        · refine ev_iconst (q := 31) (1) dX7_isPair_30 (by decide) rfl ?_
          refine ev_goto 35 dX7_isPair_31 (by decide) ?_
          exact ev_iretE dX7_isPair_35 rfl (nar_b2i _) (by simp [isPr, b2i, *]) rfl rfl hQ
        · refine ev_iload_n (q := 25) dX7_isPair_24 rfl rfl ?_
          refine ev_bipush (q := 27) (94) dX7_isPair_25 (by decide) rfl ?_
          refine ev_icmp_ne (q := 30) 34 dX7_isPair_27 (by decide) rfl (fun c_27 => ?_) (fun c_27 => ?_)
          · refine ev_iconst (q := 35) (0) dX7_isPair_34 (by decide) rfl ?_
            exact ev_iretE dX7_isPair_35 rfl (nar_b2i _) (by simp [isPr, b2i, *]) rfl rfl hQ
          · refine ev_iconst (q := 31) (1) dX7_isPair_30 (by decide) rfl ?_
            refine ev_goto 35 dX7_isPair_31 (by decide) ?_
            exact ev_iretE dX7_isPair_35 rfl (nar_b2i _) (by simp [isPr, b2i, *]) rfl rfl hQ
theorem s_X7_isLetter (hn : 49 ≤ n) (hm : MI I t sl wy wi he) (s : Int32) : Rn xl xs 1 22 0 0 mX7_isLetter [.ref 33, .int s] n (sysH (ov I S) (ovJ J T) X) (some (.int (b2i (isLt t s)))) n (sysH (ov I S) (ovJ J T) X) := by
  intro Q hQ
  show Ev xl xs 1 22 0 0 mX7_isLetter 0 [some (.ref 33), some (.int s)] [] n (sysH (ov I S) (ovJ J T) X) Q
  refine ev_iload_n (q := 1) dX7_isLetter_0 rfl rfl ?_
  refine ev_bipush (q := 3) (97) dX7_isLetter_1 (by decide) rfl ?_
  refine ev_bipush (q := 5) (97) dX7_isLetter_3 (by decide) rfl ?_
  refine ev_aload_n (q := 6) dX7_isLetter_5 rfl rfl ?_
  refine ev_get (q := 9) dX7_isLetter_6 fr_X7_7 rfl (lt_n hn (by decide)) rfl rfl ?_
  rw [show ov I S 33 0 = nI t from hm.1]
  refine ev_iadd (q := 10) dX7_isLetter_9 rfl ?_
  refine ev_iconst (q := 11) (1) dX7_isLetter_10 (by decide) rfl ?_
  refine ev_isub (q := 12) dX7_isLetter_11 rfl ?_
  refine ev_callS3i (q := 15) dX7_isLetter_12 ca_X7_99 (c_X7_in _ _ _) (Nat.le_of_ble_eq_true rfl) (Nat.le_of_ble_eq_true rfl) (by decide) (by decide) rfl ?_
  exact ev_iretE dX7_isLetter_15 rfl (nar_b2i _) rfl rfl rfl hQ
theorem s_X7_faultOf {sg : Nat} (hn : 49 ≤ n) (hm : MI I t sl wy wi he) (hsg : I 33 16 = nI sg) (h40 : sg ≤ 40) : Rn xl xs 2 43 0 0 mX7_faultOf [.ref 33] n (sysH (ov I S) (ovJ J T) X) (some (.int (ffM t (I 41) sg sg 0 1 false))) n (sysH (ov I S) (ovJ J T) X) := by
  intro Q hQ
  show Ev xl xs 2 43 0 0 mX7_faultOf 0 [some (.ref 33), none, none, none, none, none, none] [] n (sysH (ov I S) (ovJ J T) X) Q
  have lp : ∀ j k, k + j = sg → ∀ wa ld a4 a5 a6, ffM t (I 41) sg sg 0 1 false = ffM t (I 41) sg j k wa ld → Ev xl xs 2 43 0 0 mX7_faultOf 6 [some (.ref 33), some (.int wa), some (.int (b2i ld)), some (.int (nI k)), a4, a5, a6] [] n (sysH (ov I S) (ovJ J T) X) Q := by
    intro j
    induction j with
    | zero =>
      intro k hk wa ld a4 a5 a6 hff
      have hk2 : k = sg := by omega
      subst hk2
      rw [hff] at hQ
      refine ev_iload_n (q := 7) dX7_faultOf_6 rfl rfl ?_
      refine ev_aload_n (q := 8) dX7_faultOf_7 rfl rfl ?_
      refine ev_get (q := 11) dX7_faultOf_8 fr_X7_121 rfl (lt_n hn (by decide)) rfl rfl ?_
      rw [show ov I S 33 16 = nI k from hsg]
      refine ev_icmp_ge (q := 14) 163 dX7_faultOf_11 (by decide) rfl (fun c_11 => ?_) (fun c_11 => ?_)
      · refine ev_iload_n (q := 164) dX7_faultOf_163 rfl rfl ?_
        refine ev_if_ne (q := 167) 172 dX7_faultOf_164 (by decide) rfl (fun c_164 => ?_) (fun c_164 => ?_)
        · have c_164 : ¬ wa = 0 := c_164
          refine ev_aload_n (q := 173) dX7_faultOf_172 rfl rfl ?_
          refine ev_get (q := 176) dX7_faultOf_173 fr_X7_121 rfl (lt_n hn (by decide)) rfl rfl ?_
          exact ev_iretE dX7_faultOf_176 rfl rfl (by first | (rw [ffM, if_pos c_164]; done) | (rw [ffM, if_neg c_164]; exact hsg)) rfl rfl hQ
        · refine ev_bipush (q := 169) (-6) dX7_faultOf_167 (by decide) rfl ?_
          refine ev_goto 176 dX7_faultOf_169 (by decide) ?_
          exact ev_iretE dX7_faultOf_176 rfl rfl (by first | (rw [ffM, if_pos c_164]; done) | (rw [ffM, if_neg c_164]; exact hsg)) rfl rfl hQ
      · exact absurd ((nI_leI (by omega) (by omega)).mpr (Nat.le_refl _)) c_11
    | succ j ih =>
      intro k hk wa ld a4 a5 a6 hff
      have J155 : fitsM t (I 41 k) k wa ld = true → ∀ v, v = dlM t (I 41 k) ld → Ev xl xs 2 43 0 0 mX7_faultOf 155 [some (.ref 33), some (.int wa), some (.int (b2i (decide (I 41 k = 126)))), some (.int (nI k)), some (.int (I 41 k)), some (.int (b2i (leafM t (I 41 k) ld))), some (.int 1)] [.int v, .int wa] n (sysH (ov I S) (ovJ J T) X) Q := by
        intro hf v hv
        subst hv
        refine ev_iadd (q := 156) dX7_faultOf_155 rfl ?_
        refine ev_ist_1 (q := 157) dX7_faultOf_156 rfl rfl ?_
        refine ev_inc_3 (q := 160) (nI (k + 1)) dX7_faultOf_157 (nI_1 k) rfl rfl ?_
        refine ev_goto 6 dX7_faultOf_160 (by decide) ?_
        refine ih (k + 1) (by omega) _ _ _ _ _ ?_
        rw [hff, ffM, if_pos hf]
      have J131 : fitsM t (I 41 k) k wa ld = true → ∀ v, v = b2i (decide (I 41 k = 126)) → Ev xl xs 2 43 0 0 mX7_faultOf 131 [some (.ref 33), some (.int wa), some (.int (b2i ld)), some (.int (nI k)), some (.int (I 41 k)), some (.int (b2i (leafM t (I 41 k) ld))), some (.int 1)] [.int v] n (sysH (ov I S) (ovJ J T) X) Q := by
        intro hf v hv
        subst hv
        refine ev_ist_2 (q := 132) dX7_faultOf_131 rfl rfl ?_
        refine ev_iload_n (q := 133) dX7_faultOf_132 rfl rfl ?_
        refine ev_iload (q := 135) dX7_faultOf_133 rfl rfl ?_
        refine ev_if_eq (q := 138) 142 dX7_faultOf_135 (by decide) rfl (fun c_135 => ?_) (fun c_135 => ?_)
        · have c_135 := b2i_0.mp c_135
          refine ev_iload (q := 144) dX7_faultOf_142 rfl rfl ?_
          refine ev_callS1i (q := 147) dX7_faultOf_144 ca_X7_127 (c_X7_isPair _) (Nat.le_of_ble_eq_true rfl) (Nat.le_of_ble_eq_true rfl) (by decide) (by decide) rfl ?_
          refine ev_if_eq (q := 150) 154 dX7_faultOf_147 (by decide) rfl (fun c_147 => ?_) (fun c_147 => ?_)
          · have c_147 := b2i_0.mp c_147
            refine ev_iconst (q := 155) (0) dX7_faultOf_154 (by decide) rfl ?_
            exact J155 hf _ (by first | (simp [dlM, c_135]; done) | (simp [dlM, c_135, c_147]; done))
          · have c_147 := b2i_n0.mp c_147
            refine ev_iconst (q := 151) (1) dX7_faultOf_150 (by decide) rfl ?_
            refine ev_goto 155 dX7_faultOf_151 (by decide) ?_
            exact J155 hf _ (by first | (simp [dlM, c_135]; done) | (simp [dlM, c_135, c_147]; done))
        · have c_135 := b2i_n0.mp c_135
          refine ev_iconst (q := 139) (-1) dX7_faultOf_138 (by decide) rfl ?_
          refine ev_goto 155 dX7_faultOf_139 (by decide) ?_
          exact J155 hf _ (by first | (simp [dlM, c_135]; done) | (simp [dlM, c_135, c_147]; done))
      have J110 : ∀ v, v = b2i (fitsM t (I 41 k) k wa ld) → Ev xl xs 2 43 0 0 mX7_faultOf 110 [some (.ref 33), some (.int wa), some (.int (b2i ld)), some (.int (nI k)), some (.int (I 41 k)), some (.int (b2i (leafM t (I 41 k) ld))), a6] [.int v] n (sysH (ov I S) (ovJ J T) X) Q := by
        intro v hv
        cases hf : fitsM t (I 41 k) k wa ld with
        | false =>
          rw [hf] at hv
          subst hv
          refine ev_ist_6 (q := 112) dX7_faultOf_110 rfl rfl ?_
          refine ev_iload (q := 114) dX7_faultOf_112 rfl rfl ?_
          refine ev_if_ne (q := 117) 119 dX7_faultOf_114 (by decide) rfl (fun c_114 => ?_) (fun c_114 => ?_)
          · exact absurd rfl c_114
          · refine ev_iload_n (q := 118) dX7_faultOf_117 rfl rfl ?_
            exact ev_iretE dX7_faultOf_118 rfl rfl (by rw [hff, ffM, hf]; rfl) rfl rfl hQ
        | true =>
          rw [hf] at hv
          subst hv
          refine ev_ist_6 (q := 112) dX7_faultOf_110 rfl rfl ?_
          refine ev_iload (q := 114) dX7_faultOf_112 rfl rfl ?_
          refine ev_if_ne (q := 117) 119 dX7_faultOf_114 (by decide) rfl (fun c_114 => ?_) (fun c_114 => ?_)
          · refine ev_iload (q := 121) dX7_faultOf_119 rfl rfl ?_
            refine ev_bipush (q := 123) (126) dX7_faultOf_121 (by decide) rfl ?_
            refine ev_icmp_ne (q := 126) 130 dX7_faultOf_123 (by decide) rfl (fun c_123 => ?_) (fun c_123 => ?_)
            · have c_123 : ¬ I 41 k = 126 := c_123
              refine ev_iconst (q := 131) (0) dX7_faultOf_130 (by decide) rfl ?_
              exact J131 hf _ (by simp [c_123, b2i])
            · have c_123 : I 41 k = 126 := c_123
              refine ev_iconst (q := 127) (1) dX7_faultOf_126 (by decide) rfl ?_
              refine ev_goto 131 dX7_faultOf_127 (by decide) ?_
              exact J131 hf _ (by simp [c_123, b2i])
          · exact absurd c_114 (by decide)
      have J54 : ∀ v, v = b2i (leafM t (I 41 k) ld) → Ev xl xs 2 43 0 0 mX7_faultOf 54 [some (.ref 33), some (.int wa), some (.int (b2i ld)), some (.int (nI k)), some (.int (I 41 k)), a5, a6] [.int v] n (sysH (ov I S) (ovJ J T) X) Q := by
        intro v hv
        subst hv
        refine ev_ist_5 (q := 56) dX7_faultOf_54 rfl rfl ?_
        refine ev_iload_n (q := 57) dX7_faultOf_56 rfl rfl ?_
        refine ev_bipush (q := 59) (24) dX7_faultOf_57 (by decide) rfl ?_
        refine ev_icmp_ge (q := 62) 109 dX7_faultOf_59 (by decide) rfl (fun c_59 => ?_) (fun c_59 => ?_)
        · have c_59 : ¬ k < 24 := Nat.not_lt.mpr ((nI_leI (a := 24) (by omega) (by omega)).mp c_59)
          refine ev_iconst (q := 110) (0) dX7_faultOf_109 (by decide) rfl ?_
          exact J110 _ (by first | (simp [fitsM, b2i, c_59]; done) | (simp [fitsM, b2i, c_59, c_63, c_68]; done) | (simp [fitsM, b2i, c_59, c_63, c_75]; done) | (simp [fitsM, b2i, c_59, c_63, c_75, c_80]; done) | (simp [fitsM, b2i, c_59, c_63, c_75, c_80, c_87]; done) | (simp [fitsM, b2i, c_59, c_63, c_75, c_80, c_87, c_94]; done) | (simp [fitsM, b2i, c_59, c_63, c_75, c_80, c_87, c_94, c_102]; done))
        · have c_59 : k < 24 := Nat.not_le.mp fun h => c_59 ((nI_leI (a := 24) (by omega) (by omega)).mpr h)
          refine ev_iload_n (q := 63) dX7_faultOf_62 rfl rfl ?_
          refine ev_if_eq (q := 66) 74 dX7_faultOf_63 (by decide) rfl (fun c_63 => ?_) (fun c_63 => ?_)
          · have c_63 := b2i_0.mp c_63
            refine ev_iload_n (q := 75) dX7_faultOf_74 rfl rfl ?_
            refine ev_if_le (q := 78) 109 dX7_faultOf_75 (by decide) rfl (fun c_75 => ?_) (fun c_75 => ?_)
            · have c_75 : ¬ 0 < wa := fun h => absurd c_75 (by simp only [i_le, i_lt] at *; omega)
              refine ev_iconst (q := 110) (0) dX7_faultOf_109 (by decide) rfl ?_
              exact J110 _ (by first | (simp [fitsM, b2i, c_59]; done) | (simp [fitsM, b2i, c_59, c_63, c_68]; done) | (simp [fitsM, b2i, c_59, c_63, c_75]; done) | (simp [fitsM, b2i, c_59, c_63, c_75, c_80]; done) | (simp [fitsM, b2i, c_59, c_63, c_75, c_80, c_87]; done) | (simp [fitsM, b2i, c_59, c_63, c_75, c_80, c_87, c_94]; done) | (simp [fitsM, b2i, c_59, c_63, c_75, c_80, c_87, c_94, c_102]; done))
            · have c_75 : 0 < wa := by simp only [i_le, i_lt] at *; omega
              refine ev_iload (q := 80) dX7_faultOf_78 rfl rfl ?_
              refine ev_if_ne (q := 83) 105 dX7_faultOf_80 (by decide) rfl (fun c_80 => ?_) (fun c_80 => ?_)
              · have c_80 := b2i_ne.mp c_80
                rw [c_63] at c_80
                refine ev_iconst (q := 106) (1) dX7_faultOf_105 (by decide) rfl ?_
                refine ev_goto 110 dX7_faultOf_106 (by decide) ?_
                exact J110 _ (by first | (simp [fitsM, b2i, c_59]; done) | (simp [fitsM, b2i, c_59, c_63, c_68]; done) | (simp [fitsM, b2i, c_59, c_63, c_75]; done) | (simp [fitsM, b2i, c_59, c_63, c_75, c_80]; done) | (simp [fitsM, b2i, c_59, c_63, c_75, c_80, c_87]; done) | (simp [fitsM, b2i, c_59, c_63, c_75, c_80, c_87, c_94]; done) | (simp [fitsM, b2i, c_59, c_63, c_75, c_80, c_87, c_94, c_102]; done))
              · have c_80 := b2i_0.mp c_80
                rw [c_63] at c_80
                refine ev_iload (q := 85) dX7_faultOf_83 rfl rfl ?_
                refine ev_bipush (q := 87) (126) dX7_faultOf_85 (by decide) rfl ?_
                refine ev_icmp_eq (q := 90) 105 dX7_faultOf_87 (by decide) rfl (fun c_87 => ?_) (fun c_87 => ?_)
                · have c_87 : I 41 k = 126 := c_87
                  refine ev_iconst (q := 106) (1) dX7_faultOf_105 (by decide) rfl ?_
                  refine ev_goto 110 dX7_faultOf_106 (by decide) ?_
                  exact J110 _ (by first | (simp [fitsM, b2i, c_59]; done) | (simp [fitsM, b2i, c_59, c_63, c_68]; done) | (simp [fitsM, b2i, c_59, c_63, c_75]; done) | (simp [fitsM, b2i, c_59, c_63, c_75, c_80]; done) | (simp [fitsM, b2i, c_59, c_63, c_75, c_80, c_87]; done) | (simp [fitsM, b2i, c_59, c_63, c_75, c_80, c_87, c_94]; done) | (simp [fitsM, b2i, c_59, c_63, c_75, c_80, c_87, c_94, c_102]; done))
                · have c_87 : ¬ I 41 k = 126 := c_87
                  refine ev_iload (q := 92) dX7_faultOf_90 rfl rfl ?_
                  refine ev_bipush (q := 94) (45) dX7_faultOf_92 (by decide) rfl ?_
                  refine ev_icmp_eq (q := 97) 105 dX7_faultOf_94 (by decide) rfl (fun c_94 => ?_) (fun c_94 => ?_)
                  · have c_94 : I 41 k = 45 := c_94
                    refine ev_iconst (q := 106) (1) dX7_faultOf_105 (by decide) rfl ?_
                    refine ev_goto 110 dX7_faultOf_106 (by decide) ?_
                    exact J110 _ (by first | (simp [fitsM, b2i, c_59]; done) | (simp [fitsM, b2i, c_59, c_63, c_68]; done) | (simp [fitsM, b2i, c_59, c_63, c_75]; done) | (simp [fitsM, b2i, c_59, c_63, c_75, c_80]; done) | (simp [fitsM, b2i, c_59, c_63, c_75, c_80, c_87]; done) | (simp [fitsM, b2i, c_59, c_63, c_75, c_80, c_87, c_94]; done) | (simp [fitsM, b2i, c_59, c_63, c_75, c_80, c_87, c_94, c_102]; done))
                  · have c_94 : ¬ I 41 k = 45 := c_94
                    refine ev_iload (q := 99) dX7_faultOf_97 rfl rfl ?_
                    refine ev_callS1i (q := 102) dX7_faultOf_99 ca_X7_127 (c_X7_isPair _) (Nat.le_of_ble_eq_true rfl) (Nat.le_of_ble_eq_true rfl) (by decide) (by decide) rfl ?_
                    refine ev_if_eq (q := 105) 109 dX7_faultOf_102 (by decide) rfl (fun c_102 => ?_) (fun c_102 => ?_)
                    · have c_102 := b2i_0.mp c_102
                      refine ev_iconst (q := 110) (0) dX7_faultOf_109 (by decide) rfl ?_
                      exact J110 _ (by first | (simp [fitsM, b2i, c_59]; done) | (simp [fitsM, b2i, c_59, c_63, c_68]; done) | (simp [fitsM, b2i, c_59, c_63, c_75]; done) | (simp [fitsM, b2i, c_59, c_63, c_75, c_80]; done) | (simp [fitsM, b2i, c_59, c_63, c_75, c_80, c_87]; done) | (simp [fitsM, b2i, c_59, c_63, c_75, c_80, c_87, c_94]; done) | (simp [fitsM, b2i, c_59, c_63, c_75, c_80, c_87, c_94, c_102]; done))
                    · have c_102 := b2i_n0.mp c_102
                      refine ev_iconst (q := 106) (1) dX7_faultOf_105 (by decide) rfl ?_
                      refine ev_goto 110 dX7_faultOf_106 (by decide) ?_
                      exact J110 _ (by first | (simp [fitsM, b2i, c_59]; done) | (simp [fitsM, b2i, c_59, c_63, c_68]; done) | (simp [fitsM, b2i, c_59, c_63, c_75]; done) | (simp [fitsM, b2i, c_59, c_63, c_75, c_80]; done) | (simp [fitsM, b2i, c_59, c_63, c_75, c_80, c_87]; done) | (simp [fitsM, b2i, c_59, c_63, c_75, c_80, c_87, c_94]; done) | (simp [fitsM, b2i, c_59, c_63, c_75, c_80, c_87, c_94, c_102]; done))
          · have c_63 := b2i_n0.mp c_63
            refine ev_iload (q := 68) dX7_faultOf_66 rfl rfl ?_
            refine ev_if_eq (q := 71) 109 dX7_faultOf_68 (by decide) rfl (fun c_68 => ?_) (fun c_68 => ?_)
            · have c_68 := b2i_0.mp c_68
              rw [c_63] at c_68
              refine ev_iconst (q := 110) (0) dX7_faultOf_109 (by decide) rfl ?_
              exact J110 _ (by first | (simp [fitsM, b2i, c_59]; done) | (simp [fitsM, b2i, c_59, c_63, c_68]; done) | (simp [fitsM, b2i, c_59, c_63, c_75]; done) | (simp [fitsM, b2i, c_59, c_63, c_75, c_80]; done) | (simp [fitsM, b2i, c_59, c_63, c_75, c_80, c_87]; done) | (simp [fitsM, b2i, c_59, c_63, c_75, c_80, c_87, c_94]; done) | (simp [fitsM, b2i, c_59, c_63, c_75, c_80, c_87, c_94, c_102]; done))
            · have c_68 := b2i_n0.mp c_68
              rw [c_63] at c_68
              refine ev_goto 105 dX7_faultOf_71 (by decide) ?_
              refine ev_iconst (q := 106) (1) dX7_faultOf_105 (by decide) rfl ?_
              refine ev_goto 110 dX7_faultOf_106 (by decide) ?_
              exact J110 _ (by first | (simp [fitsM, b2i, c_59]; done) | (simp [fitsM, b2i, c_59, c_63, c_68]; done) | (simp [fitsM, b2i, c_59, c_63, c_75]; done) | (simp [fitsM, b2i, c_59, c_63, c_75, c_80]; done) | (simp [fitsM, b2i, c_59, c_63, c_75, c_80, c_87]; done) | (simp [fitsM, b2i, c_59, c_63, c_75, c_80, c_87, c_94]; done) | (simp [fitsM, b2i, c_59, c_63, c_75, c_80, c_87, c_94, c_102]; done))
      refine ev_iload_n (q := 7) dX7_faultOf_6 rfl rfl ?_
      refine ev_aload_n (q := 8) dX7_faultOf_7 rfl rfl ?_
      refine ev_get (q := 11) dX7_faultOf_8 fr_X7_121 rfl (lt_n hn (by decide)) rfl rfl ?_
      rw [show ov I S 33 16 = nI sg from hsg]
      refine ev_icmp_ge (q := 14) 163 dX7_faultOf_11 (by decide) rfl (fun c_11 => ?_) (fun c_11 => ?_)
      · exact absurd ((nI_leI (by omega) (by omega)).mp c_11) (by omega)
      · refine ev_aload_n (q := 15) dX7_faultOf_14 rfl rfl ?_
        refine ev_get (q := 18) dX7_faultOf_15 fr_X7_36 rfl (lt_n hn (by decide)) rfl rfl ?_
        refine ev_iload_n (q := 19) dX7_faultOf_18 rfl rfl ?_
        refine ev_iaS (q := 20) _ dX7_faultOf_19 rfl rfl (by omega) (lt_n hn (by decide)) rfl ?_
        refine ev_ist_4 (q := 22) dX7_faultOf_20 rfl rfl ?_
        refine ev_aload_n (q := 23) dX7_faultOf_22 rfl rfl ?_
        refine ev_iload (q := 25) dX7_faultOf_23 rfl rfl ?_
        refine ev_callV1i (q := 28) dX7_faultOf_25 ca_X7_124 (s_X7_isLetter hn hm _) rfl (lt_n hn (by decide)) rfl rfl (Nat.le_of_ble_eq_true rfl) (Nat.le_of_ble_eq_true rfl) (by decide) (by decide) rfl ?_
        refine ev_if_ne (q := 31) 49 dX7_faultOf_28 (by decide) rfl (fun c_28 => ?_) (fun c_28 => ?_)
        · have c_28 : isLt t (I 41 k) = true := b2i_ne.mp c_28
          refine ev_iconst (q := 50) (1) dX7_faultOf_49 (by decide) rfl ?_
          refine ev_goto 54 dX7_faultOf_50 (by decide) ?_
          exact J54 _ (by first | (simp [leafM, b2i, c_28]; done) | (simp [leafM, b2i, c_28, c_32]; done) | (simp [leafM, b2i, c_28, c_32, c_39]; done) | (simp [leafM, b2i, c_28, c_32, c_39, c_46]; done))
        · have c_28 : isLt t (I 41 k) = false := b2i_0.mp c_28
          refine ev_iload_n (q := 32) dX7_faultOf_31 rfl rfl ?_
          refine ev_if_ne (q := 35) 53 dX7_faultOf_32 (by decide) rfl (fun c_32 => ?_) (fun c_32 => ?_)
          · have c_32 := b2i_ne.mp c_32
            refine ev_iconst (q := 54) (0) dX7_faultOf_53 (by decide) rfl ?_
            exact J54 _ (by first | (simp [leafM, b2i, c_28]; done) | (simp [leafM, b2i, c_28, c_32]; done) | (simp [leafM, b2i, c_28, c_32, c_39]; done) | (simp [leafM, b2i, c_28, c_32, c_39, c_46]; done))
          · have c_32 := b2i_0.mp c_32
            refine ev_iload (q := 37) dX7_faultOf_35 rfl rfl ?_
            refine ev_bipush (q := 39) (48) dX7_faultOf_37 (by decide) rfl ?_
            refine ev_icmp_eq (q := 42) 49 dX7_faultOf_39 (by decide) rfl (fun c_39 => ?_) (fun c_39 => ?_)
            · have c_39 : I 41 k = 48 := c_39
              refine ev_iconst (q := 50) (1) dX7_faultOf_49 (by decide) rfl ?_
              refine ev_goto 54 dX7_faultOf_50 (by decide) ?_
              exact J54 _ (by first | (simp [leafM, b2i, c_28]; done) | (simp [leafM, b2i, c_28, c_32]; done) | (simp [leafM, b2i, c_28, c_32, c_39]; done) | (simp [leafM, b2i, c_28, c_32, c_39, c_46]; done))
            · have c_39 : ¬ I 41 k = 48 := c_39
              refine ev_iload (q := 44) dX7_faultOf_42 rfl rfl ?_
              refine ev_bipush (q := 46) (49) dX7_faultOf_44 (by decide) rfl ?_
              refine ev_icmp_ne (q := 49) 53 dX7_faultOf_46 (by decide) rfl (fun c_46 => ?_) (fun c_46 => ?_)
              · have c_46 : ¬ I 41 k = 49 := c_46
                refine ev_iconst (q := 54) (0) dX7_faultOf_53 (by decide) rfl ?_
                exact J54 _ (by first | (simp [leafM, b2i, c_28]; done) | (simp [leafM, b2i, c_28, c_32]; done) | (simp [leafM, b2i, c_28, c_32, c_39]; done) | (simp [leafM, b2i, c_28, c_32, c_39, c_46]; done))
              · have c_46 : I 41 k = 49 := c_46
                refine ev_iconst (q := 50) (1) dX7_faultOf_49 (by decide) rfl ?_
                refine ev_goto 54 dX7_faultOf_50 (by decide) ?_
                exact J54 _ (by first | (simp [leafM, b2i, c_28]; done) | (simp [leafM, b2i, c_28, c_32]; done) | (simp [leafM, b2i, c_28, c_32, c_39]; done) | (simp [leafM, b2i, c_28, c_32, c_39, c_46]; done))
  refine ev_iconst (q := 1) (1) dX7_faultOf_0 (by decide) rfl ?_
  refine ev_ist_1 (q := 2) dX7_faultOf_1 rfl rfl ?_
  refine ev_iconst (q := 3) (0) dX7_faultOf_2 (by decide) rfl ?_
  refine ev_ist_2 (q := 4) dX7_faultOf_3 rfl rfl ?_
  refine ev_iconst (q := 5) (0) dX7_faultOf_4 (by decide) rfl ?_
  refine ev_ist_3 (q := 6) dX7_faultOf_5 rfl rfl ?_
  exact lp sg 0 (by omega) 1 false _ _ _ rfl
theorem s_X7_fault {sg : Nat} (hn : 49 ≤ n) (hm : MI I t sl wy wi he) (hsg : I 33 16 = nI sg) (h40 : sg ≤ 40) : RnS xl xs 3 69 0 0 mX7_fault [.ref 33] n I J X (some (.int (ffM t (I 41) sg sg 0 1 false))) n I J X := by
  intro S T Q hQ
  show Ev xl xs 3 69 0 0 mX7_fault 0 [some (.ref 33)] [] n (sysH (ov I S) (ovJ J T) X) Q
  refine ev_aload_n (q := 1) dX7_fault_0 rfl rfl ?_
  refine ev_callV0i (q := 4) dX7_fault_1 ca_X7_130 (s_X7_faultOf hn hm hsg h40) rfl (lt_n hn (by decide)) rfl rfl (Nat.le_of_ble_eq_true rfl) (Nat.le_of_ble_eq_true rfl) (by decide) (by decide) rfl ?_
  exact ev_iretE dX7_fault_4 rfl rfl rfl rfl rfl (hQ _ _)
def lpS (S : Nat → Nat → Int32) (sg : Nat) (pd : Nat → Int32) : Nat → Nat → Int32 := fillA (setI S 33 (upd (S 33) 18 (nI sg))) 42 sg pd
theorem s_X7_layPad {sg : Nat} (hn : 49 ≤ n) (hm : MI I t sl wy wi he) (hsg : I 33 16 = nI sg) (h40 : sg ≤ 40) : Rn xl xs 0 0 0 0 mX7_layPad [.ref 33] n (sysH (ov I S) (ovJ J T) X) none n (sysH (ov I (lpS S sg (I 41))) (ovJ J T) X) := by
  intro Q hQ
  show Ev xl xs 0 0 0 0 mX7_layPad 0 [some (.ref 33), none] [] n (sysH (ov I S) (ovJ J T) X) Q
  have lp : ∀ j k, k + j = sg → Ev xl xs 0 0 0 0 mX7_layPad 10 [some (.ref 33), some (.int (nI k))] [] n (sysH (ov I (fillA (setI S 33 (upd (S 33) 18 (nI sg))) 42 k (I 41))) (ovJ J T) X) Q := by
    intro j
    induction j using Nat.strongRecOn with
    | _ j ih =>
      intro k hk
      refine ev_iload_n (q := 11) dX7_layPad_10 rfl rfl ?_
      refine ev_aload_n (q := 12) dX7_layPad_11 rfl rfl ?_
      refine ev_get (q := 15) dX7_layPad_12 fr_X7_121 rfl (lt_n hn (by decide)) rfl rfl ?_
      rw [show ov I (fillA (setI S 33 (upd (S 33) 18 (nI sg))) 42 k (I 41)) 33 16 = nI sg from hsg]
      refine ev_icmp_ge (q := 18) 36 dX7_layPad_15 (by decide) rfl (fun c_15 => ?_) (fun c_15 => ?_)
      · have c_15 : sg ≤ k := (nI_leI (by omega) (by omega)).mp c_15
        exact ev_retE dX7_layPad_36 rfl rfl (by rw [show k = sg by omega]; rfl) hQ
      · have c_15 : ¬ sg ≤ k := fun h => c_15 ((nI_leI (by omega) (by omega)).mpr h)
        refine ev_aload_n (q := 19) dX7_layPad_18 rfl rfl ?_
        refine ev_get (q := 22) dX7_layPad_19 fr_X7_39 rfl (lt_n hn (by decide)) rfl rfl ?_
        refine ev_iload_n (q := 23) dX7_layPad_22 rfl rfl ?_
        refine ev_aload_n (q := 24) dX7_layPad_23 rfl rfl ?_
        refine ev_get (q := 27) dX7_layPad_24 fr_X7_36 rfl (lt_n hn (by decide)) rfl rfl ?_
        refine ev_iload_n (q := 28) dX7_layPad_27 rfl rfl ?_
        refine ev_iaS (q := 29) _ dX7_layPad_28 rfl rfl (by omega) (lt_n hn (by decide)) rfl ?_
        refine ev_isS (q := 30) _ dX7_layPad_29 rfl rfl (by omega) (lt_n hn (by decide)) rfl ?_
        rw [ovf (p := 42) rfl, show ov I (fillA (setI S 33 (upd (S 33) 18 (nI sg))) 42 k (I 41)) 41 k = I 41 k from rfl, fillA_s]
        refine ev_inc_1 (q := 33) (nI (k + 1)) dX7_layPad_30 (nI_1 k) rfl rfl ?_
        refine ev_goto 10 dX7_layPad_33 (by decide) ?_
        exact ih (j - 1) (by omega) (k + 1) (by omega)
  refine ev_aload_n (q := 1) dX7_layPad_0 rfl rfl ?_
  refine ev_aload_n (q := 2) dX7_layPad_1 rfl rfl ?_
  refine ev_get (q := 5) dX7_layPad_2 fr_X7_121 rfl (lt_n hn (by decide)) rfl rfl ?_
  rw [show ov I S 33 16 = nI sg from hsg]
  first | refine ev_putIK (q := 8) dX7_layPad_5 fa_X7_133 rfl (by decide) (lt_n hn (by decide)) (Nat.le_of_ble_eq_true rfl) ⟨rfl, rfl⟩ rfl rfl rfl ?_ | refine ev_putIR (q := 8) dX7_layPad_5 fa_X7_133 rfl (by decide) (lt_n hn (by decide)) (Nat.le_of_ble_eq_true rfl) ⟨rfl, rfl⟩ rfl rfl rfl ?_
  refine ev_iconst (q := 9) (0) dX7_layPad_8 (by decide) rfl ?_
  refine ev_ist_1 (q := 10) dX7_layPad_9 rfl rfl ?_
  have e := lp sg 0 (by omega)
  rw [fillA_0] at e
  exact e
end MODEL13
