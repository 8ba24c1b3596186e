theorem dX4_begin_0 : decode cX4_begin 0 = .ok (.aload_n 0, 1) := by decide +kernel
theorem dX4_begin_1 : decode cX4_begin 1 = .ok (.iload_n 1, 1) := by decide +kernel
theorem dX4_begin_2 : decode cX4_begin 2 = .ok (.putfield 34, 3) := by decide +kernel
theorem dX4_begin_5 : decode cX4_begin 5 = .ok (.aload_n 0, 1) := by decide +kernel
theorem dX4_begin_6 : decode cX4_begin 6 = .ok (.iconst 0, 1) := by decide +kernel
theorem dX4_begin_7 : decode cX4_begin 7 = .ok (.putfield 38, 3) := by decide +kernel
theorem dX4_begin_10 : decode cX4_begin 10 = .ok (.aload_n 0, 1) := by decide +kernel
theorem dX4_begin_11 : decode cX4_begin 11 = .ok (.iconst 0, 1) := by decide +kernel
theorem dX4_begin_12 : decode cX4_begin 12 = .ok (.putfield 41, 3) := by decide +kernel
theorem dX4_begin_15 : decode cX4_begin 15 = .ok (.aload_n 0, 1) := by decide +kernel
theorem dX4_begin_16 : decode cX4_begin 16 = .ok (.iconst 0, 1) := by decide +kernel
theorem dX4_begin_17 : decode cX4_begin 17 = .ok (.putfield 44, 3) := by decide +kernel
theorem dX4_begin_20 : decode cX4_begin 20 = .ok (.aload_n 0, 1) := by decide +kernel
theorem dX4_begin_21 : decode cX4_begin 21 = .ok (.bipush 6, 2) := by decide +kernel
theorem dX4_begin_23 : decode cX4_begin 23 = .ok (.putfield 47, 3) := by decide +kernel
theorem dX4_begin_26 : decode cX4_begin 26 = .ok (.aload_n 0, 1) := by decide +kernel
theorem dX4_begin_27 : decode cX4_begin 27 = .ok (.aload_n 0, 1) := by decide +kernel
theorem dX4_begin_28 : decode cX4_begin 28 = .ok (.invokevirtual 50, 3) := by decide +kernel
theorem dX4_begin_31 : decode cX4_begin 31 = .ok (.putfield 54, 3) := by decide +kernel
theorem dX4_begin_34 : decode cX4_begin 34 = .ok (.iconst 0, 1) := by decide +kernel
theorem dX4_begin_35 : decode cX4_begin 35 = .ok (.istore_n 2, 1) := by decide +kernel
theorem dX4_begin_36 : decode cX4_begin 36 = .ok (.iload_n 2, 1) := by decide +kernel
theorem dX4_begin_37 : decode cX4_begin 37 = .ok (.aload_n 0, 1) := by decide +kernel
theorem dX4_begin_38 : decode cX4_begin 38 = .ok (.getfield 9, 3) := by decide +kernel
theorem dX4_begin_41 : decode cX4_begin 41 = .ok (.arraylength, 1) := by decide +kernel
theorem dX4_begin_42 : decode cX4_begin 42 = .ok (.if_icmp .ge 16, 3) := by decide +kernel
theorem dX4_begin_45 : decode cX4_begin 45 = .ok (.aload_n 0, 1) := by decide +kernel
theorem dX4_begin_46 : decode cX4_begin 46 = .ok (.getfield 9, 3) := by decide +kernel
theorem dX4_begin_49 : decode cX4_begin 49 = .ok (.iload_n 2, 1) := by decide +kernel
theorem dX4_begin_50 : decode cX4_begin 50 = .ok (.iconst 0, 1) := by decide +kernel
theorem dX4_begin_51 : decode cX4_begin 51 = .ok (.iastore, 1) := by decide +kernel
theorem dX4_begin_52 : decode cX4_begin 52 = .ok (.iinc 2 1, 3) := by decide +kernel
theorem dX4_begin_55 : decode cX4_begin 55 = .ok (.goto (-19), 3) := by decide +kernel
theorem dX4_begin_58 : decode cX4_begin 58 = .ok (.iconst 0, 1) := by decide +kernel
theorem dX4_begin_59 : decode cX4_begin 59 = .ok (.istore_n 2, 1) := by decide +kernel
theorem dX4_begin_60 : decode cX4_begin 60 = .ok (.iload_n 2, 1) := by decide +kernel
theorem dX4_begin_61 : decode cX4_begin 61 = .ok (.bipush 6, 2) := by decide +kernel
theorem dX4_begin_63 : decode cX4_begin 63 = .ok (.if_icmp .ge 16, 3) := by decide +kernel
theorem dX4_begin_66 : decode cX4_begin 66 = .ok (.aload_n 0, 1) := by decide +kernel
theorem dX4_begin_67 : decode cX4_begin 67 = .ok (.getfield 15, 3) := by decide +kernel
theorem dX4_begin_70 : decode cX4_begin 70 = .ok (.iload_n 2, 1) := by decide +kernel
theorem dX4_begin_71 : decode cX4_begin 71 = .ok (.iconst 0, 1) := by decide +kernel
theorem dX4_begin_72 : decode cX4_begin 72 = .ok (.iastore, 1) := by decide +kernel
theorem dX4_begin_73 : decode cX4_begin 73 = .ok (.iinc 2 1, 3) := by decide +kernel
theorem dX4_begin_76 : decode cX4_begin 76 = .ok (.goto (-16), 3) := by decide +kernel
theorem dX4_begin_79 : decode cX4_begin 79 = .ok (.iconst 0, 1) := by decide +kernel
theorem dX4_begin_80 : decode cX4_begin 80 = .ok (.istore_n 2, 1) := by decide +kernel
theorem dX4_begin_81 : decode cX4_begin 81 = .ok (.iload_n 2, 1) := by decide +kernel
theorem dX4_begin_82 : decode cX4_begin 82 = .ok (.iconst 4, 1) := by decide +kernel
theorem dX4_begin_83 : decode cX4_begin 83 = .ok (.if_icmp .ge 25, 3) := by decide +kernel
theorem dX4_begin_86 : decode cX4_begin 86 = .ok (.aload_n 0, 1) := by decide +kernel
theorem dX4_begin_87 : decode cX4_begin 87 = .ok (.getfield 18, 3) := by decide +kernel
theorem dX4_begin_90 : decode cX4_begin 90 = .ok (.iload_n 2, 1) := by decide +kernel
theorem dX4_begin_91 : decode cX4_begin 91 = .ok (.iload_n 2, 1) := by decide +kernel
theorem dX4_begin_92 : decode cX4_begin 92 = .ok (.ifCond .ne 8, 3) := by decide +kernel
theorem dX4_begin_95 : decode cX4_begin 95 = .ok (.bipush 6, 2) := by decide +kernel
theorem dX4_begin_97 : decode cX4_begin 97 = .ok (.goto 4, 3) := by decide +kernel
theorem dX4_begin_100 : decode cX4_begin 100 = .ok (.iconst 0, 1) := by decide +kernel
theorem dX4_begin_101 : decode cX4_begin 101 = .ok (.iastore, 1) := by decide +kernel
theorem dX4_begin_102 : decode cX4_begin 102 = .ok (.iinc 2 1, 3) := by decide +kernel
theorem dX4_begin_105 : decode cX4_begin 105 = .ok (.goto (-24), 3) := by decide +kernel
theorem dX4_begin_108 : decode cX4_begin 108 = .ok (.aload_n 0, 1) := by decide +kernel
theorem dX4_begin_109 : decode cX4_begin 109 = .ok (.iconst 0, 1) := by decide +kernel
theorem dX4_begin_110 : decode cX4_begin 110 = .ok (.putfield 58, 3) := by decide +kernel
theorem dX4_begin_113 : decode cX4_begin 113 = .ok (.aload_n 0, 1) := by decide +kernel
theorem dX4_begin_114 : decode cX4_begin 114 = .ok (.invokevirtual 61, 3) := by decide +kernel
theorem dX4_begin_117 : decode cX4_begin 117 = .ok (.return_, 1) := by decide +kernel
theorem dX5_listFor_0 : decode cX5_listFor 0 = .ok (.iload_n 1, 1) := by decide +kernel
theorem dX5_listFor_1 : decode cX5_listFor 1 = .ok (.iconst 2, 1) := by decide +kernel
theorem dX5_listFor_2 : decode cX5_listFor 2 = .ok (.if_icmp .lt 21, 3) := by decide +kernel
theorem dX5_listFor_5 : decode cX5_listFor 5 = .ok (.iload_n 1, 1) := by decide +kernel
theorem dX5_listFor_6 : decode cX5_listFor 6 = .ok (.bipush 6, 2) := by decide +kernel
theorem dX5_listFor_8 : decode cX5_listFor 8 = .ok (.if_icmp .gt 15, 3) := by decide +kernel
theorem dX5_listFor_11 : decode cX5_listFor 11 = .ok (.aload_n 0, 1) := by decide +kernel
theorem dX5_listFor_12 : decode cX5_listFor 12 = .ok (.getfield 25, 3) := by decide +kernel
theorem dX5_listFor_15 : decode cX5_listFor 15 = .ok (.getstatic 29, 3) := by decide +kernel
theorem dX5_listFor_18 : decode cX5_listFor 18 = .ok (.iload_n 1, 1) := by decide +kernel
theorem dX5_listFor_19 : decode cX5_listFor 19 = .ok (.iaload, 1) := by decide +kernel
theorem dX5_listFor_20 : decode cX5_listFor 20 = .ok (.if_icmp .ne 4, 3) := by decide +kernel
theorem dX5_listFor_23 : decode cX5_listFor 23 = .ok (.return_, 1) := by decide +kernel
theorem dX5_listFor_24 : decode cX5_listFor 24 = .ok (.aload_n 0, 1) := by decide +kernel
theorem dX5_listFor_25 : decode cX5_listFor 25 = .ok (.getstatic 29, 3) := by decide +kernel
theorem dX5_listFor_28 : decode cX5_listFor 28 = .ok (.iload_n 1, 1) := by decide +kernel
theorem dX5_listFor_29 : decode cX5_listFor 29 = .ok (.iaload, 1) := by decide +kernel
theorem dX5_listFor_30 : decode cX5_listFor 30 = .ok (.putfield 25, 3) := by decide +kernel
theorem dX5_listFor_33 : decode cX5_listFor 33 = .ok (.aload_n 0, 1) := by decide +kernel
theorem dX5_listFor_34 : decode cX5_listFor 34 = .ok (.getfield 9, 3) := by decide +kernel
theorem dX5_listFor_37 : decode cX5_listFor 37 = .ok (.iconst 0, 1) := by decide +kernel
theorem dX5_listFor_38 : decode cX5_listFor 38 = .ok (.iconst 0, 1) := by decide +kernel
theorem dX5_listFor_39 : decode cX5_listFor 39 = .ok (.iastore, 1) := by decide +kernel
theorem dX5_listFor_40 : decode cX5_listFor 40 = .ok (.aload_n 0, 1) := by decide +kernel
theorem dX5_listFor_41 : decode cX5_listFor 41 = .ok (.getfield 15, 3) := by decide +kernel
theorem dX5_listFor_44 : decode cX5_listFor 44 = .ok (.iconst 0, 1) := by decide +kernel
theorem dX5_listFor_45 : decode cX5_listFor 45 = .ok (.iconst 0, 1) := by decide +kernel
theorem dX5_listFor_46 : decode cX5_listFor 46 = .ok (.iastore, 1) := by decide +kernel
theorem dX5_listFor_47 : decode cX5_listFor 47 = .ok (.aload_n 0, 1) := by decide +kernel
theorem dX5_listFor_48 : decode cX5_listFor 48 = .ok (.getfield 18, 3) := by decide +kernel
theorem dX5_listFor_51 : decode cX5_listFor 51 = .ok (.iconst 0, 1) := by decide +kernel
theorem dX5_listFor_52 : decode cX5_listFor 52 = .ok (.ldc2_w 32, 3) := by decide +kernel
theorem dX5_listFor_55 : decode cX5_listFor 55 = .ok (.lastore, 1) := by decide +kernel
theorem dX5_listFor_56 : decode cX5_listFor 56 = .ok (.iconst 0, 1) := by decide +kernel
theorem dX5_listFor_57 : decode cX5_listFor 57 = .ok (.istore_n 2, 1) := by decide +kernel
theorem dX5_listFor_58 : decode cX5_listFor 58 = .ok (.iload_n 2, 1) := by decide +kernel
theorem dX5_listFor_59 : decode cX5_listFor 59 = .ok (.iload_n 1, 1) := by decide +kernel
theorem dX5_listFor_60 : decode cX5_listFor 60 = .ok (.if_icmp .ge 140, 3) := by decide +kernel
theorem dX5_listFor_63 : decode cX5_listFor 63 = .ok (.getstatic 29, 3) := by decide +kernel
theorem dX5_listFor_66 : decode cX5_listFor 66 = .ok (.iload_n 2, 1) := by decide +kernel
theorem dX5_listFor_67 : decode cX5_listFor 67 = .ok (.iconst 1, 1) := by decide +kernel
theorem dX5_listFor_68 : decode cX5_listFor 68 = .ok (.iadd, 1) := by decide +kernel
theorem dX5_listFor_69 : decode cX5_listFor 69 = .ok (.iaload, 1) := by decide +kernel
theorem dX5_listFor_70 : decode cX5_listFor 70 = .ok (.iconst 1, 1) := by decide +kernel
theorem dX5_listFor_71 : decode cX5_listFor 71 = .ok (.isub, 1) := by decide +kernel
theorem dX5_listFor_72 : decode cX5_listFor 72 = .ok (.istore_n 3, 1) := by decide +kernel
theorem dX5_listFor_73 : decode cX5_listFor 73 = .ok (.iload_n 3, 1) := by decide +kernel
theorem dX5_listFor_74 : decode cX5_listFor 74 = .ok (.ifCond .lt 120, 3) := by decide +kernel
theorem dX5_listFor_77 : decode cX5_listFor 77 = .ok (.iload_n 3, 1) := by decide +kernel
theorem dX5_listFor_78 : decode cX5_listFor 78 = .ok (.iconst 3, 1) := by decide +kernel
theorem dX5_listFor_79 : decode cX5_listFor 79 = .ok (.idiv, 1) := by decide +kernel
theorem dX5_listFor_80 : decode cX5_listFor 80 = .ok (.istore 4, 2) := by decide +kernel
theorem dX5_listFor_82 : decode cX5_listFor 82 = .ok (.iload_n 3, 1) := by decide +kernel
theorem dX5_listFor_83 : decode cX5_listFor 83 = .ok (.iconst 3, 1) := by decide +kernel
theorem dX5_listFor_84 : decode cX5_listFor 84 = .ok (.irem, 1) := by decide +kernel
theorem dX5_listFor_85 : decode cX5_listFor 85 = .ok (.istore 5, 2) := by decide +kernel
theorem dX5_listFor_87 : decode cX5_listFor 87 = .ok (.aload_n 0, 1) := by decide +kernel
theorem dX5_listFor_88 : decode cX5_listFor 88 = .ok (.getfield 9, 3) := by decide +kernel
theorem dX5_listFor_91 : decode cX5_listFor 91 = .ok (.iload_n 3, 1) := by decide +kernel
theorem dX5_listFor_92 : decode cX5_listFor 92 = .ok (.aload_n 0, 1) := by decide +kernel
theorem dX5_listFor_93 : decode cX5_listFor 93 = .ok (.getfield 9, 3) := by decide +kernel
theorem dX5_listFor_96 : decode cX5_listFor 96 = .ok (.iload 4, 2) := by decide +kernel
theorem dX5_listFor_98 : decode cX5_listFor 98 = .ok (.iaload, 1) := by decide +kernel
theorem dX5_listFor_99 : decode cX5_listFor 99 = .ok (.iload 5, 2) := by decide +kernel
theorem dX5_listFor_101 : decode cX5_listFor 101 = .ok (.ifCond .eq 9, 3) := by decide +kernel
theorem dX5_listFor_104 : decode cX5_listFor 104 = .ok (.iconst 1, 1) := by decide +kernel
theorem dX5_listFor_105 : decode cX5_listFor 105 = .ok (.iload_n 2, 1) := by decide +kernel
theorem dX5_listFor_106 : decode cX5_listFor 106 = .ok (.ishl, 1) := by decide +kernel
theorem dX5_listFor_107 : decode cX5_listFor 107 = .ok (.goto 4, 3) := by decide +kernel
theorem dX5_listFor_110 : decode cX5_listFor 110 = .ok (.iconst 0, 1) := by decide +kernel
theorem dX5_listFor_111 : decode cX5_listFor 111 = .ok (.ior, 1) := by decide +kernel
theorem dX5_listFor_112 : decode cX5_listFor 112 = .ok (.iastore, 1) := by decide +kernel
theorem dX5_listFor_113 : decode cX5_listFor 113 = .ok (.aload_n 0, 1) := by decide +kernel
theorem dX5_listFor_114 : decode cX5_listFor 114 = .ok (.getfield 15, 3) := by decide +kernel
theorem dX5_listFor_117 : decode cX5_listFor 117 = .ok (.iload_n 3, 1) := by decide +kernel
theorem dX5_listFor_118 : decode cX5_listFor 118 = .ok (.aload_n 0, 1) := by decide +kernel
theorem dX5_listFor_119 : decode cX5_listFor 119 = .ok (.getfield 15, 3) := by decide +kernel
theorem dX5_listFor_122 : decode cX5_listFor 122 = .ok (.iload 4, 2) := by decide +kernel
theorem dX5_listFor_124 : decode cX5_listFor 124 = .ok (.iaload, 1) := by decide +kernel
theorem dX5_listFor_125 : decode cX5_listFor 125 = .ok (.iload 5, 2) := by decide +kernel
theorem dX5_listFor_127 : decode cX5_listFor 127 = .ok (.iconst 1, 1) := by decide +kernel
theorem dX5_listFor_128 : decode cX5_listFor 128 = .ok (.if_icmp .ne 9, 3) := by decide +kernel
theorem dX5_listFor_131 : decode cX5_listFor 131 = .ok (.iconst 1, 1) := by decide +kernel
theorem dX5_listFor_132 : decode cX5_listFor 132 = .ok (.iload_n 2, 1) := by decide +kernel
theorem dX5_listFor_133 : decode cX5_listFor 133 = .ok (.ishl, 1) := by decide +kernel
theorem dX5_listFor_134 : decode cX5_listFor 134 = .ok (.goto 4, 3) := by decide +kernel
theorem dX5_listFor_137 : decode cX5_listFor 137 = .ok (.iconst 0, 1) := by decide +kernel
theorem dX5_listFor_138 : decode cX5_listFor 138 = .ok (.ior, 1) := by decide +kernel
theorem dX5_listFor_139 : decode cX5_listFor 139 = .ok (.iastore, 1) := by decide +kernel
theorem dX5_listFor_140 : decode cX5_listFor 140 = .ok (.aload_n 0, 1) := by decide +kernel
theorem dX5_listFor_141 : decode cX5_listFor 141 = .ok (.getfield 18, 3) := by decide +kernel
theorem dX5_listFor_144 : decode cX5_listFor 144 = .ok (.iload_n 3, 1) := by decide +kernel
theorem dX5_listFor_145 : decode cX5_listFor 145 = .ok (.aload_n 0, 1) := by decide +kernel
theorem dX5_listFor_146 : decode cX5_listFor 146 = .ok (.getfield 18, 3) := by decide +kernel
theorem dX5_listFor_149 : decode cX5_listFor 149 = .ok (.iload 4, 2) := by decide +kernel
theorem dX5_listFor_151 : decode cX5_listFor 151 = .ok (.laload, 1) := by decide +kernel
theorem dX5_listFor_152 : decode cX5_listFor 152 = .ok (.iload 5, 2) := by decide +kernel
theorem dX5_listFor_154 : decode cX5_listFor 154 = .ok (.ifCond .ne 9, 3) := by decide +kernel
theorem dX5_listFor_157 : decode cX5_listFor 157 = .ok (.ldc2_w 32, 3) := by decide +kernel
theorem dX5_listFor_160 : decode cX5_listFor 160 = .ok (.goto 26, 3) := by decide +kernel
theorem dX5_listFor_163 : decode cX5_listFor 163 = .ok (.iload 5, 2) := by decide +kernel
theorem dX5_listFor_165 : decode cX5_listFor 165 = .ok (.iconst 1, 1) := by decide +kernel
theorem dX5_listFor_166 : decode cX5_listFor 166 = .ok (.if_icmp .ne 11, 3) := by decide +kernel
theorem dX5_listFor_169 : decode cX5_listFor 169 = .ok (.getstatic 34, 3) := by decide +kernel
theorem dX5_listFor_172 : decode cX5_listFor 172 = .ok (.iload_n 2, 1) := by decide +kernel
theorem dX5_listFor_173 : decode cX5_listFor 173 = .ok (.laload, 1) := by decide +kernel
theorem dX5_listFor_174 : decode cX5_listFor 174 = .ok (.goto 12, 3) := by decide +kernel
theorem dX5_listFor_177 : decode cX5_listFor 177 = .ok (.getstatic 34, 3) := by decide +kernel
theorem dX5_listFor_180 : decode cX5_listFor 180 = .ok (.iload_n 2, 1) := by decide +kernel
theorem dX5_listFor_181 : decode cX5_listFor 181 = .ok (.laload, 1) := by decide +kernel
theorem dX5_listFor_182 : decode cX5_listFor 182 = .ok (.ldc2_w 32, 3) := by decide +kernel
theorem dX5_listFor_185 : decode cX5_listFor 185 = .ok (.lxor, 1) := by decide +kernel
theorem dX5_listFor_186 : decode cX5_listFor 186 = .ok (.land, 1) := by decide +kernel
theorem dX5_listFor_187 : decode cX5_listFor 187 = .ok (.lastore, 1) := by decide +kernel
theorem dX5_listFor_188 : decode cX5_listFor 188 = .ok (.iinc 3 (-1), 3) := by decide +kernel
theorem dX5_listFor_191 : decode cX5_listFor 191 = .ok (.goto (-118), 3) := by decide +kernel
theorem dX5_listFor_194 : decode cX5_listFor 194 = .ok (.iinc 2 1, 3) := by decide +kernel
theorem dX5_listFor_197 : decode cX5_listFor 197 = .ok (.goto (-139), 3) := by decide +kernel
theorem dX5_listFor_200 : decode cX5_listFor 200 = .ok (.iconst 0, 1) := by decide +kernel
theorem dX5_listFor_201 : decode cX5_listFor 201 = .ok (.istore_n 2, 1) := by decide +kernel
theorem dX5_listFor_202 : decode cX5_listFor 202 = .ok (.iload_n 2, 1) := by decide +kernel
theorem dX5_listFor_203 : decode cX5_listFor 203 = .ok (.aload_n 0, 1) := by decide +kernel
theorem dX5_listFor_204 : decode cX5_listFor 204 = .ok (.getfield 25, 3) := by decide +kernel
theorem dX5_listFor_207 : decode cX5_listFor 207 = .ok (.if_icmp .ge 36, 3) := by decide +kernel
theorem dX5_listFor_210 : decode cX5_listFor 210 = .ok (.aload_n 0, 1) := by decide +kernel
theorem dX5_listFor_211 : decode cX5_listFor 211 = .ok (.getfield 9, 3) := by decide +kernel
theorem dX5_listFor_214 : decode cX5_listFor 214 = .ok (.iload_n 2, 1) := by decide +kernel
theorem dX5_listFor_215 : decode cX5_listFor 215 = .ok (.iaload, 1) := by decide +kernel
theorem dX5_listFor_216 : decode cX5_listFor 216 = .ok (.aload_n 0, 1) := by decide +kernel
theorem dX5_listFor_217 : decode cX5_listFor 217 = .ok (.getfield 15, 3) := by decide +kernel
theorem dX5_listFor_220 : decode cX5_listFor 220 = .ok (.iload_n 2, 1) := by decide +kernel
theorem dX5_listFor_221 : decode cX5_listFor 221 = .ok (.iaload, 1) := by decide +kernel
theorem dX5_listFor_222 : decode cX5_listFor 222 = .ok (.if_icmp .ne 15, 3) := by decide +kernel
theorem dX5_listFor_225 : decode cX5_listFor 225 = .ok (.aload_n 0, 1) := by decide +kernel
theorem dX5_listFor_226 : decode cX5_listFor 226 = .ok (.getfield 22, 3) := by decide +kernel
theorem dX5_listFor_229 : decode cX5_listFor 229 = .ok (.aload_n 0, 1) := by decide +kernel
theorem dX5_listFor_230 : decode cX5_listFor 230 = .ok (.getfield 15, 3) := by decide +kernel
theorem dX5_listFor_233 : decode cX5_listFor 233 = .ok (.iload_n 2, 1) := by decide +kernel
theorem dX5_listFor_234 : decode cX5_listFor 234 = .ok (.iaload, 1) := by decide +kernel
theorem dX5_listFor_235 : decode cX5_listFor 235 = .ok (.iload_n 2, 1) := by decide +kernel
theorem dX5_listFor_236 : decode cX5_listFor 236 = .ok (.iastore, 1) := by decide +kernel
theorem dX5_listFor_237 : decode cX5_listFor 237 = .ok (.iinc 2 1, 3) := by decide +kernel
theorem dX5_listFor_240 : decode cX5_listFor 240 = .ok (.goto (-38), 3) := by decide +kernel
theorem dX5_listFor_243 : decode cX5_listFor 243 = .ok (.return_, 1) := by decide +kernel
theorem dX6_things_0 : decode cX6_things 0 = .ok (.iload_n 1, 1) := by decide +kernel
theorem dX6_things_1 : decode cX6_things 1 = .ok (.iconst 2, 1) := by decide +kernel
theorem dX6_things_2 : decode cX6_things 2 = .ok (.if_icmp .lt 9, 3) := by decide +kernel
theorem dX6_things_5 : decode cX6_things 5 = .ok (.iload_n 1, 1) := by decide +kernel
theorem dX6_things_6 : decode cX6_things 6 = .ok (.bipush 6, 2) := by decide +kernel
theorem dX6_things_8 : decode cX6_things 8 = .ok (.if_icmp .le 6, 3) := by decide +kernel
theorem dX6_things_11 : decode cX6_things 11 = .ok (.bipush (-2), 2) := by decide +kernel
theorem dX6_things_13 : decode cX6_things 13 = .ok (.ireturn, 1) := by decide +kernel
theorem dX6_things_14 : decode cX6_things 14 = .ok (.aload_n 0, 1) := by decide +kernel
theorem dX6_things_15 : decode cX6_things 15 = .ok (.getfield 10, 3) := by decide +kernel
theorem dX6_things_18 : decode cX6_things 18 = .ok (.getfield 74, 3) := by decide +kernel
theorem dX6_things_21 : decode cX6_things 21 = .ok (.istore_n 2, 1) := by decide +kernel
theorem dX6_things_22 : decode cX6_things 22 = .ok (.aload_n 0, 1) := by decide +kernel
theorem dX6_things_23 : decode cX6_things 23 = .ok (.getfield 10, 3) := by decide +kernel
theorem dX6_things_26 : decode cX6_things 26 = .ok (.iload_n 1, 1) := by decide +kernel
theorem dX6_things_27 : decode cX6_things 27 = .ok (.invokevirtual 67, 3) := by decide +kernel
theorem dX6_things_30 : decode cX6_things 30 = .ok (.aload_n 0, 1) := by decide +kernel
theorem dX6_things_31 : decode cX6_things 31 = .ok (.getfield 33, 3) := by decide +kernel
theorem dX6_things_34 : decode cX6_things 34 = .ok (.iload_n 1, 1) := by decide +kernel
theorem dX6_things_35 : decode cX6_things 35 = .ok (.invokevirtual 71, 3) := by decide +kernel
theorem dX6_things_38 : decode cX6_things 38 = .ok (.iload_n 2, 1) := by decide +kernel
theorem dX6_things_39 : decode cX6_things 39 = .ok (.ireturn, 1) := by decide +kernel
theorem lt_n3 {p n : Nat} (hn : 33 ≤ n) (hp : p < 33) : p < n := Nat.lt_of_lt_of_le hp hn
def bgI (I : Nat → Nat → Int32) (m : Nat) : Nat → Nat → Int32 := wr (wr (wr (fillA (fillA (fillA (wr (wr (wr (wr (wr I 1 0 (nI m)) 1 1 0) 1 2 0) 1 3 0) 1 4 6) 2 24 z24) 3 6 z24) 4 4 s6f) 1 10 0) 1 12 0) 1 15 0
def bgJ (J : Nat → Nat → Int64) (m : Nat) : Nat → Nat → Int64 := fillJ (wrJ J 1 5 (allL m)) 6 12 (fun _ => -1)
/-- a row of the list of terms of i things -/
def SP (I : Nat → Nat → Int32) (J : Nat → Nat → Int64) (i k : Nat) : Prop := I 17 k = nI (tmask 1 i k i ||| tmask 2 i k i) ∧ I 18 k = nI (tmask 1 i k i) ∧ ∀ w, w < 64 → lbit (J 19 k) w = (decide (w &&& tmask 1 i k i = tmask 1 i k i) && decide (w &&& tmask 2 i k i = 0))
theorem tm_suc {v i k : Nat} : tmask v (i + 1) k (i + 1) = tmask v i (k / 3) i ||| (if k % 3 = v then 2 ^ i else 0) := by
  apply Nat.eq_of_testBit_eq
  intro j
  rw [Nat.testBit_or, tm_bit, tm_bit]
  unfold dig
  have hb : (if k % 3 = v then 2 ^ i else 0).testBit j = (decide (j = i) && decide (k % 3 = v)) := by
    by_cases c : k % 3 = v
    · rw [if_pos c, Nat.testBit_two_pow, decide_eq_true c, Bool.and_true]
      exact decide_eq_decide.mpr ⟨fun h => h.symm, fun h => h.symm⟩
    · rw [if_neg c, Nat.zero_testBit, decide_eq_false c, Bool.and_false]
  rw [hb]
  by_cases h : j = i
  · subst h
    rw [show j + 1 - 1 - j = 0 by omega, Nat.pow_zero, Nat.div_one]
    simp
  · by_cases h2 : j < i
    · have e : k / 3 ^ (i + 1 - 1 - j) = k / 3 / 3 ^ (i - 1 - j) := by
        rw [Nat.div_div_eq_div_mul, show i + 1 - 1 - j = (i - 1 - j) + 1 by omega, Nat.pow_succ, Nat.mul_comm]
      rw [e, decide_eq_false h, decide_eq_true h2, decide_eq_true (show j < i + 1 by omega)]
      simp
    · rw [decide_eq_false h, decide_eq_false h2, decide_eq_false (show ¬ j < i + 1 by omega)]
      simp
theorem or_sub {w a i : Nat} : (w &&& (a ||| 2 ^ i) = a ||| 2 ^ i) ↔ (w &&& a = a ∧ w.testBit i = true) := by
  rw [ba_eq, ba_eq]
  constructor
  · intro h
    refine ⟨fun j hj => h j (by rw [Nat.testBit_or, hj, Bool.true_or]), h i (by rw [Nat.testBit_or, Nat.testBit_two_pow]; simp)⟩
  · intro ⟨h1, h2⟩ j hj
    rw [Nat.testBit_or, Nat.testBit_two_pow, Bool.or_eq_true, decide_eq_true_eq] at hj
    rcases hj with hj | hj
    · exact h1 j hj
    · rw [← hj]; exact h2
theorem or_dis {w a i : Nat} : (w &&& (a ||| 2 ^ i) = 0) ↔ (w &&& a = 0 ∧ w.testBit i = false) := by
  rw [ba_0, ba_0]
  constructor
  · intro h
    refine ⟨fun j hj => h j (by rw [Nat.testBit_or, hj, Bool.true_or]), h i (by rw [Nat.testBit_or, Nat.testBit_two_pow]; simp)⟩
  · intro ⟨h1, h2⟩ j hj
    rw [Nat.testBit_or, Nat.testBit_two_pow, Bool.or_eq_true, decide_eq_true_eq] at hj
    rcases hj with hj | hj
    · exact h1 j hj
    · rw [← hj]; exact h2
theorem or_subD {w a i : Nat} : decide (w &&& (a ||| 2 ^ i) = a ||| 2 ^ i) = (decide (w &&& a = a) && w.testBit i) := by
  rw [Bool.eq_iff_iff, Bool.and_eq_true, decide_eq_true_eq, decide_eq_true_eq]
  exact or_sub
theorem or_disD {w a i : Nat} : decide (w &&& (a ||| 2 ^ i) = 0) = (decide (w &&& a = 0) && !w.testBit i) := by
  rw [Bool.eq_iff_iff, Bool.and_eq_true, decide_eq_true_eq, decide_eq_true_eq, Bool.not_eq_true']
  exact or_dis
theorem SP_0 {I : Nat → Nat → Int32} {J : Nat → Nat → Int64} {i k x : Nat} {a b : Int32} {z : Int64} (hx : x = k / 3) (h0 : k % 3 = 0) (h : SP I J i x) (ha : a = I 17 x) (hb : b = I 18 x) (hz : z = J 19 x) : a = nI (tmask 1 (i + 1) k (i + 1) ||| tmask 2 (i + 1) k (i + 1)) ∧ b = nI (tmask 1 (i + 1) k (i + 1)) ∧ ∀ w, w < 64 → lbit z w = (decide (w &&& tmask 1 (i + 1) k (i + 1) = tmask 1 (i + 1) k (i + 1)) && decide (w &&& tmask 2 (i + 1) k (i + 1) = 0)) := by
  have e1 : tmask 1 (i + 1) k (i + 1) = tmask 1 i x i := by rw [tm_suc, if_neg (by omega), Nat.or_zero, hx]
  have e2 : tmask 2 (i + 1) k (i + 1) = tmask 2 i x i := by rw [tm_suc, if_neg (by omega), Nat.or_zero, hx]
  rw [e1, e2, ha, hb, hz]
  exact h
theorem SP_1 {I : Nat → Nat → Int32} {J : Nat → Nat → Int64} {i k x : Nat} {a b : Int32} {z : Int64} (hi : i < 6) (hx : x = k / 3) (h0 : k % 3 = 1) (h : SP I J i x) (ha : a = I 17 x ||| nI (2 ^ i)) (hb : b = I 18 x ||| nI (2 ^ i)) (hz : z = J 19 x &&& soB i) : a = nI (tmask 1 (i + 1) k (i + 1) ||| tmask 2 (i + 1) k (i + 1)) ∧ b = nI (tmask 1 (i + 1) k (i + 1)) ∧ ∀ w, w < 64 → lbit z w = (decide (w &&& tmask 1 (i + 1) k (i + 1) = tmask 1 (i + 1) k (i + 1)) && decide (w &&& tmask 2 (i + 1) k (i + 1) = 0)) := by
  have e1 : tmask 1 (i + 1) k (i + 1) = tmask 1 i x i ||| 2 ^ i := by rw [tm_suc, if_pos h0, hx]
  have e2 : tmask 2 (i + 1) k (i + 1) = tmask 2 i x i := by rw [tm_suc, if_neg (by omega), Nat.or_zero, hx]
  obtain ⟨h1, h2, h3⟩ := h
  rw [e1, e2, ha, hb, hz, h1, h2, nI_or, nI_or]
  refine ⟨congrArg nI (by rw [Nat.or_assoc, Nat.or_assoc, Nat.or_comm (2 ^ i)]), rfl, fun w hw => ?_⟩
  rw [lb_and, h3 w hw, soB_b i hi w hw, or_subD]
  exact Bool.and_right_comm _ _ _
theorem SP_2 {I : Nat → Nat → Int32} {J : Nat → Nat → Int64} {i k x : Nat} {a b : Int32} {z : Int64} (hi : i < 6) (hx : x = k / 3) (h0 : k % 3 = 2) (h : SP I J i x) (ha : a = I 17 x ||| nI (2 ^ i)) (hb : b = I 18 x) (hz : z = J 19 x &&& (soB i ^^^ (-1))) : a = nI (tmask 1 (i + 1) k (i + 1) ||| tmask 2 (i + 1) k (i + 1)) ∧ b = nI (tmask 1 (i + 1) k (i + 1)) ∧ ∀ w, w < 64 → lbit z w = (decide (w &&& tmask 1 (i + 1) k (i + 1) = tmask 1 (i + 1) k (i + 1)) && decide (w &&& tmask 2 (i + 1) k (i + 1) = 0)) := by
  have e1 : tmask 1 (i + 1) k (i + 1) = tmask 1 i x i := by rw [tm_suc, if_neg (by omega), Nat.or_zero, hx]
  have e2 : tmask 2 (i + 1) k (i + 1) = tmask 2 i x i ||| 2 ^ i := by rw [tm_suc, if_pos h0, hx]
  obtain ⟨h1, h2, h3⟩ := h
  rw [e1, e2, ha, hb, hz, h1, h2, nI_or]
  refine ⟨congrArg nI (by rw [Nat.or_assoc]), rfl, fun w hw => ?_⟩
  rw [lb_and, h3 w hw, lb_not hw, soB_b i hi w hw, or_disD]
  exact Bool.and_assoc _ _ _
def LT (I : Nat → Nat → Int32) (J : Nat → Nat → Int64) (i k : Nat) : Prop := (∀ x, x < 3 ^ i → x < k → SP I J i x) ∧ (∀ x, k ≤ x → x < 3 ^ (i + 1) → SP I J (i + 1) x)
theorem SP_off {I : Nat → Nat → Int32} {J : Nat → Nat → Int64} {i k x : Nat} {a b : Int32} {z : Int64} (h : x ≠ k) (hs : SP I J i x) : SP (wr (wr I 17 k a) 18 k b) (wrJ J 19 k z) i x := by
  obtain ⟨h1, h2, h3⟩ := hs
  refine ⟨?_, ?_, fun w hw => ?_⟩
  · show upd (I 17) k a x = _; rw [pk_un h]; exact h1
  · show upd (I 18) k b x = _; rw [pk_un h]; exact h2
  · show lbit (vp_updL (J 19) k z x) w = _; rw [pk_uLn h]; exact h3 w hw
theorem SP_on {I : Nat → Nat → Int32} {J : Nat → Nat → Int64} {i k : Nat} {a b : Int32} {z : Int64} (h : a = nI (tmask 1 i k i ||| tmask 2 i k i) ∧ b = nI (tmask 1 i k i) ∧ ∀ w, w < 64 → lbit z w = (decide (w &&& tmask 1 i k i = tmask 1 i k i) && decide (w &&& tmask 2 i k i = 0))) : SP (wr (wr I 17 k a) 18 k b) (wrJ J 19 k z) i k := by
  obtain ⟨h1, h2, h3⟩ := h
  refine ⟨?_, ?_, fun w hw => ?_⟩
  · show upd (I 17) k a k = _; rw [pk_us]; exact h1
  · show upd (I 18) k b k = _; rw [pk_us]; exact h2
  · show lbit (vp_updL (J 19) k z k) w = _; rw [pk_uLs]; exact h3 w hw
theorem LT_step {I : Nat → Nat → Int32} {J : Nat → Nat → Int64} {i k : Nat} {a b : Int32} {z : Int64} (hl : LT I J i (k + 1)) (hk : k < 3 ^ (i + 1)) (h : a = nI (tmask 1 (i + 1) k (i + 1) ||| tmask 2 (i + 1) k (i + 1)) ∧ b = nI (tmask 1 (i + 1) k (i + 1)) ∧ ∀ w, w < 64 → lbit z w = (decide (w &&& tmask 1 (i + 1) k (i + 1) = tmask 1 (i + 1) k (i + 1)) && decide (w &&& tmask 2 (i + 1) k (i + 1) = 0))) : LT (wr (wr I 17 k a) 18 k b) (wrJ J 19 k z) i k := by
  refine ⟨fun x h1 h2 => SP_off (by omega) (hl.1 x h1 (by omega)), fun x h1 h2 => ?_⟩
  by_cases e : x = k
  · rw [e]; exact SP_on h
  · exact SP_off e (hl.2 x (by omega) h2)
theorem wgt_nm {t m : Nat} : nmO t m m = wgt t m t := by unfold nmO; omega
def lfP (I S : Nat → Nat → Int32) (J T : Nat → Nat → Int64) (m : Nat) (I' S' : Nat → Nat → Int32) (J' T' : Nat → Nat → Int64) : Prop := S' = S ∧ T' = T ∧ (∀ p, p ≠ 16 → p ≠ 17 → p ≠ 18 → p ≠ 20 → I' p = I p) ∧ (∀ p, p ≠ 19 → J' p = J p) ∧ TOK I' J' m
section CLS16
variable {xl : Nat} {xs : Nat → Int32} {n : Nat} {h : Nat → PC} {I S : Nat → Nat → Int32} {J T : Nat → Nat → Int64} {X : Nat → Option Nat} {t sl wy wi he m : Nat}
theorem b_worldCount (hn : 33 ≤ n) (ht : I 1 0 = nI t) (h6 : t ≤ 6) : Rn xl xs 0 0 0 0 mX4_worldCount [.ref 1] n (sysH I J X) (some (.int (nI (2 ^ t)))) n (sysH I J X) := by
  intro Q hQ
  show Ev xl xs 0 0 0 0 mX4_worldCount 0 [some (.ref 1)] [] n (sysH I J X) Q
  refine ev_iconst (q := 1) (1) dX4_worldCount_0 (by decide) rfl ?_
  refine ev_aload_n (q := 2) dX4_worldCount_1 rfl rfl ?_
  refine ev_get (q := 5) dX4_worldCount_2 fr_X4_34 rfl (lt_n3 hn (by decide)) rfl rfl ?_
  refine ev_ishl (q := 6) dX4_worldCount_5 rfl ?_
  exact ev_iretE dX4_worldCount_6 rfl rfl (by rw [ht, nI_sh1 (by omega)]) rfl rfl hQ
theorem b_allWorlds (hn : 33 ≤ n) (ht : I 1 0 = nI t) (h6 : t ≤ 6) : Rn xl xs 1 20 0 0 mX4_allWorlds [.ref 1] n (sysH I J X) (some (.long (allL t))) n (sysH I J X) := by
  intro Q hQ
  show Ev xl xs 1 20 0 0 mX4_allWorlds 0 [some (.ref 1)] [] n (sysH I J X) Q
  refine ev_aload_n (q := 1) dX4_allWorlds_0 rfl rfl ?_
  refine ev_get (q := 4) dX4_allWorlds_1 fr_X4_34 rfl (lt_n3 hn (by decide)) rfl rfl ?_
  refine ev_bipush (q := 6) (6) dX4_allWorlds_4 (by decide) rfl ?_
  rw [ht]
  refine ev_icmp_lt (q := 9) 15 dX4_allWorlds_6 (by decide) rfl (fun c_6 => ?_) (fun c_6 => ?_)
  · have c_6 : ¬ t = 6 := fun h => absurd ((nI_ltI (b := 6) (by omega) (by omega)).mp c_6) (by omega)
    refine ev_lconst (q := 16) (1) dX4_allWorlds_15 (by decide) rfl ?_
    refine ev_aload_n (q := 17) dX4_allWorlds_16 rfl rfl ?_
    refine ev_callV0i (q := 20) dX4_allWorlds_17 ca_X4_78 (b_worldCount hn ht h6) rfl (lt_n3 hn (by decide)) rfl rfl (Nat.le_of_ble_eq_true rfl) (Nat.le_of_ble_eq_true rfl) (by decide) (by decide) rfl ?_
    refine ev_lshl (q := 21) dX4_allWorlds_20 rfl ?_
    refine ev_lconst (q := 22) (1) dX4_allWorlds_21 (by decide) rfl ?_
    refine ev_lsub (q := 23) dX4_allWorlds_22 rfl ?_
    exact ev_lretE dX4_allWorlds_23 rfl (by first | (rw [c_6, allL_6]; done) | exact allL_lt t (by omega)) rfl rfl hQ
  · have c_6 : t = 6 := by have : ¬ t < 6 := fun h => c_6 ((nI_ltI (b := 6) (by omega) (by omega)).mpr h); omega
    refine ev_ldc2 (q := 12) co_X4_70 dX4_allWorlds_9 rfl ?_
    refine ev_goto 23 dX4_allWorlds_12 (by decide) ?_
    exact ev_lretE dX4_allWorlds_23 rfl (by first | (rw [c_6, allL_6]; done) | exact allL_lt t (by omega)) rfl rfl hQ
theorem b_forget (hn : 33 ≤ n) : Rn xl xs 0 0 0 0 mX4_forgetSights [.ref 1] n (sysH (ov I S) (ovJ J T) X) none n (sysH (ov (wr (wr I 1 12 0) 1 15 0) S) (ovJ (fillJ J 6 12 (fun _ => -1)) T) X) := by
  intro Q hQ
  show Ev xl xs 0 0 0 0 mX4_forgetSights 0 [some (.ref 1), none] [] n (sysH (ov I S) (ovJ J T) X) Q
  have lp : ∀ j k, k + j = 12 → Ev xl xs 0 0 0 0 mX4_forgetSights 12 [some (.ref 1), some (.int (nI k))] [] n (sysH (ov (wr (wr I 1 12 0) 1 15 0) S) (ovJ (fillJ J 6 k (fun _ => -1)) T) X) Q := by
    intro j
    induction j using Nat.strongRecOn with
    | _ j ih =>
      intro k hk
      have e : ∀ h1, _ := fun (h1 : j - 1 < j) => ih (j - 1) h1 (k + 1)
      refine ev_iload_n (q := 13) dX4_forgetSights_12 rfl rfl ?_
      refine ev_bipush (q := 15) (12) dX4_forgetSights_13 (by decide) rfl ?_
      refine ev_icmp_ge (q := 18) 33 dX4_forgetSights_15 (by decide) rfl (fun c_15 => ?_) (fun c_15 => ?_)
      · have c_15 : 12 ≤ k := (nI_leI (a := 12) (by omega) (by omega)).mp c_15
        rw [show k = 12 by omega]
        exact ev_retE dX4_forgetSights_33 rfl rfl rfl hQ
      · have c_15 : ¬ 12 ≤ k := fun h => c_15 ((nI_leI (a := 12) (by omega) (by omega)).mpr h)
        refine ev_aload_n (q := 19) dX4_forgetSights_18 rfl rfl ?_
        refine ev_get (q := 22) dX4_forgetSights_19 fr_X4_24 rfl (lt_n3 hn (by decide)) rfl rfl ?_
        refine ev_iload_n (q := 23) dX4_forgetSights_22 rfl rfl ?_
        refine ev_ldc2 (q := 26) co_X4_70 dX4_forgetSights_23 rfl ?_
        first | refine ev_lsK (q := 27) k dX4_forgetSights_26 rfl rfl (by omega) (lt_n3 hn (by decide)) rfl rfl ?_ | refine ev_lsR (q := 27) k dX4_forgetSights_26 rfl rfl (by omega) (lt_n3 hn (by decide)) rfl rfl ?_
        rw [show setJ (fillJ J 6 k (fun _ => -1)) 6 (vp_updL (fillJ J 6 k (fun _ => -1) 6) k (-1)) = fillJ J 6 (k + 1) (fun _ => -1) from fillJ_s _ _ _ (fun _ => -1)]
        refine ev_inc_1 (q := 30) (nI (k + 1)) dX4_forgetSights_27 (nI_1 k) rfl rfl ?_
        refine ev_goto 12 dX4_forgetSights_30 (by decide) ?_
        exact e (by omega) (by omega)
  refine ev_aload_n (q := 1) dX4_forgetSights_0 rfl rfl ?_
  refine ev_iconst (q := 2) (0) dX4_forgetSights_1 (by decide) rfl ?_
  first | refine ev_putIK (q := 5) dX4_forgetSights_2 fa_X4_64 rfl (by decide) (lt_n3 hn (by decide)) (Nat.le_of_ble_eq_true rfl) ⟨rfl, rfl⟩ rfl rfl rfl ?_ | refine ev_putIR (q := 5) dX4_forgetSights_2 fa_X4_64 rfl (by decide) (lt_n3 hn (by decide)) (Nat.le_of_ble_eq_true rfl) ⟨rfl, rfl⟩ rfl rfl rfl ?_
  refine ev_aload_n (q := 6) dX4_forgetSights_5 rfl rfl ?_
  refine ev_iconst (q := 7) (0) dX4_forgetSights_6 (by decide) rfl ?_
  first | refine ev_putIK (q := 10) dX4_forgetSights_7 fa_X4_67 rfl (by decide) (lt_n3 hn (by decide)) (Nat.le_of_ble_eq_true rfl) ⟨rfl, rfl⟩ rfl rfl rfl ?_ | refine ev_putIR (q := 10) dX4_forgetSights_7 fa_X4_67 rfl (by decide) (lt_n3 hn (by decide)) (Nat.le_of_ble_eq_true rfl) ⟨rfl, rfl⟩ rfl rfl rfl ?_
  refine ev_iconst (q := 11) (0) dX4_forgetSights_10 (by decide) rfl ?_
  refine ev_ist_1 (q := 12) dX4_forgetSights_11 rfl rfl ?_
  have e := lp 12 0 (by omega)
  rw [fillJ_0] at e
  exact e
def bg0 (I : Nat → Nat → Int32) (m : Nat) : Nat → Nat → Int32 := wr (wr (wr (wr (wr I 1 0 (nI m)) 1 1 0) 1 2 0) 1 3 0) 1 4 6
theorem b_begin (hn : 33 ≤ n) (h6 : m ≤ 6) : Rn xl xs 2 40 0 0 mX4_begin [.ref 1, .int (nI m)] n (sysH (ov I S) (ovJ J T) X) none n (sysH (ov (bgI I m) S) (ovJ (bgJ J m) T) X) := by
  intro Q hQ
  show Ev xl xs 2 40 0 0 mX4_begin 0 [some (.ref 1), some (.int (nI m)), none] [] n (sysH (ov I S) (ovJ J T) X) Q
  have l3 : ∀ j k, k + j = 4 → Ev xl xs 2 40 0 0 mX4_begin 81 [some (.ref 1), some (.int (nI m)), some (.int (nI k))] [] n (sysH (ov (fillA (fillA (fillA (bg0 I m) 2 24 z24) 3 6 z24) 4 k s6f) S) (ovJ (wrJ J 1 5 (allL m)) T) X) Q := by
    intro j
    induction j using Nat.strongRecOn with
    | _ j ih =>
      intro k hk
      have e : ∀ h1, _ := fun (h1 : j - 1 < j) => ih (j - 1) h1 (k + 1)
      have J101 : ∀ x, x = s6f k → ¬ 4 ≤ k → Ev xl xs 2 40 0 0 mX4_begin 101 [some (.ref 1), some (.int (nI m)), some (.int (nI k))] [.int x, .int (nI k), .ref 4] n (sysH (ov (fillA (fillA (fillA (bg0 I m) 2 24 z24) 3 6 z24) 4 k s6f) S) (ovJ (wrJ J 1 5 (allL m)) T) X) Q := by
        intro x hx hk4
        subst hx
        first | refine ev_isK (q := 102) k dX4_begin_101 rfl rfl (by omega) (lt_n3 hn (by decide)) rfl rfl ?_ | refine ev_isR (q := 102) k dX4_begin_101 rfl rfl (by omega) (lt_n3 hn (by decide)) rfl rfl ?_
        rw [fillA_s]
        refine ev_inc_2 (q := 105) (nI (k + 1)) dX4_begin_102 (nI_1 k) rfl rfl ?_
        refine ev_goto 81 dX4_begin_105 (by decide) ?_
        exact e (by omega) (by omega)
      by_cases hk4 : 4 ≤ k
      · have hk4 : k = 4 := by omega
        subst hk4
        refine ev_iload_n (q := 82) dX4_begin_81 rfl rfl ?_
        refine ev_iconst (q := 83) (4) dX4_begin_82 (by decide) rfl ?_
        refine ev_icmp_ge (q := 86) 108 dX4_begin_83 (by decide) rfl (fun c_83 => ?_) (fun c_83 => ?_)
        · refine ev_aload_n (q := 109) dX4_begin_108 rfl rfl ?_
          refine ev_iconst (q := 110) (0) dX4_begin_109 (by decide) rfl ?_
          first | refine ev_putIK (q := 113) dX4_begin_110 fa_X4_58 rfl (by decide) (lt_n3 hn (by decide)) (Nat.le_of_ble_eq_true rfl) ⟨rfl, rfl⟩ rfl rfl rfl ?_ | refine ev_putIR (q := 113) dX4_begin_110 fa_X4_58 rfl (by decide) (lt_n3 hn (by decide)) (Nat.le_of_ble_eq_true rfl) ⟨rfl, rfl⟩ rfl rfl rfl ?_
          refine ev_aload_n (q := 114) dX4_begin_113 rfl rfl ?_
          refine ev_callV0v (q := 117) dX4_begin_114 ca_X4_61 (b_forget hn) rfl (lt_n3 hn (by decide)) rfl rfl (Nat.le_of_ble_eq_true rfl) (Nat.le_of_ble_eq_true rfl) (by decide) (by decide) rfl ?_
          exact ev_retE dX4_begin_117 rfl rfl rfl hQ
        · exact absurd (show (4 : Int32) ≤ nI 4 by decide) c_83
      · refine ev_iload_n (q := 82) dX4_begin_81 rfl rfl ?_
        refine ev_iconst (q := 83) (4) dX4_begin_82 (by decide) rfl ?_
        refine ev_icmp_ge (q := 86) 108 dX4_begin_83 (by decide) rfl (fun c_83 => ?_) (fun c_83 => ?_)
        · exact absurd ((nI_leI (a := 4) (by omega) (by omega)).mp c_83) hk4
        · refine ev_aload_n (q := 87) dX4_begin_86 rfl rfl ?_
          refine ev_get (q := 90) dX4_begin_87 fr_X4_18 rfl (lt_n3 hn (by decide)) rfl rfl ?_
          refine ev_iload_n (q := 91) dX4_begin_90 rfl rfl ?_
          refine ev_iload_n (q := 92) dX4_begin_91 rfl rfl ?_
          refine ev_if_ne (q := 95) 100 dX4_begin_92 (by decide) rfl (fun c_92 => ?_) (fun c_92 => ?_)
          · have c_92 : ¬ k = 0 := fun h => c_92 (by rw [h]; rfl)
            refine ev_iconst (q := 101) (0) dX4_begin_100 (by decide) rfl ?_
            exact J101 _ (by simp [s6f, c_92]) hk4
          · have c_92 : k = 0 := (nI_eq (b := 0) (by omega) (by omega)).mp c_92
            refine ev_bipush (q := 97) (6) dX4_begin_95 (by decide) rfl ?_
            refine ev_goto 101 dX4_begin_97 (by decide) ?_
            exact J101 _ (by simp [s6f, c_92]) hk4
  have l2 : ∀ j k, k + j = 6 → Ev xl xs 2 40 0 0 mX4_begin 60 [some (.ref 1), some (.int (nI m)), some (.int (nI k))] [] n (sysH (ov (fillA (fillA (bg0 I m) 2 24 z24) 3 k z24) S) (ovJ (wrJ J 1 5 (allL m)) T) X) Q := by
    intro j
    induction j using Nat.strongRecOn with
    | _ j ih =>
      intro k hk
      have e : ∀ h1, _ := fun (h1 : j - 1 < j) => ih (j - 1) h1 (k + 1)
      refine ev_iload_n (q := 61) dX4_begin_60 rfl rfl ?_
      refine ev_bipush (q := 63) (6) dX4_begin_61 (by decide) rfl ?_
      refine ev_icmp_ge (q := 66) 79 dX4_begin_63 (by decide) rfl (fun c_63 => ?_) (fun c_63 => ?_)
      · have c_63 : 6 ≤ k := (nI_leI (a := 6) (by omega) (by omega)).mp c_63
        have hk6 : k = 6 := by omega
        rw [hk6]
        refine ev_iconst (q := 80) (0) dX4_begin_79 (by decide) rfl ?_
        refine ev_ist_2 (q := 81) dX4_begin_80 rfl rfl ?_
        have e3 := l3 4 0 (by omega)
        rw [fillA_0] at e3
        exact e3
      · have c_63 : ¬ 6 ≤ k := fun h => c_63 ((nI_leI (a := 6) (by omega) (by omega)).mpr h)
        refine ev_aload_n (q := 67) dX4_begin_66 rfl rfl ?_
        refine ev_get (q := 70) dX4_begin_67 fr_X4_15 rfl (lt_n3 hn (by decide)) rfl rfl ?_
        refine ev_iload_n (q := 71) dX4_begin_70 rfl rfl ?_
        refine ev_iconst (q := 72) (0) dX4_begin_71 (by decide) rfl ?_
        first | refine ev_isK (q := 73) k dX4_begin_72 rfl rfl (by omega) (lt_n3 hn (by decide)) rfl rfl ?_ | refine ev_isR (q := 73) k dX4_begin_72 rfl rfl (by omega) (lt_n3 hn (by decide)) rfl rfl ?_
        rw [show setI (fillA (fillA (bg0 I m) 2 24 z24) 3 k z24) 3 (upd (fillA (fillA (bg0 I m) 2 24 z24) 3 k z24 3) k 0) = fillA (fillA (bg0 I m) 2 24 z24) 3 (k + 1) z24 from fillA_s _ _ _ z24]
        refine ev_inc_2 (q := 76) (nI (k + 1)) dX4_begin_73 (nI_1 k) rfl rfl ?_
        refine ev_goto 60 dX4_begin_76 (by decide) ?_
        exact e (by omega) (by omega)
  have l1 : ∀ j k, k + j = 24 → Ev xl xs 2 40 0 0 mX4_begin 36 [some (.ref 1), some (.int (nI m)), some (.int (nI k))] [] n (sysH (ov (fillA (bg0 I m) 2 k z24) S) (ovJ (wrJ J 1 5 (allL m)) T) X) Q := by
    intro j
    induction j using Nat.strongRecOn with
    | _ j ih =>
      intro k hk
      have e : ∀ h1, _ := fun (h1 : j - 1 < j) => ih (j - 1) h1 (k + 1)
      refine ev_iload_n (q := 37) dX4_begin_36 rfl rfl ?_
      refine ev_aload_n (q := 38) dX4_begin_37 rfl rfl ?_
      refine ev_get (q := 41) dX4_begin_38 fr_X4_9 rfl (lt_n3 hn (by decide)) rfl rfl ?_
      refine ev_alen (q := 42) 24 dX4_begin_41 (by first | rfl | assumption) (by decide) (by first | assumption | omega) (by decide) rfl ?_
      refine ev_icmp_ge (q := 45) 58 dX4_begin_42 (by decide) rfl (fun c_42 => ?_) (fun c_42 => ?_)
      · have c_42 : 24 ≤ k := (nI_leI (a := 24) (by omega) (by omega)).mp c_42
        have hk6 : k = 24 := by omega
        rw [hk6]
        refine ev_iconst (q := 59) (0) dX4_begin_58 (by decide) rfl ?_
        refine ev_ist_2 (q := 60) dX4_begin_59 rfl rfl ?_
        have e3 := l2 6 0 (by omega)
        rw [fillA_0] at e3
        exact e3
      · have c_42 : ¬ 24 ≤ k := fun h => c_42 ((nI_leI (a := 24) (by omega) (by omega)).mpr h)
        refine ev_aload_n (q := 46) dX4_begin_45 rfl rfl ?_
        refine ev_get (q := 49) dX4_begin_46 fr_X4_9 rfl (lt_n3 hn (by decide)) rfl rfl ?_
        refine ev_iload_n (q := 50) dX4_begin_49 rfl rfl ?_
        refine ev_iconst (q := 51) (0) dX4_begin_50 (by decide) rfl ?_
        first | refine ev_isK (q := 52) k dX4_begin_51 rfl rfl (by omega) (lt_n3 hn (by decide)) rfl rfl ?_ | refine ev_isR (q := 52) k dX4_begin_51 rfl rfl (by omega) (lt_n3 hn (by decide)) rfl rfl ?_
        rw [show setI (fillA (bg0 I m) 2 k z24) 2 (upd (fillA (bg0 I m) 2 k z24 2) k 0) = fillA (bg0 I m) 2 (k + 1) z24 from fillA_s _ _ _ z24]
        refine ev_inc_2 (q := 55) (nI (k + 1)) dX4_begin_52 (nI_1 k) rfl rfl ?_
        refine ev_goto 36 dX4_begin_55 (by decide) ?_
        exact e (by omega) (by omega)
  refine ev_aload_n (q := 1) dX4_begin_0 rfl rfl ?_
  refine ev_iload_n (q := 2) dX4_begin_1 rfl rfl ?_
  first | refine ev_putIK (q := 5) dX4_begin_2 fa_X4_34 rfl (by decide) (lt_n3 hn (by decide)) (Nat.le_of_ble_eq_true rfl) ⟨rfl, rfl⟩ rfl rfl rfl ?_ | refine ev_putIR (q := 5) dX4_begin_2 fa_X4_34 rfl (by decide) (lt_n3 hn (by decide)) (Nat.le_of_ble_eq_true rfl) ⟨rfl, rfl⟩ rfl rfl rfl ?_
  refine ev_aload_n (q := 6) dX4_begin_5 rfl rfl ?_
  refine ev_iconst (q := 7) (0) dX4_begin_6 (by decide) rfl ?_
  first | refine ev_putIK (q := 10) dX4_begin_7 fa_X4_38 rfl (by decide) (lt_n3 hn (by decide)) (Nat.le_of_ble_eq_true rfl) ⟨rfl, rfl⟩ rfl rfl rfl ?_ | refine ev_putIR (q := 10) dX4_begin_7 fa_X4_38 rfl (by decide) (lt_n3 hn (by decide)) (Nat.le_of_ble_eq_true rfl) ⟨rfl, rfl⟩ rfl rfl rfl ?_
  refine ev_aload_n (q := 11) dX4_begin_10 rfl rfl ?_
  refine ev_iconst (q := 12) (0) dX4_begin_11 (by decide) rfl ?_
  first | refine ev_putIK (q := 15) dX4_begin_12 fa_X4_41 rfl (by decide) (lt_n3 hn (by decide)) (Nat.le_of_ble_eq_true rfl) ⟨rfl, rfl⟩ rfl rfl rfl ?_ | refine ev_putIR (q := 15) dX4_begin_12 fa_X4_41 rfl (by decide) (lt_n3 hn (by decide)) (Nat.le_of_ble_eq_true rfl) ⟨rfl, rfl⟩ rfl rfl rfl ?_
  refine ev_aload_n (q := 16) dX4_begin_15 rfl rfl ?_
  refine ev_iconst (q := 17) (0) dX4_begin_16 (by decide) rfl ?_
  first | refine ev_putIK (q := 20) dX4_begin_17 fa_X4_44 rfl (by decide) (lt_n3 hn (by decide)) (Nat.le_of_ble_eq_true rfl) ⟨rfl, rfl⟩ rfl rfl rfl ?_ | refine ev_putIR (q := 20) dX4_begin_17 fa_X4_44 rfl (by decide) (lt_n3 hn (by decide)) (Nat.le_of_ble_eq_true rfl) ⟨rfl, rfl⟩ rfl rfl rfl ?_
  refine ev_aload_n (q := 21) dX4_begin_20 rfl rfl ?_
  refine ev_bipush (q := 23) (6) dX4_begin_21 (by decide) rfl ?_
  first | refine ev_putIK (q := 26) dX4_begin_23 fa_X4_47 rfl (by decide) (lt_n3 hn (by decide)) (Nat.le_of_ble_eq_true rfl) ⟨rfl, rfl⟩ rfl rfl rfl ?_ | refine ev_putIR (q := 26) dX4_begin_23 fa_X4_47 rfl (by decide) (lt_n3 hn (by decide)) (Nat.le_of_ble_eq_true rfl) ⟨rfl, rfl⟩ rfl rfl rfl ?_
  refine ev_aload_n (q := 27) dX4_begin_26 rfl rfl ?_
  refine ev_aload_n (q := 28) dX4_begin_27 rfl rfl ?_
  refine ev_callV0l (q := 31) dX4_begin_28 ca_X4_50 (b_allWorlds (I := ov (bg0 I m) S) hn rfl h6) rfl (lt_n3 hn (by decide)) rfl rfl (Nat.le_of_ble_eq_true rfl) (Nat.le_of_ble_eq_true rfl) (by decide) (by decide) rfl ?_
  refine ev_putJR (q := 34) dX4_begin_31 fa_X4_54 rfl (by decide) (lt_n3 hn (by decide)) (Nat.le_of_ble_eq_true rfl) ⟨rfl, rfl⟩ rfl rfl rfl ?_
  refine ev_iconst (q := 35) (0) dX4_begin_34 (by decide) rfl ?_
  refine ev_ist_2 (q := 36) dX4_begin_35 rfl rfl ?_
  have e3 := l1 24 0 (by omega)
  rw [fillA_0] at e3
  exact e3
theorem b_listFor (hn : 33 ≤ n) (h2 : 2 ≤ m) (h6 : m ≤ 6) (ht : I 16 0 = nI (3 ^ m) → TOK I J m) : RnX xl xs 0 0 mX5_listFor [.ref 16, .int (nI m)] n I S J T X none (lfP I S J T m) := by
  intro Q hQ
  have h729 := p3_le h6
  have h64 := p2_le h6
  show Ev xl xs 0 0 0 0 mX5_listFor 0 [some (.ref 16), some (.int (nI m)), none, none, none, none] [] n (sysH (ov I S) (ovJ J T) X) Q
  by_cases hc : I 16 0 = nI (3 ^ m)
  · refine ev_iload_n (q := 1) dX5_listFor_0 rfl rfl ?_
    refine ev_iconst (q := 2) (2) dX5_listFor_1 (by decide) rfl ?_
    refine ev_icmp_lt (q := 5) 23 dX5_listFor_2 (by decide) rfl (fun c_2 => ?_) (fun c_2 => ?_)
    · exact absurd ((nI_ltI (b := 2) (by omega) (by omega)).mp c_2) (by omega)
    · refine ev_iload_n (q := 6) dX5_listFor_5 rfl rfl ?_
      refine ev_bipush (q := 8) (6) dX5_listFor_6 (by decide) rfl ?_
      refine ev_icmp_gt (q := 11) 23 dX5_listFor_8 (by decide) rfl (fun c_8 => ?_) (fun c_8 => ?_)
      · exact absurd ((nI_ltI (a := 6) (by omega) (by omega)).mp c_8) (by omega)
      · refine ev_aload_n (q := 12) dX5_listFor_11 rfl rfl ?_
        refine ev_get (q := 15) dX5_listFor_12 fr_X5_25 rfl (lt_n3 hn (by decide)) rfl rfl ?_
        refine ev_getsN (q := 18) (k := 0) dX5_listFor_15 rfl (List.mem_filter.mpr ⟨tt_2 2 rfl, rfl⟩) rfl ?_
        refine ev_iload_n (q := 19) dX5_listFor_18 rfl rfl ?_
        refine ev_fiald (q := 20) dX5_listFor_19 rfl (vin (by omega) (by decide)) (fz_pow (by omega)) rfl ?_
        rw [show ov I S 16 0 = nI (3 ^ m) from hc]
        refine ev_icmp_ne (q := 23) 24 dX5_listFor_20 (by decide) rfl (fun c_20 => ?_) (fun c_20 => ?_)
        · exact absurd rfl c_20
        · exact ev_retE dX5_listFor_23 rfl rfl rfl (hQ _ _ _ _ ⟨rfl, rfl, fun _ _ _ _ _ => rfl, fun _ _ => rfl, ht hc⟩)
  · have l3 : ∀ j k, k + j = 3 ^ m → ∀ I2 J2 a3 a4 a5, (∀ p, p ≠ 16 → p ≠ 17 → p ≠ 18 → p ≠ 20 → I2 p = I p) → (∀ p, p ≠ 19 → J2 p = J p) → I2 16 0 = nI (3 ^ m) → (∀ x, x < 3 ^ m → SP I2 J2 m x) → (∀ q, q < 2 ^ m → wgt m q m < k → I2 20 q = nI (wgt m q m)) → Ev xl xs 0 0 0 0 mX5_listFor 202 [some (.ref 16), some (.int (nI m)), some (.int (nI k)), a3, a4, a5] [] n (sysH (ov I2 S) (ovJ J2 T) X) Q := by
      intro j
      induction j using Nat.strongRecOn with
      | _ j ih =>
        intro k hkj I2 J2 a3 a4 a5 hI hJ h16 hS hW
        have e : ∀ h1, _ := fun (h1 : j - 1 < j) => ih (j - 1) h1 (k + 1)
        by_cases hkN : 3 ^ m ≤ k
        · have hkN : k = 3 ^ m := by omega
          refine ev_iload_n (q := 203) dX5_listFor_202 rfl rfl ?_
          refine ev_aload_n (q := 204) dX5_listFor_203 rfl rfl ?_
          refine ev_get (q := 207) dX5_listFor_204 fr_X5_25 rfl (lt_n3 hn (by decide)) rfl rfl ?_
          rw [show ov I2 S 16 0 = nI (3 ^ m) from h16]
          refine ev_icmp_ge (q := 210) 243 dX5_listFor_207 (by decide) rfl (fun c_207 => ?_) (fun c_207 => ?_)
          · exact ev_retE dX5_listFor_243 rfl rfl rfl (hQ _ _ _ _ ⟨rfl, rfl, hI, hJ, h16, hS, fun q hq => hW q hq (by rw [hkN, ← wgt_nm]; exact (nmO_A h6 hq hq (Nat.and_self q)).1)⟩)
          · exact absurd ((nI_leI (by omega) (by omega)).mpr (by omega)) c_207
        · have e := e (by omega) (by omega)
          obtain ⟨s1, s2, -⟩ := hS k (by omega)
          have hsl : tmask 1 m k m < 2 ^ m := tmask_lt2 1 m k
          have hsd : tmask 1 m k m ||| tmask 2 m k m < 2 ^ m := sdN_lt (t := m) (num := k)
          have huq : ∀ q, q < 2 ^ m → wgt m q m = k → tmask 1 m k m = q ∧ tmask 1 m k m ||| tmask 2 m k m = q := fun q hq hk => by
            obtain ⟨-, a2, a3, -⟩ := nmO_A h6 hq hq (Nat.and_self q)
            rw [wgt_nm, hk] at a2 a3
            exact ⟨a2, a3⟩
          by_cases heq : tmask 1 m k m ||| tmask 2 m k m = tmask 1 m k m
          · have hk1 : wgt m (tmask 1 m k m) m = k := by
              rw [← wgt_nm]
              exact ((nm_iff h6 hsl hsl (Nat.and_self _) (show k < 3 ^ m by omega)).mp ⟨heq, rfl⟩).symm
            refine ev_iload_n (q := 203) dX5_listFor_202 rfl rfl ?_
            refine ev_aload_n (q := 204) dX5_listFor_203 rfl rfl ?_
            refine ev_get (q := 207) dX5_listFor_204 fr_X5_25 rfl (lt_n3 hn (by decide)) rfl rfl ?_
            rw [show ov I2 S 16 0 = nI (3 ^ m) from h16]
            refine ev_icmp_ge (q := 210) 243 dX5_listFor_207 (by decide) rfl (fun c_207 => ?_) (fun c_207 => ?_)
            · exact absurd ((nI_leI (by omega) (by omega)).mp c_207) hkN
            · refine ev_aload_n (q := 211) dX5_listFor_210 rfl rfl ?_
              refine ev_get (q := 214) dX5_listFor_211 fr_X5_9 rfl (lt_n3 hn (by decide)) rfl rfl ?_
              refine ev_iload_n (q := 215) dX5_listFor_214 rfl rfl ?_
              refine ev_iaS (q := 216) k dX5_listFor_215 rfl rfl (by omega) (lt_n3 hn (by decide)) rfl ?_
              rw [show ov I2 S 17 k = nI _ from s1, heq]
              refine ev_aload_n (q := 217) dX5_listFor_216 rfl rfl ?_
              refine ev_get (q := 220) dX5_listFor_217 fr_X5_15 rfl (lt_n3 hn (by decide)) rfl rfl ?_
              refine ev_iload_n (q := 221) dX5_listFor_220 rfl rfl ?_
              refine ev_iaS (q := 222) k dX5_listFor_221 rfl rfl (by omega) (lt_n3 hn (by decide)) rfl ?_
              rw [show ov I2 S 18 k = nI _ from s2]
              refine ev_icmp_ne (q := 225) 237 dX5_listFor_222 (by decide) rfl (fun c_222 => ?_) (fun c_222 => ?_)
              · exact absurd rfl c_222
              · refine ev_aload_n (q := 226) dX5_listFor_225 rfl rfl ?_
                refine ev_get (q := 229) dX5_listFor_226 fr_X5_22 rfl (lt_n3 hn (by decide)) rfl rfl ?_
                refine ev_aload_n (q := 230) dX5_listFor_229 rfl rfl ?_
                refine ev_get (q := 233) dX5_listFor_230 fr_X5_15 rfl (lt_n3 hn (by decide)) rfl rfl ?_
                refine ev_iload_n (q := 234) dX5_listFor_233 rfl rfl ?_
                refine ev_iaS (q := 235) k dX5_listFor_234 rfl rfl (by omega) (lt_n3 hn (by decide)) rfl ?_
                rw [show ov I2 S 18 k = nI _ from s2]
                refine ev_iload_n (q := 236) dX5_listFor_235 rfl rfl ?_
                first | refine ev_isK (q := 237) (tmask 1 m k m) dX5_listFor_236 rfl rfl (by omega) (lt_n3 hn (by decide)) rfl rfl ?_ | refine ev_isR (q := 237) (tmask 1 m k m) dX5_listFor_236 rfl rfl (by omega) (lt_n3 hn (by decide)) rfl rfl ?_
                refine ev_inc_2 (q := 240) (nI (k + 1)) dX5_listFor_237 (nI_1 k) rfl rfl ?_
                refine ev_goto 202 dX5_listFor_240 (by decide) ?_
                refine e _ _ _ _ _ (fun p a1 a2 a3 a4 => by rw [← hI p a1 a2 a3 a4]; simp [setI, a4]) hJ h16 (fun x hx => hS x hx) (fun q hq hl => ?_)
                show upd (I2 20) (tmask 1 m k m) (nI k) q = _
                by_cases c : q = tmask 1 m k m
                · rw [c, pk_us, hk1]
                · rw [pk_un c]; exact hW q hq (by by_cases d : wgt m q m = k; exact absurd (huq q hq d).1.symm c; omega)
          · refine ev_iload_n (q := 203) dX5_listFor_202 rfl rfl ?_
            refine ev_aload_n (q := 204) dX5_listFor_203 rfl rfl ?_
            refine ev_get (q := 207) dX5_listFor_204 fr_X5_25 rfl (lt_n3 hn (by decide)) rfl rfl ?_
            rw [show ov I2 S 16 0 = nI (3 ^ m) from h16]
            refine ev_icmp_ge (q := 210) 243 dX5_listFor_207 (by decide) rfl (fun c_207 => ?_) (fun c_207 => ?_)
            · exact absurd ((nI_leI (by omega) (by omega)).mp c_207) hkN
            · refine ev_aload_n (q := 211) dX5_listFor_210 rfl rfl ?_
              refine ev_get (q := 214) dX5_listFor_211 fr_X5_9 rfl (lt_n3 hn (by decide)) rfl rfl ?_
              refine ev_iload_n (q := 215) dX5_listFor_214 rfl rfl ?_
              refine ev_iaS (q := 216) k dX5_listFor_215 rfl rfl (by omega) (lt_n3 hn (by decide)) rfl ?_
              rw [show ov I2 S 17 k = nI _ from s1]
              refine ev_aload_n (q := 217) dX5_listFor_216 rfl rfl ?_
              refine ev_get (q := 220) dX5_listFor_217 fr_X5_15 rfl (lt_n3 hn (by decide)) rfl rfl ?_
              refine ev_iload_n (q := 221) dX5_listFor_220 rfl rfl ?_
              refine ev_iaS (q := 222) k dX5_listFor_221 rfl rfl (by omega) (lt_n3 hn (by decide)) rfl ?_
              rw [show ov I2 S 18 k = nI _ from s2]
              refine ev_icmp_ne (q := 225) 237 dX5_listFor_222 (by decide) rfl (fun c_222 => ?_) (fun c_222 => ?_)
              · refine ev_inc_2 (q := 240) (nI (k + 1)) dX5_listFor_237 (nI_1 k) rfl rfl ?_
                refine ev_goto 202 dX5_listFor_240 (by decide) ?_
                exact e _ _ _ _ _ hI hJ h16 hS (fun q hq hl => hW q hq (by by_cases d : wgt m q m = k; exact absurd ((huq q hq d).2.trans (huq q hq d).1.symm) heq; omega))
              · exact absurd ((nI_eq (by omega) (by omega)).mp c_222) heq
    have l2 : ∀ j i, i + j = m → ∀ I2 J2 a3 a4 a5, (∀ p, p ≠ 16 → p ≠ 17 → p ≠ 18 → p ≠ 20 → I2 p = I p) → (∀ p, p ≠ 19 → J2 p = J p) → I2 16 0 = nI (3 ^ m) → (∀ x, x < 3 ^ i → SP I2 J2 i x) → Ev xl xs 0 0 0 0 mX5_listFor 58 [some (.ref 16), some (.int (nI m)), some (.int (nI i)), a3, a4, a5] [] n (sysH (ov I2 S) (ovJ J2 T) X) Q := by
      intro j
      induction j using Nat.strongRecOn with
      | _ j ih =>
        intro i hij I2 J2 a3 a4 a5 hI hJ h16 hS
        have e : ∀ h1, _ := fun (h1 : j - 1 < j) => ih (j - 1) h1 (i + 1)
        by_cases hiN : m ≤ i
        · have hiN : i = m := by omega
          rw [hiN] at hS
          refine ev_iload_n (q := 59) dX5_listFor_58 rfl rfl ?_
          refine ev_iload_n (q := 60) dX5_listFor_59 rfl rfl ?_
          refine ev_icmp_ge (q := 63) 200 dX5_listFor_60 (by decide) rfl (fun c_60 => ?_) (fun c_60 => ?_)
          · refine ev_iconst (q := 201) (0) dX5_listFor_200 (by decide) rfl ?_
            refine ev_ist_2 (q := 202) dX5_listFor_201 rfl rfl ?_
            exact l3 (3 ^ m) 0 (by omega) _ _ _ _ _ hI hJ h16 hS (fun q _ hl => absurd hl (by omega))
          · exact absurd ((nI_leI (by omega) (by omega)).mpr (by omega)) c_60
        · have e := e (by omega) (by omega)
          have hp3 : 3 ^ (i + 1) ≤ 729 := p3_le (by omega)
          have hps : 3 ^ (i + 1) = 3 * 3 ^ i := by rw [Nat.pow_succ, Nat.mul_comm]
          have inn : ∀ k, k ≤ 3 ^ (i + 1) → ∀ I2 J2 a4 a5, (∀ p, p ≠ 16 → p ≠ 17 → p ≠ 18 → p ≠ 20 → I2 p = I p) → (∀ p, p ≠ 19 → J2 p = J p) → I2 16 0 = nI (3 ^ m) → LT I2 J2 i k → Ev xl xs 0 0 0 0 mX5_listFor 73 [some (.ref 16), some (.int (nI m)), some (.int (nI i)), some (.int (nI k - 1)), a4, a5] [] n (sysH (ov I2 S) (ovJ J2 T) X) Q := by
            intro k
            induction k with
            | zero =>
              intro _ I2 J2 a4 a5 hI hJ h16 hl
              refine ev_iload_n (q := 74) dX5_listFor_73 rfl rfl ?_
              refine ev_if_lt (q := 77) 194 dX5_listFor_74 (by decide) rfl (fun c_74 => ?_) (fun c_74 => ?_)
              · refine ev_inc_2 (q := 197) (nI (i + 1)) dX5_listFor_194 (nI_1 i) rfl rfl ?_
                refine ev_goto 58 dX5_listFor_197 (by decide) ?_
                exact e _ _ _ _ _ hI hJ h16 (fun x hx => hl.2 x (Nat.zero_le _) hx)
              · exact absurd (show nI 0 - 1 < 0 by decide) c_74
            | succ k ih2 =>
              intro hk I2 J2 a4 a5 hI hJ h16 hl
              have hx3 : k / 3 < 3 ^ i := by omega
              have hsp := hl.1 (k / 3) hx3 (by omega)
              have hk31 : k < 2 ^ 31 := by omega
              have hm3 : k % 3 < 3 := Nat.mod_lt _ (by decide)
              have d1 : nI k / 3 = nI (k / 3) := nI_div3 hk31
              have d2 : nI k - nI (k / 3) * 3 = nI (k % 3) := by rw [← d1]; exact nI_rem3 hk31
              have fI : ∀ (x y : Int32) p, p ≠ 16 → p ≠ 17 → p ≠ 18 → p ≠ 20 → wr (wr I2 17 k x) 18 k y p = I p := fun x y p b1 b2 b3 b4 => by rw [← hI p b1 b2 b3 b4]; simp [setI, b2, b3]
              have fJ : ∀ (z : Int64) p, p ≠ 19 → wrJ J2 19 k z p = J p := fun z p b1 => by rw [← hJ p b1]; simp [setJ, b1]
              rw [nI_pred]
              by_cases h0 : k % 3 = 0
              · rw [h0] at d2
                refine ev_iload_n (q := 74) dX5_listFor_73 rfl rfl ?_
                refine ev_if_lt (q := 77) 194 dX5_listFor_74 (by decide) rfl (fun c_74 => ?_) (fun c_74 => ?_)
                · exact absurd c_74 (nI_pos (by omega))
                · refine ev_iload_n (q := 78) dX5_listFor_77 rfl rfl ?_
                  refine ev_iconst (q := 79) (3) dX5_listFor_78 (by decide) rfl ?_
                  refine ev_idiv (q := 80) (by decide) dX5_listFor_79 rfl ?_
                  rw [d1]
                  refine ev_ist_4 (q := 82) dX5_listFor_80 rfl rfl ?_
                  refine ev_iload_n (q := 83) dX5_listFor_82 rfl rfl ?_
                  refine ev_iconst (q := 84) (3) dX5_listFor_83 (by decide) rfl ?_
                  refine ev_irem (q := 85) (by decide) dX5_listFor_84 rfl ?_
                  rw [d1, d2]
                  refine ev_ist_5 (q := 87) dX5_listFor_85 rfl rfl ?_
                  refine ev_aload_n (q := 88) dX5_listFor_87 rfl rfl ?_
                  refine ev_get (q := 91) dX5_listFor_88 fr_X5_9 rfl (lt_n3 hn (by decide)) rfl rfl ?_
                  refine ev_iload_n (q := 92) dX5_listFor_91 rfl rfl ?_
                  refine ev_aload_n (q := 93) dX5_listFor_92 rfl rfl ?_
                  refine ev_get (q := 96) dX5_listFor_93 fr_X5_9 rfl (lt_n3 hn (by decide)) rfl rfl ?_
                  refine ev_iload (q := 98) dX5_listFor_96 rfl rfl ?_
                  refine ev_iaS (q := 99) (k / 3) dX5_listFor_98 rfl rfl (by omega) (lt_n3 hn (by decide)) rfl ?_
                  refine ev_iload (q := 101) dX5_listFor_99 rfl rfl ?_
                  refine ev_if_eq (q := 104) 110 dX5_listFor_101 (by decide) rfl (fun c_101 => ?_) (fun c_101 => ?_)
                  · refine ev_iconst (q := 111) (0) dX5_listFor_110 (by decide) rfl ?_
                    refine ev_ior (q := 112) dX5_listFor_111 rfl ?_
                    first | refine ev_isK (q := 113) k dX5_listFor_112 rfl rfl (by omega) (lt_n3 hn (by decide)) rfl rfl ?_ | refine ev_isR (q := 113) k dX5_listFor_112 rfl rfl (by omega) (lt_n3 hn (by decide)) rfl rfl ?_
                    refine ev_aload_n (q := 114) dX5_listFor_113 rfl rfl ?_
                    refine ev_get (q := 117) dX5_listFor_114 fr_X5_15 rfl (lt_n3 hn (by decide)) rfl rfl ?_
                    refine ev_iload_n (q := 118) dX5_listFor_117 rfl rfl ?_
                    refine ev_aload_n (q := 119) dX5_listFor_118 rfl rfl ?_
                    refine ev_get (q := 122) dX5_listFor_119 fr_X5_15 rfl (lt_n3 hn (by decide)) rfl rfl ?_
                    refine ev_iload (q := 124) dX5_listFor_122 rfl rfl ?_
                    refine ev_iaS (q := 125) (k / 3) dX5_listFor_124 rfl rfl (by omega) (lt_n3 hn (by decide)) rfl ?_
                    refine ev_iload (q := 127) dX5_listFor_125 rfl rfl ?_
                    refine ev_iconst (q := 128) (1) dX5_listFor_127 (by decide) rfl ?_
                    refine ev_icmp_ne (q := 131) 137 dX5_listFor_128 (by decide) rfl (fun c_128 => ?_) (fun c_128 => ?_)
                    · refine ev_iconst (q := 138) (0) dX5_listFor_137 (by decide) rfl ?_
                      refine ev_ior (q := 139) dX5_listFor_138 rfl ?_
                      first | refine ev_isK (q := 140) k dX5_listFor_139 rfl rfl (by omega) (lt_n3 hn (by decide)) rfl rfl ?_ | refine ev_isR (q := 140) k dX5_listFor_139 rfl rfl (by omega) (lt_n3 hn (by decide)) rfl rfl ?_
                      refine ev_aload_n (q := 141) dX5_listFor_140 rfl rfl ?_
                      refine ev_get (q := 144) dX5_listFor_141 fr_X5_18 rfl (lt_n3 hn (by decide)) rfl rfl ?_
                      refine ev_iload_n (q := 145) dX5_listFor_144 rfl rfl ?_
                      refine ev_aload_n (q := 146) dX5_listFor_145 rfl rfl ?_
                      refine ev_get (q := 149) dX5_listFor_146 fr_X5_18 rfl (lt_n3 hn (by decide)) rfl rfl ?_
                      refine ev_iload (q := 151) dX5_listFor_149 rfl rfl ?_
                      refine ev_laS (q := 152) (k / 3) dX5_listFor_151 rfl rfl (by omega) (lt_n3 hn (by decide)) rfl ?_
                      refine ev_iload (q := 154) dX5_listFor_152 rfl rfl ?_
                      refine ev_if_ne (q := 157) 163 dX5_listFor_154 (by decide) rfl (fun c_154 => ?_) (fun c_154 => ?_)
                      · exact absurd rfl c_154
                      · refine ev_ldc2 (q := 160) co_X5_32 dX5_listFor_157 rfl ?_
                        refine ev_goto 186 dX5_listFor_160 (by decide) ?_
                        refine ev_land (q := 187) dX5_listFor_186 rfl ?_
                        first | refine ev_lsK (q := 188) k dX5_listFor_187 rfl rfl (by omega) (lt_n3 hn (by decide)) rfl rfl ?_ | refine ev_lsR (q := 188) k dX5_listFor_187 rfl rfl (by omega) (lt_n3 hn (by decide)) rfl rfl ?_
                        refine ev_inc_3 (q := 191) (nI k - 1) dX5_listFor_188 (inc_m1 _) rfl rfl ?_
                        refine ev_goto 73 dX5_listFor_191 (by decide) ?_
                        exact ih2 (by omega) _ _ _ _ (fI _ _) (fJ _) h16 (LT_step hl (by omega) (SP_0 rfl h0 hsp (Int32.or_zero (a := I2 17 (k / 3))) (Int32.or_zero (a := I2 18 (k / 3))) (show J2 19 (k / 3) &&& (-1) = J2 19 (k / 3) from l_ext (fun j hj => by rw [lb_and, lb_m1 j hj, Bool.and_true]))))
                    · exact absurd (show nI 0 = 1 from c_128) (by decide)
                  · exact absurd rfl c_101
              · by_cases h1 : k % 3 = 1
                · rw [h1] at d2
                  refine ev_iload_n (q := 74) dX5_listFor_73 rfl rfl ?_
                  refine ev_if_lt (q := 77) 194 dX5_listFor_74 (by decide) rfl (fun c_74 => ?_) (fun c_74 => ?_)
                  · exact absurd c_74 (nI_pos (by omega))
                  · refine ev_iload_n (q := 78) dX5_listFor_77 rfl rfl ?_
                    refine ev_iconst (q := 79) (3) dX5_listFor_78 (by decide) rfl ?_
                    refine ev_idiv (q := 80) (by decide) dX5_listFor_79 rfl ?_
                    rw [d1]
                    refine ev_ist_4 (q := 82) dX5_listFor_80 rfl rfl ?_
                    refine ev_iload_n (q := 83) dX5_listFor_82 rfl rfl ?_
                    refine ev_iconst (q := 84) (3) dX5_listFor_83 (by decide) rfl ?_
                    refine ev_irem (q := 85) (by decide) dX5_listFor_84 rfl ?_
                    rw [d1, d2]
                    refine ev_ist_5 (q := 87) dX5_listFor_85 rfl rfl ?_
                    refine ev_aload_n (q := 88) dX5_listFor_87 rfl rfl ?_
                    refine ev_get (q := 91) dX5_listFor_88 fr_X5_9 rfl (lt_n3 hn (by decide)) rfl rfl ?_
                    refine ev_iload_n (q := 92) dX5_listFor_91 rfl rfl ?_
                    refine ev_aload_n (q := 93) dX5_listFor_92 rfl rfl ?_
                    refine ev_get (q := 96) dX5_listFor_93 fr_X5_9 rfl (lt_n3 hn (by decide)) rfl rfl ?_
                    refine ev_iload (q := 98) dX5_listFor_96 rfl rfl ?_
                    refine ev_iaS (q := 99) (k / 3) dX5_listFor_98 rfl rfl (by omega) (lt_n3 hn (by decide)) rfl ?_
                    refine ev_iload (q := 101) dX5_listFor_99 rfl rfl ?_
                    refine ev_if_eq (q := 104) 110 dX5_listFor_101 (by decide) rfl (fun c_101 => ?_) (fun c_101 => ?_)
                    · exact absurd (show nI 1 = 0 from c_101) (by decide)
                    · refine ev_iconst (q := 105) (1) dX5_listFor_104 (by decide) rfl ?_
                      refine ev_iload_n (q := 106) dX5_listFor_105 rfl rfl ?_
                      refine ev_ishl (q := 107) dX5_listFor_106 rfl ?_
                      refine ev_goto 111 dX5_listFor_107 (by decide) ?_
                      rw [nI_sh1 (by omega)]
                      refine ev_ior (q := 112) dX5_listFor_111 rfl ?_
                      first | refine ev_isK (q := 113) k dX5_listFor_112 rfl rfl (by omega) (lt_n3 hn (by decide)) rfl rfl ?_ | refine ev_isR (q := 113) k dX5_listFor_112 rfl rfl (by omega) (lt_n3 hn (by decide)) rfl rfl ?_
                      refine ev_aload_n (q := 114) dX5_listFor_113 rfl rfl ?_
                      refine ev_get (q := 117) dX5_listFor_114 fr_X5_15 rfl (lt_n3 hn (by decide)) rfl rfl ?_
                      refine ev_iload_n (q := 118) dX5_listFor_117 rfl rfl ?_
                      refine ev_aload_n (q := 119) dX5_listFor_118 rfl rfl ?_
                      refine ev_get (q := 122) dX5_listFor_119 fr_X5_15 rfl (lt_n3 hn (by decide)) rfl rfl ?_
                      refine ev_iload (q := 124) dX5_listFor_122 rfl rfl ?_
                      refine ev_iaS (q := 125) (k / 3) dX5_listFor_124 rfl rfl (by omega) (lt_n3 hn (by decide)) rfl ?_
                      refine ev_iload (q := 127) dX5_listFor_125 rfl rfl ?_
                      refine ev_iconst (q := 128) (1) dX5_listFor_127 (by decide) rfl ?_
                      refine ev_icmp_ne (q := 131) 137 dX5_listFor_128 (by decide) rfl (fun c_128 => ?_) (fun c_128 => ?_)
                      · exact absurd rfl c_128
                      · refine ev_iconst (q := 132) (1) dX5_listFor_131 (by decide) rfl ?_
                        refine ev_iload_n (q := 133) dX5_listFor_132 rfl rfl ?_
                        refine ev_ishl (q := 134) dX5_listFor_133 rfl ?_
                        refine ev_goto 138 dX5_listFor_134 (by decide) ?_
                        rw [nI_sh1 (by omega)]
                        refine ev_ior (q := 139) dX5_listFor_138 rfl ?_
                        first | refine ev_isK (q := 140) k dX5_listFor_139 rfl rfl (by omega) (lt_n3 hn (by decide)) rfl rfl ?_ | refine ev_isR (q := 140) k dX5_listFor_139 rfl rfl (by omega) (lt_n3 hn (by decide)) rfl rfl ?_
                        refine ev_aload_n (q := 141) dX5_listFor_140 rfl rfl ?_
                        refine ev_get (q := 144) dX5_listFor_141 fr_X5_18 rfl (lt_n3 hn (by decide)) rfl rfl ?_
                        refine ev_iload_n (q := 145) dX5_listFor_144 rfl rfl ?_
                        refine ev_aload_n (q := 146) dX5_listFor_145 rfl rfl ?_
                        refine ev_get (q := 149) dX5_listFor_146 fr_X5_18 rfl (lt_n3 hn (by decide)) rfl rfl ?_
                        refine ev_iload (q := 151) dX5_listFor_149 rfl rfl ?_
                        refine ev_laS (q := 152) (k / 3) dX5_listFor_151 rfl rfl (by omega) (lt_n3 hn (by decide)) rfl ?_
                        refine ev_iload (q := 154) dX5_listFor_152 rfl rfl ?_
                        refine ev_if_ne (q := 157) 163 dX5_listFor_154 (by decide) rfl (fun c_154 => ?_) (fun c_154 => ?_)
                        · refine ev_iload (q := 165) dX5_listFor_163 rfl rfl ?_
                          refine ev_iconst (q := 166) (1) dX5_listFor_165 (by decide) rfl ?_
                          refine ev_icmp_ne (q := 169) 177 dX5_listFor_166 (by decide) rfl (fun c_166 => ?_) (fun c_166 => ?_)
                          · exact absurd rfl c_166
                          · refine ev_getsN (q := 172) (k := 2) dX5_listFor_169 rfl (List.mem_filter.mpr ⟨tt_2 5 rfl, rfl⟩) rfl ?_
                            refine ev_iload_n (q := 173) dX5_listFor_172 rfl rfl ?_
                            refine ev_flald (q := 174) dX5_listFor_173 rfl (vin (by omega) (by decide)) (fz_so (by omega)) rfl ?_
                            refine ev_goto 186 dX5_listFor_174 (by decide) ?_
                            refine ev_land (q := 187) dX5_listFor_186 rfl ?_
                            first | refine ev_lsK (q := 188) k dX5_listFor_187 rfl rfl (by omega) (lt_n3 hn (by decide)) rfl rfl ?_ | refine ev_lsR (q := 188) k dX5_listFor_187 rfl rfl (by omega) (lt_n3 hn (by decide)) rfl rfl ?_
                            refine ev_inc_3 (q := 191) (nI k - 1) dX5_listFor_188 (inc_m1 _) rfl rfl ?_
                            refine ev_goto 73 dX5_listFor_191 (by decide) ?_
                            exact ih2 (by omega) _ _ _ _ (fI _ _) (fJ _) h16 (LT_step hl (by omega) (SP_1 (by omega) rfl h1 hsp rfl rfl rfl))
                        · exact absurd (show nI 1 = 0 from c_154) (by decide)
                · have h2 : k % 3 = 2 := by omega
                  rw [h2] at d2
                  refine ev_iload_n (q := 74) dX5_listFor_73 rfl rfl ?_
                  refine ev_if_lt (q := 77) 194 dX5_listFor_74 (by decide) rfl (fun c_74 => ?_) (fun c_74 => ?_)
                  · exact absurd c_74 (nI_pos (by omega))
                  · refine ev_iload_n (q := 78) dX5_listFor_77 rfl rfl ?_
                    refine ev_iconst (q := 79) (3) dX5_listFor_78 (by decide) rfl ?_
                    refine ev_idiv (q := 80) (by decide) dX5_listFor_79 rfl ?_
                    rw [d1]
                    refine ev_ist_4 (q := 82) dX5_listFor_80 rfl rfl ?_
                    refine ev_iload_n (q := 83) dX5_listFor_82 rfl rfl ?_
                    refine ev_iconst (q := 84) (3) dX5_listFor_83 (by decide) rfl ?_
                    refine ev_irem (q := 85) (by decide) dX5_listFor_84 rfl ?_
                    rw [d1, d2]
                    refine ev_ist_5 (q := 87) dX5_listFor_85 rfl rfl ?_
                    refine ev_aload_n (q := 88) dX5_listFor_87 rfl rfl ?_
                    refine ev_get (q := 91) dX5_listFor_88 fr_X5_9 rfl (lt_n3 hn (by decide)) rfl rfl ?_
                    refine ev_iload_n (q := 92) dX5_listFor_91 rfl rfl ?_
                    refine ev_aload_n (q := 93) dX5_listFor_92 rfl rfl ?_
                    refine ev_get (q := 96) dX5_listFor_93 fr_X5_9 rfl (lt_n3 hn (by decide)) rfl rfl ?_
                    refine ev_iload (q := 98) dX5_listFor_96 rfl rfl ?_
                    refine ev_iaS (q := 99) (k / 3) dX5_listFor_98 rfl rfl (by omega) (lt_n3 hn (by decide)) rfl ?_
                    refine ev_iload (q := 101) dX5_listFor_99 rfl rfl ?_
                    refine ev_if_eq (q := 104) 110 dX5_listFor_101 (by decide) rfl (fun c_101 => ?_) (fun c_101 => ?_)
                    · exact absurd (show nI 2 = 0 from c_101) (by decide)
                    · refine ev_iconst (q := 105) (1) dX5_listFor_104 (by decide) rfl ?_
                      refine ev_iload_n (q := 106) dX5_listFor_105 rfl rfl ?_
                      refine ev_ishl (q := 107) dX5_listFor_106 rfl ?_
                      refine ev_goto 111 dX5_listFor_107 (by decide) ?_
                      rw [nI_sh1 (by omega)]
                      refine ev_ior (q := 112) dX5_listFor_111 rfl ?_
                      first | refine ev_isK (q := 113) k dX5_listFor_112 rfl rfl (by omega) (lt_n3 hn (by decide)) rfl rfl ?_ | refine ev_isR (q := 113) k dX5_listFor_112 rfl rfl (by omega) (lt_n3 hn (by decide)) rfl rfl ?_
                      refine ev_aload_n (q := 114) dX5_listFor_113 rfl rfl ?_
                      refine ev_get (q := 117) dX5_listFor_114 fr_X5_15 rfl (lt_n3 hn (by decide)) rfl rfl ?_
                      refine ev_iload_n (q := 118) dX5_listFor_117 rfl rfl ?_
                      refine ev_aload_n (q := 119) dX5_listFor_118 rfl rfl ?_
                      refine ev_get (q := 122) dX5_listFor_119 fr_X5_15 rfl (lt_n3 hn (by decide)) rfl rfl ?_
                      refine ev_iload (q := 124) dX5_listFor_122 rfl rfl ?_
                      refine ev_iaS (q := 125) (k / 3) dX5_listFor_124 rfl rfl (by omega) (lt_n3 hn (by decide)) rfl ?_
                      refine ev_iload (q := 127) dX5_listFor_125 rfl rfl ?_
                      refine ev_iconst (q := 128) (1) dX5_listFor_127 (by decide) rfl ?_
                      refine ev_icmp_ne (q := 131) 137 dX5_listFor_128 (by decide) rfl (fun c_128 => ?_) (fun c_128 => ?_)
                      · refine ev_iconst (q := 138) (0) dX5_listFor_137 (by decide) rfl ?_
                        refine ev_ior (q := 139) dX5_listFor_138 rfl ?_
                        first | refine ev_isK (q := 140) k dX5_listFor_139 rfl rfl (by omega) (lt_n3 hn (by decide)) rfl rfl ?_ | refine ev_isR (q := 140) k dX5_listFor_139 rfl rfl (by omega) (lt_n3 hn (by decide)) rfl rfl ?_
                        refine ev_aload_n (q := 141) dX5_listFor_140 rfl rfl ?_
                        refine ev_get (q := 144) dX5_listFor_141 fr_X5_18 rfl (lt_n3 hn (by decide)) rfl rfl ?_
                        refine ev_iload_n (q := 145) dX5_listFor_144 rfl rfl ?_
                        refine ev_aload_n (q := 146) dX5_listFor_145 rfl rfl ?_
                        refine ev_get (q := 149) dX5_listFor_146 fr_X5_18 rfl (lt_n3 hn (by decide)) rfl rfl ?_
                        refine ev_iload (q := 151) dX5_listFor_149 rfl rfl ?_
                        refine ev_laS (q := 152) (k / 3) dX5_listFor_151 rfl rfl (by omega) (lt_n3 hn (by decide)) rfl ?_
                        refine ev_iload (q := 154) dX5_listFor_152 rfl rfl ?_
                        refine ev_if_ne (q := 157) 163 dX5_listFor_154 (by decide) rfl (fun c_154 => ?_) (fun c_154 => ?_)
                        · refine ev_iload (q := 165) dX5_listFor_163 rfl rfl ?_
                          refine ev_iconst (q := 166) (1) dX5_listFor_165 (by decide) rfl ?_
                          refine ev_icmp_ne (q := 169) 177 dX5_listFor_166 (by decide) rfl (fun c_166 => ?_) (fun c_166 => ?_)
                          · refine ev_getsN (q := 180) (k := 2) dX5_listFor_177 rfl (List.mem_filter.mpr ⟨tt_2 5 rfl, rfl⟩) rfl ?_
                            refine ev_iload_n (q := 181) dX5_listFor_180 rfl rfl ?_
                            refine ev_flald (q := 182) dX5_listFor_181 rfl (vin (by omega) (by decide)) (fz_so (by omega)) rfl ?_
                            refine ev_ldc2 (q := 185) co_X5_32 dX5_listFor_182 rfl ?_
                            refine ev_lxor (q := 186) dX5_listFor_185 rfl ?_
                            refine ev_land (q := 187) dX5_listFor_186 rfl ?_
                            first | refine ev_lsK (q := 188) k dX5_listFor_187 rfl rfl (by omega) (lt_n3 hn (by decide)) rfl rfl ?_ | refine ev_lsR (q := 188) k dX5_listFor_187 rfl rfl (by omega) (lt_n3 hn (by decide)) rfl rfl ?_
                            refine ev_inc_3 (q := 191) (nI k - 1) dX5_listFor_188 (inc_m1 _) rfl rfl ?_
                            refine ev_goto 73 dX5_listFor_191 (by decide) ?_
                            exact ih2 (by omega) _ _ _ _ (fI _ _) (fJ _) h16 (LT_step hl (by omega) (SP_2 (by omega) rfl h2 hsp rfl (Int32.or_zero (a := I2 18 (k / 3))) rfl))
                          · exact absurd (show nI 2 = 1 from c_166) (by decide)
                        · exact absurd (show nI 2 = 0 from c_154) (by decide)
                      · exact absurd (show nI 2 = 1 from c_128) (by decide)
          refine ev_iload_n (q := 59) dX5_listFor_58 rfl rfl ?_
          refine ev_iload_n (q := 60) dX5_listFor_59 rfl rfl ?_
          refine ev_icmp_ge (q := 63) 200 dX5_listFor_60 (by decide) rfl (fun c_60 => ?_) (fun c_60 => ?_)
          · exact absurd ((nI_leI (by omega) (by omega)).mp c_60) hiN
          · refine ev_getsN (q := 66) (k := 0) dX5_listFor_63 rfl (List.mem_filter.mpr ⟨tt_2 2 rfl, rfl⟩) rfl ?_
            refine ev_iload_n (q := 67) dX5_listFor_66 rfl rfl ?_
            refine ev_iconst (q := 68) (1) dX5_listFor_67 (by decide) rfl ?_
            refine ev_iadd (q := 69) dX5_listFor_68 rfl ?_
            rw [show nI i + 1 = nI (i + 1) from nI_1 i]
            refine ev_fiald (q := 70) dX5_listFor_69 rfl (vin (by omega) (by decide)) (fz_pow (by omega)) rfl ?_
            refine ev_iconst (q := 71) (1) dX5_listFor_70 (by decide) rfl ?_
            refine ev_isub (q := 72) dX5_listFor_71 rfl ?_
            refine ev_ist_3 (q := 73) dX5_listFor_72 rfl rfl ?_
            exact inn (3 ^ (i + 1)) (Nat.le_refl _) I2 J2 _ _ hI hJ h16 ⟨fun x h1 _ => hS x h1, fun x h1 h2 => absurd h1 (by omega)⟩
    refine ev_iload_n (q := 1) dX5_listFor_0 rfl rfl ?_
    refine ev_iconst (q := 2) (2) dX5_listFor_1 (by decide) rfl ?_
    refine ev_icmp_lt (q := 5) 23 dX5_listFor_2 (by decide) rfl (fun c_2 => ?_) (fun c_2 => ?_)
    · exact absurd ((nI_ltI (b := 2) (by omega) (by omega)).mp c_2) (by omega)
    · refine ev_iload_n (q := 6) dX5_listFor_5 rfl rfl ?_
      refine ev_bipush (q := 8) (6) dX5_listFor_6 (by decide) rfl ?_
      refine ev_icmp_gt (q := 11) 23 dX5_listFor_8 (by decide) rfl (fun c_8 => ?_) (fun c_8 => ?_)
      · exact absurd ((nI_ltI (a := 6) (by omega) (by omega)).mp c_8) (by omega)
      · refine ev_aload_n (q := 12) dX5_listFor_11 rfl rfl ?_
        refine ev_get (q := 15) dX5_listFor_12 fr_X5_25 rfl (lt_n3 hn (by decide)) rfl rfl ?_
        refine ev_getsN (q := 18) (k := 0) dX5_listFor_15 rfl (List.mem_filter.mpr ⟨tt_2 2 rfl, rfl⟩) rfl ?_
        refine ev_iload_n (q := 19) dX5_listFor_18 rfl rfl ?_
        refine ev_fiald (q := 20) dX5_listFor_19 rfl (vin (by omega) (by decide)) (fz_pow (by omega)) rfl ?_
        refine ev_icmp_ne (q := 23) 24 dX5_listFor_20 (by decide) rfl (fun c_20 => ?_) (fun c_20 => ?_)
        · refine ev_aload_n (q := 25) dX5_listFor_24 rfl rfl ?_
          refine ev_getsN (q := 28) (k := 0) dX5_listFor_25 rfl (List.mem_filter.mpr ⟨tt_2 2 rfl, rfl⟩) rfl ?_
          refine ev_iload_n (q := 29) dX5_listFor_28 rfl rfl ?_
          refine ev_fiald (q := 30) dX5_listFor_29 rfl (vin (by omega) (by decide)) (fz_pow (by omega)) rfl ?_
          first | refine ev_putIK (q := 33) dX5_listFor_30 fa_X5_25 rfl (by decide) (lt_n3 hn (by decide)) (Nat.le_of_ble_eq_true rfl) ⟨rfl, rfl⟩ rfl rfl rfl ?_ | refine ev_putIR (q := 33) dX5_listFor_30 fa_X5_25 rfl (by decide) (lt_n3 hn (by decide)) (Nat.le_of_ble_eq_true rfl) ⟨rfl, rfl⟩ rfl rfl rfl ?_
          refine ev_aload_n (q := 34) dX5_listFor_33 rfl rfl ?_
          refine ev_get (q := 37) dX5_listFor_34 fr_X5_9 rfl (lt_n3 hn (by decide)) rfl rfl ?_
          refine ev_iconst (q := 38) (0) dX5_listFor_37 (by decide) rfl ?_
          refine ev_iconst (q := 39) (0) dX5_listFor_38 (by decide) rfl ?_
          first | refine ev_isK (q := 40) 0 dX5_listFor_39 rfl rfl (by omega) (lt_n3 hn (by decide)) rfl rfl ?_ | refine ev_isR (q := 40) 0 dX5_listFor_39 rfl rfl (by omega) (lt_n3 hn (by decide)) rfl rfl ?_
          refine ev_aload_n (q := 41) dX5_listFor_40 rfl rfl ?_
          refine ev_get (q := 44) dX5_listFor_41 fr_X5_15 rfl (lt_n3 hn (by decide)) rfl rfl ?_
          refine ev_iconst (q := 45) (0) dX5_listFor_44 (by decide) rfl ?_
          refine ev_iconst (q := 46) (0) dX5_listFor_45 (by decide) rfl ?_
          first | refine ev_isK (q := 47) 0 dX5_listFor_46 rfl rfl (by omega) (lt_n3 hn (by decide)) rfl rfl ?_ | refine ev_isR (q := 47) 0 dX5_listFor_46 rfl rfl (by omega) (lt_n3 hn (by decide)) rfl rfl ?_
          refine ev_aload_n (q := 48) dX5_listFor_47 rfl rfl ?_
          refine ev_get (q := 51) dX5_listFor_48 fr_X5_18 rfl (lt_n3 hn (by decide)) rfl rfl ?_
          refine ev_iconst (q := 52) (0) dX5_listFor_51 (by decide) rfl ?_
          refine ev_ldc2 (q := 55) co_X5_32 dX5_listFor_52 rfl ?_
          first | refine ev_lsK (q := 56) 0 dX5_listFor_55 rfl rfl (by omega) (lt_n3 hn (by decide)) rfl rfl ?_ | refine ev_lsR (q := 56) 0 dX5_listFor_55 rfl rfl (by omega) (lt_n3 hn (by decide)) rfl rfl ?_
          refine ev_iconst (q := 57) (0) dX5_listFor_56 (by decide) rfl ?_
          refine ev_ist_2 (q := 58) dX5_listFor_57 rfl rfl ?_
          refine l2 m 0 (by omega) _ _ _ _ _ (fun p a1 a2 a3 a4 => by simp [setI, a1, a2, a3]) (fun p a1 => by simp [setJ, a1]) rfl (fun x hx => ?_)
          have hx : x = 0 := by have : (3 : Nat) ^ 0 = 1 := rfl; omega
          subst hx
          exact ⟨rfl, rfl, fun w hw => by show lbit (-1) w = _; rw [lb_m1 w hw]; simp [tmask]⟩
        · exact absurd (show I 16 0 = nI (3 ^ m) from c_20) hc
def thP (I : Nat → Nat → Int32) (J : Nat → Nat → Int64) (m : Nat) (I' S' : Nat → Nat → Int32) (J' T' : Nat → Nat → Int64) : Prop := (∀ p, p ≠ 16 → p ≠ 17 → p ≠ 18 → p ≠ 20 → I' p = bgI I m p) ∧ (∀ p, p ≠ 19 → J' p = bgJ J m p) ∧ TOK I' J' m
theorem k_X6_things_f (hn : 49 ≤ n) {v : Int32} (hv : inb v 2 6 = false) : RnS xl xs 3 62 0 0 mX6_things [.ref 0, .int v] n I J X (some (.int (-2))) n I J X := by
  intro S T Q hQ
  have h1 := inb_cases hv
  show Ev xl xs 3 62 0 0 mX6_things 0 [some (.ref 0), some (.int v), none] [] n (sysH (ov I S) (ovJ J T) X) Q
  refine ev_iload_n (q := 1) dX6_things_0 rfl rfl ?_
  refine ev_iconst (q := 2) (2) dX6_things_1 (by decide) rfl ?_
  refine ev_icmp_lt (q := 5) 11 dX6_things_2 (by decide) rfl (fun c_2 => ?_) (fun c_2 => ?_)
  · refine ev_bipush (q := 13) (-2) dX6_things_11 (by decide) rfl ?_
    exact ev_iretE dX6_things_13 rfl rfl rfl rfl rfl (hQ _ _)
  · refine ev_iload_n (q := 6) dX6_things_5 rfl rfl ?_
    refine ev_bipush (q := 8) (6) dX6_things_6 (by decide) rfl ?_
    refine ev_icmp_le (q := 11) 14 dX6_things_8 (by decide) rfl (fun c_8 => ?_) (fun c_8 => ?_)
    · (simp only [i_le, i_lt] at *; omega)
    · refine ev_bipush (q := 13) (-2) dX6_things_11 (by decide) rfl ?_
      exact ev_iretE dX6_things_13 rfl rfl rfl rfl rfl (hQ _ _)
theorem k_X6_things (hn : 49 ≤ n) (ht : TOK I J t) (ht2 : t ≤ 6) (h2 : 2 ≤ m) (h6 : m ≤ 6) : RnX xl xs 3 62 mX6_things [.ref 0, .int (nI m)] n I S J T X (some (.int (I 1 0))) (thP I J m) := by
  intro Q hQ
  have hc : bgI I m 16 0 = nI (3 ^ m) → TOK (bgI I m) (bgJ J m) m := fun g => by
    have g : I 16 0 = nI (3 ^ m) := g
    have h1 := p3_le ht2
    have h2 := p3_le h6
    have e : 3 ^ t = 3 ^ m := (nI_eq (by omega) (by omega)).mp (ht.1.symm.trans g)
    have e : t = m := by
      rcases Nat.lt_trichotomy t m with h | h | h
      · have := Nat.pow_lt_pow_right (a := 3) (by decide) h; omega
      · exact h
      · have := Nat.pow_lt_pow_right (a := 3) (by decide) h; omega
    subst e
    exact ht
  show Ev xl xs 3 62 0 0 mX6_things 0 [some (.ref 0), some (.int (nI m)), none] [] n (sysH (ov I S) (ovJ J T) X) Q
  refine ev_iload_n (q := 1) dX6_things_0 rfl rfl ?_
  refine ev_iconst (q := 2) (2) dX6_things_1 (by decide) rfl ?_
  refine ev_icmp_lt (q := 5) 11 dX6_things_2 (by decide) rfl (fun c_2 => ?_) (fun c_2 => ?_)
  · exact absurd ((nI_ltI (b := 2) (by omega) (by omega)).mp c_2) (by omega)
  · refine ev_iload_n (q := 6) dX6_things_5 rfl rfl ?_
    refine ev_bipush (q := 8) (6) dX6_things_6 (by decide) rfl ?_
    refine ev_icmp_le (q := 11) 14 dX6_things_8 (by decide) rfl (fun c_8 => ?_) (fun c_8 => ?_)
    · refine ev_aload_n (q := 15) dX6_things_14 rfl rfl ?_
      refine ev_get (q := 18) dX6_things_15 fr_X6_10 rfl (lt_n hn (by decide)) rfl rfl ?_
      refine ev_get (q := 21) dX6_things_18 fr_X6_74 rfl (lt_n hn (by decide)) rfl rfl ?_
      refine ev_ist_2 (q := 22) dX6_things_21 rfl rfl ?_
      refine ev_aload_n (q := 23) dX6_things_22 rfl rfl ?_
      refine ev_get (q := 26) dX6_things_23 fr_X6_10 rfl (lt_n hn (by decide)) rfl rfl ?_
      refine ev_iload_n (q := 27) dX6_things_26 rfl rfl ?_
      refine ev_callV1v (q := 30) dX6_things_27 ca_X6_67 (b_begin (by omega) h6) rfl (lt_n hn (by decide)) rfl rfl (Nat.le_of_ble_eq_true rfl) (Nat.le_of_ble_eq_true rfl) (by decide) (by decide) rfl ?_
      refine ev_aload_n (q := 31) dX6_things_30 rfl rfl ?_
      refine ev_get (q := 34) dX6_things_31 fr_X6_33 rfl (lt_n hn (by decide)) rfl rfl ?_
      refine ev_iload_n (q := 35) dX6_things_34 rfl rfl ?_
      refine ev_callV1vX (q := 38) dX6_things_35 ca_X6_71 (b_listFor (by omega) h2 h6 hc) rfl (lt_n hn (by decide)) rfl rfl (Nat.le_of_ble_eq_true rfl) (Nat.le_of_ble_eq_true rfl) (by decide) (by decide) rfl (fun I2 S J2 T hp_35 => ?_)
      obtain ⟨-, -, d3, d4, d5⟩ := hp_35
      refine ev_iload_n (q := 39) dX6_things_38 rfl rfl ?_
      exact ev_iretE dX6_things_39 rfl rfl rfl rfl rfl (hQ _ _ _ _ ⟨d3, d4, d5⟩)
    · exact absurd ((nI_leI (b := 6) (by omega) (by omega)).mpr h6) c_8
end CLS16
