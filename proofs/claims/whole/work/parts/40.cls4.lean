theorem dX1_write_0 : decode cX1_write 0 = .ok (.aload_n 0, 1) := by decide +kernel
theorem dX1_write_1 : decode cX1_write 1 = .ok (.getfield 19, 3) := by decide +kernel
theorem dX1_write_4 : decode cX1_write 4 = .ok (.ifCond .lt 12, 3) := by decide +kernel
theorem dX1_write_7 : decode cX1_write 7 = .ok (.aload_n 0, 1) := by decide +kernel
theorem dX1_write_8 : decode cX1_write 8 = .ok (.getfield 19, 3) := by decide +kernel
theorem dX1_write_11 : decode cX1_write 11 = .ok (.bipush 40, 2) := by decide +kernel
theorem dX1_write_13 : decode cX1_write 13 = .ok (.if_icmp .lt 5, 3) := by decide +kernel
theorem dX1_write_16 : decode cX1_write 16 = .ok (.iconst 0, 1) := by decide +kernel
theorem dX1_write_17 : decode cX1_write 17 = .ok (.ireturn, 1) := by decide +kernel
theorem dX1_write_18 : decode cX1_write 18 = .ok (.aload_n 0, 1) := by decide +kernel
theorem dX1_write_19 : decode cX1_write 19 = .ok (.getfield 9, 3) := by decide +kernel
theorem dX1_write_22 : decode cX1_write 22 = .ok (.aload_n 0, 1) := by decide +kernel
theorem dX1_write_23 : decode cX1_write 23 = .ok (.getfield 19, 3) := by decide +kernel
theorem dX1_write_26 : decode cX1_write 26 = .ok (.iload_n 1, 1) := by decide +kernel
theorem dX1_write_27 : decode cX1_write 27 = .ok (.iastore, 1) := by decide +kernel
theorem dX1_write_28 : decode cX1_write 28 = .ok (.aload_n 0, 1) := by decide +kernel
theorem dX1_write_29 : decode cX1_write 29 = .ok (.dup, 1) := by decide +kernel
theorem dX1_write_30 : decode cX1_write 30 = .ok (.getfield 19, 3) := by decide +kernel
theorem dX1_write_33 : decode cX1_write 33 = .ok (.iconst 1, 1) := by decide +kernel
theorem dX1_write_34 : decode cX1_write 34 = .ok (.iadd, 1) := by decide +kernel
theorem dX1_write_35 : decode cX1_write 35 = .ok (.putfield 19, 3) := by decide +kernel
theorem dX1_write_38 : decode cX1_write 38 = .ok (.iconst 1, 1) := by decide +kernel
theorem dX1_write_39 : decode cX1_write 39 = .ok (.ireturn, 1) := by decide +kernel
theorem dX1_clear_0 : decode cX1_clear 0 = .ok (.aload_n 0, 1) := by decide +kernel
theorem dX1_clear_1 : decode cX1_clear 1 = .ok (.getfield 19, 3) := by decide +kernel
theorem dX1_clear_4 : decode cX1_clear 4 = .ok (.istore_n 1, 1) := by decide +kernel
theorem dX1_clear_5 : decode cX1_clear 5 = .ok (.aload_n 0, 1) := by decide +kernel
theorem dX1_clear_6 : decode cX1_clear 6 = .ok (.iconst 0, 1) := by decide +kernel
theorem dX1_clear_7 : decode cX1_clear 7 = .ok (.putfield 19, 3) := by decide +kernel
theorem dX1_clear_10 : decode cX1_clear 10 = .ok (.iload_n 1, 1) := by decide +kernel
theorem dX1_clear_11 : decode cX1_clear 11 = .ok (.ireturn, 1) := by decide +kernel
theorem dX1_firstFault_0 : decode cX1_firstFault 0 = .ok (.iconst 1, 1) := by decide +kernel
theorem dX1_firstFault_1 : decode cX1_firstFault 1 = .ok (.istore_n 2, 1) := by decide +kernel
theorem dX1_firstFault_2 : decode cX1_firstFault 2 = .ok (.iconst 0, 1) := by decide +kernel
theorem dX1_firstFault_3 : decode cX1_firstFault 3 = .ok (.istore_n 3, 1) := by decide +kernel
theorem dX1_firstFault_4 : decode cX1_firstFault 4 = .ok (.iconst 0, 1) := by decide +kernel
theorem dX1_firstFault_5 : decode cX1_firstFault 5 = .ok (.istore 4, 2) := by decide +kernel
theorem dX1_firstFault_7 : decode cX1_firstFault 7 = .ok (.iload 4, 2) := by decide +kernel
theorem dX1_firstFault_9 : decode cX1_firstFault 9 = .ok (.aload_n 0, 1) := by decide +kernel
theorem dX1_firstFault_10 : decode cX1_firstFault 10 = .ok (.getfield 19, 3) := by decide +kernel
theorem dX1_firstFault_13 : decode cX1_firstFault 13 = .ok (.if_icmp .ge 133, 3) := by decide +kernel
theorem dX1_firstFault_16 : decode cX1_firstFault 16 = .ok (.aload_n 0, 1) := by decide +kernel
theorem dX1_firstFault_17 : decode cX1_firstFault 17 = .ok (.getfield 9, 3) := by decide +kernel
theorem dX1_firstFault_20 : decode cX1_firstFault 20 = .ok (.iload 4, 2) := by decide +kernel
theorem dX1_firstFault_22 : decode cX1_firstFault 22 = .ok (.iaload, 1) := by decide +kernel
theorem dX1_firstFault_23 : decode cX1_firstFault 23 = .ok (.istore 5, 2) := by decide +kernel
theorem dX1_firstFault_25 : decode cX1_firstFault 25 = .ok (.iload 5, 2) := by decide +kernel
theorem dX1_firstFault_27 : decode cX1_firstFault 27 = .ok (.bipush 97, 2) := by decide +kernel
theorem dX1_firstFault_29 : decode cX1_firstFault 29 = .ok (.if_icmp .lt 16, 3) := by decide +kernel
theorem dX1_firstFault_32 : decode cX1_firstFault 32 = .ok (.iload 5, 2) := by decide +kernel
theorem dX1_firstFault_34 : decode cX1_firstFault 34 = .ok (.bipush 97, 2) := by decide +kernel
theorem dX1_firstFault_36 : decode cX1_firstFault 36 = .ok (.iload_n 1, 1) := by decide +kernel
theorem dX1_firstFault_37 : decode cX1_firstFault 37 = .ok (.iadd, 1) := by decide +kernel
theorem dX1_firstFault_38 : decode cX1_firstFault 38 = .ok (.if_icmp .ge 7, 3) := by decide +kernel
theorem dX1_firstFault_41 : decode cX1_firstFault 41 = .ok (.iconst 1, 1) := by decide +kernel
theorem dX1_firstFault_42 : decode cX1_firstFault 42 = .ok (.goto 4, 3) := by decide +kernel
theorem dX1_firstFault_45 : decode cX1_firstFault 45 = .ok (.iconst 0, 1) := by decide +kernel
theorem dX1_firstFault_46 : decode cX1_firstFault 46 = .ok (.istore 6, 2) := by decide +kernel
theorem dX1_firstFault_48 : decode cX1_firstFault 48 = .ok (.iload 4, 2) := by decide +kernel
theorem dX1_firstFault_50 : decode cX1_firstFault 50 = .ok (.bipush 24, 2) := by decide +kernel
theorem dX1_firstFault_52 : decode cX1_firstFault 52 = .ok (.if_icmp .ge 16, 3) := by decide +kernel
theorem dX1_firstFault_55 : decode cX1_firstFault 55 = .ok (.iload_n 2, 1) := by decide +kernel
theorem dX1_firstFault_56 : decode cX1_firstFault 56 = .ok (.ifCond .eq 12, 3) := by decide +kernel
theorem dX1_firstFault_59 : decode cX1_firstFault 59 = .ok (.iload_n 3, 1) := by decide +kernel
theorem dX1_firstFault_60 : decode cX1_firstFault 60 = .ok (.ifCond .eq 11, 3) := by decide +kernel
theorem dX1_firstFault_63 : decode cX1_firstFault 63 = .ok (.iload 6, 2) := by decide +kernel
theorem dX1_firstFault_65 : decode cX1_firstFault 65 = .ok (.ifCond .ne 6, 3) := by decide +kernel
theorem dX1_firstFault_68 : decode cX1_firstFault 68 = .ok (.iload 4, 2) := by decide +kernel
theorem dX1_firstFault_70 : decode cX1_firstFault 70 = .ok (.ireturn, 1) := by decide +kernel
theorem dX1_firstFault_71 : decode cX1_firstFault 71 = .ok (.iload 5, 2) := by decide +kernel
theorem dX1_firstFault_73 : decode cX1_firstFault 73 = .ok (.bipush 126, 2) := by decide +kernel
theorem dX1_firstFault_75 : decode cX1_firstFault 75 = .ok (.if_icmp .ne 7, 3) := by decide +kernel
theorem dX1_firstFault_78 : decode cX1_firstFault 78 = .ok (.iconst 1, 1) := by decide +kernel
theorem dX1_firstFault_79 : decode cX1_firstFault 79 = .ok (.goto 4, 3) := by decide +kernel
theorem dX1_firstFault_82 : decode cX1_firstFault 82 = .ok (.iconst 0, 1) := by decide +kernel
theorem dX1_firstFault_83 : decode cX1_firstFault 83 = .ok (.istore_n 3, 1) := by decide +kernel
theorem dX1_firstFault_84 : decode cX1_firstFault 84 = .ok (.iload 6, 2) := by decide +kernel
theorem dX1_firstFault_86 : decode cX1_firstFault 86 = .ok (.ifCond .ne 17, 3) := by decide +kernel
theorem dX1_firstFault_89 : decode cX1_firstFault 89 = .ok (.iload 5, 2) := by decide +kernel
theorem dX1_firstFault_91 : decode cX1_firstFault 91 = .ok (.bipush 48, 2) := by decide +kernel
theorem dX1_firstFault_93 : decode cX1_firstFault 93 = .ok (.if_icmp .eq 10, 3) := by decide +kernel
theorem dX1_firstFault_96 : decode cX1_firstFault 96 = .ok (.iload 5, 2) := by decide +kernel
theorem dX1_firstFault_98 : decode cX1_firstFault 98 = .ok (.bipush 49, 2) := by decide +kernel
theorem dX1_firstFault_100 : decode cX1_firstFault 100 = .ok (.if_icmp .ne 9, 3) := by decide +kernel
theorem dX1_firstFault_103 : decode cX1_firstFault 103 = .ok (.iinc 2 (-1), 3) := by decide +kernel
theorem dX1_firstFault_106 : decode cX1_firstFault 106 = .ok (.goto 34, 3) := by decide +kernel
theorem dX1_firstFault_109 : decode cX1_firstFault 109 = .ok (.iload 5, 2) := by decide +kernel
theorem dX1_firstFault_111 : decode cX1_firstFault 111 = .ok (.invokestatic 27, 3) := by decide +kernel
theorem dX1_firstFault_114 : decode cX1_firstFault 114 = .ok (.ifCond .lt 9, 3) := by decide +kernel
theorem dX1_firstFault_117 : decode cX1_firstFault 117 = .ok (.iinc 2 1, 3) := by decide +kernel
theorem dX1_firstFault_120 : decode cX1_firstFault 120 = .ok (.goto 20, 3) := by decide +kernel
theorem dX1_firstFault_123 : decode cX1_firstFault 123 = .ok (.iload 5, 2) := by decide +kernel
theorem dX1_firstFault_125 : decode cX1_firstFault 125 = .ok (.bipush 45, 2) := by decide +kernel
theorem dX1_firstFault_127 : decode cX1_firstFault 127 = .ok (.if_icmp .eq 13, 3) := by decide +kernel
theorem dX1_firstFault_130 : decode cX1_firstFault 130 = .ok (.iload 5, 2) := by decide +kernel
theorem dX1_firstFault_132 : decode cX1_firstFault 132 = .ok (.bipush 126, 2) := by decide +kernel
theorem dX1_firstFault_134 : decode cX1_firstFault 134 = .ok (.if_icmp .eq 6, 3) := by decide +kernel
theorem dX1_firstFault_137 : decode cX1_firstFault 137 = .ok (.iload 4, 2) := by decide +kernel
theorem dX1_firstFault_139 : decode cX1_firstFault 139 = .ok (.ireturn, 1) := by decide +kernel
theorem dX1_firstFault_140 : decode cX1_firstFault 140 = .ok (.iinc 4 1, 3) := by decide +kernel
theorem dX1_firstFault_143 : decode cX1_firstFault 143 = .ok (.goto (-136), 3) := by decide +kernel
theorem dX1_firstFault_146 : decode cX1_firstFault 146 = .ok (.iload_n 2, 1) := by decide +kernel
theorem dX1_firstFault_147 : decode cX1_firstFault 147 = .ok (.ifCond .ne 8, 3) := by decide +kernel
theorem dX1_firstFault_150 : decode cX1_firstFault 150 = .ok (.bipush (-6), 2) := by decide +kernel
theorem dX1_firstFault_152 : decode cX1_firstFault 152 = .ok (.goto 7, 3) := by decide +kernel
theorem dX1_firstFault_155 : decode cX1_firstFault 155 = .ok (.aload_n 0, 1) := by decide +kernel
theorem dX1_firstFault_156 : decode cX1_firstFault 156 = .ok (.getfield 19, 3) := by decide +kernel
theorem dX1_firstFault_159 : decode cX1_firstFault 159 = .ok (.ireturn, 1) := by decide +kernel
theorem dX1_saidThings_0 : decode cX1_saidThings 0 = .ok (.iconst 0, 1) := by decide +kernel
theorem dX1_saidThings_1 : decode cX1_saidThings 1 = .ok (.istore_n 1, 1) := by decide +kernel
theorem dX1_saidThings_2 : decode cX1_saidThings 2 = .ok (.iconst 0, 1) := by decide +kernel
theorem dX1_saidThings_3 : decode cX1_saidThings 3 = .ok (.istore_n 2, 1) := by decide +kernel
theorem dX1_saidThings_4 : decode cX1_saidThings 4 = .ok (.iload_n 2, 1) := by decide +kernel
theorem dX1_saidThings_5 : decode cX1_saidThings 5 = .ok (.aload_n 0, 1) := by decide +kernel
theorem dX1_saidThings_6 : decode cX1_saidThings 6 = .ok (.getfield 19, 3) := by decide +kernel
theorem dX1_saidThings_9 : decode cX1_saidThings 9 = .ok (.if_icmp .ge 35, 3) := by decide +kernel
theorem dX1_saidThings_12 : decode cX1_saidThings 12 = .ok (.aload_n 0, 1) := by decide +kernel
theorem dX1_saidThings_13 : decode cX1_saidThings 13 = .ok (.getfield 9, 3) := by decide +kernel
theorem dX1_saidThings_16 : decode cX1_saidThings 16 = .ok (.iload_n 2, 1) := by decide +kernel
theorem dX1_saidThings_17 : decode cX1_saidThings 17 = .ok (.iaload, 1) := by decide +kernel
theorem dX1_saidThings_18 : decode cX1_saidThings 18 = .ok (.bipush 97, 2) := by decide +kernel
theorem dX1_saidThings_20 : decode cX1_saidThings 20 = .ok (.isub, 1) := by decide +kernel
theorem dX1_saidThings_21 : decode cX1_saidThings 21 = .ok (.istore_n 3, 1) := by decide +kernel
theorem dX1_saidThings_22 : decode cX1_saidThings 22 = .ok (.iload_n 3, 1) := by decide +kernel
theorem dX1_saidThings_23 : decode cX1_saidThings 23 = .ok (.ifCond .lt 15, 3) := by decide +kernel
theorem dX1_saidThings_26 : decode cX1_saidThings 26 = .ok (.iload_n 3, 1) := by decide +kernel
theorem dX1_saidThings_27 : decode cX1_saidThings 27 = .ok (.bipush 6, 2) := by decide +kernel
theorem dX1_saidThings_29 : decode cX1_saidThings 29 = .ok (.if_icmp .ge 9, 3) := by decide +kernel
theorem dX1_saidThings_32 : decode cX1_saidThings 32 = .ok (.iload_n 1, 1) := by decide +kernel
theorem dX1_saidThings_33 : decode cX1_saidThings 33 = .ok (.iconst 1, 1) := by decide +kernel
theorem dX1_saidThings_34 : decode cX1_saidThings 34 = .ok (.iload_n 3, 1) := by decide +kernel
theorem dX1_saidThings_35 : decode cX1_saidThings 35 = .ok (.ishl, 1) := by decide +kernel
theorem dX1_saidThings_36 : decode cX1_saidThings 36 = .ok (.ior, 1) := by decide +kernel
theorem dX1_saidThings_37 : decode cX1_saidThings 37 = .ok (.istore_n 1, 1) := by decide +kernel
theorem dX1_saidThings_38 : decode cX1_saidThings 38 = .ok (.iinc 2 1, 3) := by decide +kernel
theorem dX1_saidThings_41 : decode cX1_saidThings 41 = .ok (.goto (-37), 3) := by decide +kernel
theorem dX1_saidThings_44 : decode cX1_saidThings 44 = .ok (.iload_n 1, 1) := by decide +kernel
theorem dX1_saidThings_45 : decode cX1_saidThings 45 = .ok (.ireturn, 1) := by decide +kernel
theorem dX6_isFaulty_0 : decode cX6_isFaulty 0 = .ok (.aload_n 0, 1) := by decide +kernel
theorem dX6_isFaulty_1 : decode cX6_isFaulty 1 = .ok (.getfield 23, 3) := by decide +kernel
theorem dX6_isFaulty_4 : decode cX6_isFaulty 4 = .ok (.aload_n 0, 1) := by decide +kernel
theorem dX6_isFaulty_5 : decode cX6_isFaulty 5 = .ok (.getfield 10, 3) := by decide +kernel
theorem dX6_isFaulty_8 : decode cX6_isFaulty 8 = .ok (.getfield 74, 3) := by decide +kernel
theorem dX6_isFaulty_11 : decode cX6_isFaulty 11 = .ok (.invokevirtual 123, 3) := by decide +kernel
theorem dX6_isFaulty_14 : decode cX6_isFaulty 14 = .ok (.bipush (-6), 2) := by decide +kernel
theorem dX6_isFaulty_16 : decode cX6_isFaulty 16 = .ok (.if_icmp .eq 7, 3) := by decide +kernel
theorem dX6_isFaulty_19 : decode cX6_isFaulty 19 = .ok (.iconst 1, 1) := by decide +kernel
theorem dX6_isFaulty_20 : decode cX6_isFaulty 20 = .ok (.goto 4, 3) := by decide +kernel
theorem dX6_isFaulty_23 : decode cX6_isFaulty 23 = .ok (.iconst 0, 1) := by decide +kernel
theorem dX6_isFaulty_24 : decode cX6_isFaulty 24 = .ok (.ireturn, 1) := by decide +kernel
theorem dX1_isSoAt_0 : decode cX1_isSoAt 0 = .ok (.iload_n 1, 1) := by decide +kernel
theorem dX1_isSoAt_1 : decode cX1_isSoAt 1 = .ok (.aload_n 0, 1) := by decide +kernel
theorem dX1_isSoAt_2 : decode cX1_isSoAt 2 = .ok (.getfield 19, 3) := by decide +kernel
theorem dX1_isSoAt_5 : decode cX1_isSoAt 5 = .ok (.if_icmp .ge 15, 3) := by decide +kernel
theorem dX1_isSoAt_8 : decode cX1_isSoAt 8 = .ok (.aload_n 0, 1) := by decide +kernel
theorem dX1_isSoAt_9 : decode cX1_isSoAt 9 = .ok (.getfield 9, 3) := by decide +kernel
theorem dX1_isSoAt_12 : decode cX1_isSoAt 12 = .ok (.iload_n 1, 1) := by decide +kernel
theorem dX1_isSoAt_13 : decode cX1_isSoAt 13 = .ok (.iaload, 1) := by decide +kernel
theorem dX1_isSoAt_14 : decode cX1_isSoAt 14 = .ok (.bipush 97, 2) := by decide +kernel
theorem dX1_isSoAt_16 : decode cX1_isSoAt 16 = .ok (.isub, 1) := by decide +kernel
theorem dX1_isSoAt_17 : decode cX1_isSoAt 17 = .ok (.goto 4, 3) := by decide +kernel
theorem dX1_isSoAt_20 : decode cX1_isSoAt 20 = .ok (.iconst 0, 1) := by decide +kernel
theorem dX1_isSoAt_21 : decode cX1_isSoAt 21 = .ok (.istore_n 3, 1) := by decide +kernel
theorem dX1_isSoAt_22 : decode cX1_isSoAt 22 = .ok (.iload_n 3, 1) := by decide +kernel
theorem dX1_isSoAt_23 : decode cX1_isSoAt 23 = .ok (.ifCond .lt 21, 3) := by decide +kernel
theorem dX1_isSoAt_26 : decode cX1_isSoAt 26 = .ok (.iload_n 3, 1) := by decide +kernel
theorem dX1_isSoAt_27 : decode cX1_isSoAt 27 = .ok (.bipush 6, 2) := by decide +kernel
theorem dX1_isSoAt_29 : decode cX1_isSoAt 29 = .ok (.if_icmp .ge 15, 3) := by decide +kernel
theorem dX1_isSoAt_32 : decode cX1_isSoAt 32 = .ok (.iload_n 2, 1) := by decide +kernel
theorem dX1_isSoAt_33 : decode cX1_isSoAt 33 = .ok (.iload_n 3, 1) := by decide +kernel
theorem dX1_isSoAt_34 : decode cX1_isSoAt 34 = .ok (.ishr, 1) := by decide +kernel
theorem dX1_isSoAt_35 : decode cX1_isSoAt 35 = .ok (.iconst 1, 1) := by decide +kernel
theorem dX1_isSoAt_36 : decode cX1_isSoAt 36 = .ok (.iand, 1) := by decide +kernel
theorem dX1_isSoAt_37 : decode cX1_isSoAt 37 = .ok (.ifCond .eq 7, 3) := by decide +kernel
theorem dX1_isSoAt_40 : decode cX1_isSoAt 40 = .ok (.iconst 1, 1) := by decide +kernel
theorem dX1_isSoAt_41 : decode cX1_isSoAt 41 = .ok (.goto 4, 3) := by decide +kernel
theorem dX1_isSoAt_44 : decode cX1_isSoAt 44 = .ok (.iconst 0, 1) := by decide +kernel
theorem dX1_isSoAt_45 : decode cX1_isSoAt 45 = .ok (.ireturn, 1) := by decide +kernel
theorem dX1_leafWorlds_0 : decode cX1_leafWorlds 0 = .ok (.iload_n 0, 1) := by decide +kernel
theorem dX1_leafWorlds_1 : decode cX1_leafWorlds 1 = .ok (.bipush 97, 2) := by decide +kernel
theorem dX1_leafWorlds_3 : decode cX1_leafWorlds 3 = .ok (.isub, 1) := by decide +kernel
theorem dX1_leafWorlds_4 : decode cX1_leafWorlds 4 = .ok (.istore_n 1, 1) := by decide +kernel
theorem dX1_leafWorlds_5 : decode cX1_leafWorlds 5 = .ok (.iload_n 1, 1) := by decide +kernel
theorem dX1_leafWorlds_6 : decode cX1_leafWorlds 6 = .ok (.ifCond .lt 15, 3) := by decide +kernel
theorem dX1_leafWorlds_9 : decode cX1_leafWorlds 9 = .ok (.iload_n 1, 1) := by decide +kernel
theorem dX1_leafWorlds_10 : decode cX1_leafWorlds 10 = .ok (.bipush 6, 2) := by decide +kernel
theorem dX1_leafWorlds_12 : decode cX1_leafWorlds 12 = .ok (.if_icmp .ge 9, 3) := by decide +kernel
theorem dX1_leafWorlds_15 : decode cX1_leafWorlds 15 = .ok (.getstatic 45, 3) := by decide +kernel
theorem dX1_leafWorlds_18 : decode cX1_leafWorlds 18 = .ok (.iload_n 1, 1) := by decide +kernel
theorem dX1_leafWorlds_19 : decode cX1_leafWorlds 19 = .ok (.laload, 1) := by decide +kernel
theorem dX1_leafWorlds_20 : decode cX1_leafWorlds 20 = .ok (.lreturn, 1) := by decide +kernel
theorem dX1_leafWorlds_21 : decode cX1_leafWorlds 21 = .ok (.iload_n 0, 1) := by decide +kernel
theorem dX1_leafWorlds_22 : decode cX1_leafWorlds 22 = .ok (.bipush 49, 2) := by decide +kernel
theorem dX1_leafWorlds_24 : decode cX1_leafWorlds 24 = .ok (.if_icmp .ne 9, 3) := by decide +kernel
theorem dX1_leafWorlds_27 : decode cX1_leafWorlds 27 = .ok (.ldc2_w 39, 3) := by decide +kernel
theorem dX1_leafWorlds_30 : decode cX1_leafWorlds 30 = .ok (.goto 4, 3) := by decide +kernel
theorem dX1_leafWorlds_33 : decode cX1_leafWorlds 33 = .ok (.lconst 0, 1) := by decide +kernel
theorem dX1_leafWorlds_34 : decode cX1_leafWorlds 34 = .ok (.lreturn, 1) := by decide +kernel
theorem dX1_joined_0 : decode cX1_joined 0 = .ok (.iload_n 0, 1) := by decide +kernel
theorem dX1_joined_1 : decode cX1_joined 1 = .ok (.tableswitch 55 0 3 #[31, 35, 39, 47], 31) := by decide +kernel
theorem dX1_joined_32 : decode cX1_joined 32 = .ok (.lload_n 1, 1) := by decide +kernel
theorem dX1_joined_33 : decode cX1_joined 33 = .ok (.lload_n 3, 1) := by decide +kernel
theorem dX1_joined_34 : decode cX1_joined 34 = .ok (.land, 1) := by decide +kernel
theorem dX1_joined_35 : decode cX1_joined 35 = .ok (.lreturn, 1) := by decide +kernel
theorem dX1_joined_36 : decode cX1_joined 36 = .ok (.lload_n 1, 1) := by decide +kernel
theorem dX1_joined_37 : decode cX1_joined 37 = .ok (.lload_n 3, 1) := by decide +kernel
theorem dX1_joined_38 : decode cX1_joined 38 = .ok (.lor, 1) := by decide +kernel
theorem dX1_joined_39 : decode cX1_joined 39 = .ok (.lreturn, 1) := by decide +kernel
theorem dX1_joined_40 : decode cX1_joined 40 = .ok (.lload_n 1, 1) := by decide +kernel
theorem dX1_joined_41 : decode cX1_joined 41 = .ok (.ldc2_w 39, 3) := by decide +kernel
theorem dX1_joined_44 : decode cX1_joined 44 = .ok (.lxor, 1) := by decide +kernel
theorem dX1_joined_45 : decode cX1_joined 45 = .ok (.lload_n 3, 1) := by decide +kernel
theorem dX1_joined_46 : decode cX1_joined 46 = .ok (.lor, 1) := by decide +kernel
theorem dX1_joined_47 : decode cX1_joined 47 = .ok (.lreturn, 1) := by decide +kernel
theorem dX1_joined_48 : decode cX1_joined 48 = .ok (.lload_n 1, 1) := by decide +kernel
theorem dX1_joined_49 : decode cX1_joined 49 = .ok (.lload_n 3, 1) := by decide +kernel
theorem dX1_joined_50 : decode cX1_joined 50 = .ok (.lxor, 1) := by decide +kernel
theorem dX1_joined_51 : decode cX1_joined 51 = .ok (.ldc2_w 39, 3) := by decide +kernel
theorem dX1_joined_54 : decode cX1_joined 54 = .ok (.lxor, 1) := by decide +kernel
theorem dX1_joined_55 : decode cX1_joined 55 = .ok (.lreturn, 1) := by decide +kernel
theorem dX1_joined_56 : decode cX1_joined 56 = .ok (.lload_n 1, 1) := by decide +kernel
theorem dX1_joined_57 : decode cX1_joined 57 = .ok (.lload_n 3, 1) := by decide +kernel
theorem dX1_joined_58 : decode cX1_joined 58 = .ok (.lxor, 1) := by decide +kernel
theorem dX1_joined_59 : decode cX1_joined 59 = .ok (.lreturn, 1) := by decide +kernel
theorem dX0_clear_0 : decode cX0_clear 0 = .ok (.aload_n 0, 1) := by decide +kernel
theorem dX0_clear_1 : decode cX0_clear 1 = .ok (.iconst 0, 1) := by decide +kernel
theorem dX0_clear_2 : decode cX0_clear 2 = .ok (.putfield 7, 3) := by decide +kernel
theorem dX0_clear_5 : decode cX0_clear 5 = .ok (.return_, 1) := by decide +kernel
theorem dX0_offer_0 : decode cX0_offer 0 = .ok (.aload_n 0, 1) := by decide +kernel
theorem dX0_offer_1 : decode cX0_offer 1 = .ok (.getfield 7, 3) := by decide +kernel
theorem dX0_offer_4 : decode cX0_offer 4 = .ok (.ifCond .eq 27, 3) := by decide +kernel
theorem dX0_offer_7 : decode cX0_offer 7 = .ok (.iload_n 1, 1) := by decide +kernel
theorem dX0_offer_8 : decode cX0_offer 8 = .ok (.aload_n 0, 1) := by decide +kernel
theorem dX0_offer_9 : decode cX0_offer 9 = .ok (.getfield 13, 3) := by decide +kernel
theorem dX0_offer_12 : decode cX0_offer 12 = .ok (.if_icmp .gt 19, 3) := by decide +kernel
theorem dX0_offer_15 : decode cX0_offer 15 = .ok (.iload_n 1, 1) := by decide +kernel
theorem dX0_offer_16 : decode cX0_offer 16 = .ok (.aload_n 0, 1) := by decide +kernel
theorem dX0_offer_17 : decode cX0_offer 17 = .ok (.getfield 13, 3) := by decide +kernel
theorem dX0_offer_20 : decode cX0_offer 20 = .ok (.if_icmp .ne 26, 3) := by decide +kernel
theorem dX0_offer_23 : decode cX0_offer 23 = .ok (.iload_n 2, 1) := by decide +kernel
theorem dX0_offer_24 : decode cX0_offer 24 = .ok (.aload_n 0, 1) := by decide +kernel
theorem dX0_offer_25 : decode cX0_offer 25 = .ok (.getfield 17, 3) := by decide +kernel
theorem dX0_offer_28 : decode cX0_offer 28 = .ok (.if_icmp .ge 18, 3) := by decide +kernel
theorem dX0_offer_31 : decode cX0_offer 31 = .ok (.aload_n 0, 1) := by decide +kernel
theorem dX0_offer_32 : decode cX0_offer 32 = .ok (.iconst 1, 1) := by decide +kernel
theorem dX0_offer_33 : decode cX0_offer 33 = .ok (.putfield 7, 3) := by decide +kernel
theorem dX0_offer_36 : decode cX0_offer 36 = .ok (.aload_n 0, 1) := by decide +kernel
theorem dX0_offer_37 : decode cX0_offer 37 = .ok (.iload_n 1, 1) := by decide +kernel
theorem dX0_offer_38 : decode cX0_offer 38 = .ok (.putfield 13, 3) := by decide +kernel
theorem dX0_offer_41 : decode cX0_offer 41 = .ok (.aload_n 0, 1) := by decide +kernel
theorem dX0_offer_42 : decode cX0_offer 42 = .ok (.iload_n 2, 1) := by decide +kernel
theorem dX0_offer_43 : decode cX0_offer 43 = .ok (.putfield 17, 3) := by decide +kernel
theorem dX0_offer_46 : decode cX0_offer 46 = .ok (.return_, 1) := by decide +kernel
def PdI (I : Nat → Nat → Int32) (sg : Nat) : Prop := I 33 16 = nI sg ∧ I 10 1 = nI sg ∧ sg ≤ 40 ∧ ∀ j, j < 40 → I 11 j = I 41 j
def clsT (t : Nat) (s : Int32) : Prop := isLt t s = true ∨ s = 48 ∨ s = 49 ∨ s = 45 ∨ s = 126 ∨ isPr s = true
/-- a text without a fault -/
def WT (t : Nat) (tx : Nat → Int32) (sz : Nat) : Prop := VT t tx sz ∧ sz ≤ 24 ∧ (∀ k, k < sz → clsT t (tx k)) ∧ (∀ k, k < sz → tx k = 126 → k + 1 < sz ∧ isLt t (tx (k + 1)) = true)
theorem ff_f1 {t k due : Nat} {s : Int32} {ld : Bool} (h : 24 ≤ k ∨ (due = 0 ∧ ld = false) ∨ (ld = true ∧ isLt t s = false)) : fitsM t s k (nI due) ld = false := by
  unfold fitsM
  rcases h with h | ⟨h1, h2⟩ | ⟨h1, h2⟩
  · rw [decide_eq_false (by omega), Bool.false_and]
  · rw [h1, h2, if_neg (by decide), decide_eq_false (show ¬ 0 < nI 0 by decide), Bool.false_and, Bool.and_false]
  · rw [h1]; unfold leafM; rw [h2]; simp
theorem ff_f2 {t k due : Nat} {s : Int32} (h1 : isLt t s = false) (h2 : ¬ s = 48) (h3 : ¬ s = 49) (h4 : isPr s = false) (h5 : ¬ s = 45) (h6 : ¬ s = 126) : fitsM t s k (nI due) false = false := by
  unfold fitsM leafM
  simp [h1, h2, h3, h4, h5, h6]
theorem ff_t {t k due : Nat} {s : Int32} {ld : Bool} (h1 : k < 24) (h2 : 1 ≤ due) (hd : due < 2 ^ 31) (h3 : ld = true → isLt t s = true) (h4 : clsT t s) : fitsM t s k (nI due) ld = true := by
  unfold fitsM
  rw [decide_eq_true h1, Bool.true_and]
  cases ld with
  | true => unfold leafM; rw [h3 rfl]; rfl
  | false =>
    have : 0 < nI due := (nI_ltI (a := 0) (by decide) hd).mpr (by omega)
    rw [if_neg (by decide), decide_eq_true this, Bool.true_and]
    unfold leafM
    rcases h4 with h | h | h | h | h | h <;> simp [h]
theorem dl_l {t : Nat} {s : Int32} {ld : Bool} (h : isLt t s = true) : dlM t s ld = -1 := by unfold dlM leafM; rw [h]; rfl
theorem dl_d {t : Nat} {s : Int32} (h : s = 48 ∨ s = 49) : dlM t s false = -1 := by unfold dlM leafM; rcases h with h | h <;> simp [h]
theorem dl_p {t : Nat} {s : Int32} {ld : Bool} (h1 : isLt t s = false) (h2 : ¬ s = 48) (h3 : ¬ s = 49) (h : isPr s = true) : dlM t s ld = 1 := by unfold dlM leafM; simp [h1, h2, h3, h]
theorem dl_0 {t : Nat} {s : Int32} {ld : Bool} (h1 : isLt t s = false) (h2 : ¬ s = 48) (h3 : ¬ s = 49) (h : isPr s = false) : dlM t s ld = 0 := by unfold dlM leafM; simp [h1, h2, h3, h]
theorem ffM_s {t : Nat} {pd : Nat → Int32} {sg j k : Nat} {wa : Int32} {ld : Bool} : ffM t pd sg (j + 1) k wa ld = if fitsM t (pd k) k wa ld then ffM t pd sg j (k + 1) (wa + dlM t (pd k) ld) (decide (pd k = 126)) else nI k := rfl
theorem fits_cls {t k due : Nat} {s : Int32} {ld : Bool} (h : fitsM t s k (nI due) ld = true) : k < 24 ∧ clsT t s ∧ (ld = true → isLt t s = true) ∧ (ld = false → 1 ≤ due) := by
  unfold fitsM at h
  have h := Bool.and_eq_true_iff.mp h
  refine ⟨of_decide_eq_true h.1, ?_⟩
  have h2 := h.2
  cases hl : ld with
  | true =>
    rw [hl, if_pos rfl] at h2
    have h3 : isLt t s = true := by unfold leafM at h2; simpa using h2
    exact ⟨Or.inl h3, fun _ => h3, fun e => by cases e⟩
  | false =>
    rw [hl, if_neg (by decide)] at h2
    have h2 := Bool.and_eq_true_iff.mp h2
    have h0 : 0 < nI due := of_decide_eq_true h2.1
    refine ⟨?_, fun e => (by cases e), fun _ => ?_⟩
    · have h3 := h2.2
      unfold leafM at h3
      unfold clsT
      simp only [Bool.not_false, Bool.true_and, Bool.or_eq_true, decide_eq_true_eq] at h3
      rcases h3 with (h3 | h3 | h3) | h3 | h3 | h3 <;> simp [h3]
    · rcases Nat.eq_zero_or_pos due with e | e
      · rw [e] at h0; exact absurd h0 (by decide)
      · exact e
theorem ffM_W0 {t : Nat} {pd : Nat → Int32} {sg : Nat} (h6 : t ≤ 6) (ht2 : 2 ≤ t) (h40 : sg ≤ 40) : ∀ j k due ld, k + j = sg → due + j ≤ 100 → (ld = true → 1 ≤ due) → ffM t pd sg j k (nI due) ld = -6 →
    (∀ i, k ≤ i → i < sg → i < 24 ∧ clsT t (pd i)) ∧ (ld = true → k < sg ∧ isLt t (pd k) = true) ∧ (∀ i, k ≤ i → i < sg → pd i = 126 → i + 1 < sg ∧ isLt t (pd (i + 1)) = true)
  | 0, k, due, ld, hk, hd, hl, h => by
    refine ⟨fun i h1 h2 => absurd h1 (by omega), fun e => ?_, fun i h1 h2 => absurd h1 (by omega)⟩
    have h1 := hl e
    unfold ffM at h
    rw [if_neg (nI_ne0 h1 (by omega))] at h
    exact absurd h (nI_n6 (by omega))
  | j + 1, k, due, ld, hk, hd, hl, h => by
    rw [ffM_s] at h
    cases hf : fitsM t (pd k) k (nI due) ld with
    | false => rw [hf] at h; exact absurd h (nI_n6 (by omega))
    | true =>
      rw [hf, if_pos rfl] at h
      obtain ⟨f1, f2, f3, f4⟩ := fits_cls hf
      have hdue : 1 ≤ due := by
        cases hld : ld with
        | true => exact hl hld
        | false => exact f4 hld
      obtain ⟨d2, e1, e2, e3⟩ : ∃ d2, nI due + dlM t (pd k) ld = nI d2 ∧ d2 + j ≤ 100 ∧ (pd k = 126 → 1 ≤ d2) := by
        have em : nI due + -1 = nI (due - 1) := by
          obtain ⟨d', rfl⟩ : ∃ d', due = d' + 1 := ⟨due - 1, by omega⟩
          exact pk_m1 d'
        cases hil : isLt t (pd k) with
        | true => exact ⟨due - 1, by rw [dl_l hil]; exact em, by omega, fun e => absurd e (isLt_not h6 ht2 hil).1⟩
        | false =>
          have hld : ld = false := by
            cases hld : ld with
            | false => rfl
            | true => have := f3 hld; rw [hil] at this; cases this
          by_cases h48 : pd k = 48 ∨ pd k = 49
          · exact ⟨due - 1, by rw [hld, dl_d h48]; exact em, by omega, fun e => by rcases h48 with h | h <;> rw [h] at e <;> exact absurd e (by decide)⟩
          · have n48 : ¬ pd k = 48 := fun e => h48 (Or.inl e)
            have n49 : ¬ pd k = 49 := fun e => h48 (Or.inr e)
            cases hpr : isPr (pd k) with
            | true => exact ⟨due + 1, by rw [dl_p hil n48 n49 hpr]; exact nI_1 due, by omega, fun _ => by omega⟩
            | false => exact ⟨due, by rw [dl_0 hil n48 n49 hpr]; exact nI_add due 0, by omega, fun _ => hdue⟩
      rw [e1] at h
      obtain ⟨g1, g2, g3⟩ := ffM_W0 h6 ht2 h40 j (k + 1) d2 _ (by omega) e2 (fun hh => e3 (of_decide_eq_true hh)) h
      refine ⟨fun i h1 h2 => ?_, fun e => ⟨by omega, f3 e⟩, fun i h1 h2 h3 => ?_⟩
      · by_cases hi : i = k
        · rw [hi]; exact ⟨f1, f2⟩
        · exact g1 i (by omega) h2
      · by_cases hi : i = k
        · rw [hi] at h3 ⊢
          exact g2 (decide_eq_true h3)
        · exact g3 i (by omega) h2 h3
theorem ffP_WT {I : Nat → Nat → Int32} {t sg : Nat} (h6 : t ≤ 6) (ht2 : 2 ≤ t) (h40 : sg ≤ 40) (h : ffP I t sg = -6) : WT t (I 41) sg := by
  obtain ⟨g1, -, g3⟩ := ffM_W0 h6 ht2 h40 sg 0 1 false (by omega) (by omega) (fun e => by cases e) h
  refine ⟨ffM_VT h6 ht2 h40 h, ?_, fun k hk => (g1 k (by omega) hk).2, fun k hk => g3 k (by omega) hk⟩
  by_cases hs : sg ≤ 24
  · exact hs
  · have := (g1 24 (by omega) (by omega)).1; omega
theorem cls_ni {t : Nat} {s : Int32} (h6 : t ≤ 6) (ht2 : 2 ≤ t) (h : clsT t s) (hl : isLt t s = false) : s - 97 < 0 ∨ 6 ≤ s - 97 := by
  rcases h with h | h | h | h | h | h
  · rw [h] at hl; cases hl
  · rw [h]; left; decide
  · rw [h]; left; decide
  · rw [h]; left; decide
  · rw [h]; right; decide
  · obtain ⟨k, hk, e⟩ := isPr_k h
    rw [e]
    have : ∀ k, k < 5 → (prS k - 97 < 0 ∨ 6 ≤ prS k - 97) := by decide +kernel
    exact this k hk
section CLS4
variable {xl : Nat} {xs : Nat → Int32} {n : Nat} {h : Nat → PC} {I S : Nat → Nat → Int32} {J T : Nat → Nat → Int64} {X : Nat → Option Nat} {t sl wy wi he sg : Nat}
theorem isLt_iff {s : Int32} (h6 : t ≤ 6) (ht2 : 2 ≤ t) : isLt t s = (decide (97 ≤ s) && decide (s < 97 + nI t)) := by
  have e1 : (97 : Int32) + nI t = nI (97 + t) := nI_add 97 t
  unfold isLt inb
  rw [e1, show nI (97 + t) - 1 = nI (97 + t - 1) from pk_sub (b := 1) (by omega)]
  congr 1
  rw [decide_eq_decide, i_le, i_lt, nI_toInt (by omega), nI_toInt (by omega)]
  omega
theorem k_firstFault (hn : 49 ≤ n) (hp : PdI I sg) (h6 : t ≤ 6) (ht2 : 2 ≤ t) : Rn xl xs 1 21 0 0 mX1_firstFault [.ref 10, .int (nI t)] n (sysH (ov I S) (ovJ J T) X) (some (.int (ffP I t sg))) n (sysH (ov I S) (ovJ J T) X) := by
  intro Q hQ
  obtain ⟨hsg, hsc, h40, hpd⟩ := hp
  show Ev xl xs 1 21 0 0 mX1_firstFault 0 [some (.ref 10), some (.int (nI t)), none, none, none, none, none] [] n (sysH (ov I S) (ovJ J T) X) Q
  have lp : ∀ j k due ld, k + j = sg → due ≤ k + 1 → (ld = true → 1 ≤ due) → ffM t (I 41) sg j k (nI due) ld = ffP I t sg → ∀ a5 a6, Ev xl xs 1 21 0 0 mX1_firstFault 7 [some (.ref 10), some (.int (nI t)), some (.int (nI due)), some (.int (b2i ld)), some (.int (nI k)), a5, a6] [] n (sysH (ov I S) (ovJ J T) X) Q := by
    intro j
    induction j using Nat.strongRecOn with
    | _ j ih =>
      intro k due ld hk hdue hld heq a5 a6
      by_cases hks : sg ≤ k
      · have hj : j = 0 := by omega
        subst hj
        have heq : (if nI due = 0 then -6 else nI sg) = ffP I t sg := heq
        refine ev_iload (q := 9) dX1_firstFault_7 rfl rfl ?_
        refine ev_aload_n (q := 10) dX1_firstFault_9 rfl rfl ?_
        refine ev_get (q := 13) dX1_firstFault_10 fr_X1_19 rfl (lt_n hn (by decide)) rfl rfl ?_
        rw [show ov I S 10 1 = nI sg from hsc]
        refine ev_icmp_ge (q := 16) 146 dX1_firstFault_13 (by decide) rfl (fun c_13 => ?_) (fun c_13 => ?_)
        · refine ev_iload_n (q := 147) dX1_firstFault_146 rfl rfl ?_
          refine ev_if_ne (q := 150) 155 dX1_firstFault_147 (by decide) rfl (fun c_147 => ?_) (fun c_147 => ?_)
          · have c_147 : ¬ nI due = 0 := c_147
            rw [if_neg c_147] at heq
            refine ev_aload_n (q := 156) dX1_firstFault_155 rfl rfl ?_
            refine ev_get (q := 159) dX1_firstFault_156 fr_X1_19 rfl (lt_n hn (by decide)) rfl rfl ?_
            try rw [show ov I S 10 1 = nI sg from hsc]
            exact ev_iretE dX1_firstFault_159 rfl rfl heq rfl rfl hQ
          · have c_147 : nI due = 0 := c_147
            rw [if_pos c_147] at heq
            refine ev_bipush (q := 152) (-6) dX1_firstFault_150 (by decide) rfl ?_
            refine ev_goto 159 dX1_firstFault_152 (by decide) ?_
            try rw [show ov I S 10 1 = nI sg from hsc]
            exact ev_iretE dX1_firstFault_159 rfl rfl heq rfl rfl hQ
        · exact absurd ((nI_leI (by omega) (by omega)).mpr hks) c_13
      · obtain ⟨j, rfl⟩ : ∃ j', j = j' + 1 := ⟨j - 1, by omega⟩
        have ih := ih j (by omega) (k + 1)
        rw [ffM_s] at heq
        have es : ov I S 11 k = I 41 k := hpd k (by omega)
        generalize I 41 k = s at heq es
        have hno : fitsM t s k (nI due) ld = false → nI k = ffP I t sg := fun hf => by rw [hf, if_neg (by decide)] at heq; exact heq
        have J140 : fitsM t s k (nI due) ld = true → ∀ d2, nI due + dlM t s ld = nI d2 → d2 ≤ k + 1 + 1 → (s = 126 → 1 ≤ d2) → ∀ x, x = nI d2 → ∀ a6, Ev xl xs 1 21 0 0 mX1_firstFault 140 [some (.ref 10), some (.int (nI t)), some (.int x), some (.int (b2i (decide (s = 126)))), some (.int (nI k)), some (.int s), a6] [] n (sysH (ov I S) (ovJ J T) X) Q := by
          intro hf d2 hd hd2 hd3 x hx a6
          subst hx
          rw [hf, if_pos rfl, hd] at heq
          refine ev_inc_4 (q := 143) (nI (k + 1)) dX1_firstFault_140 (nI_1 k) rfl rfl ?_
          refine ev_goto 7 dX1_firstFault_143 (by decide) ?_
          exact ih d2 _ (by omega) hd2 (fun e => hd3 (of_decide_eq_true e)) heq _ _
        have J83 : k < 24 → 1 ≤ due → (ld = true → isLt t s = true) → ∀ x, x = b2i (decide (s = 126)) → Ev xl xs 1 21 0 0 mX1_firstFault 83 [some (.ref 10), some (.int (nI t)), some (.int (nI due)), some (.int (b2i ld)), some (.int (nI k)), some (.int s), some (.int (b2i (isLt t s)))] [.int x] n (sysH (ov I S) (ovJ J T) X) Q := by
          intro h24 hd1 hll x hx
          subst hx
          have em : nI due + -1 = nI (due - 1) := by
            obtain ⟨d', rfl⟩ : ∃ d', due = d' + 1 := ⟨due - 1, by omega⟩
            exact pk_m1 d'
          cases hil : isLt t s with
          | true =>
            have hf := ff_t (s := s) h24 hd1 (by omega) hll (Or.inl hil)
            refine ev_ist_3 (q := 84) dX1_firstFault_83 rfl rfl ?_
            refine ev_iload (q := 86) dX1_firstFault_84 rfl rfl ?_
            refine ev_if_ne (q := 89) 103 dX1_firstFault_86 (by decide) rfl (fun c_86 => ?_) (fun c_86 => ?_)
            · refine ev_inc_2 (q := 106) (nI (due - 1)) dX1_firstFault_103 em rfl rfl ?_
              refine ev_goto 140 dX1_firstFault_106 (by decide) ?_
              exact J140 hf (due - 1) (by rw [dl_l hil]; exact em) (by omega) (fun e => absurd e (isLt_not h6 ht2 hil).1) _ rfl _
            · exact absurd c_86 (by decide)
          | false =>
            have hldf : ld = false := by
              cases hx : ld with
              | false => rfl
              | true => have := hll hx; rw [hil] at this; cases this
            by_cases h48 : s = 48 ∨ s = 49
            · have hf := ff_t (s := s) h24 hd1 (by omega) hll (h48.elim (fun e => Or.inr (Or.inl e)) (fun e => Or.inr (Or.inr (Or.inl e))))
              refine ev_ist_3 (q := 84) dX1_firstFault_83 rfl rfl ?_
              refine ev_iload (q := 86) dX1_firstFault_84 rfl rfl ?_
              refine ev_if_ne (q := 89) 103 dX1_firstFault_86 (by decide) rfl (fun c_86 => ?_) (fun c_86 => ?_)
              · exact absurd rfl c_86
              · refine ev_iload (q := 91) dX1_firstFault_89 rfl rfl ?_
                refine ev_bipush (q := 93) (48) dX1_firstFault_91 (by decide) rfl ?_
                refine ev_icmp_eq (q := 96) 103 dX1_firstFault_93 (by decide) rfl (fun c_93 => ?_) (fun c_93 => ?_)
                · refine ev_inc_2 (q := 106) (nI (due - 1)) dX1_firstFault_103 em rfl rfl ?_
                  refine ev_goto 140 dX1_firstFault_106 (by decide) ?_
                  exact J140 hf (due - 1) (by rw [hldf, dl_d h48]; exact em) (by omega) (fun e => by rcases h48 with h | h <;> rw [h] at e <;> exact absurd e (by decide)) _ rfl _
                · have c_93 : ¬ s = 48 := c_93
                  refine ev_iload (q := 98) dX1_firstFault_96 rfl rfl ?_
                  refine ev_bipush (q := 100) (49) dX1_firstFault_98 (by decide) rfl ?_
                  refine ev_icmp_ne (q := 103) 109 dX1_firstFault_100 (by decide) rfl (fun c_100 => ?_) (fun c_100 => ?_)
                  · exact absurd (h48.resolve_left c_93) c_100
                  · refine ev_inc_2 (q := 106) (nI (due - 1)) dX1_firstFault_103 em rfl rfl ?_
                    refine ev_goto 140 dX1_firstFault_106 (by decide) ?_
                    exact J140 hf (due - 1) (by rw [hldf, dl_d h48]; exact em) (by omega) (fun e => by rcases h48 with h | h <;> rw [h] at e <;> exact absurd e (by decide)) _ rfl _
            · have n48 : ¬ s = 48 := fun e => h48 (Or.inl e)
              have n49 : ¬ s = 49 := fun e => h48 (Or.inr e)
              cases hpr : isPr s with
              | true =>
                have hf := ff_t (s := s) h24 hd1 (by omega) hll (Or.inr (Or.inr (Or.inr (Or.inr (Or.inr hpr)))))
                obtain ⟨q, hq, hqe⟩ := isPr_k hpr
                have hor : orF s = nI q := by rw [hqe, orF_pr q hq]
                refine ev_ist_3 (q := 84) dX1_firstFault_83 rfl rfl ?_
                refine ev_iload (q := 86) dX1_firstFault_84 rfl rfl ?_
                refine ev_if_ne (q := 89) 103 dX1_firstFault_86 (by decide) rfl (fun c_86 => ?_) (fun c_86 => ?_)
                · exact absurd rfl c_86
                · refine ev_iload (q := 91) dX1_firstFault_89 rfl rfl ?_
                  refine ev_bipush (q := 93) (48) dX1_firstFault_91 (by decide) rfl ?_
                  refine ev_icmp_eq (q := 96) 103 dX1_firstFault_93 (by decide) rfl (fun c_93 => ?_) (fun c_93 => ?_)
                  · exact absurd c_93 n48
                  · refine ev_iload (q := 98) dX1_firstFault_96 rfl rfl ?_
                    refine ev_bipush (q := 100) (49) dX1_firstFault_98 (by decide) rfl ?_
                    refine ev_icmp_ne (q := 103) 109 dX1_firstFault_100 (by decide) rfl (fun c_100 => ?_) (fun c_100 => ?_)
                    · refine ev_iload (q := 111) dX1_firstFault_109 rfl rfl ?_
                      refine ev_callSn1i (q := 114) dX1_firstFault_111 ca_X1_27 (c_X6_orderOf _) (Nat.le_of_ble_eq_true rfl) (Nat.le_of_ble_eq_true rfl) (by decide) (by decide) rfl ?_
                      rw [hor]
                      refine ev_if_lt (q := 117) 123 dX1_firstFault_114 (by decide) rfl (fun c_114 => ?_) (fun c_114 => ?_)
                      · exact absurd c_114 (nI_pos (by omega))
                      · refine ev_inc_2 (q := 120) (nI (due + 1)) dX1_firstFault_117 (nI_1 due) rfl rfl ?_
                        refine ev_goto 140 dX1_firstFault_120 (by decide) ?_
                        exact J140 hf (due + 1) (by rw [dl_p hil n48 n49 hpr]; exact nI_1 due) (by omega) (fun _ => by omega) _ rfl _
                    · exact absurd c_100 n49
              | false =>
                have hor := isPr_n hpr
                have hgo : (s = 45 ∨ s = 126) → ∀ a6, Ev xl xs 1 21 0 0 mX1_firstFault 140 [some (.ref 10), some (.int (nI t)), some (.int (nI due)), some (.int (b2i (decide (s = 126)))), some (.int (nI k)), some (.int s), a6] [] n (sysH (ov I S) (ovJ J T) X) Q := by
                  intro h9 a6
                  have hf := ff_t (s := s) h24 hd1 (by omega) hll (h9.elim (fun e => Or.inr (Or.inr (Or.inr (Or.inl e)))) (fun e => Or.inr (Or.inr (Or.inr (Or.inr (Or.inl e))))))
                  exact J140 hf due (by rw [dl_0 hil n48 n49 hpr]; exact nI_add due 0) (by omega) (fun _ => hd1) _ rfl _
                refine ev_ist_3 (q := 84) dX1_firstFault_83 rfl rfl ?_
                refine ev_iload (q := 86) dX1_firstFault_84 rfl rfl ?_
                refine ev_if_ne (q := 89) 103 dX1_firstFault_86 (by decide) rfl (fun c_86 => ?_) (fun c_86 => ?_)
                · exact absurd rfl c_86
                · refine ev_iload (q := 91) dX1_firstFault_89 rfl rfl ?_
                  refine ev_bipush (q := 93) (48) dX1_firstFault_91 (by decide) rfl ?_
                  refine ev_icmp_eq (q := 96) 103 dX1_firstFault_93 (by decide) rfl (fun c_93 => ?_) (fun c_93 => ?_)
                  · exact absurd c_93 n48
                  · refine ev_iload (q := 98) dX1_firstFault_96 rfl rfl ?_
                    refine ev_bipush (q := 100) (49) dX1_firstFault_98 (by decide) rfl ?_
                    refine ev_icmp_ne (q := 103) 109 dX1_firstFault_100 (by decide) rfl (fun c_100 => ?_) (fun c_100 => ?_)
                    · refine ev_iload (q := 111) dX1_firstFault_109 rfl rfl ?_
                      refine ev_callSn1i (q := 114) dX1_firstFault_111 ca_X1_27 (c_X6_orderOf _) (Nat.le_of_ble_eq_true rfl) (Nat.le_of_ble_eq_true rfl) (by decide) (by decide) rfl ?_
                      rw [hor]
                      refine ev_if_lt (q := 117) 123 dX1_firstFault_114 (by decide) rfl (fun c_114 => ?_) (fun c_114 => ?_)
                      · refine ev_iload (q := 125) dX1_firstFault_123 rfl rfl ?_
                        refine ev_bipush (q := 127) (45) dX1_firstFault_125 (by decide) rfl ?_
                        refine ev_icmp_eq (q := 130) 140 dX1_firstFault_127 (by decide) rfl (fun c_127 => ?_) (fun c_127 => ?_)
                        · have c_127 : s = 45 := c_127
                          first | exact hgo (Or.inl c_127) _ | exact hgo (Or.inr c_134) _
                        · have c_127 : ¬ s = 45 := c_127
                          refine ev_iload (q := 132) dX1_firstFault_130 rfl rfl ?_
                          refine ev_bipush (q := 134) (126) dX1_firstFault_132 (by decide) rfl ?_
                          refine ev_icmp_eq (q := 137) 140 dX1_firstFault_134 (by decide) rfl (fun c_134 => ?_) (fun c_134 => ?_)
                          · have c_134 : s = 126 := c_134
                            first | exact hgo (Or.inl c_127) _ | exact hgo (Or.inr c_134) _
                          · have c_134 : ¬ s = 126 := c_134
                            refine ev_iload (q := 139) dX1_firstFault_137 rfl rfl ?_
                            exact ev_iretE dX1_firstFault_139 rfl rfl (hno (by rw [hldf]; exact ff_f2 hil n48 n49 hpr c_127 c_134)) rfl rfl hQ
                      · exact absurd (show (-1 : Int32) < 0 by decide) c_114
                    · exact absurd c_100 n49
        have J71 : k < 24 → 1 ≤ due → (ld = true → isLt t s = true) → Ev xl xs 1 21 0 0 mX1_firstFault 71 [some (.ref 10), some (.int (nI t)), some (.int (nI due)), some (.int (b2i ld)), some (.int (nI k)), some (.int s), some (.int (b2i (isLt t s)))] [] n (sysH (ov I S) (ovJ J T) X) Q := by
          intro h24 hd1 hll
          refine ev_iload (q := 73) dX1_firstFault_71 rfl rfl ?_
          refine ev_bipush (q := 75) (126) dX1_firstFault_73 (by decide) rfl ?_
          refine ev_icmp_ne (q := 78) 82 dX1_firstFault_75 (by decide) rfl (fun c_75 => ?_) (fun c_75 => ?_)
          · have c_75 : ¬ s = 126 := c_75
            refine ev_iconst (q := 83) (0) dX1_firstFault_82 (by decide) rfl ?_
            exact J83 h24 hd1 hll _ (by first | (rw [decide_eq_true c_75]; rfl) | (rw [decide_eq_false c_75]; rfl))
          · have c_75 : s = 126 := c_75
            refine ev_iconst (q := 79) (1) dX1_firstFault_78 (by decide) rfl ?_
            refine ev_goto 83 dX1_firstFault_79 (by decide) ?_
            exact J83 h24 hd1 hll _ (by first | (rw [decide_eq_true c_75]; rfl) | (rw [decide_eq_false c_75]; rfl))
        have J46 : ∀ x, x = b2i (isLt t s) → Ev xl xs 1 21 0 0 mX1_firstFault 46 [some (.ref 10), some (.int (nI t)), some (.int (nI due)), some (.int (b2i ld)), some (.int (nI k)), some (.int s), a6] [.int x] n (sysH (ov I S) (ovJ J T) X) Q := by
          intro x hx
          subst hx
          refine ev_ist_6 (q := 48) dX1_firstFault_46 rfl rfl ?_
          refine ev_iload (q := 50) dX1_firstFault_48 rfl rfl ?_
          refine ev_bipush (q := 52) (24) dX1_firstFault_50 (by decide) rfl ?_
          refine ev_icmp_ge (q := 55) 68 dX1_firstFault_52 (by decide) rfl (fun c_52 => ?_) (fun c_52 => ?_)
          · have c_52 : 24 ≤ k := (nI_leI (a := 24) (by omega) (by omega)).mp c_52
            have hz := hno (ff_f1 (Or.inl c_52))
            refine ev_iload (q := 70) dX1_firstFault_68 rfl rfl ?_
            exact ev_iretE dX1_firstFault_70 rfl rfl hz rfl rfl hQ
          · have c_52 : ¬ 24 ≤ k := fun h => c_52 ((nI_leI (a := 24) (by omega) (by omega)).mpr h)
            refine ev_iload_n (q := 56) dX1_firstFault_55 rfl rfl ?_
            refine ev_if_eq (q := 59) 68 dX1_firstFault_56 (by decide) rfl (fun c_56 => ?_) (fun c_56 => ?_)
            · have c_56 : due = 0 := (nI_eq (b := 0) (by omega) (by omega)).mp c_56
              have hz := hno (ff_f1 (Or.inr (Or.inl ⟨c_56, by cases hx : ld with | false => rfl | true => have := hld hx; omega⟩)))
              refine ev_iload (q := 70) dX1_firstFault_68 rfl rfl ?_
              exact ev_iretE dX1_firstFault_70 rfl rfl hz rfl rfl hQ
            · have c_56 : ¬ due = 0 := fun h => c_56 (by rw [h]; rfl)
              refine ev_iload_n (q := 60) dX1_firstFault_59 rfl rfl ?_
              refine ev_if_eq (q := 63) 71 dX1_firstFault_60 (by decide) rfl (fun c_60 => ?_) (fun c_60 => ?_)
              · have c_60 : ld = false := b2i_0.mp c_60
                first | exact J71 (by omega) (by omega) (fun _ => c_65) | exact J71 (by omega) (by omega) (fun e => Bool.noConfusion (c_60.symm.trans e))
              · have c_60 : ld = true := b2i_n0.mp c_60
                refine ev_iload (q := 65) dX1_firstFault_63 rfl rfl ?_
                refine ev_if_ne (q := 68) 71 dX1_firstFault_65 (by decide) rfl (fun c_65 => ?_) (fun c_65 => ?_)
                · have c_65 : isLt t s = true := b2i_ne.mp c_65
                  first | exact J71 (by omega) (by omega) (fun _ => c_65) | exact J71 (by omega) (by omega) (fun e => Bool.noConfusion (c_60.symm.trans e))
                · have c_65 : isLt t s = false := b2i_0.mp c_65
                  have hz := hno (ff_f1 (Or.inr (Or.inr ⟨c_60, c_65⟩)))
                  refine ev_iload (q := 70) dX1_firstFault_68 rfl rfl ?_
                  exact ev_iretE dX1_firstFault_70 rfl rfl hz rfl rfl hQ
        refine ev_iload (q := 9) dX1_firstFault_7 rfl rfl ?_
        refine ev_aload_n (q := 10) dX1_firstFault_9 rfl rfl ?_
        refine ev_get (q := 13) dX1_firstFault_10 fr_X1_19 rfl (lt_n hn (by decide)) rfl rfl ?_
        rw [show ov I S 10 1 = nI sg from hsc]
        refine ev_icmp_ge (q := 16) 146 dX1_firstFault_13 (by decide) rfl (fun c_13 => ?_) (fun c_13 => ?_)
        · exact absurd ((nI_leI (by omega) (by omega)).mp c_13) hks
        · refine ev_aload_n (q := 17) dX1_firstFault_16 rfl rfl ?_
          refine ev_get (q := 20) dX1_firstFault_17 fr_X1_9 rfl (lt_n hn (by decide)) rfl rfl ?_
          refine ev_iload (q := 22) dX1_firstFault_20 rfl rfl ?_
          refine ev_iaS (q := 23) k dX1_firstFault_22 rfl rfl (by omega) (lt_n hn (by decide)) rfl ?_
          rw [es]
          refine ev_ist_5 (q := 25) dX1_firstFault_23 rfl rfl ?_
          refine ev_iload (q := 27) dX1_firstFault_25 rfl rfl ?_
          refine ev_bipush (q := 29) (97) dX1_firstFault_27 (by decide) rfl ?_
          refine ev_icmp_lt (q := 32) 45 dX1_firstFault_29 (by decide) rfl (fun c_29 => ?_) (fun c_29 => ?_)
          · have hlt : isLt t s = false := by rw [isLt_iff h6 ht2, decide_eq_false (by simp only [i_le, i_lt] at *; omega), Bool.false_and]
            refine ev_iconst (q := 46) (0) dX1_firstFault_45 (by decide) rfl ?_
            exact J46 _ (by rw [hlt]; rfl)
          · refine ev_iload (q := 34) dX1_firstFault_32 rfl rfl ?_
            refine ev_bipush (q := 36) (97) dX1_firstFault_34 (by decide) rfl ?_
            refine ev_iload_n (q := 37) dX1_firstFault_36 rfl rfl ?_
            refine ev_iadd (q := 38) dX1_firstFault_37 rfl ?_
            refine ev_icmp_ge (q := 41) 45 dX1_firstFault_38 (by decide) rfl (fun c_38 => ?_) (fun c_38 => ?_)
            · have hlt : isLt t s = false := by rw [isLt_iff h6 ht2, decide_eq_false (show ¬ s < 97 + nI t by simp only [i_le, i_lt] at *; omega), Bool.and_false]
              refine ev_iconst (q := 46) (0) dX1_firstFault_45 (by decide) rfl ?_
              exact J46 _ (by rw [hlt]; rfl)
            · have hlt : isLt t s = true := by rw [isLt_iff h6 ht2, decide_eq_true (show s < 97 + nI t by simp only [i_le, i_lt] at *; omega), decide_eq_true (show 97 ≤ s by simp only [i_le, i_lt] at *; omega)]; rfl
              refine ev_iconst (q := 42) (1) dX1_firstFault_41 (by decide) rfl ?_
              refine ev_goto 46 dX1_firstFault_42 (by decide) ?_
              exact J46 _ (by rw [hlt]; rfl)
  refine ev_iconst (q := 1) (1) dX1_firstFault_0 (by decide) rfl ?_
  refine ev_ist_2 (q := 2) dX1_firstFault_1 rfl rfl ?_
  refine ev_iconst (q := 3) (0) dX1_firstFault_2 (by decide) rfl ?_
  refine ev_ist_3 (q := 4) dX1_firstFault_3 rfl rfl ?_
  refine ev_iconst (q := 5) (0) dX1_firstFault_4 (by decide) rfl ?_
  refine ev_ist_4 (q := 7) dX1_firstFault_5 rfl rfl ?_
  exact lp sg 0 1 false (by omega) (by omega) (fun e => by cases e) rfl _ _
theorem k_X6_isFaulty (hn : 49 ≤ n) (hk : KI I J t sl wy wi he) (hp : PdI I sg) : Rn xl xs 2 47 0 0 mX6_isFaulty [.ref 0] n (sysH (ov I S) (ovJ J T) X) (some (.int (b2i (decide (ffP I t sg ≠ -6))))) n (sysH (ov I S) (ovJ J T) X) := by
  intro Q hQ
  show Ev xl xs 2 47 0 0 mX6_isFaulty 0 [some (.ref 0)] [] n (sysH (ov I S) (ovJ J T) X) Q
  refine ev_aload_n (q := 1) dX6_isFaulty_0 rfl rfl ?_
  refine ev_get (q := 4) dX6_isFaulty_1 fr_X6_23 rfl (lt_n hn (by decide)) rfl rfl ?_
  refine ev_aload_n (q := 5) dX6_isFaulty_4 rfl rfl ?_
  refine ev_get (q := 8) dX6_isFaulty_5 fr_X6_10 rfl (lt_n hn (by decide)) rfl rfl ?_
  refine ev_get (q := 11) dX6_isFaulty_8 fr_X6_74 rfl (lt_n hn (by decide)) rfl rfl ?_
  rw [show ov I S 1 0 = nI t from hk.2.1.1]
  refine ev_callV1i (q := 14) dX6_isFaulty_11 ca_X6_123 (k_firstFault hn hp hk.1.2.2.1 hk.1.2.1) rfl (lt_n hn (by decide)) rfl rfl (Nat.le_of_ble_eq_true rfl) (Nat.le_of_ble_eq_true rfl) (by decide) (by decide) rfl ?_
  refine ev_bipush (q := 16) (-6) dX6_isFaulty_14 (by decide) rfl ?_
  refine ev_icmp_eq (q := 19) 23 dX6_isFaulty_16 (by decide) rfl (fun c_16 => ?_) (fun c_16 => ?_)
  · have c_16 : ffP I t sg = -6 := c_16
    refine ev_iconst (q := 24) (0) dX6_isFaulty_23 (by decide) rfl ?_
    exact ev_iretE dX6_isFaulty_24 rfl (nar_b2i _) (by first | (rw [decide_eq_false (fun h => h c_16)]; rfl) | (rw [decide_eq_true c_16]; rfl)) rfl rfl hQ
  · have c_16 : ¬ ffP I t sg = -6 := c_16
    refine ev_iconst (q := 20) (1) dX6_isFaulty_19 (by decide) rfl ?_
    refine ev_goto 24 dX6_isFaulty_20 (by decide) ?_
    exact ev_iretE dX6_isFaulty_24 rfl (nar_b2i _) (by first | (rw [decide_eq_false (fun h => h c_16)]; rfl) | (rw [decide_eq_true c_16]; rfl)) rfl rfl hQ
theorem k_saidThings (hn : 49 ≤ n) (hp : PdI I sg) (h6 : t ≤ 6) (ht2 : 2 ≤ t) (hw : WT t (I 41) sg) : Rn xl xs 0 0 0 0 mX1_saidThings [.ref 10] n (sysH (ov I S) (ovJ J T) X) (some (.int (nI (sdM t (I 41) sg)))) n (sysH (ov I S) (ovJ J T) X) := by
  intro Q hQ
  obtain ⟨hsg, hsc, h40, hpd⟩ := hp
  show Ev xl xs 0 0 0 0 mX1_saidThings 0 [some (.ref 10), none, none, none] [] n (sysH (ov I S) (ovJ J T) X) Q
  have lp : ∀ j k, k + j = sg → ∀ a3, Ev xl xs 0 0 0 0 mX1_saidThings 4 [some (.ref 10), some (.int (nI (sdM t (I 41) k))), some (.int (nI k)), a3] [] n (sysH (ov I S) (ovJ J T) X) Q := by
    intro j
    induction j using Nat.strongRecOn with
    | _ j ih =>
      intro k hk a3
      have e : ∀ h1, _ := fun (h1 : j - 1 < j) => ih (j - 1) h1 (k + 1)
      by_cases hks : sg ≤ k
      · refine ev_iload_n (q := 5) dX1_saidThings_4 rfl rfl ?_
        refine ev_aload_n (q := 6) dX1_saidThings_5 rfl rfl ?_
        refine ev_get (q := 9) dX1_saidThings_6 fr_X1_19 rfl (lt_n hn (by decide)) rfl rfl ?_
        rw [show ov I S 10 1 = nI sg from hsc]
        refine ev_icmp_ge (q := 12) 44 dX1_saidThings_9 (by decide) rfl (fun c_9 => ?_) (fun c_9 => ?_)
        · refine ev_iload_n (q := 45) dX1_saidThings_44 rfl rfl ?_
          exact ev_iretE dX1_saidThings_45 rfl rfl (by rw [show k = sg by omega]) rfl rfl hQ
        · exact absurd ((nI_leI (by omega) (by omega)).mpr hks) c_9
      · have e := e (by omega) (by omega)
        simp only [sdM] at e
        have es : ov I S 11 k = I 41 k := hpd k (by omega)
        have hcl := hw.2.2.1 k (by omega)
        cases hl : isLt t (I 41 k) with
        | true =>
          obtain ⟨q, hq1, hq2, hq3, hq4⟩ := isLt_n h6 ht2 hl
          rw [hl, if_pos rfl, hq4] at e
          refine ev_iload_n (q := 5) dX1_saidThings_4 rfl rfl ?_
          refine ev_aload_n (q := 6) dX1_saidThings_5 rfl rfl ?_
          refine ev_get (q := 9) dX1_saidThings_6 fr_X1_19 rfl (lt_n hn (by decide)) rfl rfl ?_
          rw [show ov I S 10 1 = nI sg from hsc]
          refine ev_icmp_ge (q := 12) 44 dX1_saidThings_9 (by decide) rfl (fun c_9 => ?_) (fun c_9 => ?_)
          · exact absurd ((nI_leI (by omega) (by omega)).mp c_9) hks
          · refine ev_aload_n (q := 13) dX1_saidThings_12 rfl rfl ?_
            refine ev_get (q := 16) dX1_saidThings_13 fr_X1_9 rfl (lt_n hn (by decide)) rfl rfl ?_
            refine ev_iload_n (q := 17) dX1_saidThings_16 rfl rfl ?_
            refine ev_iaS (q := 18) k dX1_saidThings_17 rfl rfl (by omega) (lt_n hn (by decide)) rfl ?_
            refine ev_bipush (q := 20) (97) dX1_saidThings_18 (by decide) rfl ?_
            refine ev_isub (q := 21) dX1_saidThings_20 rfl ?_
            rw [es, hq3]
            refine ev_ist_3 (q := 22) dX1_saidThings_21 rfl rfl ?_
            refine ev_iload_n (q := 23) dX1_saidThings_22 rfl rfl ?_
            refine ev_if_lt (q := 26) 38 dX1_saidThings_23 (by decide) rfl (fun c_23 => ?_) (fun c_23 => ?_)
            · exact absurd c_23 (nI_pos (by omega))
            · refine ev_iload_n (q := 27) dX1_saidThings_26 rfl rfl ?_
              refine ev_bipush (q := 29) (6) dX1_saidThings_27 (by decide) rfl ?_
              refine ev_icmp_ge (q := 32) 38 dX1_saidThings_29 (by decide) rfl (fun c_29 => ?_) (fun c_29 => ?_)
              · exact absurd ((nI_leI (a := 6) (by omega) (by omega)).mp c_29) (by omega)
              · refine ev_iload_n (q := 33) dX1_saidThings_32 rfl rfl ?_
                refine ev_iconst (q := 34) (1) dX1_saidThings_33 (by decide) rfl ?_
                refine ev_iload_n (q := 35) dX1_saidThings_34 rfl rfl ?_
                refine ev_ishl (q := 36) dX1_saidThings_35 rfl ?_
                refine ev_ior (q := 37) dX1_saidThings_36 rfl ?_
                rw [nI_sh1 (by omega), nI_or]
                refine ev_ist_1 (q := 38) dX1_saidThings_37 rfl rfl ?_
                refine ev_inc_2 (q := 41) (nI (k + 1)) dX1_saidThings_38 (nI_1 k) rfl rfl ?_
                refine ev_goto 4 dX1_saidThings_41 (by decide) ?_
                exact e _
        | false =>
          have hni := cls_ni h6 ht2 hcl hl
          rw [hl, if_neg (by decide), Nat.or_zero] at e
          refine ev_iload_n (q := 5) dX1_saidThings_4 rfl rfl ?_
          refine ev_aload_n (q := 6) dX1_saidThings_5 rfl rfl ?_
          refine ev_get (q := 9) dX1_saidThings_6 fr_X1_19 rfl (lt_n hn (by decide)) rfl rfl ?_
          rw [show ov I S 10 1 = nI sg from hsc]
          refine ev_icmp_ge (q := 12) 44 dX1_saidThings_9 (by decide) rfl (fun c_9 => ?_) (fun c_9 => ?_)
          · exact absurd ((nI_leI (by omega) (by omega)).mp c_9) hks
          · refine ev_aload_n (q := 13) dX1_saidThings_12 rfl rfl ?_
            refine ev_get (q := 16) dX1_saidThings_13 fr_X1_9 rfl (lt_n hn (by decide)) rfl rfl ?_
            refine ev_iload_n (q := 17) dX1_saidThings_16 rfl rfl ?_
            refine ev_iaS (q := 18) k dX1_saidThings_17 rfl rfl (by omega) (lt_n hn (by decide)) rfl ?_
            refine ev_bipush (q := 20) (97) dX1_saidThings_18 (by decide) rfl ?_
            refine ev_isub (q := 21) dX1_saidThings_20 rfl ?_
            rw [es]
            refine ev_ist_3 (q := 22) dX1_saidThings_21 rfl rfl ?_
            refine ev_iload_n (q := 23) dX1_saidThings_22 rfl rfl ?_
            refine ev_if_lt (q := 26) 38 dX1_saidThings_23 (by decide) rfl (fun c_23 => ?_) (fun c_23 => ?_)
            · refine ev_inc_2 (q := 41) (nI (k + 1)) dX1_saidThings_38 (nI_1 k) rfl rfl ?_
              refine ev_goto 4 dX1_saidThings_41 (by decide) ?_
              exact e _
            · have c_23 : ¬ I 41 k - 97 < 0 := c_23
              refine ev_iload_n (q := 27) dX1_saidThings_26 rfl rfl ?_
              refine ev_bipush (q := 29) (6) dX1_saidThings_27 (by decide) rfl ?_
              refine ev_icmp_ge (q := 32) 38 dX1_saidThings_29 (by decide) rfl (fun c_29 => ?_) (fun c_29 => ?_)
              · refine ev_inc_2 (q := 41) (nI (k + 1)) dX1_saidThings_38 (nI_1 k) rfl rfl ?_
                refine ev_goto 4 dX1_saidThings_41 (by decide) ?_
                exact e _
              · exact absurd (hni.resolve_left c_23) c_29
  refine ev_iconst (q := 1) (0) dX1_saidThings_0 (by decide) rfl ?_
  refine ev_ist_1 (q := 2) dX1_saidThings_1 rfl rfl ?_
  refine ev_iconst (q := 3) (0) dX1_saidThings_2 (by decide) rfl ?_
  refine ev_ist_2 (q := 4) dX1_saidThings_3 rfl rfl ?_
  exact lp sg 0 (by omega) _
theorem k_clear10 (hn : 49 ≤ n) : RnS xl xs 0 0 0 0 mX1_clear [.ref 10] n I J X (some (.int (I 10 1))) n (wr I 10 1 0) J X := by
  intro S T Q hQ
  show Ev xl xs 0 0 0 0 mX1_clear 0 [some (.ref 10), none] [] n (sysH (ov I S) (ovJ J T) X) Q
  refine ev_aload_n (q := 1) dX1_clear_0 rfl rfl ?_
  refine ev_get (q := 4) dX1_clear_1 fr_X1_19 rfl (lt_n hn (by decide)) rfl rfl ?_
  refine ev_ist_1 (q := 5) dX1_clear_4 rfl rfl ?_
  refine ev_aload_n (q := 6) dX1_clear_5 rfl rfl ?_
  refine ev_iconst (q := 7) (0) dX1_clear_6 (by decide) rfl ?_
  first | refine ev_putIK (q := 10) dX1_clear_7 fa_X1_19 rfl (by decide) (lt_n hn (by decide)) (Nat.le_of_ble_eq_true rfl) ⟨rfl, rfl⟩ rfl rfl rfl ?_ | refine ev_putIR (q := 10) dX1_clear_7 fa_X1_19 rfl (by decide) (lt_n hn (by decide)) (Nat.le_of_ble_eq_true rfl) ⟨rfl, rfl⟩ rfl rfl rfl ?_
  refine ev_iload_n (q := 11) dX1_clear_10 rfl rfl ?_
  exact ev_iretE dX1_clear_11 rfl rfl rfl rfl rfl (hQ _ _)
theorem k_write10_t {v : Int32} (hn : 49 ≤ n) (hsg : I 10 1 = nI sg) (h40 : sg < 40) : RnS xl xs 0 0 0 0 mX1_write [.ref 10, .int v] n I J X (some (.int 1)) n (wr (wr I 11 sg v) 10 1 (nI (sg + 1))) J X := by
  intro S T Q hQ
  show Ev xl xs 0 0 0 0 mX1_write 0 [some (.ref 10), some (.int v)] [] n (sysH (ov I S) (ovJ J T) X) Q
  refine ev_aload_n (q := 1) dX1_write_0 rfl rfl ?_
  refine ev_get (q := 4) dX1_write_1 fr_X1_19 rfl (lt_n hn (by decide)) rfl rfl ?_
  rw [show ov I S 10 1 = nI sg from hsg]
  refine ev_if_lt (q := 7) 16 dX1_write_4 (by decide) rfl (fun c_4 => ?_) (fun c_4 => ?_)
  · exact absurd c_4 (nI_pos (by omega))
  · refine ev_aload_n (q := 8) dX1_write_7 rfl rfl ?_
    refine ev_get (q := 11) dX1_write_8 fr_X1_19 rfl (lt_n hn (by decide)) rfl rfl ?_
    refine ev_bipush (q := 13) (40) dX1_write_11 (by decide) rfl ?_
    rw [show ov I S 10 1 = nI sg from hsg]
    refine ev_icmp_lt (q := 16) 18 dX1_write_13 (by decide) rfl (fun c_13 => ?_) (fun c_13 => ?_)
    · refine ev_aload_n (q := 19) dX1_write_18 rfl rfl ?_
      refine ev_get (q := 22) dX1_write_19 fr_X1_9 rfl (lt_n hn (by decide)) rfl rfl ?_
      refine ev_aload_n (q := 23) dX1_write_22 rfl rfl ?_
      refine ev_get (q := 26) dX1_write_23 fr_X1_19 rfl (lt_n hn (by decide)) rfl rfl ?_
      refine ev_iload_n (q := 27) dX1_write_26 rfl rfl ?_
      first | refine ev_isK (q := 28) sg dX1_write_27 hsg rfl (by omega) (lt_n hn (by decide)) rfl rfl ?_ | refine ev_isR (q := 28) sg dX1_write_27 hsg rfl (by omega) (lt_n hn (by decide)) rfl rfl ?_
      refine ev_aload_n (q := 29) dX1_write_28 rfl rfl ?_
      refine ev_dup (q := 30) (fun _ => rfl) dX1_write_29 rfl ?_
      refine ev_get (q := 33) dX1_write_30 fr_X1_19 rfl (lt_n hn (by decide)) rfl rfl ?_
      refine ev_iconst (q := 34) (1) dX1_write_33 (by decide) rfl ?_
      refine ev_iadd (q := 35) dX1_write_34 rfl ?_
      rw [show ov (wr I 11 sg v) S 10 1 + 1 = nI (sg + 1) from by rw [show ov (wr I 11 sg v) S 10 1 = nI sg from hsg]; exact nI_1 sg]
      first | refine ev_putIK (q := 38) dX1_write_35 fa_X1_19 rfl (by decide) (lt_n hn (by decide)) (Nat.le_of_ble_eq_true rfl) ⟨rfl, rfl⟩ rfl rfl rfl ?_ | refine ev_putIR (q := 38) dX1_write_35 fa_X1_19 rfl (by decide) (lt_n hn (by decide)) (Nat.le_of_ble_eq_true rfl) ⟨rfl, rfl⟩ rfl rfl rfl ?_
      refine ev_iconst (q := 39) (1) dX1_write_38 (by decide) rfl ?_
      exact ev_iretE dX1_write_39 rfl rfl rfl rfl rfl (hQ _ _)
    · exact absurd ((nI_ltI (b := 40) (by omega) (by omega)).mpr h40) c_13
theorem k_write10_f {v : Int32} (hn : 49 ≤ n) (hsg : I 10 1 = nI 40) : RnS xl xs 0 0 0 0 mX1_write [.ref 10, .int v] n I J X (some (.int 0)) n I J X := by
  intro S T Q hQ
  show Ev xl xs 0 0 0 0 mX1_write 0 [some (.ref 10), some (.int v)] [] n (sysH (ov I S) (ovJ J T) X) Q
  refine ev_aload_n (q := 1) dX1_write_0 rfl rfl ?_
  refine ev_get (q := 4) dX1_write_1 fr_X1_19 rfl (lt_n hn (by decide)) rfl rfl ?_
  refine ev_if_lt (q := 7) 16 dX1_write_4 (by decide) rfl (fun c_4 => ?_) (fun c_4 => ?_)
  · refine ev_iconst (q := 17) (0) dX1_write_16 (by decide) rfl ?_
    exact ev_iretE dX1_write_17 rfl rfl rfl rfl rfl (hQ _ _)
  · refine ev_aload_n (q := 8) dX1_write_7 rfl rfl ?_
    refine ev_get (q := 11) dX1_write_8 fr_X1_19 rfl (lt_n hn (by decide)) rfl rfl ?_
    refine ev_bipush (q := 13) (40) dX1_write_11 (by decide) rfl ?_
    rw [show ov I S 10 1 = nI 40 from hsg]
    refine ev_icmp_lt (q := 16) 18 dX1_write_13 (by decide) rfl (fun c_13 => ?_) (fun c_13 => ?_)
    · exact absurd c_13 (by decide)
    · refine ev_iconst (q := 17) (0) dX1_write_16 (by decide) rfl ?_
      exact ev_iretE dX1_write_17 rfl rfl rfl rfl rfl (hQ _ _)
theorem k_write13 {c : Nat} {v : Int32} (hn : 49 ≤ n) (hc : S 13 1 = nI c) (h40 : c < 40) : Rn xl xs 0 0 0 0 mX1_write [.ref 13, .int v] n (sysH (ov I S) (ovJ J T) X) (some (.int 1)) n (sysH (ov I (wr (wr S 14 c v) 13 1 (nI (c + 1)))) (ovJ J T) X) := by
  intro Q hQ
  show Ev xl xs 0 0 0 0 mX1_write 0 [some (.ref 13), some (.int v)] [] n (sysH (ov I S) (ovJ J T) X) Q
  have hQ2 : ∀ (_ _ : Unit), Q (some (.int 1)) n (sysH (ov I (wr (wr S 14 c v) 13 1 (nI (c + 1)))) (ovJ J T) X) := fun _ _ => hQ
  refine ev_aload_n (q := 1) dX1_write_0 rfl rfl ?_
  refine ev_get (q := 4) dX1_write_1 fr_X1_19 rfl (lt_n hn (by decide)) rfl rfl ?_
  rw [show ov I S 13 1 = nI c from hc]
  refine ev_if_lt (q := 7) 16 dX1_write_4 (by decide) rfl (fun c_4 => ?_) (fun c_4 => ?_)
  · exact absurd c_4 (nI_pos (by omega))
  · refine ev_aload_n (q := 8) dX1_write_7 rfl rfl ?_
    refine ev_get (q := 11) dX1_write_8 fr_X1_19 rfl (lt_n hn (by decide)) rfl rfl ?_
    refine ev_bipush (q := 13) (40) dX1_write_11 (by decide) rfl ?_
    rw [show ov I S 13 1 = nI c from hc]
    refine ev_icmp_lt (q := 16) 18 dX1_write_13 (by decide) rfl (fun c_13 => ?_) (fun c_13 => ?_)
    · refine ev_aload_n (q := 19) dX1_write_18 rfl rfl ?_
      refine ev_get (q := 22) dX1_write_19 fr_X1_9 rfl (lt_n hn (by decide)) rfl rfl ?_
      refine ev_aload_n (q := 23) dX1_write_22 rfl rfl ?_
      refine ev_get (q := 26) dX1_write_23 fr_X1_19 rfl (lt_n hn (by decide)) rfl rfl ?_
      refine ev_iload_n (q := 27) dX1_write_26 rfl rfl ?_
      first | refine ev_isK (q := 28) c dX1_write_27 hc rfl (by omega) (lt_n hn (by decide)) rfl rfl ?_ | refine ev_isR (q := 28) c dX1_write_27 hc rfl (by omega) (lt_n hn (by decide)) rfl rfl ?_
      refine ev_aload_n (q := 29) dX1_write_28 rfl rfl ?_
      refine ev_dup (q := 30) (fun _ => rfl) dX1_write_29 rfl ?_
      refine ev_get (q := 33) dX1_write_30 fr_X1_19 rfl (lt_n hn (by decide)) rfl rfl ?_
      refine ev_iconst (q := 34) (1) dX1_write_33 (by decide) rfl ?_
      refine ev_iadd (q := 35) dX1_write_34 rfl ?_
      rw [show ov I (wr S 14 c v) 13 1 + 1 = nI (c + 1) from by rw [show ov I (wr S 14 c v) 13 1 = nI c from hc]; exact nI_1 c]
      first | refine ev_putIK (q := 38) dX1_write_35 fa_X1_19 rfl (by decide) (lt_n hn (by decide)) (Nat.le_of_ble_eq_true rfl) ⟨rfl, rfl⟩ rfl rfl rfl ?_ | refine ev_putIR (q := 38) dX1_write_35 fa_X1_19 rfl (by decide) (lt_n hn (by decide)) (Nat.le_of_ble_eq_true rfl) ⟨rfl, rfl⟩ rfl rfl rfl ?_
      refine ev_iconst (q := 39) (1) dX1_write_38 (by decide) rfl ?_
      exact ev_iretE dX1_write_39 rfl rfl rfl rfl rfl hQ
    · exact absurd ((nI_ltI (b := 40) (by omega) (by omega)).mpr h40) c_13
/-- what Best holds -/
def BS (S : Nat → Nat → Int32) : Option (Int32 × Int32) → Prop
  | none => S 30 0 = 0
  | some x => S 30 0 = 1 ∧ S 30 1 = x.1 ∧ S 30 2 = x.2
def boF (v r : Int32) : Option (Int32 × Int32) → Option (Int32 × Int32)
  | none => some (v, r)
  | some x => if x.1 < v ∨ (v = x.1 ∧ r < x.2) then some (v, r) else some x
theorem boF_n {x : Int32 × Int32} {v r : Int32} (h1 : ¬ x.1 < v) (h2 : ¬ v = x.1 ∨ ¬ r < x.2) : boF v r (some x) = some x := if_neg (fun h => h.elim h1 (fun h => h2.elim (fun g => g h.1) (fun g => g h.2)))
theorem k_X0_clear (hn : 49 ≤ n) : Rn xl xs 0 0 0 0 mX0_clear [.ref 30] n (sysH (ov I S) (ovJ J T) X) none n (sysH (ov I (wr S 30 0 0)) (ovJ J T) X) := by
  intro Q hQ
  show Ev xl xs 0 0 0 0 mX0_clear 0 [some (.ref 30)] [] n (sysH (ov I S) (ovJ J T) X) Q
  refine ev_aload_n (q := 1) dX0_clear_0 rfl rfl ?_
  refine ev_iconst (q := 2) (0) dX0_clear_1 (by decide) rfl ?_
  first | refine ev_putIK (q := 5) dX0_clear_2 fa_X0_7 rfl (by decide) (lt_n hn (by decide)) (Nat.le_of_ble_eq_true rfl) ⟨rfl, rfl⟩ rfl rfl rfl ?_ | refine ev_putIR (q := 5) dX0_clear_2 fa_X0_7 rfl (by decide) (lt_n hn (by decide)) (Nat.le_of_ble_eq_true rfl) ⟨rfl, rfl⟩ rfl rfl rfl ?_
  exact ev_retE dX0_clear_5 rfl rfl rfl hQ
theorem k_X0_offer {v r : Int32} {o : Option (Int32 × Int32)} (hn : 49 ≤ n) (hb : BS S o) : RnP xl xs 0 0 mX0_offer [.ref 30, .int v, .int r] n I S J T X none (fun S' T' => BS S' (boF v r o) ∧ T' = T ∧ ∀ p, p ≠ 30 → S' p = S p) := by
  intro Q hQ
  show Ev xl xs 0 0 0 0 mX0_offer 0 [some (.ref 30), some (.int v), some (.int r)] [] n (sysH (ov I S) (ovJ J T) X) Q
  have J31 : boF v r o = some (v, r) → Ev xl xs 0 0 0 0 mX0_offer 31 [some (.ref 30), some (.int v), some (.int r)] [] n (sysH (ov I S) (ovJ J T) X) Q := by
    intro he
    rw [he] at hQ
    refine ev_aload_n (q := 32) dX0_offer_31 rfl rfl ?_
    refine ev_iconst (q := 33) (1) dX0_offer_32 (by decide) rfl ?_
    first | refine ev_putIK (q := 36) dX0_offer_33 fa_X0_7 rfl (by decide) (lt_n hn (by decide)) (Nat.le_of_ble_eq_true rfl) ⟨rfl, rfl⟩ rfl rfl rfl ?_ | refine ev_putIR (q := 36) dX0_offer_33 fa_X0_7 rfl (by decide) (lt_n hn (by decide)) (Nat.le_of_ble_eq_true rfl) ⟨rfl, rfl⟩ rfl rfl rfl ?_
    refine ev_aload_n (q := 37) dX0_offer_36 rfl rfl ?_
    refine ev_iload_n (q := 38) dX0_offer_37 rfl rfl ?_
    first | refine ev_putIK (q := 41) dX0_offer_38 fa_X0_13 rfl (by decide) (lt_n hn (by decide)) (Nat.le_of_ble_eq_true rfl) ⟨rfl, rfl⟩ rfl rfl rfl ?_ | refine ev_putIR (q := 41) dX0_offer_38 fa_X0_13 rfl (by decide) (lt_n hn (by decide)) (Nat.le_of_ble_eq_true rfl) ⟨rfl, rfl⟩ rfl rfl rfl ?_
    refine ev_aload_n (q := 42) dX0_offer_41 rfl rfl ?_
    refine ev_iload_n (q := 43) dX0_offer_42 rfl rfl ?_
    first | refine ev_putIK (q := 46) dX0_offer_43 fa_X0_17 rfl (by decide) (lt_n hn (by decide)) (Nat.le_of_ble_eq_true rfl) ⟨rfl, rfl⟩ rfl rfl rfl ?_ | refine ev_putIR (q := 46) dX0_offer_43 fa_X0_17 rfl (by decide) (lt_n hn (by decide)) (Nat.le_of_ble_eq_true rfl) ⟨rfl, rfl⟩ rfl rfl rfl ?_
    exact ev_retE dX0_offer_46 rfl rfl rfl (hQ _ _ ⟨⟨rfl, rfl, rfl⟩, rfl, fun p hp => by simp [setI, hp]⟩)
  cases o with
  | none =>
    refine ev_aload_n (q := 1) dX0_offer_0 rfl rfl ?_
    refine ev_get (q := 4) dX0_offer_1 fr_X0_7 rfl (lt_n hn (by decide)) rfl rfl ?_
    rw [show ov I S 30 0 = 0 from hb]
    refine ev_if_eq (q := 7) 31 dX0_offer_4 (by decide) rfl (fun c_4 => ?_) (fun c_4 => ?_)
    · exact J31 rfl
    · exact absurd rfl c_4
  | some x =>
    obtain ⟨b1, b2, b3⟩ := hb
    refine ev_aload_n (q := 1) dX0_offer_0 rfl rfl ?_
    refine ev_get (q := 4) dX0_offer_1 fr_X0_7 rfl (lt_n hn (by decide)) rfl rfl ?_
    rw [show ov I S 30 0 = 1 from b1]
    refine ev_if_eq (q := 7) 31 dX0_offer_4 (by decide) rfl (fun c_4 => ?_) (fun c_4 => ?_)
    · exact absurd c_4 (by decide)
    · refine ev_iload_n (q := 8) dX0_offer_7 rfl rfl ?_
      refine ev_aload_n (q := 9) dX0_offer_8 rfl rfl ?_
      refine ev_get (q := 12) dX0_offer_9 fr_X0_13 rfl (lt_n hn (by decide)) rfl rfl ?_
      rw [show ov I S 30 1 = x.1 from b2]
      refine ev_icmp_gt (q := 15) 31 dX0_offer_12 (by decide) rfl (fun c_12 => ?_) (fun c_12 => ?_)
      · have c_12 : x.1 < v := c_12
        first | exact J31 (if_pos (Or.inl c_12)) | exact J31 (if_pos (Or.inr ⟨c_20, c_28⟩))
      · have c_12 : ¬ x.1 < v := c_12
        refine ev_iload_n (q := 16) dX0_offer_15 rfl rfl ?_
        refine ev_aload_n (q := 17) dX0_offer_16 rfl rfl ?_
        refine ev_get (q := 20) dX0_offer_17 fr_X0_13 rfl (lt_n hn (by decide)) rfl rfl ?_
        rw [show ov I S 30 1 = x.1 from b2]
        refine ev_icmp_ne (q := 23) 46 dX0_offer_20 (by decide) rfl (fun c_20 => ?_) (fun c_20 => ?_)
        · have c_20 : ¬ v = x.1 := c_20
          have hz : boF v r (some x) = some x := by first | exact boF_n c_12 (Or.inr c_28) | exact boF_n c_12 (Or.inl c_20)
          rw [hz] at hQ
          exact ev_retE dX0_offer_46 rfl rfl rfl (hQ _ _ ⟨⟨b1, b2, b3⟩, rfl, fun _ _ => rfl⟩)
        · have c_20 : v = x.1 := c_20
          refine ev_iload_n (q := 24) dX0_offer_23 rfl rfl ?_
          refine ev_aload_n (q := 25) dX0_offer_24 rfl rfl ?_
          refine ev_get (q := 28) dX0_offer_25 fr_X0_17 rfl (lt_n hn (by decide)) rfl rfl ?_
          rw [show ov I S 30 2 = x.2 from b3]
          refine ev_icmp_ge (q := 31) 46 dX0_offer_28 (by decide) rfl (fun c_28 => ?_) (fun c_28 => ?_)
          · have c_28 : ¬ r < x.2 := fun h => absurd (show x.2 ≤ r from c_28) (by simp only [i_le, i_lt] at *; omega)
            have hz : boF v r (some x) = some x := by first | exact boF_n c_12 (Or.inr c_28) | exact boF_n c_12 (Or.inl c_20)
            rw [hz] at hQ
            exact ev_retE dX0_offer_46 rfl rfl rfl (hQ _ _ ⟨⟨b1, b2, b3⟩, rfl, fun _ _ => rfl⟩)
          · have c_28 : r < x.2 := by have c_28 : ¬ x.2 ≤ r := c_28; simp only [i_le, i_lt] at *; omega
            first | exact J31 (if_pos (Or.inl c_12)) | exact J31 (if_pos (Or.inr ⟨c_20, c_28⟩))
end CLS4
