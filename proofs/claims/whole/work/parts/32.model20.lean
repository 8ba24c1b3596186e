theorem dX7_plain_0 : decode cX7_plain 0 = .ok (.iconst 0, 1) := by decide +kernel
theorem dX7_plain_1 : decode cX7_plain 1 = .ok (.istore_n 1, 1) := by decide +kernel
theorem dX7_plain_2 : decode cX7_plain 2 = .ok (.iload_n 1, 1) := by decide +kernel
theorem dX7_plain_3 : decode cX7_plain 3 = .ok (.bipush 24, 2) := by decide +kernel
theorem dX7_plain_5 : decode cX7_plain 5 = .ok (.if_icmp .ge 16, 3) := by decide +kernel
theorem dX7_plain_8 : decode cX7_plain 8 = .ok (.aload_n 0, 1) := by decide +kernel
theorem dX7_plain_9 : decode cX7_plain 9 = .ok (.getfield 13, 3) := by decide +kernel
theorem dX7_plain_12 : decode cX7_plain 12 = .ok (.iload_n 1, 1) := by decide +kernel
theorem dX7_plain_13 : decode cX7_plain 13 = .ok (.iconst 0, 1) := by decide +kernel
theorem dX7_plain_14 : decode cX7_plain 14 = .ok (.iastore, 1) := by decide +kernel
theorem dX7_plain_15 : decode cX7_plain 15 = .ok (.iinc 1 1, 3) := by decide +kernel
theorem dX7_plain_18 : decode cX7_plain 18 = .ok (.goto (-16), 3) := by decide +kernel
theorem dX7_plain_21 : decode cX7_plain 21 = .ok (.iconst 0, 1) := by decide +kernel
theorem dX7_plain_22 : decode cX7_plain 22 = .ok (.istore_n 1, 1) := by decide +kernel
theorem dX7_plain_23 : decode cX7_plain 23 = .ok (.iload_n 1, 1) := by decide +kernel
theorem dX7_plain_24 : decode cX7_plain 24 = .ok (.bipush 6, 2) := by decide +kernel
theorem dX7_plain_26 : decode cX7_plain 26 = .ok (.if_icmp .ge 16, 3) := by decide +kernel
theorem dX7_plain_29 : decode cX7_plain 29 = .ok (.aload_n 0, 1) := by decide +kernel
theorem dX7_plain_30 : decode cX7_plain 30 = .ok (.getfield 17, 3) := by decide +kernel
theorem dX7_plain_33 : decode cX7_plain 33 = .ok (.iload_n 1, 1) := by decide +kernel
theorem dX7_plain_34 : decode cX7_plain 34 = .ok (.iconst 0, 1) := by decide +kernel
theorem dX7_plain_35 : decode cX7_plain 35 = .ok (.iastore, 1) := by decide +kernel
theorem dX7_plain_36 : decode cX7_plain 36 = .ok (.iinc 1 1, 3) := by decide +kernel
theorem dX7_plain_39 : decode cX7_plain 39 = .ok (.goto (-16), 3) := by decide +kernel
theorem dX7_plain_42 : decode cX7_plain 42 = .ok (.iconst 0, 1) := by decide +kernel
theorem dX7_plain_43 : decode cX7_plain 43 = .ok (.istore_n 1, 1) := by decide +kernel
theorem dX7_plain_44 : decode cX7_plain 44 = .ok (.iload_n 1, 1) := by decide +kernel
theorem dX7_plain_45 : decode cX7_plain 45 = .ok (.iconst 4, 1) := by decide +kernel
theorem dX7_plain_46 : decode cX7_plain 46 = .ok (.if_icmp .ge 25, 3) := by decide +kernel
theorem dX7_plain_49 : decode cX7_plain 49 = .ok (.aload_n 0, 1) := by decide +kernel
theorem dX7_plain_50 : decode cX7_plain 50 = .ok (.getfield 20, 3) := by decide +kernel
theorem dX7_plain_53 : decode cX7_plain 53 = .ok (.iload_n 1, 1) := by decide +kernel
theorem dX7_plain_54 : decode cX7_plain 54 = .ok (.iload_n 1, 1) := by decide +kernel
theorem dX7_plain_55 : decode cX7_plain 55 = .ok (.ifCond .ne 8, 3) := by decide +kernel
theorem dX7_plain_58 : decode cX7_plain 58 = .ok (.bipush 6, 2) := by decide +kernel
theorem dX7_plain_60 : decode cX7_plain 60 = .ok (.goto 4, 3) := by decide +kernel
theorem dX7_plain_63 : decode cX7_plain 63 = .ok (.iconst 0, 1) := by decide +kernel
theorem dX7_plain_64 : decode cX7_plain 64 = .ok (.iastore, 1) := by decide +kernel
theorem dX7_plain_65 : decode cX7_plain 65 = .ok (.iinc 1 1, 3) := by decide +kernel
theorem dX7_plain_68 : decode cX7_plain 68 = .ok (.goto (-24), 3) := by decide +kernel
theorem dX7_plain_71 : decode cX7_plain 71 = .ok (.aload_n 0, 1) := by decide +kernel
theorem dX7_plain_72 : decode cX7_plain 72 = .ok (.iconst 0, 1) := by decide +kernel
theorem dX7_plain_73 : decode cX7_plain 73 = .ok (.putfield 64, 3) := by decide +kernel
theorem dX7_plain_76 : decode cX7_plain 76 = .ok (.aload_n 0, 1) := by decide +kernel
theorem dX7_plain_77 : decode cX7_plain 77 = .ok (.iconst 0, 1) := by decide +kernel
theorem dX7_plain_78 : decode cX7_plain 78 = .ok (.putfield 67, 3) := by decide +kernel
theorem dX7_plain_81 : decode cX7_plain 81 = .ok (.aload_n 0, 1) := by decide +kernel
theorem dX7_plain_82 : decode cX7_plain 82 = .ok (.bipush 6, 2) := by decide +kernel
theorem dX7_plain_84 : decode cX7_plain 84 = .ok (.putfield 70, 3) := by decide +kernel
theorem dX7_plain_87 : decode cX7_plain 87 = .ok (.aload_n 0, 1) := by decide +kernel
theorem dX7_plain_88 : decode cX7_plain 88 = .ok (.iconst 0, 1) := by decide +kernel
theorem dX7_plain_89 : decode cX7_plain 89 = .ok (.putfield 73, 3) := by decide +kernel
theorem dX7_plain_92 : decode cX7_plain 92 = .ok (.aload_n 0, 1) := by decide +kernel
theorem dX7_plain_93 : decode cX7_plain 93 = .ok (.aload_n 0, 1) := by decide +kernel
theorem dX7_plain_94 : decode cX7_plain 94 = .ok (.invokevirtual 76, 3) := by decide +kernel
theorem dX7_plain_97 : decode cX7_plain 97 = .ok (.putfield 80, 3) := by decide +kernel
theorem dX7_plain_100 : decode cX7_plain 100 = .ok (.aload_n 0, 1) := by decide +kernel
theorem dX7_plain_101 : decode cX7_plain 101 = .ok (.iconst 0, 1) := by decide +kernel
theorem dX7_plain_102 : decode cX7_plain 102 = .ok (.putfield 84, 3) := by decide +kernel
theorem dX7_plain_105 : decode cX7_plain 105 = .ok (.aload_n 0, 1) := by decide +kernel
theorem dX7_plain_106 : decode cX7_plain 106 = .ok (.iconst 0, 1) := by decide +kernel
theorem dX7_plain_107 : decode cX7_plain 107 = .ok (.putfield 87, 3) := by decide +kernel
theorem dX7_plain_110 : decode cX7_plain 110 = .ok (.aload_n 0, 1) := by decide +kernel
theorem dX7_plain_111 : decode cX7_plain 111 = .ok (.iconst 0, 1) := by decide +kernel
theorem dX7_plain_112 : decode cX7_plain 112 = .ok (.putfield 90, 3) := by decide +kernel
theorem dX7_plain_115 : decode cX7_plain 115 = .ok (.return_, 1) := by decide +kernel
theorem dX7_things_0 : decode cX7_things 0 = .ok (.iload_n 1, 1) := by decide +kernel
theorem dX7_things_1 : decode cX7_things 1 = .ok (.iconst 2, 1) := by decide +kernel
theorem dX7_things_2 : decode cX7_things 2 = .ok (.bipush 6, 2) := by decide +kernel
theorem dX7_things_4 : decode cX7_things 4 = .ok (.invokestatic 99, 3) := by decide +kernel
theorem dX7_things_7 : decode cX7_things 7 = .ok (.ifCond .ne 6, 3) := by decide +kernel
theorem dX7_things_10 : decode cX7_things 10 = .ok (.bipush (-2), 2) := by decide +kernel
theorem dX7_things_12 : decode cX7_things 12 = .ok (.ireturn, 1) := by decide +kernel
theorem dX7_things_13 : decode cX7_things 13 = .ok (.aload_n 0, 1) := by decide +kernel
theorem dX7_things_14 : decode cX7_things 14 = .ok (.getfield 7, 3) := by decide +kernel
theorem dX7_things_17 : decode cX7_things 17 = .ok (.istore_n 2, 1) := by decide +kernel
theorem dX7_things_18 : decode cX7_things 18 = .ok (.aload_n 0, 1) := by decide +kernel
theorem dX7_things_19 : decode cX7_things 19 = .ok (.iload_n 1, 1) := by decide +kernel
theorem dX7_things_20 : decode cX7_things 20 = .ok (.putfield 7, 3) := by decide +kernel
theorem dX7_things_23 : decode cX7_things 23 = .ok (.aload_n 0, 1) := by decide +kernel
theorem dX7_things_24 : decode cX7_things 24 = .ok (.invokevirtual 61, 3) := by decide +kernel
theorem dX7_things_27 : decode cX7_things 27 = .ok (.iload_n 2, 1) := by decide +kernel
theorem dX7_things_28 : decode cX7_things 28 = .ok (.ireturn, 1) := by decide +kernel
theorem dX7_worth_0 : decode cX7_worth 0 = .ok (.iload_n 1, 1) := by decide +kernel
theorem dX7_worth_1 : decode cX7_worth 1 = .ok (.invokestatic 103, 3) := by decide +kernel
theorem dX7_worth_4 : decode cX7_worth 4 = .ok (.ifCond .eq 11, 3) := by decide +kernel
theorem dX7_worth_7 : decode cX7_worth 7 = .ok (.aload_n 0, 1) := by decide +kernel
theorem dX7_worth_8 : decode cX7_worth 8 = .ok (.iload_n 2, 1) := by decide +kernel
theorem dX7_worth_9 : decode cX7_worth 9 = .ok (.invokevirtual 107, 3) := by decide +kernel
theorem dX7_worth_12 : decode cX7_worth 12 = .ok (.ifCond .ne 5, 3) := by decide +kernel
theorem dX7_worth_15 : decode cX7_worth 15 = .ok (.iconst (-1), 1) := by decide +kernel
theorem dX7_worth_16 : decode cX7_worth 16 = .ok (.ireturn, 1) := by decide +kernel
theorem dX7_worth_17 : decode cX7_worth 17 = .ok (.iload_n 3, 1) := by decide +kernel
theorem dX7_worth_18 : decode cX7_worth 18 = .ok (.bipush (-9), 2) := by decide +kernel
theorem dX7_worth_20 : decode cX7_worth 20 = .ok (.bipush 9, 2) := by decide +kernel
theorem dX7_worth_22 : decode cX7_worth 22 = .ok (.invokestatic 99, 3) := by decide +kernel
theorem dX7_worth_25 : decode cX7_worth 25 = .ok (.ifCond .ne 6, 3) := by decide +kernel
theorem dX7_worth_28 : decode cX7_worth 28 = .ok (.bipush (-2), 2) := by decide +kernel
theorem dX7_worth_30 : decode cX7_worth 30 = .ok (.ireturn, 1) := by decide +kernel
theorem dX7_worth_31 : decode cX7_worth 31 = .ok (.aload_n 0, 1) := by decide +kernel
theorem dX7_worth_32 : decode cX7_worth 32 = .ok (.getfield 13, 3) := by decide +kernel
theorem dX7_worth_35 : decode cX7_worth 35 = .ok (.bipush 6, 2) := by decide +kernel
theorem dX7_worth_37 : decode cX7_worth 37 = .ok (.iload_n 1, 1) := by decide +kernel
theorem dX7_worth_38 : decode cX7_worth 38 = .ok (.imul, 1) := by decide +kernel
theorem dX7_worth_39 : decode cX7_worth 39 = .ok (.iload_n 2, 1) := by decide +kernel
theorem dX7_worth_40 : decode cX7_worth 40 = .ok (.iadd, 1) := by decide +kernel
theorem dX7_worth_41 : decode cX7_worth 41 = .ok (.iaload, 1) := by decide +kernel
theorem dX7_worth_42 : decode cX7_worth 42 = .ok (.istore 4, 2) := by decide +kernel
theorem dX7_worth_44 : decode cX7_worth 44 = .ok (.aload_n 0, 1) := by decide +kernel
theorem dX7_worth_45 : decode cX7_worth 45 = .ok (.getfield 13, 3) := by decide +kernel
theorem dX7_worth_48 : decode cX7_worth 48 = .ok (.bipush 6, 2) := by decide +kernel
theorem dX7_worth_50 : decode cX7_worth 50 = .ok (.iload_n 1, 1) := by decide +kernel
theorem dX7_worth_51 : decode cX7_worth 51 = .ok (.imul, 1) := by decide +kernel
theorem dX7_worth_52 : decode cX7_worth 52 = .ok (.iload_n 2, 1) := by decide +kernel
theorem dX7_worth_53 : decode cX7_worth 53 = .ok (.iadd, 1) := by decide +kernel
theorem dX7_worth_54 : decode cX7_worth 54 = .ok (.iload_n 3, 1) := by decide +kernel
theorem dX7_worth_55 : decode cX7_worth 55 = .ok (.iastore, 1) := by decide +kernel
theorem dX7_worth_56 : decode cX7_worth 56 = .ok (.iload 4, 2) := by decide +kernel
theorem dX7_worth_58 : decode cX7_worth 58 = .ok (.sipush 1000, 3) := by decide +kernel
theorem dX7_worth_61 : decode cX7_worth 61 = .ok (.iadd, 1) := by decide +kernel
theorem dX7_worth_62 : decode cX7_worth 62 = .ok (.ireturn, 1) := by decide +kernel
theorem dX7_taste_0 : decode cX7_taste 0 = .ok (.aload_n 0, 1) := by decide +kernel
theorem dX7_taste_1 : decode cX7_taste 1 = .ok (.iload_n 1, 1) := by decide +kernel
theorem dX7_taste_2 : decode cX7_taste 2 = .ok (.invokevirtual 107, 3) := by decide +kernel
theorem dX7_taste_5 : decode cX7_taste 5 = .ok (.ifCond .ne 5, 3) := by decide +kernel
theorem dX7_taste_8 : decode cX7_taste 8 = .ok (.iconst (-1), 1) := by decide +kernel
theorem dX7_taste_9 : decode cX7_taste 9 = .ok (.ireturn, 1) := by decide +kernel
theorem dX7_taste_10 : decode cX7_taste 10 = .ok (.iload_n 2, 1) := by decide +kernel
theorem dX7_taste_11 : decode cX7_taste 11 = .ok (.bipush (-9), 2) := by decide +kernel
theorem dX7_taste_13 : decode cX7_taste 13 = .ok (.bipush 9, 2) := by decide +kernel
theorem dX7_taste_15 : decode cX7_taste 15 = .ok (.invokestatic 99, 3) := by decide +kernel
theorem dX7_taste_18 : decode cX7_taste 18 = .ok (.ifCond .ne 6, 3) := by decide +kernel
theorem dX7_taste_21 : decode cX7_taste 21 = .ok (.bipush (-2), 2) := by decide +kernel
theorem dX7_taste_23 : decode cX7_taste 23 = .ok (.ireturn, 1) := by decide +kernel
theorem dX7_taste_24 : decode cX7_taste 24 = .ok (.aload_n 0, 1) := by decide +kernel
theorem dX7_taste_25 : decode cX7_taste 25 = .ok (.getfield 17, 3) := by decide +kernel
theorem dX7_taste_28 : decode cX7_taste 28 = .ok (.iload_n 1, 1) := by decide +kernel
theorem dX7_taste_29 : decode cX7_taste 29 = .ok (.iaload, 1) := by decide +kernel
theorem dX7_taste_30 : decode cX7_taste 30 = .ok (.istore_n 3, 1) := by decide +kernel
theorem dX7_taste_31 : decode cX7_taste 31 = .ok (.aload_n 0, 1) := by decide +kernel
theorem dX7_taste_32 : decode cX7_taste 32 = .ok (.getfield 17, 3) := by decide +kernel
theorem dX7_taste_35 : decode cX7_taste 35 = .ok (.iload_n 1, 1) := by decide +kernel
theorem dX7_taste_36 : decode cX7_taste 36 = .ok (.iload_n 2, 1) := by decide +kernel
theorem dX7_taste_37 : decode cX7_taste 37 = .ok (.iastore, 1) := by decide +kernel
theorem dX7_taste_38 : decode cX7_taste 38 = .ok (.iload_n 3, 1) := by decide +kernel
theorem dX7_taste_39 : decode cX7_taste 39 = .ok (.sipush 1000, 3) := by decide +kernel
theorem dX7_taste_42 : decode cX7_taste 42 = .ok (.iadd, 1) := by decide +kernel
theorem dX7_taste_43 : decode cX7_taste 43 = .ok (.ireturn, 1) := by decide +kernel
theorem dX7_set_0 : decode cX7_set 0 = .ok (.iload_n 1, 1) := by decide +kernel
theorem dX7_set_1 : decode cX7_set 1 = .ok (.ifCond .ne 12, 3) := by decide +kernel
theorem dX7_set_4 : decode cX7_set 4 = .ok (.iload_n 2, 1) := by decide +kernel
theorem dX7_set_5 : decode cX7_set 5 = .ok (.iconst 0, 1) := by decide +kernel
theorem dX7_set_6 : decode cX7_set 6 = .ok (.iconst 2, 1) := by decide +kernel
theorem dX7_set_7 : decode cX7_set 7 = .ok (.invokestatic 99, 3) := by decide +kernel
theorem dX7_set_10 : decode cX7_set 10 = .ok (.goto 37, 3) := by decide +kernel
theorem dX7_set_13 : decode cX7_set 13 = .ok (.iload_n 1, 1) := by decide +kernel
theorem dX7_set_14 : decode cX7_set 14 = .ok (.iconst 1, 1) := by decide +kernel
theorem dX7_set_15 : decode cX7_set 15 = .ok (.if_icmp .ne 12, 3) := by decide +kernel
theorem dX7_set_18 : decode cX7_set 18 = .ok (.iload_n 2, 1) := by decide +kernel
theorem dX7_set_19 : decode cX7_set 19 = .ok (.iconst 0, 1) := by decide +kernel
theorem dX7_set_20 : decode cX7_set 20 = .ok (.iconst 3, 1) := by decide +kernel
theorem dX7_set_21 : decode cX7_set 21 = .ok (.invokestatic 99, 3) := by decide +kernel
theorem dX7_set_24 : decode cX7_set 24 = .ok (.goto 23, 3) := by decide +kernel
theorem dX7_set_27 : decode cX7_set 27 = .ok (.iload_n 1, 1) := by decide +kernel
theorem dX7_set_28 : decode cX7_set 28 = .ok (.iconst 2, 1) := by decide +kernel
theorem dX7_set_29 : decode cX7_set 29 = .ok (.if_icmp .ne 17, 3) := by decide +kernel
theorem dX7_set_32 : decode cX7_set 32 = .ok (.iload_n 2, 1) := by decide +kernel
theorem dX7_set_33 : decode cX7_set 33 = .ok (.iconst 0, 1) := by decide +kernel
theorem dX7_set_34 : decode cX7_set 34 = .ok (.bipush 6, 2) := by decide +kernel
theorem dX7_set_36 : decode cX7_set 36 = .ok (.invokestatic 99, 3) := by decide +kernel
theorem dX7_set_39 : decode cX7_set 39 = .ok (.ifCond .eq 7, 3) := by decide +kernel
theorem dX7_set_42 : decode cX7_set 42 = .ok (.iconst 1, 1) := by decide +kernel
theorem dX7_set_43 : decode cX7_set 43 = .ok (.goto 4, 3) := by decide +kernel
theorem dX7_set_46 : decode cX7_set 46 = .ok (.iconst 0, 1) := by decide +kernel
theorem dX7_set_47 : decode cX7_set 47 = .ok (.istore_n 3, 1) := by decide +kernel
theorem dX7_set_48 : decode cX7_set 48 = .ok (.iload_n 3, 1) := by decide +kernel
theorem dX7_set_49 : decode cX7_set 49 = .ok (.ifCond .ne 6, 3) := by decide +kernel
theorem dX7_set_52 : decode cX7_set 52 = .ok (.bipush (-2), 2) := by decide +kernel
theorem dX7_set_54 : decode cX7_set 54 = .ok (.ireturn, 1) := by decide +kernel
theorem dX7_set_55 : decode cX7_set 55 = .ok (.iload_n 1, 1) := by decide +kernel
theorem dX7_set_56 : decode cX7_set 56 = .ok (.ifCond .ne 10, 3) := by decide +kernel
theorem dX7_set_59 : decode cX7_set 59 = .ok (.aload_n 0, 1) := by decide +kernel
theorem dX7_set_60 : decode cX7_set 60 = .ok (.getfield 64, 3) := by decide +kernel
theorem dX7_set_63 : decode cX7_set 63 = .ok (.goto 19, 3) := by decide +kernel
theorem dX7_set_66 : decode cX7_set 66 = .ok (.iload_n 1, 1) := by decide +kernel
theorem dX7_set_67 : decode cX7_set 67 = .ok (.iconst 1, 1) := by decide +kernel
theorem dX7_set_68 : decode cX7_set 68 = .ok (.if_icmp .ne 10, 3) := by decide +kernel
theorem dX7_set_71 : decode cX7_set 71 = .ok (.aload_n 0, 1) := by decide +kernel
theorem dX7_set_72 : decode cX7_set 72 = .ok (.getfield 67, 3) := by decide +kernel
theorem dX7_set_75 : decode cX7_set 75 = .ok (.goto 7, 3) := by decide +kernel
theorem dX7_set_78 : decode cX7_set 78 = .ok (.aload_n 0, 1) := by decide +kernel
theorem dX7_set_79 : decode cX7_set 79 = .ok (.getfield 70, 3) := by decide +kernel
theorem dX7_set_82 : decode cX7_set 82 = .ok (.istore 4, 2) := by decide +kernel
theorem dX7_set_84 : decode cX7_set 84 = .ok (.aload_n 0, 1) := by decide +kernel
theorem dX7_set_85 : decode cX7_set 85 = .ok (.iload_n 1, 1) := by decide +kernel
theorem dX7_set_86 : decode cX7_set 86 = .ok (.ifCond .ne 7, 3) := by decide +kernel
theorem dX7_set_89 : decode cX7_set 89 = .ok (.iload_n 2, 1) := by decide +kernel
theorem dX7_set_90 : decode cX7_set 90 = .ok (.goto 7, 3) := by decide +kernel
theorem dX7_set_93 : decode cX7_set 93 = .ok (.aload_n 0, 1) := by decide +kernel
theorem dX7_set_94 : decode cX7_set 94 = .ok (.getfield 64, 3) := by decide +kernel
theorem dX7_set_97 : decode cX7_set 97 = .ok (.putfield 64, 3) := by decide +kernel
theorem dX7_set_100 : decode cX7_set 100 = .ok (.aload_n 0, 1) := by decide +kernel
theorem dX7_set_101 : decode cX7_set 101 = .ok (.iload_n 1, 1) := by decide +kernel
theorem dX7_set_102 : decode cX7_set 102 = .ok (.iconst 1, 1) := by decide +kernel
theorem dX7_set_103 : decode cX7_set 103 = .ok (.if_icmp .ne 7, 3) := by decide +kernel
theorem dX7_set_106 : decode cX7_set 106 = .ok (.iload_n 2, 1) := by decide +kernel
theorem dX7_set_107 : decode cX7_set 107 = .ok (.goto 7, 3) := by decide +kernel
theorem dX7_set_110 : decode cX7_set 110 = .ok (.aload_n 0, 1) := by decide +kernel
theorem dX7_set_111 : decode cX7_set 111 = .ok (.getfield 67, 3) := by decide +kernel
theorem dX7_set_114 : decode cX7_set 114 = .ok (.putfield 67, 3) := by decide +kernel
theorem dX7_set_117 : decode cX7_set 117 = .ok (.aload_n 0, 1) := by decide +kernel
theorem dX7_set_118 : decode cX7_set 118 = .ok (.iload_n 1, 1) := by decide +kernel
theorem dX7_set_119 : decode cX7_set 119 = .ok (.iconst 2, 1) := by decide +kernel
theorem dX7_set_120 : decode cX7_set 120 = .ok (.if_icmp .ne 7, 3) := by decide +kernel
theorem dX7_set_123 : decode cX7_set 123 = .ok (.iload_n 2, 1) := by decide +kernel
theorem dX7_set_124 : decode cX7_set 124 = .ok (.goto 7, 3) := by decide +kernel
theorem dX7_set_127 : decode cX7_set 127 = .ok (.aload_n 0, 1) := by decide +kernel
theorem dX7_set_128 : decode cX7_set 128 = .ok (.getfield 70, 3) := by decide +kernel
theorem dX7_set_131 : decode cX7_set 131 = .ok (.putfield 70, 3) := by decide +kernel
theorem dX7_set_134 : decode cX7_set 134 = .ok (.iload 4, 2) := by decide +kernel
theorem dX7_set_136 : decode cX7_set 136 = .ok (.ireturn, 1) := by decide +kernel
theorem dX7_now_0 : decode cX7_now 0 = .ok (.aload_n 0, 1) := by decide +kernel
theorem dX7_now_1 : decode cX7_now 1 = .ok (.iload_n 1, 1) := by decide +kernel
theorem dX7_now_2 : decode cX7_now 2 = .ok (.invokevirtual 110, 3) := by decide +kernel
theorem dX7_now_5 : decode cX7_now 5 = .ok (.ifCond .ne 6, 3) := by decide +kernel
theorem dX7_now_8 : decode cX7_now 8 = .ok (.bipush (-2), 2) := by decide +kernel
theorem dX7_now_10 : decode cX7_now 10 = .ok (.ireturn, 1) := by decide +kernel
theorem dX7_now_11 : decode cX7_now 11 = .ok (.aload_n 0, 1) := by decide +kernel
theorem dX7_now_12 : decode cX7_now 12 = .ok (.getfield 73, 3) := by decide +kernel
theorem dX7_now_15 : decode cX7_now 15 = .ok (.istore_n 2, 1) := by decide +kernel
theorem dX7_now_16 : decode cX7_now 16 = .ok (.aload_n 0, 1) := by decide +kernel
theorem dX7_now_17 : decode cX7_now 17 = .ok (.iload_n 1, 1) := by decide +kernel
theorem dX7_now_18 : decode cX7_now 18 = .ok (.putfield 73, 3) := by decide +kernel
theorem dX7_now_21 : decode cX7_now 21 = .ok (.aload_n 0, 1) := by decide +kernel
theorem dX7_now_22 : decode cX7_now 22 = .ok (.iconst 0, 1) := by decide +kernel
theorem dX7_now_23 : decode cX7_now 23 = .ok (.putfield 84, 3) := by decide +kernel
theorem dX7_now_26 : decode cX7_now 26 = .ok (.iload_n 2, 1) := by decide +kernel
theorem dX7_now_27 : decode cX7_now 27 = .ok (.ireturn, 1) := by decide +kernel
theorem dX7_worthOf_0 : decode cX7_worthOf 0 = .ok (.iload_n 1, 1) := by decide +kernel
theorem dX7_worthOf_1 : decode cX7_worthOf 1 = .ok (.invokestatic 103, 3) := by decide +kernel
theorem dX7_worthOf_4 : decode cX7_worthOf 4 = .ok (.ifCond .ne 5, 3) := by decide +kernel
theorem dX7_worthOf_7 : decode cX7_worthOf 7 = .ok (.iconst (-1), 1) := by decide +kernel
theorem dX7_worthOf_8 : decode cX7_worthOf 8 = .ok (.ireturn, 1) := by decide +kernel
theorem dX7_worthOf_9 : decode cX7_worthOf 9 = .ok (.aload_n 0, 1) := by decide +kernel
theorem dX7_worthOf_10 : decode cX7_worthOf 10 = .ok (.iload_n 2, 1) := by decide +kernel
theorem dX7_worthOf_11 : decode cX7_worthOf 11 = .ok (.invokevirtual 110, 3) := by decide +kernel
theorem dX7_worthOf_14 : decode cX7_worthOf 14 = .ok (.ifCond .eq 16, 3) := by decide +kernel
theorem dX7_worthOf_17 : decode cX7_worthOf 17 = .ok (.aload_n 0, 1) := by decide +kernel
theorem dX7_worthOf_18 : decode cX7_worthOf 18 = .ok (.iload_n 1, 1) := by decide +kernel
theorem dX7_worthOf_19 : decode cX7_worthOf 19 = .ok (.iload_n 2, 1) := by decide +kernel
theorem dX7_worthOf_20 : decode cX7_worthOf 20 = .ok (.invokevirtual 117, 3) := by decide +kernel
theorem dX7_worthOf_23 : decode cX7_worthOf 23 = .ok (.sipush 1000, 3) := by decide +kernel
theorem dX7_worthOf_26 : decode cX7_worthOf 26 = .ok (.iadd, 1) := by decide +kernel
theorem dX7_worthOf_27 : decode cX7_worthOf 27 = .ok (.goto 5, 3) := by decide +kernel
theorem dX7_worthOf_30 : decode cX7_worthOf 30 = .ok (.bipush (-2), 2) := by decide +kernel
theorem dX7_worthOf_32 : decode cX7_worthOf 32 = .ok (.ireturn, 1) := by decide +kernel
theorem dX7_say_0 : decode cX7_say 0 = .ok (.iload_n 1, 1) := by decide +kernel
theorem dX7_say_1 : decode cX7_say 1 = .ok (.bipush 33, 2) := by decide +kernel
theorem dX7_say_3 : decode cX7_say 3 = .ok (.bipush 126, 2) := by decide +kernel
theorem dX7_say_5 : decode cX7_say 5 = .ok (.invokestatic 99, 3) := by decide +kernel
theorem dX7_say_8 : decode cX7_say 8 = .ok (.ifCond .ne 6, 3) := by decide +kernel
theorem dX7_say_11 : decode cX7_say 11 = .ok (.bipush (-2), 2) := by decide +kernel
theorem dX7_say_13 : decode cX7_say 13 = .ok (.ireturn, 1) := by decide +kernel
theorem dX7_say_14 : decode cX7_say 14 = .ok (.aload_n 0, 1) := by decide +kernel
theorem dX7_say_15 : decode cX7_say 15 = .ok (.getfield 121, 3) := by decide +kernel
theorem dX7_say_18 : decode cX7_say 18 = .ok (.bipush 40, 2) := by decide +kernel
theorem dX7_say_20 : decode cX7_say 20 = .ok (.if_icmp .ne 6, 3) := by decide +kernel
theorem dX7_say_23 : decode cX7_say 23 = .ok (.bipush (-4), 2) := by decide +kernel
theorem dX7_say_25 : decode cX7_say 25 = .ok (.ireturn, 1) := by decide +kernel
theorem dX7_say_26 : decode cX7_say 26 = .ok (.aload_n 0, 1) := by decide +kernel
theorem dX7_say_27 : decode cX7_say 27 = .ok (.getfield 36, 3) := by decide +kernel
theorem dX7_say_30 : decode cX7_say 30 = .ok (.aload_n 0, 1) := by decide +kernel
theorem dX7_say_31 : decode cX7_say 31 = .ok (.getfield 121, 3) := by decide +kernel
theorem dX7_say_34 : decode cX7_say 34 = .ok (.iload_n 1, 1) := by decide +kernel
theorem dX7_say_35 : decode cX7_say 35 = .ok (.iastore, 1) := by decide +kernel
theorem dX7_say_36 : decode cX7_say 36 = .ok (.aload_n 0, 1) := by decide +kernel
theorem dX7_say_37 : decode cX7_say 37 = .ok (.dup, 1) := by decide +kernel
theorem dX7_say_38 : decode cX7_say 38 = .ok (.getfield 121, 3) := by decide +kernel
theorem dX7_say_41 : decode cX7_say 41 = .ok (.iconst 1, 1) := by decide +kernel
theorem dX7_say_42 : decode cX7_say 42 = .ok (.iadd, 1) := by decide +kernel
theorem dX7_say_43 : decode cX7_say 43 = .ok (.putfield 121, 3) := by decide +kernel
theorem dX7_say_46 : decode cX7_say 46 = .ok (.aload_n 0, 1) := by decide +kernel
theorem dX7_say_47 : decode cX7_say 47 = .ok (.getfield 121, 3) := by decide +kernel
theorem dX7_say_50 : decode cX7_say 50 = .ok (.ireturn, 1) := by decide +kernel
theorem dX7_wipe_0 : decode cX7_wipe 0 = .ok (.aload_n 0, 1) := by decide +kernel
theorem dX7_wipe_1 : decode cX7_wipe 1 = .ok (.getfield 121, 3) := by decide +kernel
theorem dX7_wipe_4 : decode cX7_wipe 4 = .ok (.istore_n 1, 1) := by decide +kernel
theorem dX7_wipe_5 : decode cX7_wipe 5 = .ok (.aload_n 0, 1) := by decide +kernel
theorem dX7_wipe_6 : decode cX7_wipe 6 = .ok (.iconst 0, 1) := by decide +kernel
theorem dX7_wipe_7 : decode cX7_wipe 7 = .ok (.putfield 121, 3) := by decide +kernel
theorem dX7_wipe_10 : decode cX7_wipe 10 = .ok (.iload_n 1, 1) := by decide +kernel
theorem dX7_wipe_11 : decode cX7_wipe 11 = .ok (.ireturn, 1) := by decide +kernel
theorem dX7_sixths_0 : decode cX7_sixths 0 = .ok (.iload_n 1, 1) := by decide +kernel
theorem dX7_sixths_1 : decode cX7_sixths 1 = .ok (.iconst 0, 1) := by decide +kernel
theorem dX7_sixths_2 : decode cX7_sixths 2 = .ok (.bipush 6, 2) := by decide +kernel
theorem dX7_sixths_4 : decode cX7_sixths 4 = .ok (.invokestatic 99, 3) := by decide +kernel
theorem dX7_sixths_7 : decode cX7_sixths 7 = .ok (.ifCond .eq 47, 3) := by decide +kernel
theorem dX7_sixths_10 : decode cX7_sixths 10 = .ok (.iload_n 2, 1) := by decide +kernel
theorem dX7_sixths_11 : decode cX7_sixths 11 = .ok (.iconst 0, 1) := by decide +kernel
theorem dX7_sixths_12 : decode cX7_sixths 12 = .ok (.bipush 6, 2) := by decide +kernel
theorem dX7_sixths_14 : decode cX7_sixths 14 = .ok (.invokestatic 99, 3) := by decide +kernel
theorem dX7_sixths_17 : decode cX7_sixths 17 = .ok (.ifCond .eq 37, 3) := by decide +kernel
theorem dX7_sixths_20 : decode cX7_sixths 20 = .ok (.iload_n 3, 1) := by decide +kernel
theorem dX7_sixths_21 : decode cX7_sixths 21 = .ok (.iconst 0, 1) := by decide +kernel
theorem dX7_sixths_22 : decode cX7_sixths 22 = .ok (.bipush 6, 2) := by decide +kernel
theorem dX7_sixths_24 : decode cX7_sixths 24 = .ok (.invokestatic 99, 3) := by decide +kernel
theorem dX7_sixths_27 : decode cX7_sixths 27 = .ok (.ifCond .eq 27, 3) := by decide +kernel
theorem dX7_sixths_30 : decode cX7_sixths 30 = .ok (.iload 4, 2) := by decide +kernel
theorem dX7_sixths_32 : decode cX7_sixths 32 = .ok (.iconst 0, 1) := by decide +kernel
theorem dX7_sixths_33 : decode cX7_sixths 33 = .ok (.bipush 6, 2) := by decide +kernel
theorem dX7_sixths_35 : decode cX7_sixths 35 = .ok (.invokestatic 99, 3) := by decide +kernel
theorem dX7_sixths_38 : decode cX7_sixths 38 = .ok (.ifCond .eq 16, 3) := by decide +kernel
theorem dX7_sixths_41 : decode cX7_sixths 41 = .ok (.iload_n 1, 1) := by decide +kernel
theorem dX7_sixths_42 : decode cX7_sixths 42 = .ok (.iload_n 2, 1) := by decide +kernel
theorem dX7_sixths_43 : decode cX7_sixths 43 = .ok (.iadd, 1) := by decide +kernel
theorem dX7_sixths_44 : decode cX7_sixths 44 = .ok (.iload_n 3, 1) := by decide +kernel
theorem dX7_sixths_45 : decode cX7_sixths 45 = .ok (.iadd, 1) := by decide +kernel
theorem dX7_sixths_46 : decode cX7_sixths 46 = .ok (.iload 4, 2) := by decide +kernel
theorem dX7_sixths_48 : decode cX7_sixths 48 = .ok (.iadd, 1) := by decide +kernel
theorem dX7_sixths_49 : decode cX7_sixths 49 = .ok (.bipush 6, 2) := by decide +kernel
theorem dX7_sixths_51 : decode cX7_sixths 51 = .ok (.if_icmp .eq 6, 3) := by decide +kernel
theorem dX7_sixths_54 : decode cX7_sixths 54 = .ok (.bipush (-2), 2) := by decide +kernel
theorem dX7_sixths_56 : decode cX7_sixths 56 = .ok (.ireturn, 1) := by decide +kernel
theorem dX7_sixths_57 : decode cX7_sixths 57 = .ok (.aload_n 0, 1) := by decide +kernel
theorem dX7_sixths_58 : decode cX7_sixths 58 = .ok (.getfield 20, 3) := by decide +kernel
theorem dX7_sixths_61 : decode cX7_sixths 61 = .ok (.iconst 0, 1) := by decide +kernel
theorem dX7_sixths_62 : decode cX7_sixths 62 = .ok (.iload_n 1, 1) := by decide +kernel
theorem dX7_sixths_63 : decode cX7_sixths 63 = .ok (.iastore, 1) := by decide +kernel
theorem dX7_sixths_64 : decode cX7_sixths 64 = .ok (.aload_n 0, 1) := by decide +kernel
theorem dX7_sixths_65 : decode cX7_sixths 65 = .ok (.getfield 20, 3) := by decide +kernel
theorem dX7_sixths_68 : decode cX7_sixths 68 = .ok (.iconst 1, 1) := by decide +kernel
theorem dX7_sixths_69 : decode cX7_sixths 69 = .ok (.iload_n 2, 1) := by decide +kernel
theorem dX7_sixths_70 : decode cX7_sixths 70 = .ok (.iastore, 1) := by decide +kernel
theorem dX7_sixths_71 : decode cX7_sixths 71 = .ok (.aload_n 0, 1) := by decide +kernel
theorem dX7_sixths_72 : decode cX7_sixths 72 = .ok (.getfield 20, 3) := by decide +kernel
theorem dX7_sixths_75 : decode cX7_sixths 75 = .ok (.iconst 2, 1) := by decide +kernel
theorem dX7_sixths_76 : decode cX7_sixths 76 = .ok (.iload_n 3, 1) := by decide +kernel
theorem dX7_sixths_77 : decode cX7_sixths 77 = .ok (.iastore, 1) := by decide +kernel
theorem dX7_sixths_78 : decode cX7_sixths 78 = .ok (.aload_n 0, 1) := by decide +kernel
theorem dX7_sixths_79 : decode cX7_sixths 79 = .ok (.getfield 20, 3) := by decide +kernel
theorem dX7_sixths_82 : decode cX7_sixths 82 = .ok (.iconst 3, 1) := by decide +kernel
theorem dX7_sixths_83 : decode cX7_sixths 83 = .ok (.iload 4, 2) := by decide +kernel
theorem dX7_sixths_85 : decode cX7_sixths 85 = .ok (.iastore, 1) := by decide +kernel
theorem dX7_sixths_86 : decode cX7_sixths 86 = .ok (.iconst 1, 1) := by decide +kernel
theorem dX7_sixths_87 : decode cX7_sixths 87 = .ok (.ireturn, 1) := by decide +kernel
theorem dX7_came_0 : decode cX7_came 0 = .ok (.aload_n 0, 1) := by decide +kernel
theorem dX7_came_1 : decode cX7_came 1 = .ok (.iload_n 1, 1) := by decide +kernel
theorem dX7_came_2 : decode cX7_came 2 = .ok (.invokevirtual 110, 3) := by decide +kernel
theorem dX7_came_5 : decode cX7_came 5 = .ok (.ifCond .eq 11, 3) := by decide +kernel
theorem dX7_came_8 : decode cX7_came 8 = .ok (.aload_n 0, 1) := by decide +kernel
theorem dX7_came_9 : decode cX7_came 9 = .ok (.iload_n 2, 1) := by decide +kernel
theorem dX7_came_10 : decode cX7_came 10 = .ok (.invokevirtual 110, 3) := by decide +kernel
theorem dX7_came_13 : decode cX7_came 13 = .ok (.ifCond .ne 6, 3) := by decide +kernel
theorem dX7_came_16 : decode cX7_came 16 = .ok (.bipush (-2), 2) := by decide +kernel
theorem dX7_came_18 : decode cX7_came 18 = .ok (.ireturn, 1) := by decide +kernel
theorem dX7_came_19 : decode cX7_came 19 = .ok (.aload_n 0, 1) := by decide +kernel
theorem dX7_came_20 : decode cX7_came 20 = .ok (.getfield 90, 3) := by decide +kernel
theorem dX7_came_23 : decode cX7_came 23 = .ok (.bipush 6, 2) := by decide +kernel
theorem dX7_came_25 : decode cX7_came 25 = .ok (.if_icmp .ne 6, 3) := by decide +kernel
theorem dX7_came_28 : decode cX7_came 28 = .ok (.bipush (-4), 2) := by decide +kernel
theorem dX7_came_30 : decode cX7_came 30 = .ok (.ireturn, 1) := by decide +kernel
theorem dX7_came_31 : decode cX7_came 31 = .ok (.aload_n 0, 1) := by decide +kernel
theorem dX7_came_32 : decode cX7_came 32 = .ok (.getfield 33, 3) := by decide +kernel
theorem dX7_came_35 : decode cX7_came 35 = .ok (.iconst 2, 1) := by decide +kernel
theorem dX7_came_36 : decode cX7_came 36 = .ok (.aload_n 0, 1) := by decide +kernel
theorem dX7_came_37 : decode cX7_came 37 = .ok (.getfield 90, 3) := by decide +kernel
theorem dX7_came_40 : decode cX7_came 40 = .ok (.imul, 1) := by decide +kernel
theorem dX7_came_41 : decode cX7_came 41 = .ok (.iload_n 1, 1) := by decide +kernel
theorem dX7_came_42 : decode cX7_came 42 = .ok (.iastore, 1) := by decide +kernel
theorem dX7_came_43 : decode cX7_came 43 = .ok (.aload_n 0, 1) := by decide +kernel
theorem dX7_came_44 : decode cX7_came 44 = .ok (.getfield 33, 3) := by decide +kernel
theorem dX7_came_47 : decode cX7_came 47 = .ok (.iconst 2, 1) := by decide +kernel
theorem dX7_came_48 : decode cX7_came 48 = .ok (.aload_n 0, 1) := by decide +kernel
theorem dX7_came_49 : decode cX7_came 49 = .ok (.getfield 90, 3) := by decide +kernel
theorem dX7_came_52 : decode cX7_came 52 = .ok (.imul, 1) := by decide +kernel
theorem dX7_came_53 : decode cX7_came 53 = .ok (.iconst 1, 1) := by decide +kernel
theorem dX7_came_54 : decode cX7_came 54 = .ok (.iadd, 1) := by decide +kernel
theorem dX7_came_55 : decode cX7_came 55 = .ok (.iload_n 2, 1) := by decide +kernel
theorem dX7_came_56 : decode cX7_came 56 = .ok (.iastore, 1) := by decide +kernel
theorem dX7_came_57 : decode cX7_came 57 = .ok (.aload_n 0, 1) := by decide +kernel
theorem dX7_came_58 : decode cX7_came 58 = .ok (.dup, 1) := by decide +kernel
theorem dX7_came_59 : decode cX7_came 59 = .ok (.getfield 90, 3) := by decide +kernel
theorem dX7_came_62 : decode cX7_came 62 = .ok (.iconst 1, 1) := by decide +kernel
theorem dX7_came_63 : decode cX7_came 63 = .ok (.iadd, 1) := by decide +kernel
theorem dX7_came_64 : decode cX7_came 64 = .ok (.putfield 90, 3) := by decide +kernel
theorem dX7_came_67 : decode cX7_came 67 = .ok (.aload_n 0, 1) := by decide +kernel
theorem dX7_came_68 : decode cX7_came 68 = .ok (.getfield 90, 3) := by decide +kernel
theorem dX7_came_71 : decode cX7_came 71 = .ok (.ireturn, 1) := by decide +kernel
theorem dX7_forget_0 : decode cX7_forget 0 = .ok (.aload_n 0, 1) := by decide +kernel
theorem dX7_forget_1 : decode cX7_forget 1 = .ok (.getfield 87, 3) := by decide +kernel
theorem dX7_forget_4 : decode cX7_forget 4 = .ok (.aload_n 0, 1) := by decide +kernel
theorem dX7_forget_5 : decode cX7_forget 5 = .ok (.getfield 90, 3) := by decide +kernel
theorem dX7_forget_8 : decode cX7_forget 8 = .ok (.iadd, 1) := by decide +kernel
theorem dX7_forget_9 : decode cX7_forget 9 = .ok (.istore_n 1, 1) := by decide +kernel
theorem dX7_forget_10 : decode cX7_forget 10 = .ok (.aload_n 0, 1) := by decide +kernel
theorem dX7_forget_11 : decode cX7_forget 11 = .ok (.iconst 0, 1) := by decide +kernel
theorem dX7_forget_12 : decode cX7_forget 12 = .ok (.putfield 87, 3) := by decide +kernel
theorem dX7_forget_15 : decode cX7_forget 15 = .ok (.aload_n 0, 1) := by decide +kernel
theorem dX7_forget_16 : decode cX7_forget 16 = .ok (.iconst 0, 1) := by decide +kernel
theorem dX7_forget_17 : decode cX7_forget 17 = .ok (.putfield 90, 3) := by decide +kernel
theorem dX7_forget_20 : decode cX7_forget 20 = .ok (.iload_n 1, 1) := by decide +kernel
theorem dX7_forget_21 : decode cX7_forget 21 = .ok (.ireturn, 1) := by decide +kernel
def allL (t : Nat) : Int64 := mk64 (fun _ => true) (2 ^ t)
theorem allL_6 : allL 6 = -1 := by decide +kernel
theorem allL_lt : ∀ t, t < 6 → (1 : Int64) <<< ((nI (2 ^ t)).toInt64 &&& 63) - 1 = allL t := by decide +kernel
def z24 : Nat → Int32 := fun _ => 0
def s6f : Nat → Int32 := fun c => if c = 0 then 6 else 0
def plA (I : Nat → Nat → Int32) : Nat → Nat → Int32 := fillA (fillA (fillA I 34 24 z24) 35 6 z24) 36 4 s6f
def plI (I : Nat → Nat → Int32) : Nat → Nat → Int32 := wr (wr (wr (wr (wr (wr (wr (plA I) 33 4 0) 33 5 0) 33 6 6) 33 7 0) 33 9 0) 33 11 0) 33 14 0
theorem wr_id {I : Nat → Nat → Int32} {p j : Nat} {x : Int32} (h : I p j = x) : wr I p j x = I := by
  funext a b
  by_cases ha : a = p
  · subst ha
    by_cases hb : b = j
    · subst hb; simp [setI, upd, h]
    · simp [setI, upd, hb]
  · simp [setI, ha]
def setF (which v : Int32) : Bool := if which = 0 then inb v 0 2 else if which = 1 then inb v 0 3 else if which = 2 then inb v 0 6 else false
section MODEL20
variable {xl : Nat} {xs : Nat → Int32} {n : Nat} {h : Nat → PC} {I S : Nat → Nat → Int32} {J T : Nat → Nat → Int64} {X : Nat → Option Nat} {t sl wy wi he sg : Nat}
theorem c_X7_all (hn : 49 ≤ n) (ht : I 33 0 = nI t) (h6 : t ≤ 6) : Rn xl xs 1 20 0 0 mX7_all [.ref 33] n (sysH I J X) (some (.long (allL t))) n (sysH I J X) := by
  intro Q hQ
  show Ev xl xs 1 20 0 0 mX7_all 0 [some (.ref 33)] [] n (sysH I J X) Q
  refine ev_aload_n (q := 1) dX7_all_0 rfl rfl ?_
  refine ev_get (q := 4) dX7_all_1 fr_X7_7 rfl (lt_n hn (by decide)) rfl rfl ?_
  refine ev_bipush (q := 6) (6) dX7_all_4 (by decide) rfl ?_
  rw [ht]
  refine ev_icmp_ne (q := 9) 15 dX7_all_6 (by decide) rfl (fun c_6 => ?_) (fun c_6 => ?_)
  · have c_6 : ¬ t = 6 := fun h => c_6 (by rw [h]; rfl)
    refine ev_lconst (q := 16) (1) dX7_all_15 (by decide) rfl ?_
    refine ev_aload_n (q := 17) dX7_all_16 rfl rfl ?_
    refine ev_callV0i (q := 20) dX7_all_17 ca_X7_95 (c_X7_worlds hn ht h6) rfl (lt_n hn (by decide)) rfl rfl (Nat.le_of_ble_eq_true rfl) (Nat.le_of_ble_eq_true rfl) (by decide) (by decide) rfl ?_
    refine ev_lshl (q := 21) dX7_all_20 rfl ?_
    refine ev_lconst (q := 22) (1) dX7_all_21 (by decide) rfl ?_
    refine ev_lsub (q := 23) dX7_all_22 rfl ?_
    exact ev_lretE dX7_all_23 rfl (by first | (rw [c_6, allL_6]; done) | exact allL_lt t (by omega)) rfl rfl hQ
  · have c_6 : t = 6 := (nI_eq (b := 6) (by omega) (by omega)).mp c_6
    refine ev_ldc2 (q := 12) co_X7_93 dX7_all_9 rfl ?_
    refine ev_goto 23 dX7_all_12 (by decide) ?_
    exact ev_lretE dX7_all_23 rfl (by first | (rw [c_6, allL_6]; done) | exact allL_lt t (by omega)) rfl rfl hQ
theorem s_X7_plain (hn : 49 ≤ n) (ht : I 33 0 = nI t) (h6 : t ≤ 6) : RnS xl xs 2 40 0 0 mX7_plain [.ref 33] n I J X none n (plI I) (wrJ J 33 8 (allL t)) X := by
  intro S T Q hQ
  show Ev xl xs 2 40 0 0 mX7_plain 0 [some (.ref 33), none] [] n (sysH (ov I S) (ovJ J T) X) Q
  have l3 : ∀ j k, k + j = 4 → Ev xl xs 2 40 0 0 mX7_plain 44 [some (.ref 33), some (.int (nI k))] [] n (sysH (ov (fillA (fillA (fillA I 34 24 z24) 35 6 z24) 36 k s6f) S) (ovJ J T) X) Q := by
    intro j
    induction j using Nat.strongRecOn with
    | _ j ih =>
      intro k hk
      have e : ∀ h1, _ := fun (h1 : j - 1 < j) => ih (j - 1) h1 (k + 1)
      have J64 : ∀ x, x = s6f k → ¬ 4 ≤ k → Ev xl xs 2 40 0 0 mX7_plain 64 [some (.ref 33), some (.int (nI k))] [.int x, .int (nI k), .ref 36] n (sysH (ov (fillA (fillA (fillA I 34 24 z24) 35 6 z24) 36 k s6f) S) (ovJ J T) X) Q := by
        intro x hx hk4
        subst hx
        first | refine ev_isK (q := 65) k dX7_plain_64 rfl rfl (by omega) (lt_n hn (by decide)) rfl rfl ?_ | refine ev_isR (q := 65) k dX7_plain_64 rfl rfl (by omega) (lt_n hn (by decide)) rfl rfl ?_
        rw [fillA_s]
        refine ev_inc_1 (q := 68) (nI (k + 1)) dX7_plain_65 (nI_1 k) rfl rfl ?_
        refine ev_goto 44 dX7_plain_68 (by decide) ?_
        exact e (by omega) (by omega)
      by_cases hk4 : 4 ≤ k
      · have hk4 : k = 4 := by omega
        subst hk4
        have ht2 : ov (wr (wr (wr (wr (fillA (fillA (fillA I 34 24 z24) 35 6 z24) 36 4 s6f) 33 4 0) 33 5 0) 33 6 6) 33 7 0) S 33 0 = nI t := ht
        refine ev_iload_n (q := 45) dX7_plain_44 rfl rfl ?_
        refine ev_iconst (q := 46) (4) dX7_plain_45 (by decide) rfl ?_
        refine ev_icmp_ge (q := 49) 71 dX7_plain_46 (by decide) rfl (fun c_46 => ?_) (fun c_46 => ?_)
        · refine ev_aload_n (q := 72) dX7_plain_71 rfl rfl ?_
          refine ev_iconst (q := 73) (0) dX7_plain_72 (by decide) rfl ?_
          first | refine ev_putIK (q := 76) dX7_plain_73 fa_X7_64 rfl (by decide) (lt_n hn (by decide)) (Nat.le_of_ble_eq_true rfl) ⟨rfl, rfl⟩ rfl rfl rfl ?_ | refine ev_putIR (q := 76) dX7_plain_73 fa_X7_64 rfl (by decide) (lt_n hn (by decide)) (Nat.le_of_ble_eq_true rfl) ⟨rfl, rfl⟩ rfl rfl rfl ?_
          refine ev_aload_n (q := 77) dX7_plain_76 rfl rfl ?_
          refine ev_iconst (q := 78) (0) dX7_plain_77 (by decide) rfl ?_
          first | refine ev_putIK (q := 81) dX7_plain_78 fa_X7_67 rfl (by decide) (lt_n hn (by decide)) (Nat.le_of_ble_eq_true rfl) ⟨rfl, rfl⟩ rfl rfl rfl ?_ | refine ev_putIR (q := 81) dX7_plain_78 fa_X7_67 rfl (by decide) (lt_n hn (by decide)) (Nat.le_of_ble_eq_true rfl) ⟨rfl, rfl⟩ rfl rfl rfl ?_
          refine ev_aload_n (q := 82) dX7_plain_81 rfl rfl ?_
          refine ev_bipush (q := 84) (6) dX7_plain_82 (by decide) rfl ?_
          first | refine ev_putIK (q := 87) dX7_plain_84 fa_X7_70 rfl (by decide) (lt_n hn (by decide)) (Nat.le_of_ble_eq_true rfl) ⟨rfl, rfl⟩ rfl rfl rfl ?_ | refine ev_putIR (q := 87) dX7_plain_84 fa_X7_70 rfl (by decide) (lt_n hn (by decide)) (Nat.le_of_ble_eq_true rfl) ⟨rfl, rfl⟩ rfl rfl rfl ?_
          refine ev_aload_n (q := 88) dX7_plain_87 rfl rfl ?_
          refine ev_iconst (q := 89) (0) dX7_plain_88 (by decide) rfl ?_
          first | refine ev_putIK (q := 92) dX7_plain_89 fa_X7_73 rfl (by decide) (lt_n hn (by decide)) (Nat.le_of_ble_eq_true rfl) ⟨rfl, rfl⟩ rfl rfl rfl ?_ | refine ev_putIR (q := 92) dX7_plain_89 fa_X7_73 rfl (by decide) (lt_n hn (by decide)) (Nat.le_of_ble_eq_true rfl) ⟨rfl, rfl⟩ rfl rfl rfl ?_
          refine ev_aload_n (q := 93) dX7_plain_92 rfl rfl ?_
          refine ev_aload_n (q := 94) dX7_plain_93 rfl rfl ?_
          refine ev_callV0l (q := 97) dX7_plain_94 ca_X7_76 (c_X7_all (I := ov (wr (wr (wr (wr (fillA (fillA (fillA I 34 24 z24) 35 6 z24) 36 4 s6f) 33 4 0) 33 5 0) 33 6 6) 33 7 0) S) hn ht2 h6) rfl (lt_n hn (by decide)) rfl rfl (Nat.le_of_ble_eq_true rfl) (Nat.le_of_ble_eq_true rfl) (by decide) (by decide) rfl ?_
          refine ev_putJR (q := 100) dX7_plain_97 fa_X7_80 rfl (by decide) (lt_n hn (by decide)) (Nat.le_of_ble_eq_true rfl) ⟨rfl, rfl⟩ rfl rfl rfl ?_
          refine ev_aload_n (q := 101) dX7_plain_100 rfl rfl ?_
          refine ev_iconst (q := 102) (0) dX7_plain_101 (by decide) rfl ?_
          first | refine ev_putIK (q := 105) dX7_plain_102 fa_X7_84 rfl (by decide) (lt_n hn (by decide)) (Nat.le_of_ble_eq_true rfl) ⟨rfl, rfl⟩ rfl rfl rfl ?_ | refine ev_putIR (q := 105) dX7_plain_102 fa_X7_84 rfl (by decide) (lt_n hn (by decide)) (Nat.le_of_ble_eq_true rfl) ⟨rfl, rfl⟩ rfl rfl rfl ?_
          refine ev_aload_n (q := 106) dX7_plain_105 rfl rfl ?_
          refine ev_iconst (q := 107) (0) dX7_plain_106 (by decide) rfl ?_
          first | refine ev_putIK (q := 110) dX7_plain_107 fa_X7_87 rfl (by decide) (lt_n hn (by decide)) (Nat.le_of_ble_eq_true rfl) ⟨rfl, rfl⟩ rfl rfl rfl ?_ | refine ev_putIR (q := 110) dX7_plain_107 fa_X7_87 rfl (by decide) (lt_n hn (by decide)) (Nat.le_of_ble_eq_true rfl) ⟨rfl, rfl⟩ rfl rfl rfl ?_
          refine ev_aload_n (q := 111) dX7_plain_110 rfl rfl ?_
          refine ev_iconst (q := 112) (0) dX7_plain_111 (by decide) rfl ?_
          first | refine ev_putIK (q := 115) dX7_plain_112 fa_X7_90 rfl (by decide) (lt_n hn (by decide)) (Nat.le_of_ble_eq_true rfl) ⟨rfl, rfl⟩ rfl rfl rfl ?_ | refine ev_putIR (q := 115) dX7_plain_112 fa_X7_90 rfl (by decide) (lt_n hn (by decide)) (Nat.le_of_ble_eq_true rfl) ⟨rfl, rfl⟩ rfl rfl rfl ?_
          exact ev_retE dX7_plain_115 rfl rfl rfl (hQ _ _)
        · exact absurd (show (4 : Int32) ≤ nI 4 by decide) c_46
      · refine ev_iload_n (q := 45) dX7_plain_44 rfl rfl ?_
        refine ev_iconst (q := 46) (4) dX7_plain_45 (by decide) rfl ?_
        refine ev_icmp_ge (q := 49) 71 dX7_plain_46 (by decide) rfl (fun c_46 => ?_) (fun c_46 => ?_)
        · exact absurd ((nI_leI (a := 4) (by omega) (by omega)).mp c_46) hk4
        · refine ev_aload_n (q := 50) dX7_plain_49 rfl rfl ?_
          refine ev_get (q := 53) dX7_plain_50 fr_X7_20 rfl (lt_n hn (by decide)) rfl rfl ?_
          refine ev_iload_n (q := 54) dX7_plain_53 rfl rfl ?_
          refine ev_iload_n (q := 55) dX7_plain_54 rfl rfl ?_
          refine ev_if_ne (q := 58) 63 dX7_plain_55 (by decide) rfl (fun c_55 => ?_) (fun c_55 => ?_)
          · have c_55 : ¬ k = 0 := fun h => c_55 (by rw [h]; rfl)
            refine ev_iconst (q := 64) (0) dX7_plain_63 (by decide) rfl ?_
            exact J64 _ (by simp [s6f, c_55]) hk4
          · have c_55 : k = 0 := (nI_eq (b := 0) (by omega) (by omega)).mp c_55
            refine ev_bipush (q := 60) (6) dX7_plain_58 (by decide) rfl ?_
            refine ev_goto 64 dX7_plain_60 (by decide) ?_
            exact J64 _ (by simp [s6f, c_55]) hk4
  have l2 : ∀ j k, k + j = 6 → Ev xl xs 2 40 0 0 mX7_plain 23 [some (.ref 33), some (.int (nI k))] [] n (sysH (ov (fillA (fillA I 34 24 z24) 35 k z24) S) (ovJ J T) X) Q := by
    intro j
    induction j using Nat.strongRecOn with
    | _ j ih =>
      intro k hk
      have e : ∀ h1, _ := fun (h1 : j - 1 < j) => ih (j - 1) h1 (k + 1)
      refine ev_iload_n (q := 24) dX7_plain_23 rfl rfl ?_
      refine ev_bipush (q := 26) (6) dX7_plain_24 (by decide) rfl ?_
      refine ev_icmp_ge (q := 29) 42 dX7_plain_26 (by decide) rfl (fun c_26 => ?_) (fun c_26 => ?_)
      · have c_26 : 6 ≤ k := (nI_leI (a := 6) (by omega) (by omega)).mp c_26
        have hk6 : k = 6 := by omega
        rw [hk6]
        refine ev_iconst (q := 43) (0) dX7_plain_42 (by decide) rfl ?_
        refine ev_ist_1 (q := 44) dX7_plain_43 rfl rfl ?_
        have e3 := l3 4 0 (by omega)
        rw [fillA_0] at e3
        exact e3
      · have c_26 : ¬ 6 ≤ k := fun h => c_26 ((nI_leI (a := 6) (by omega) (by omega)).mpr h)
        refine ev_aload_n (q := 30) dX7_plain_29 rfl rfl ?_
        refine ev_get (q := 33) dX7_plain_30 fr_X7_17 rfl (lt_n hn (by decide)) rfl rfl ?_
        refine ev_iload_n (q := 34) dX7_plain_33 rfl rfl ?_
        refine ev_iconst (q := 35) (0) dX7_plain_34 (by decide) rfl ?_
        first | refine ev_isK (q := 36) k dX7_plain_35 rfl rfl (by omega) (lt_n hn (by decide)) rfl rfl ?_ | refine ev_isR (q := 36) k dX7_plain_35 rfl rfl (by omega) (lt_n hn (by decide)) rfl rfl ?_
        rw [show setI (fillA (fillA I 34 24 z24) 35 k z24) 35 (upd (fillA (fillA I 34 24 z24) 35 k z24 35) k 0) = fillA (fillA I 34 24 z24) 35 (k + 1) z24 from fillA_s _ _ _ z24]
        refine ev_inc_1 (q := 39) (nI (k + 1)) dX7_plain_36 (nI_1 k) rfl rfl ?_
        refine ev_goto 23 dX7_plain_39 (by decide) ?_
        exact e (by omega) (by omega)
  have l1 : ∀ j k, k + j = 24 → Ev xl xs 2 40 0 0 mX7_plain 2 [some (.ref 33), some (.int (nI k))] [] n (sysH (ov (fillA I 34 k z24) S) (ovJ J T) X) Q := by
    intro j
    induction j using Nat.strongRecOn with
    | _ j ih =>
      intro k hk
      have e : ∀ h1, _ := fun (h1 : j - 1 < j) => ih (j - 1) h1 (k + 1)
      refine ev_iload_n (q := 3) dX7_plain_2 rfl rfl ?_
      refine ev_bipush (q := 5) (24) dX7_plain_3 (by decide) rfl ?_
      refine ev_icmp_ge (q := 8) 21 dX7_plain_5 (by decide) rfl (fun c_5 => ?_) (fun c_5 => ?_)
      · have c_5 : 24 ≤ k := (nI_leI (a := 24) (by omega) (by omega)).mp c_5
        have hk6 : k = 24 := by omega
        rw [hk6]
        refine ev_iconst (q := 22) (0) dX7_plain_21 (by decide) rfl ?_
        refine ev_ist_1 (q := 23) dX7_plain_22 rfl rfl ?_
        have e3 := l2 6 0 (by omega)
        rw [fillA_0] at e3
        exact e3
      · have c_5 : ¬ 24 ≤ k := fun h => c_5 ((nI_leI (a := 24) (by omega) (by omega)).mpr h)
        refine ev_aload_n (q := 9) dX7_plain_8 rfl rfl ?_
        refine ev_get (q := 12) dX7_plain_9 fr_X7_13 rfl (lt_n hn (by decide)) rfl rfl ?_
        refine ev_iload_n (q := 13) dX7_plain_12 rfl rfl ?_
        refine ev_iconst (q := 14) (0) dX7_plain_13 (by decide) rfl ?_
        first | refine ev_isK (q := 15) k dX7_plain_14 rfl rfl (by omega) (lt_n hn (by decide)) rfl rfl ?_ | refine ev_isR (q := 15) k dX7_plain_14 rfl rfl (by omega) (lt_n hn (by decide)) rfl rfl ?_
        rw [show setI (fillA I 34 k z24) 34 (upd (fillA I 34 k z24 34) k 0) = fillA I 34 (k + 1) z24 from fillA_s _ _ _ z24]
        refine ev_inc_1 (q := 18) (nI (k + 1)) dX7_plain_15 (nI_1 k) rfl rfl ?_
        refine ev_goto 2 dX7_plain_18 (by decide) ?_
        exact e (by omega) (by omega)
  refine ev_iconst (q := 1) (0) dX7_plain_0 (by decide) rfl ?_
  refine ev_ist_1 (q := 2) dX7_plain_1 rfl rfl ?_
  have e3 := l1 24 0 (by omega)
  rw [fillA_0] at e3
  exact e3
theorem s_X7_things_f {v : Int32} (hv : inb v 2 6 = false) : RnS xl xs 3 61 0 0 mX7_things [.ref 33, .int v] n I J X (some (.int (-2))) n I J X := by
  intro S T Q hQ
  show Ev xl xs 3 61 0 0 mX7_things 0 [some (.ref 33), some (.int v), none] [] n (sysH (ov I S) (ovJ J T) X) Q
  refine ev_iload_n (q := 1) dX7_things_0 rfl rfl ?_
  refine ev_iconst (q := 2) (2) dX7_things_1 (by decide) rfl ?_
  refine ev_bipush (q := 4) (6) dX7_things_2 (by decide) rfl ?_
  refine ev_callS3i (q := 7) dX7_things_4 ca_X7_99 (c_X7_in _ _ _) (Nat.le_of_ble_eq_true rfl) (Nat.le_of_ble_eq_true rfl) (by decide) (by decide) rfl ?_
  refine ev_if_ne (q := 10) 13 dX7_things_7 (by decide) rfl (fun c_7 => ?_) (fun c_7 => ?_)
  · exact absurd (b2i_ne.mp c_7) (by rw [hv]; decide)
  · refine ev_bipush (q := 12) (-2) dX7_things_10 (by decide) rfl ?_
    exact ev_iretE dX7_things_12 rfl rfl rfl rfl rfl (hQ _ _)
theorem s_X7_things {m : Nat} (hn : 49 ≤ n) (h2 : 2 ≤ m) (h6 : m ≤ 6) : RnS xl xs 3 61 0 0 mX7_things [.ref 33, .int (nI m)] n I J X (some (.int (I 33 0))) n (plI (wr I 33 0 (nI m))) (wrJ J 33 8 (allL m)) X := by
  intro S T Q hQ
  have hv : inb (nI m) 2 6 = true := by
    have : ∀ m, m < 7 → 2 ≤ m → inb (nI m) 2 6 = true := by decide +kernel
    exact this m (by omega) h2
  show Ev xl xs 3 61 0 0 mX7_things 0 [some (.ref 33), some (.int (nI m)), none] [] n (sysH (ov I S) (ovJ J T) X) Q
  refine ev_iload_n (q := 1) dX7_things_0 rfl rfl ?_
  refine ev_iconst (q := 2) (2) dX7_things_1 (by decide) rfl ?_
  refine ev_bipush (q := 4) (6) dX7_things_2 (by decide) rfl ?_
  refine ev_callS3i (q := 7) dX7_things_4 ca_X7_99 (c_X7_in _ _ _) (Nat.le_of_ble_eq_true rfl) (Nat.le_of_ble_eq_true rfl) (by decide) (by decide) rfl ?_
  refine ev_if_ne (q := 10) 13 dX7_things_7 (by decide) rfl (fun c_7 => ?_) (fun c_7 => ?_)
  · refine ev_aload_n (q := 14) dX7_things_13 rfl rfl ?_
    refine ev_get (q := 17) dX7_things_14 fr_X7_7 rfl (lt_n hn (by decide)) rfl rfl ?_
    refine ev_ist_2 (q := 18) dX7_things_17 rfl rfl ?_
    refine ev_aload_n (q := 19) dX7_things_18 rfl rfl ?_
    refine ev_iload_n (q := 20) dX7_things_19 rfl rfl ?_
    first | refine ev_putIK (q := 23) dX7_things_20 fa_X7_7 rfl (by decide) (lt_n hn (by decide)) (Nat.le_of_ble_eq_true rfl) ⟨rfl, rfl⟩ rfl rfl rfl ?_ | refine ev_putIR (q := 23) dX7_things_20 fa_X7_7 rfl (by decide) (lt_n hn (by decide)) (Nat.le_of_ble_eq_true rfl) ⟨rfl, rfl⟩ rfl rfl rfl ?_
    refine ev_aload_n (q := 24) dX7_things_23 rfl rfl ?_
    refine ev_callV0vS (q := 27) dX7_things_24 ca_X7_61 (s_X7_plain hn (show wr I 33 0 (nI m) 33 0 = nI m from rfl) h6) rfl (lt_n hn (by decide)) rfl rfl (Nat.le_of_ble_eq_true rfl) (Nat.le_of_ble_eq_true rfl) (by decide) (by decide) rfl (fun S T => ?_)
    refine ev_iload_n (q := 28) dX7_things_27 rfl rfl ?_
    exact ev_iretE dX7_things_28 rfl rfl rfl rfl rfl (hQ _ _)
  · exact absurd c_7 (b2i_n0.mpr hv)
theorem s_X7_worth_u (hn : 49 ≤ n) (hm : MI I t sl wy wi he) {c k v : Int32} (hv : (inb c 0 3 && inb k 0 (nI t - 1)) = false) : RnS xl xs 2 43 0 0 mX7_worth [.ref 33, .int c, .int k, .int v] n I J X (some (.int (-1))) n I J X := by
  intro S T Q hQ
  show Ev xl xs 2 43 0 0 mX7_worth 0 [some (.ref 33), some (.int c), some (.int k), some (.int v), none] [] n (sysH (ov I S) (ovJ J T) X) Q
  refine ev_iload_n (q := 1) dX7_worth_0 rfl rfl ?_
  refine ev_callS1i (q := 4) dX7_worth_1 ca_X7_103 (c_X7_isCousin _) (Nat.le_of_ble_eq_true rfl) (Nat.le_of_ble_eq_true rfl) (by decide) (by decide) rfl ?_
  refine ev_if_eq (q := 7) 15 dX7_worth_4 (by decide) rfl (fun c_4 => ?_) (fun c_4 => ?_)
  · refine ev_iconst (q := 16) (-1) dX7_worth_15 (by decide) rfl ?_
    exact ev_iretE dX7_worth_16 rfl rfl rfl rfl rfl (hQ _ _)
  · have c_4 := b2i_n0.mp c_4
    refine ev_aload_n (q := 8) dX7_worth_7 rfl rfl ?_
    refine ev_iload_n (q := 9) dX7_worth_8 rfl rfl ?_
    refine ev_callV1i (q := 12) dX7_worth_9 ca_X7_107 (s_X7_isThing hn hm _) rfl (lt_n hn (by decide)) rfl rfl (Nat.le_of_ble_eq_true rfl) (Nat.le_of_ble_eq_true rfl) (by decide) (by decide) rfl ?_
    refine ev_if_ne (q := 15) 17 dX7_worth_12 (by decide) rfl (fun c_12 => ?_) (fun c_12 => ?_)
    · exact absurd (b2i_ne.mp c_12) (by rw [c_4, Bool.true_and] at hv; rw [hv]; decide)
    · refine ev_iconst (q := 16) (-1) dX7_worth_15 (by decide) rfl ?_
      exact ev_iretE dX7_worth_16 rfl rfl rfl rfl rfl (hQ _ _)
theorem s_X7_worth_o (hn : 49 ≤ n) (hm : MI I t sl wy wi he) {c k v : Int32} (hc : inb c 0 3 = true) (hk : inb k 0 (nI t - 1) = true) (hv : inb v (-9) 9 = false) : RnS xl xs 2 43 0 0 mX7_worth [.ref 33, .int c, .int k, .int v] n I J X (some (.int (-2))) n I J X := by
  intro S T Q hQ
  show Ev xl xs 2 43 0 0 mX7_worth 0 [some (.ref 33), some (.int c), some (.int k), some (.int v), none] [] n (sysH (ov I S) (ovJ J T) X) Q
  refine ev_iload_n (q := 1) dX7_worth_0 rfl rfl ?_
  refine ev_callS1i (q := 4) dX7_worth_1 ca_X7_103 (c_X7_isCousin _) (Nat.le_of_ble_eq_true rfl) (Nat.le_of_ble_eq_true rfl) (by decide) (by decide) rfl ?_
  refine ev_if_eq (q := 7) 15 dX7_worth_4 (by decide) rfl (fun c_4 => ?_) (fun c_4 => ?_)
  · exact absurd c_4 (b2i_n0.mpr hc)
  · refine ev_aload_n (q := 8) dX7_worth_7 rfl rfl ?_
    refine ev_iload_n (q := 9) dX7_worth_8 rfl rfl ?_
    refine ev_callV1i (q := 12) dX7_worth_9 ca_X7_107 (s_X7_isThing hn hm _) rfl (lt_n hn (by decide)) rfl rfl (Nat.le_of_ble_eq_true rfl) (Nat.le_of_ble_eq_true rfl) (by decide) (by decide) rfl ?_
    refine ev_if_ne (q := 15) 17 dX7_worth_12 (by decide) rfl (fun c_12 => ?_) (fun c_12 => ?_)
    · refine ev_iload_n (q := 18) dX7_worth_17 rfl rfl ?_
      refine ev_bipush (q := 20) (-9) dX7_worth_18 (by decide) rfl ?_
      refine ev_bipush (q := 22) (9) dX7_worth_20 (by decide) rfl ?_
      refine ev_callS3i (q := 25) dX7_worth_22 ca_X7_99 (c_X7_in _ _ _) (Nat.le_of_ble_eq_true rfl) (Nat.le_of_ble_eq_true rfl) (by decide) (by decide) rfl ?_
      refine ev_if_ne (q := 28) 31 dX7_worth_25 (by decide) rfl (fun c_25 => ?_) (fun c_25 => ?_)
      · exact absurd (b2i_ne.mp c_25) (by rw [hv]; decide)
      · refine ev_bipush (q := 30) (-2) dX7_worth_28 (by decide) rfl ?_
        exact ev_iretE dX7_worth_30 rfl rfl rfl rfl rfl (hQ _ _)
    · exact absurd c_12 (b2i_n0.mpr hk)
theorem s_X7_worth {c k : Nat} (hn : 49 ≤ n) (hm : MI I t sl wy wi he) {v : Int32} (hc : c < 4) (hk : k < t) (hv : inb v (-9) 9 = true) (hc2 : inb (nI c) 0 3 = true) (hk2 : inb (nI k) 0 (nI t - 1) = true) : RnS xl xs 2 43 0 0 mX7_worth [.ref 33, .int (nI c), .int (nI k), .int v] n I J X (some (.int (I 34 (6 * c + k) + 1000))) n (wr I 34 (6 * c + k) v) J X := by
  intro S T Q hQ
  have h6 := hm.2.2.1
  have hx : (6 : Int32) * nI c + nI k = nI (6 * c + k) := by rw [show (6 : Int32) = nI 6 from rfl, pk_mul, nI_add]
  show Ev xl xs 2 43 0 0 mX7_worth 0 [some (.ref 33), some (.int (nI c)), some (.int (nI k)), some (.int v), none] [] n (sysH (ov I S) (ovJ J T) X) Q
  refine ev_iload_n (q := 1) dX7_worth_0 rfl rfl ?_
  refine ev_callS1i (q := 4) dX7_worth_1 ca_X7_103 (c_X7_isCousin _) (Nat.le_of_ble_eq_true rfl) (Nat.le_of_ble_eq_true rfl) (by decide) (by decide) rfl ?_
  refine ev_if_eq (q := 7) 15 dX7_worth_4 (by decide) rfl (fun c_4 => ?_) (fun c_4 => ?_)
  · exact absurd c_4 (b2i_n0.mpr hc2)
  · refine ev_aload_n (q := 8) dX7_worth_7 rfl rfl ?_
    refine ev_iload_n (q := 9) dX7_worth_8 rfl rfl ?_
    refine ev_callV1i (q := 12) dX7_worth_9 ca_X7_107 (s_X7_isThing hn hm _) rfl (lt_n hn (by decide)) rfl rfl (Nat.le_of_ble_eq_true rfl) (Nat.le_of_ble_eq_true rfl) (by decide) (by decide) rfl ?_
    refine ev_if_ne (q := 15) 17 dX7_worth_12 (by decide) rfl (fun c_12 => ?_) (fun c_12 => ?_)
    · refine ev_iload_n (q := 18) dX7_worth_17 rfl rfl ?_
      refine ev_bipush (q := 20) (-9) dX7_worth_18 (by decide) rfl ?_
      refine ev_bipush (q := 22) (9) dX7_worth_20 (by decide) rfl ?_
      refine ev_callS3i (q := 25) dX7_worth_22 ca_X7_99 (c_X7_in _ _ _) (Nat.le_of_ble_eq_true rfl) (Nat.le_of_ble_eq_true rfl) (by decide) (by decide) rfl ?_
      refine ev_if_ne (q := 28) 31 dX7_worth_25 (by decide) rfl (fun c_25 => ?_) (fun c_25 => ?_)
      · refine ev_aload_n (q := 32) dX7_worth_31 rfl rfl ?_
        refine ev_get (q := 35) dX7_worth_32 fr_X7_13 rfl (lt_n hn (by decide)) rfl rfl ?_
        refine ev_bipush (q := 37) (6) dX7_worth_35 (by decide) rfl ?_
        refine ev_iload_n (q := 38) dX7_worth_37 rfl rfl ?_
        refine ev_imul (q := 39) dX7_worth_38 rfl ?_
        refine ev_iload_n (q := 40) dX7_worth_39 rfl rfl ?_
        refine ev_iadd (q := 41) dX7_worth_40 rfl ?_
        refine ev_iaS (q := 42) (6 * c + k) dX7_worth_41 hx rfl (by omega) (lt_n hn (by decide)) rfl ?_
        refine ev_ist_4 (q := 44) dX7_worth_42 rfl rfl ?_
        refine ev_aload_n (q := 45) dX7_worth_44 rfl rfl ?_
        refine ev_get (q := 48) dX7_worth_45 fr_X7_13 rfl (lt_n hn (by decide)) rfl rfl ?_
        refine ev_bipush (q := 50) (6) dX7_worth_48 (by decide) rfl ?_
        refine ev_iload_n (q := 51) dX7_worth_50 rfl rfl ?_
        refine ev_imul (q := 52) dX7_worth_51 rfl ?_
        refine ev_iload_n (q := 53) dX7_worth_52 rfl rfl ?_
        refine ev_iadd (q := 54) dX7_worth_53 rfl ?_
        refine ev_iload_n (q := 55) dX7_worth_54 rfl rfl ?_
        first | refine ev_isK (q := 56) (6 * c + k) dX7_worth_55 hx rfl (by omega) (lt_n hn (by decide)) rfl rfl ?_ | refine ev_isR (q := 56) (6 * c + k) dX7_worth_55 hx rfl (by omega) (lt_n hn (by decide)) rfl rfl ?_
        refine ev_iload (q := 58) dX7_worth_56 rfl rfl ?_
        refine ev_sipush (q := 61) (1000) dX7_worth_58 (by decide) rfl ?_
        refine ev_iadd (q := 62) dX7_worth_61 rfl ?_
        exact ev_iretE dX7_worth_62 rfl rfl rfl rfl rfl (hQ _ _)
      · exact absurd c_25 (b2i_n0.mpr hv)
    · exact absurd c_12 (b2i_n0.mpr hk2)
theorem s_X7_taste_u (hn : 49 ≤ n) (hm : MI I t sl wy wi he) {k v : Int32} (hv : inb k 0 (nI t - 1) = false) : RnS xl xs 2 43 0 0 mX7_taste [.ref 33, .int k, .int v] n I J X (some (.int (-1))) n I J X := by
  intro S T Q hQ
  show Ev xl xs 2 43 0 0 mX7_taste 0 [some (.ref 33), some (.int k), some (.int v), none] [] n (sysH (ov I S) (ovJ J T) X) Q
  refine ev_aload_n (q := 1) dX7_taste_0 rfl rfl ?_
  refine ev_iload_n (q := 2) dX7_taste_1 rfl rfl ?_
  refine ev_callV1i (q := 5) dX7_taste_2 ca_X7_107 (s_X7_isThing hn hm _) rfl (lt_n hn (by decide)) rfl rfl (Nat.le_of_ble_eq_true rfl) (Nat.le_of_ble_eq_true rfl) (by decide) (by decide) rfl ?_
  refine ev_if_ne (q := 8) 10 dX7_taste_5 (by decide) rfl (fun c_5 => ?_) (fun c_5 => ?_)
  · exact absurd (b2i_ne.mp c_5) (by rw [hv]; decide)
  · refine ev_iconst (q := 9) (-1) dX7_taste_8 (by decide) rfl ?_
    exact ev_iretE dX7_taste_9 rfl rfl rfl rfl rfl (hQ _ _)
theorem s_X7_taste_o (hn : 49 ≤ n) (hm : MI I t sl wy wi he) {k v : Int32} (hk : inb k 0 (nI t - 1) = true) (hv : inb v (-9) 9 = false) : RnS xl xs 2 43 0 0 mX7_taste [.ref 33, .int k, .int v] n I J X (some (.int (-2))) n I J X := by
  intro S T Q hQ
  show Ev xl xs 2 43 0 0 mX7_taste 0 [some (.ref 33), some (.int k), some (.int v), none] [] n (sysH (ov I S) (ovJ J T) X) Q
  refine ev_aload_n (q := 1) dX7_taste_0 rfl rfl ?_
  refine ev_iload_n (q := 2) dX7_taste_1 rfl rfl ?_
  refine ev_callV1i (q := 5) dX7_taste_2 ca_X7_107 (s_X7_isThing hn hm _) rfl (lt_n hn (by decide)) rfl rfl (Nat.le_of_ble_eq_true rfl) (Nat.le_of_ble_eq_true rfl) (by decide) (by decide) rfl ?_
  refine ev_if_ne (q := 8) 10 dX7_taste_5 (by decide) rfl (fun c_5 => ?_) (fun c_5 => ?_)
  · refine ev_iload_n (q := 11) dX7_taste_10 rfl rfl ?_
    refine ev_bipush (q := 13) (-9) dX7_taste_11 (by decide) rfl ?_
    refine ev_bipush (q := 15) (9) dX7_taste_13 (by decide) rfl ?_
    refine ev_callS3i (q := 18) dX7_taste_15 ca_X7_99 (c_X7_in _ _ _) (Nat.le_of_ble_eq_true rfl) (Nat.le_of_ble_eq_true rfl) (by decide) (by decide) rfl ?_
    refine ev_if_ne (q := 21) 24 dX7_taste_18 (by decide) rfl (fun c_18 => ?_) (fun c_18 => ?_)
    · exact absurd (b2i_ne.mp c_18) (by rw [hv]; decide)
    · refine ev_bipush (q := 23) (-2) dX7_taste_21 (by decide) rfl ?_
      exact ev_iretE dX7_taste_23 rfl rfl rfl rfl rfl (hQ _ _)
  · exact absurd c_5 (b2i_n0.mpr hk)
theorem s_X7_taste {k : Nat} (hn : 49 ≤ n) (hm : MI I t sl wy wi he) {v : Int32} (hk : k < t) (hv : inb v (-9) 9 = true) (hk2 : inb (nI k) 0 (nI t - 1) = true) : RnS xl xs 2 43 0 0 mX7_taste [.ref 33, .int (nI k), .int v] n I J X (some (.int (I 35 k + 1000))) n (wr I 35 k v) J X := by
  intro S T Q hQ
  have h6 := hm.2.2.1
  show Ev xl xs 2 43 0 0 mX7_taste 0 [some (.ref 33), some (.int (nI k)), some (.int v), none] [] n (sysH (ov I S) (ovJ J T) X) Q
  refine ev_aload_n (q := 1) dX7_taste_0 rfl rfl ?_
  refine ev_iload_n (q := 2) dX7_taste_1 rfl rfl ?_
  refine ev_callV1i (q := 5) dX7_taste_2 ca_X7_107 (s_X7_isThing hn hm _) rfl (lt_n hn (by decide)) rfl rfl (Nat.le_of_ble_eq_true rfl) (Nat.le_of_ble_eq_true rfl) (by decide) (by decide) rfl ?_
  refine ev_if_ne (q := 8) 10 dX7_taste_5 (by decide) rfl (fun c_5 => ?_) (fun c_5 => ?_)
  · refine ev_iload_n (q := 11) dX7_taste_10 rfl rfl ?_
    refine ev_bipush (q := 13) (-9) dX7_taste_11 (by decide) rfl ?_
    refine ev_bipush (q := 15) (9) dX7_taste_13 (by decide) rfl ?_
    refine ev_callS3i (q := 18) dX7_taste_15 ca_X7_99 (c_X7_in _ _ _) (Nat.le_of_ble_eq_true rfl) (Nat.le_of_ble_eq_true rfl) (by decide) (by decide) rfl ?_
    refine ev_if_ne (q := 21) 24 dX7_taste_18 (by decide) rfl (fun c_18 => ?_) (fun c_18 => ?_)
    · refine ev_aload_n (q := 25) dX7_taste_24 rfl rfl ?_
      refine ev_get (q := 28) dX7_taste_25 fr_X7_17 rfl (lt_n hn (by decide)) rfl rfl ?_
      refine ev_iload_n (q := 29) dX7_taste_28 rfl rfl ?_
      refine ev_iaS (q := 30) k dX7_taste_29 rfl rfl (by omega) (lt_n hn (by decide)) rfl ?_
      refine ev_ist_3 (q := 31) dX7_taste_30 rfl rfl ?_
      refine ev_aload_n (q := 32) dX7_taste_31 rfl rfl ?_
      refine ev_get (q := 35) dX7_taste_32 fr_X7_17 rfl (lt_n hn (by decide)) rfl rfl ?_
      refine ev_iload_n (q := 36) dX7_taste_35 rfl rfl ?_
      refine ev_iload_n (q := 37) dX7_taste_36 rfl rfl ?_
      first | refine ev_isK (q := 38) k dX7_taste_37 rfl rfl (by omega) (lt_n hn (by decide)) rfl rfl ?_ | refine ev_isR (q := 38) k dX7_taste_37 rfl rfl (by omega) (lt_n hn (by decide)) rfl rfl ?_
      refine ev_iload_n (q := 39) dX7_taste_38 rfl rfl ?_
      refine ev_sipush (q := 42) (1000) dX7_taste_39 (by decide) rfl ?_
      refine ev_iadd (q := 43) dX7_taste_42 rfl ?_
      exact ev_iretE dX7_taste_43 rfl rfl rfl rfl rfl (hQ _ _)
    · exact absurd c_18 (b2i_n0.mpr hv)
  · exact absurd c_5 (b2i_n0.mpr hk2)
theorem s_X7_set_f (hn : 49 ≤ n) {which v : Int32} (hv : setF which v = false) : RnS xl xs 1 22 0 0 mX7_set [.ref 33, .int which, .int v] n I J X (some (.int (-2))) n I J X := by
  intro S T Q hQ
  show Ev xl xs 1 22 0 0 mX7_set 0 [some (.ref 33), some (.int which), some (.int v), none, none] [] n (sysH (ov I S) (ovJ J T) X) Q
  have J47 : ∀ x, x = 0 → Ev xl xs 1 22 0 0 mX7_set 47 [some (.ref 33), some (.int which), some (.int v), none, none] [.int x] n (sysH (ov I S) (ovJ J T) X) Q := by
    intro x hx
    subst hx
    refine ev_ist_3 (q := 48) dX7_set_47 rfl rfl ?_
    refine ev_iload_n (q := 49) dX7_set_48 rfl rfl ?_
    refine ev_if_ne (q := 52) 55 dX7_set_49 (by decide) rfl (fun c_49 => ?_) (fun c_49 => ?_)
    · exact absurd rfl c_49
    · refine ev_bipush (q := 54) (-2) dX7_set_52 (by decide) rfl ?_
      exact ev_iretE dX7_set_54 rfl rfl rfl rfl rfl (hQ _ _)
  unfold setF at hv
  refine ev_iload_n (q := 1) dX7_set_0 rfl rfl ?_
  refine ev_if_ne (q := 4) 13 dX7_set_1 (by decide) rfl (fun c_1 => ?_) (fun c_1 => ?_)
  · have c_1 : ¬ which = 0 := c_1
    rw [if_neg c_1] at hv
    refine ev_iload_n (q := 14) dX7_set_13 rfl rfl ?_
    refine ev_iconst (q := 15) (1) dX7_set_14 (by decide) rfl ?_
    refine ev_icmp_ne (q := 18) 27 dX7_set_15 (by decide) rfl (fun c_15 => ?_) (fun c_15 => ?_)
    · have c_15 : ¬ which = 1 := c_15
      rw [if_neg c_15] at hv
      refine ev_iload_n (q := 28) dX7_set_27 rfl rfl ?_
      refine ev_iconst (q := 29) (2) dX7_set_28 (by decide) rfl ?_
      refine ev_icmp_ne (q := 32) 46 dX7_set_29 (by decide) rfl (fun c_29 => ?_) (fun c_29 => ?_)
      · refine ev_iconst (q := 47) (0) dX7_set_46 (by decide) rfl ?_
        first | exact J47 _ rfl | (rw [hv]; exact J47 _ rfl)
      · have c_29 : which = 2 := c_29
        rw [if_pos c_29] at hv
        refine ev_iload_n (q := 33) dX7_set_32 rfl rfl ?_
        refine ev_iconst (q := 34) (0) dX7_set_33 (by decide) rfl ?_
        refine ev_bipush (q := 36) (6) dX7_set_34 (by decide) rfl ?_
        refine ev_callS3i (q := 39) dX7_set_36 ca_X7_99 (c_X7_in _ _ _) (Nat.le_of_ble_eq_true rfl) (Nat.le_of_ble_eq_true rfl) (by decide) (by decide) rfl ?_
        refine ev_if_eq (q := 42) 46 dX7_set_39 (by decide) rfl (fun c_39 => ?_) (fun c_39 => ?_)
        · refine ev_iconst (q := 47) (0) dX7_set_46 (by decide) rfl ?_
          first | exact J47 _ rfl | (rw [hv]; exact J47 _ rfl)
        · exact absurd (b2i_n0.mp c_39) (by rw [hv]; decide)
    · have c_15 : which = 1 := c_15
      rw [if_pos c_15] at hv
      refine ev_iload_n (q := 19) dX7_set_18 rfl rfl ?_
      refine ev_iconst (q := 20) (0) dX7_set_19 (by decide) rfl ?_
      refine ev_iconst (q := 21) (3) dX7_set_20 (by decide) rfl ?_
      refine ev_callS3i (q := 24) dX7_set_21 ca_X7_99 (c_X7_in _ _ _) (Nat.le_of_ble_eq_true rfl) (Nat.le_of_ble_eq_true rfl) (by decide) (by decide) rfl ?_
      refine ev_goto 47 dX7_set_24 (by decide) ?_
      first | exact J47 _ rfl | (rw [hv]; exact J47 _ rfl)
  · have c_1 : which = 0 := c_1
    rw [if_pos c_1] at hv
    refine ev_iload_n (q := 5) dX7_set_4 rfl rfl ?_
    refine ev_iconst (q := 6) (0) dX7_set_5 (by decide) rfl ?_
    refine ev_iconst (q := 7) (2) dX7_set_6 (by decide) rfl ?_
    refine ev_callS3i (q := 10) dX7_set_7 ca_X7_99 (c_X7_in _ _ _) (Nat.le_of_ble_eq_true rfl) (Nat.le_of_ble_eq_true rfl) (by decide) (by decide) rfl ?_
    refine ev_goto 47 dX7_set_10 (by decide) ?_
    first | exact J47 _ rfl | (rw [hv]; exact J47 _ rfl)
theorem s_X7_set_0 (hn : 49 ≤ n) {v : Int32} (hv : inb v 0 2 = true) : RnS xl xs 1 22 0 0 mX7_set [.ref 33, .int 0, .int v] n I J X (some (.int (I 33 4))) n (wr I 33 4 v) J X := by
  intro S T Q hQ
  have e : wr (wr (wr I 33 4 v) 33 5 (I 33 5)) 33 6 (I 33 6) = wr I 33 4 v := (wr_id (I := wr (wr I 33 4 v) 33 5 (I 33 5)) (p := 33) (j := 6) rfl).trans (wr_id (I := wr I 33 4 v) (p := 33) (j := 5) rfl)
  show Ev xl xs 1 22 0 0 mX7_set 0 [some (.ref 33), some (.int 0), some (.int v), none, none] [] n (sysH (ov I S) (ovJ J T) X) Q
  refine ev_iload_n (q := 1) dX7_set_0 rfl rfl ?_
  refine ev_if_ne (q := 4) 13 dX7_set_1 (by decide) rfl (fun c_1 => ?_) (fun c_1 => ?_)
  · exact absurd rfl c_1
  · refine ev_iload_n (q := 5) dX7_set_4 rfl rfl ?_
    refine ev_iconst (q := 6) (0) dX7_set_5 (by decide) rfl ?_
    refine ev_iconst (q := 7) (2) dX7_set_6 (by decide) rfl ?_
    refine ev_callS3i (q := 10) dX7_set_7 ca_X7_99 (c_X7_in _ _ _) (Nat.le_of_ble_eq_true rfl) (Nat.le_of_ble_eq_true rfl) (by decide) (by decide) rfl ?_
    refine ev_goto 47 dX7_set_10 (by decide) ?_
    refine ev_ist_3 (q := 48) dX7_set_47 rfl rfl ?_
    refine ev_iload_n (q := 49) dX7_set_48 rfl rfl ?_
    refine ev_if_ne (q := 52) 55 dX7_set_49 (by decide) rfl (fun c_49 => ?_) (fun c_49 => ?_)
    · refine ev_iload_n (q := 56) dX7_set_55 rfl rfl ?_
      refine ev_if_ne (q := 59) 66 dX7_set_56 (by decide) rfl (fun c_56 => ?_) (fun c_56 => ?_)
      · exact absurd rfl c_56
      · refine ev_aload_n (q := 60) dX7_set_59 rfl rfl ?_
        refine ev_get (q := 63) dX7_set_60 fr_X7_64 rfl (lt_n hn (by decide)) rfl rfl ?_
        refine ev_goto 82 dX7_set_63 (by decide) ?_
        refine ev_ist_4 (q := 84) dX7_set_82 rfl rfl ?_
        refine ev_aload_n (q := 85) dX7_set_84 rfl rfl ?_
        refine ev_iload_n (q := 86) dX7_set_85 rfl rfl ?_
        refine ev_if_ne (q := 89) 93 dX7_set_86 (by decide) rfl (fun c_86 => ?_) (fun c_86 => ?_)
        · exact absurd rfl c_86
        · refine ev_iload_n (q := 90) dX7_set_89 rfl rfl ?_
          refine ev_goto 97 dX7_set_90 (by decide) ?_
          first | refine ev_putIK (q := 100) dX7_set_97 fa_X7_64 rfl (by decide) (lt_n hn (by decide)) (Nat.le_of_ble_eq_true rfl) ⟨rfl, rfl⟩ rfl rfl rfl ?_ | refine ev_putIR (q := 100) dX7_set_97 fa_X7_64 rfl (by decide) (lt_n hn (by decide)) (Nat.le_of_ble_eq_true rfl) ⟨rfl, rfl⟩ rfl rfl rfl ?_
          refine ev_aload_n (q := 101) dX7_set_100 rfl rfl ?_
          refine ev_iload_n (q := 102) dX7_set_101 rfl rfl ?_
          refine ev_iconst (q := 103) (1) dX7_set_102 (by decide) rfl ?_
          refine ev_icmp_ne (q := 106) 110 dX7_set_103 (by decide) rfl (fun c_103 => ?_) (fun c_103 => ?_)
          · refine ev_aload_n (q := 111) dX7_set_110 rfl rfl ?_
            refine ev_get (q := 114) dX7_set_111 fr_X7_67 rfl (lt_n hn (by decide)) rfl rfl ?_
            first | refine ev_putIK (q := 117) dX7_set_114 fa_X7_67 rfl (by decide) (lt_n hn (by decide)) (Nat.le_of_ble_eq_true rfl) ⟨rfl, rfl⟩ rfl rfl rfl ?_ | refine ev_putIR (q := 117) dX7_set_114 fa_X7_67 rfl (by decide) (lt_n hn (by decide)) (Nat.le_of_ble_eq_true rfl) ⟨rfl, rfl⟩ rfl rfl rfl ?_
            refine ev_aload_n (q := 118) dX7_set_117 rfl rfl ?_
            refine ev_iload_n (q := 119) dX7_set_118 rfl rfl ?_
            refine ev_iconst (q := 120) (2) dX7_set_119 (by decide) rfl ?_
            refine ev_icmp_ne (q := 123) 127 dX7_set_120 (by decide) rfl (fun c_120 => ?_) (fun c_120 => ?_)
            · refine ev_aload_n (q := 128) dX7_set_127 rfl rfl ?_
              refine ev_get (q := 131) dX7_set_128 fr_X7_70 rfl (lt_n hn (by decide)) rfl rfl ?_
              first | refine ev_putIK (q := 134) dX7_set_131 fa_X7_70 rfl (by decide) (lt_n hn (by decide)) (Nat.le_of_ble_eq_true rfl) ⟨rfl, rfl⟩ rfl rfl rfl ?_ | refine ev_putIR (q := 134) dX7_set_131 fa_X7_70 rfl (by decide) (lt_n hn (by decide)) (Nat.le_of_ble_eq_true rfl) ⟨rfl, rfl⟩ rfl rfl rfl ?_
              refine ev_iload (q := 136) dX7_set_134 rfl rfl ?_
              exact ev_iretE dX7_set_136 rfl rfl rfl rfl (congrArg (fun z => sysH (ov z S) (ovJ J T) X) e) (hQ _ _)
            · exact absurd c_120 (by decide)
          · exact absurd c_103 (by decide)
    · exact absurd c_49 (b2i_n0.mpr hv)
theorem s_X7_set_1 (hn : 49 ≤ n) {v : Int32} (hv : inb v 0 3 = true) : RnS xl xs 1 22 0 0 mX7_set [.ref 33, .int 1, .int v] n I J X (some (.int (I 33 5))) n (wr I 33 5 v) J X := by
  intro S T Q hQ
  have e : wr (wr (wr I 33 4 (I 33 4)) 33 5 v) 33 6 (I 33 6) = wr I 33 5 v := by rw [wr_id (I := I) (p := 33) (j := 4) rfl]; exact wr_id (I := wr I 33 5 v) (p := 33) (j := 6) rfl
  show Ev xl xs 1 22 0 0 mX7_set 0 [some (.ref 33), some (.int 1), some (.int v), none, none] [] n (sysH (ov I S) (ovJ J T) X) Q
  refine ev_iload_n (q := 1) dX7_set_0 rfl rfl ?_
  refine ev_if_ne (q := 4) 13 dX7_set_1 (by decide) rfl (fun c_1 => ?_) (fun c_1 => ?_)
  · refine ev_iload_n (q := 14) dX7_set_13 rfl rfl ?_
    refine ev_iconst (q := 15) (1) dX7_set_14 (by decide) rfl ?_
    refine ev_icmp_ne (q := 18) 27 dX7_set_15 (by decide) rfl (fun c_15 => ?_) (fun c_15 => ?_)
    · exact absurd rfl c_15
    · refine ev_iload_n (q := 19) dX7_set_18 rfl rfl ?_
      refine ev_iconst (q := 20) (0) dX7_set_19 (by decide) rfl ?_
      refine ev_iconst (q := 21) (3) dX7_set_20 (by decide) rfl ?_
      refine ev_callS3i (q := 24) dX7_set_21 ca_X7_99 (c_X7_in _ _ _) (Nat.le_of_ble_eq_true rfl) (Nat.le_of_ble_eq_true rfl) (by decide) (by decide) rfl ?_
      refine ev_goto 47 dX7_set_24 (by decide) ?_
      refine ev_ist_3 (q := 48) dX7_set_47 rfl rfl ?_
      refine ev_iload_n (q := 49) dX7_set_48 rfl rfl ?_
      refine ev_if_ne (q := 52) 55 dX7_set_49 (by decide) rfl (fun c_49 => ?_) (fun c_49 => ?_)
      · refine ev_iload_n (q := 56) dX7_set_55 rfl rfl ?_
        refine ev_if_ne (q := 59) 66 dX7_set_56 (by decide) rfl (fun c_56 => ?_) (fun c_56 => ?_)
        · refine ev_iload_n (q := 67) dX7_set_66 rfl rfl ?_
          refine ev_iconst (q := 68) (1) dX7_set_67 (by decide) rfl ?_
          refine ev_icmp_ne (q := 71) 78 dX7_set_68 (by decide) rfl (fun c_68 => ?_) (fun c_68 => ?_)
          · exact absurd rfl c_68
          · refine ev_aload_n (q := 72) dX7_set_71 rfl rfl ?_
            refine ev_get (q := 75) dX7_set_72 fr_X7_67 rfl (lt_n hn (by decide)) rfl rfl ?_
            refine ev_goto 82 dX7_set_75 (by decide) ?_
            refine ev_ist_4 (q := 84) dX7_set_82 rfl rfl ?_
            refine ev_aload_n (q := 85) dX7_set_84 rfl rfl ?_
            refine ev_iload_n (q := 86) dX7_set_85 rfl rfl ?_
            refine ev_if_ne (q := 89) 93 dX7_set_86 (by decide) rfl (fun c_86 => ?_) (fun c_86 => ?_)
            · refine ev_aload_n (q := 94) dX7_set_93 rfl rfl ?_
              refine ev_get (q := 97) dX7_set_94 fr_X7_64 rfl (lt_n hn (by decide)) rfl rfl ?_
              first | refine ev_putIK (q := 100) dX7_set_97 fa_X7_64 rfl (by decide) (lt_n hn (by decide)) (Nat.le_of_ble_eq_true rfl) ⟨rfl, rfl⟩ rfl rfl rfl ?_ | refine ev_putIR (q := 100) dX7_set_97 fa_X7_64 rfl (by decide) (lt_n hn (by decide)) (Nat.le_of_ble_eq_true rfl) ⟨rfl, rfl⟩ rfl rfl rfl ?_
              refine ev_aload_n (q := 101) dX7_set_100 rfl rfl ?_
              refine ev_iload_n (q := 102) dX7_set_101 rfl rfl ?_
              refine ev_iconst (q := 103) (1) dX7_set_102 (by decide) rfl ?_
              refine ev_icmp_ne (q := 106) 110 dX7_set_103 (by decide) rfl (fun c_103 => ?_) (fun c_103 => ?_)
              · exact absurd rfl c_103
              · refine ev_iload_n (q := 107) dX7_set_106 rfl rfl ?_
                refine ev_goto 114 dX7_set_107 (by decide) ?_
                first | refine ev_putIK (q := 117) dX7_set_114 fa_X7_67 rfl (by decide) (lt_n hn (by decide)) (Nat.le_of_ble_eq_true rfl) ⟨rfl, rfl⟩ rfl rfl rfl ?_ | refine ev_putIR (q := 117) dX7_set_114 fa_X7_67 rfl (by decide) (lt_n hn (by decide)) (Nat.le_of_ble_eq_true rfl) ⟨rfl, rfl⟩ rfl rfl rfl ?_
                refine ev_aload_n (q := 118) dX7_set_117 rfl rfl ?_
                refine ev_iload_n (q := 119) dX7_set_118 rfl rfl ?_
                refine ev_iconst (q := 120) (2) dX7_set_119 (by decide) rfl ?_
                refine ev_icmp_ne (q := 123) 127 dX7_set_120 (by decide) rfl (fun c_120 => ?_) (fun c_120 => ?_)
                · refine ev_aload_n (q := 128) dX7_set_127 rfl rfl ?_
                  refine ev_get (q := 131) dX7_set_128 fr_X7_70 rfl (lt_n hn (by decide)) rfl rfl ?_
                  first | refine ev_putIK (q := 134) dX7_set_131 fa_X7_70 rfl (by decide) (lt_n hn (by decide)) (Nat.le_of_ble_eq_true rfl) ⟨rfl, rfl⟩ rfl rfl rfl ?_ | refine ev_putIR (q := 134) dX7_set_131 fa_X7_70 rfl (by decide) (lt_n hn (by decide)) (Nat.le_of_ble_eq_true rfl) ⟨rfl, rfl⟩ rfl rfl rfl ?_
                  refine ev_iload (q := 136) dX7_set_134 rfl rfl ?_
                  exact ev_iretE dX7_set_136 rfl rfl rfl rfl (congrArg (fun z => sysH (ov z S) (ovJ J T) X) e) (hQ _ _)
                · exact absurd c_120 (by decide)
            · exact absurd c_86 (by decide)
        · exact absurd c_56 (by decide)
      · exact absurd c_49 (b2i_n0.mpr hv)
  · exact absurd c_1 (by decide)
theorem s_X7_set_2 (hn : 49 ≤ n) {v : Int32} (hv : inb v 0 6 = true) : RnS xl xs 1 22 0 0 mX7_set [.ref 33, .int 2, .int v] n I J X (some (.int (I 33 6))) n (wr I 33 6 v) J X := by
  intro S T Q hQ
  have e : wr (wr (wr I 33 4 (I 33 4)) 33 5 (I 33 5)) 33 6 v = wr I 33 6 v := by rw [wr_id (I := I) (p := 33) (j := 4) rfl, wr_id (I := I) (p := 33) (j := 5) rfl]
  show Ev xl xs 1 22 0 0 mX7_set 0 [some (.ref 33), some (.int 2), some (.int v), none, none] [] n (sysH (ov I S) (ovJ J T) X) Q
  refine ev_iload_n (q := 1) dX7_set_0 rfl rfl ?_
  refine ev_if_ne (q := 4) 13 dX7_set_1 (by decide) rfl (fun c_1 => ?_) (fun c_1 => ?_)
  · refine ev_iload_n (q := 14) dX7_set_13 rfl rfl ?_
    refine ev_iconst (q := 15) (1) dX7_set_14 (by decide) rfl ?_
    refine ev_icmp_ne (q := 18) 27 dX7_set_15 (by decide) rfl (fun c_15 => ?_) (fun c_15 => ?_)
    · refine ev_iload_n (q := 28) dX7_set_27 rfl rfl ?_
      refine ev_iconst (q := 29) (2) dX7_set_28 (by decide) rfl ?_
      refine ev_icmp_ne (q := 32) 46 dX7_set_29 (by decide) rfl (fun c_29 => ?_) (fun c_29 => ?_)
      · exact absurd rfl c_29
      · refine ev_iload_n (q := 33) dX7_set_32 rfl rfl ?_
        refine ev_iconst (q := 34) (0) dX7_set_33 (by decide) rfl ?_
        refine ev_bipush (q := 36) (6) dX7_set_34 (by decide) rfl ?_
        refine ev_callS3i (q := 39) dX7_set_36 ca_X7_99 (c_X7_in _ _ _) (Nat.le_of_ble_eq_true rfl) (Nat.le_of_ble_eq_true rfl) (by decide) (by decide) rfl ?_
        refine ev_if_eq (q := 42) 46 dX7_set_39 (by decide) rfl (fun c_39 => ?_) (fun c_39 => ?_)
        · exact absurd c_39 (b2i_n0.mpr hv)
        · refine ev_iconst (q := 43) (1) dX7_set_42 (by decide) rfl ?_
          refine ev_goto 47 dX7_set_43 (by decide) ?_
          refine ev_ist_3 (q := 48) dX7_set_47 rfl rfl ?_
          refine ev_iload_n (q := 49) dX7_set_48 rfl rfl ?_
          refine ev_if_ne (q := 52) 55 dX7_set_49 (by decide) rfl (fun c_49 => ?_) (fun c_49 => ?_)
          · refine ev_iload_n (q := 56) dX7_set_55 rfl rfl ?_
            refine ev_if_ne (q := 59) 66 dX7_set_56 (by decide) rfl (fun c_56 => ?_) (fun c_56 => ?_)
            · refine ev_iload_n (q := 67) dX7_set_66 rfl rfl ?_
              refine ev_iconst (q := 68) (1) dX7_set_67 (by decide) rfl ?_
              refine ev_icmp_ne (q := 71) 78 dX7_set_68 (by decide) rfl (fun c_68 => ?_) (fun c_68 => ?_)
              · refine ev_aload_n (q := 79) dX7_set_78 rfl rfl ?_
                refine ev_get (q := 82) dX7_set_79 fr_X7_70 rfl (lt_n hn (by decide)) rfl rfl ?_
                refine ev_ist_4 (q := 84) dX7_set_82 rfl rfl ?_
                refine ev_aload_n (q := 85) dX7_set_84 rfl rfl ?_
                refine ev_iload_n (q := 86) dX7_set_85 rfl rfl ?_
                refine ev_if_ne (q := 89) 93 dX7_set_86 (by decide) rfl (fun c_86 => ?_) (fun c_86 => ?_)
                · refine ev_aload_n (q := 94) dX7_set_93 rfl rfl ?_
                  refine ev_get (q := 97) dX7_set_94 fr_X7_64 rfl (lt_n hn (by decide)) rfl rfl ?_
                  first | refine ev_putIK (q := 100) dX7_set_97 fa_X7_64 rfl (by decide) (lt_n hn (by decide)) (Nat.le_of_ble_eq_true rfl) ⟨rfl, rfl⟩ rfl rfl rfl ?_ | refine ev_putIR (q := 100) dX7_set_97 fa_X7_64 rfl (by decide) (lt_n hn (by decide)) (Nat.le_of_ble_eq_true rfl) ⟨rfl, rfl⟩ rfl rfl rfl ?_
                  refine ev_aload_n (q := 101) dX7_set_100 rfl rfl ?_
                  refine ev_iload_n (q := 102) dX7_set_101 rfl rfl ?_
                  refine ev_iconst (q := 103) (1) dX7_set_102 (by decide) rfl ?_
                  refine ev_icmp_ne (q := 106) 110 dX7_set_103 (by decide) rfl (fun c_103 => ?_) (fun c_103 => ?_)
                  · refine ev_aload_n (q := 111) dX7_set_110 rfl rfl ?_
                    refine ev_get (q := 114) dX7_set_111 fr_X7_67 rfl (lt_n hn (by decide)) rfl rfl ?_
                    first | refine ev_putIK (q := 117) dX7_set_114 fa_X7_67 rfl (by decide) (lt_n hn (by decide)) (Nat.le_of_ble_eq_true rfl) ⟨rfl, rfl⟩ rfl rfl rfl ?_ | refine ev_putIR (q := 117) dX7_set_114 fa_X7_67 rfl (by decide) (lt_n hn (by decide)) (Nat.le_of_ble_eq_true rfl) ⟨rfl, rfl⟩ rfl rfl rfl ?_
                    refine ev_aload_n (q := 118) dX7_set_117 rfl rfl ?_
                    refine ev_iload_n (q := 119) dX7_set_118 rfl rfl ?_
                    refine ev_iconst (q := 120) (2) dX7_set_119 (by decide) rfl ?_
                    refine ev_icmp_ne (q := 123) 127 dX7_set_120 (by decide) rfl (fun c_120 => ?_) (fun c_120 => ?_)
                    · exact absurd rfl c_120
                    · refine ev_iload_n (q := 124) dX7_set_123 rfl rfl ?_
                      refine ev_goto 131 dX7_set_124 (by decide) ?_
                      first | refine ev_putIK (q := 134) dX7_set_131 fa_X7_70 rfl (by decide) (lt_n hn (by decide)) (Nat.le_of_ble_eq_true rfl) ⟨rfl, rfl⟩ rfl rfl rfl ?_ | refine ev_putIR (q := 134) dX7_set_131 fa_X7_70 rfl (by decide) (lt_n hn (by decide)) (Nat.le_of_ble_eq_true rfl) ⟨rfl, rfl⟩ rfl rfl rfl ?_
                      refine ev_iload (q := 136) dX7_set_134 rfl rfl ?_
                      exact ev_iretE dX7_set_136 rfl rfl rfl rfl (congrArg (fun z => sysH (ov z S) (ovJ J T) X) e) (hQ _ _)
                  · exact absurd c_103 (by decide)
                · exact absurd c_86 (by decide)
              · exact absurd c_68 (by decide)
            · exact absurd c_56 (by decide)
          · exact absurd c_49 (by decide)
    · exact absurd c_15 (by decide)
  · exact absurd c_1 (by decide)
theorem s_X7_now_f (hn : 49 ≤ n) (hm : MI I t sl wy wi he) {v : Int32} (hv : inb v 0 (nI (2 ^ t) - 1) = false) : RnS xl xs 2 43 0 0 mX7_now [.ref 33, .int v] n I J X (some (.int (-2))) n I J X := by
  intro S T Q hQ
  show Ev xl xs 2 43 0 0 mX7_now 0 [some (.ref 33), some (.int v), none] [] n (sysH (ov I S) (ovJ J T) X) Q
  refine ev_aload_n (q := 1) dX7_now_0 rfl rfl ?_
  refine ev_iload_n (q := 2) dX7_now_1 rfl rfl ?_
  refine ev_callV1i (q := 5) dX7_now_2 ca_X7_110 (s_X7_isWorld hn hm _) rfl (lt_n hn (by decide)) rfl rfl (Nat.le_of_ble_eq_true rfl) (Nat.le_of_ble_eq_true rfl) (by decide) (by decide) rfl ?_
  refine ev_if_ne (q := 8) 11 dX7_now_5 (by decide) rfl (fun c_5 => ?_) (fun c_5 => ?_)
  · exact absurd (b2i_ne.mp c_5) (by rw [hv]; decide)
  · refine ev_bipush (q := 10) (-2) dX7_now_8 (by decide) rfl ?_
    exact ev_iretE dX7_now_10 rfl rfl rfl rfl rfl (hQ _ _)
theorem s_X7_now (hn : 49 ≤ n) (hm : MI I t sl wy wi he) {v : Int32} (hv : inb v 0 (nI (2 ^ t) - 1) = true) : RnS xl xs 2 43 0 0 mX7_now [.ref 33, .int v] n I J X (some (.int (I 33 7))) n (wr (wr I 33 7 v) 33 9 0) J X := by
  intro S T Q hQ
  show Ev xl xs 2 43 0 0 mX7_now 0 [some (.ref 33), some (.int v), none] [] n (sysH (ov I S) (ovJ J T) X) Q
  refine ev_aload_n (q := 1) dX7_now_0 rfl rfl ?_
  refine ev_iload_n (q := 2) dX7_now_1 rfl rfl ?_
  refine ev_callV1i (q := 5) dX7_now_2 ca_X7_110 (s_X7_isWorld hn hm _) rfl (lt_n hn (by decide)) rfl rfl (Nat.le_of_ble_eq_true rfl) (Nat.le_of_ble_eq_true rfl) (by decide) (by decide) rfl ?_
  refine ev_if_ne (q := 8) 11 dX7_now_5 (by decide) rfl (fun c_5 => ?_) (fun c_5 => ?_)
  · refine ev_aload_n (q := 12) dX7_now_11 rfl rfl ?_
    refine ev_get (q := 15) dX7_now_12 fr_X7_73 rfl (lt_n hn (by decide)) rfl rfl ?_
    refine ev_ist_2 (q := 16) dX7_now_15 rfl rfl ?_
    refine ev_aload_n (q := 17) dX7_now_16 rfl rfl ?_
    refine ev_iload_n (q := 18) dX7_now_17 rfl rfl ?_
    first | refine ev_putIK (q := 21) dX7_now_18 fa_X7_73 rfl (by decide) (lt_n hn (by decide)) (Nat.le_of_ble_eq_true rfl) ⟨rfl, rfl⟩ rfl rfl rfl ?_ | refine ev_putIR (q := 21) dX7_now_18 fa_X7_73 rfl (by decide) (lt_n hn (by decide)) (Nat.le_of_ble_eq_true rfl) ⟨rfl, rfl⟩ rfl rfl rfl ?_
    refine ev_aload_n (q := 22) dX7_now_21 rfl rfl ?_
    refine ev_iconst (q := 23) (0) dX7_now_22 (by decide) rfl ?_
    first | refine ev_putIK (q := 26) dX7_now_23 fa_X7_84 rfl (by decide) (lt_n hn (by decide)) (Nat.le_of_ble_eq_true rfl) ⟨rfl, rfl⟩ rfl rfl rfl ?_ | refine ev_putIR (q := 26) dX7_now_23 fa_X7_84 rfl (by decide) (lt_n hn (by decide)) (Nat.le_of_ble_eq_true rfl) ⟨rfl, rfl⟩ rfl rfl rfl ?_
    refine ev_iload_n (q := 27) dX7_now_26 rfl rfl ?_
    exact ev_iretE dX7_now_27 rfl rfl rfl rfl rfl (hQ _ _)
  · exact absurd c_5 (b2i_n0.mpr hv)
theorem s_X7_worthOf (hn : 49 ≤ n) (hm : MI I t sl wy wi he) (c w : Int32) : RnS xl xs 2 45 0 0 mX7_worthOf [.ref 33, .int c, .int w] n I J X (some (.int (if inb c 0 3 then (if inb w 0 (nI (2 ^ t) - 1) then wtF I t c.toNatClampNeg w.toNatClampNeg + 1000 else -2) else -1))) n I J X := by
  intro S T Q hQ
  have h6 := hm.2.2.1
  have h64 := p2_le h6
  have hpos : 0 < 2 ^ t := Nat.pow_pos (by decide)
  show Ev xl xs 2 45 0 0 mX7_worthOf 0 [some (.ref 33), some (.int c), some (.int w)] [] n (sysH (ov I S) (ovJ J T) X) Q
  cases hc : inb c 0 3 with
  | false =>
    rw [hc] at hQ
    refine ev_iload_n (q := 1) dX7_worthOf_0 rfl rfl ?_
    refine ev_callS1i (q := 4) dX7_worthOf_1 ca_X7_103 (c_X7_isCousin _) (Nat.le_of_ble_eq_true rfl) (Nat.le_of_ble_eq_true rfl) (by decide) (by decide) rfl ?_
    refine ev_if_ne (q := 7) 9 dX7_worthOf_4 (by decide) rfl (fun c_4 => ?_) (fun c_4 => ?_)
    · exact absurd (b2i_ne.mp c_4) (by rw [hc]; decide)
    · refine ev_iconst (q := 8) (-1) dX7_worthOf_7 (by decide) rfl ?_
      exact ev_iretE dX7_worthOf_8 rfl rfl rfl rfl rfl (hQ _ _)
  | true =>
    rw [hc, if_pos rfl] at hQ
    cases hw : inb w 0 (nI (2 ^ t) - 1) with
    | false =>
      rw [hw] at hQ
      refine ev_iload_n (q := 1) dX7_worthOf_0 rfl rfl ?_
      refine ev_callS1i (q := 4) dX7_worthOf_1 ca_X7_103 (c_X7_isCousin _) (Nat.le_of_ble_eq_true rfl) (Nat.le_of_ble_eq_true rfl) (by decide) (by decide) rfl ?_
      refine ev_if_ne (q := 7) 9 dX7_worthOf_4 (by decide) rfl (fun c_4 => ?_) (fun c_4 => ?_)
      · refine ev_aload_n (q := 10) dX7_worthOf_9 rfl rfl ?_
        refine ev_iload_n (q := 11) dX7_worthOf_10 rfl rfl ?_
        refine ev_callV1i (q := 14) dX7_worthOf_11 ca_X7_110 (s_X7_isWorld hn hm _) rfl (lt_n hn (by decide)) rfl rfl (Nat.le_of_ble_eq_true rfl) (Nat.le_of_ble_eq_true rfl) (by decide) (by decide) rfl ?_
        refine ev_if_eq (q := 17) 30 dX7_worthOf_14 (by decide) rfl (fun c_14 => ?_) (fun c_14 => ?_)
        · refine ev_bipush (q := 32) (-2) dX7_worthOf_30 (by decide) rfl ?_
          exact ev_iretE dX7_worthOf_32 rfl rfl rfl rfl rfl (hQ _ _)
        · exact absurd (b2i_n0.mp c_14) (by rw [hw]; decide)
      · exact absurd c_4 (b2i_n0.mpr hc)
    | true =>
      rw [hw, if_pos rfl] at hQ
      obtain ⟨C, -, hC3, rfl⟩ := inb_lo (lo := 0) (hi := 3) (by decide) hc (by decide)
      obtain ⟨W, hW, rfl⟩ := inb_nat (by omega) hw hpos
      rw [nI_clamp (by omega), nI_clamp (by omega)] at hQ
      refine ev_iload_n (q := 1) dX7_worthOf_0 rfl rfl ?_
      refine ev_callS1i (q := 4) dX7_worthOf_1 ca_X7_103 (c_X7_isCousin _) (Nat.le_of_ble_eq_true rfl) (Nat.le_of_ble_eq_true rfl) (by decide) (by decide) rfl ?_
      refine ev_if_ne (q := 7) 9 dX7_worthOf_4 (by decide) rfl (fun c_4 => ?_) (fun c_4 => ?_)
      · refine ev_aload_n (q := 10) dX7_worthOf_9 rfl rfl ?_
        refine ev_iload_n (q := 11) dX7_worthOf_10 rfl rfl ?_
        refine ev_callV1i (q := 14) dX7_worthOf_11 ca_X7_110 (s_X7_isWorld hn hm _) rfl (lt_n hn (by decide)) rfl rfl (Nat.le_of_ble_eq_true rfl) (Nat.le_of_ble_eq_true rfl) (by decide) (by decide) rfl ?_
        refine ev_if_eq (q := 17) 30 dX7_worthOf_14 (by decide) rfl (fun c_14 => ?_) (fun c_14 => ?_)
        · exact absurd c_14 (b2i_n0.mpr hw)
        · refine ev_aload_n (q := 18) dX7_worthOf_17 rfl rfl ?_
          refine ev_iload_n (q := 19) dX7_worthOf_18 rfl rfl ?_
          refine ev_iload_n (q := 20) dX7_worthOf_19 rfl rfl ?_
          refine ev_callV2i (q := 23) dX7_worthOf_20 ca_X7_117 (s_X7_worthTo hn hm (by omega) (by omega)) rfl (lt_n hn (by decide)) rfl rfl (Nat.le_of_ble_eq_true rfl) (Nat.le_of_ble_eq_true rfl) (by decide) (by decide) rfl ?_
          refine ev_sipush (q := 26) (1000) dX7_worthOf_23 (by decide) rfl ?_
          refine ev_iadd (q := 27) dX7_worthOf_26 rfl ?_
          refine ev_goto 32 dX7_worthOf_27 (by decide) ?_
          exact ev_iretE dX7_worthOf_32 rfl rfl rfl rfl rfl (hQ _ _)
      · exact absurd c_4 (b2i_n0.mpr hc)
theorem s_X7_say_f (hn : 49 ≤ n) {v : Int32} (hv : inb v 33 126 = false) : RnS xl xs 1 22 0 0 mX7_say [.ref 33, .int v] n I J X (some (.int (-2))) n I J X := by
  intro S T Q hQ
  show Ev xl xs 1 22 0 0 mX7_say 0 [some (.ref 33), some (.int v)] [] n (sysH (ov I S) (ovJ J T) X) Q
  refine ev_iload_n (q := 1) dX7_say_0 rfl rfl ?_
  refine ev_bipush (q := 3) (33) dX7_say_1 (by decide) rfl ?_
  refine ev_bipush (q := 5) (126) dX7_say_3 (by decide) rfl ?_
  refine ev_callS3i (q := 8) dX7_say_5 ca_X7_99 (c_X7_in _ _ _) (Nat.le_of_ble_eq_true rfl) (Nat.le_of_ble_eq_true rfl) (by decide) (by decide) rfl ?_
  refine ev_if_ne (q := 11) 14 dX7_say_8 (by decide) rfl (fun c_8 => ?_) (fun c_8 => ?_)
  · exact absurd (b2i_ne.mp c_8) (by rw [hv]; decide)
  · refine ev_bipush (q := 13) (-2) dX7_say_11 (by decide) rfl ?_
    exact ev_iretE dX7_say_13 rfl rfl rfl rfl rfl (hQ _ _)
theorem s_X7_say_40 (hn : 49 ≤ n) {v : Int32} (hv : inb v 33 126 = true) (hsg : I 33 16 = nI 40) : RnS xl xs 1 22 0 0 mX7_say [.ref 33, .int v] n I J X (some (.int (-4))) n I J X := by
  intro S T Q hQ
  show Ev xl xs 1 22 0 0 mX7_say 0 [some (.ref 33), some (.int v)] [] n (sysH (ov I S) (ovJ J T) X) Q
  refine ev_iload_n (q := 1) dX7_say_0 rfl rfl ?_
  refine ev_bipush (q := 3) (33) dX7_say_1 (by decide) rfl ?_
  refine ev_bipush (q := 5) (126) dX7_say_3 (by decide) rfl ?_
  refine ev_callS3i (q := 8) dX7_say_5 ca_X7_99 (c_X7_in _ _ _) (Nat.le_of_ble_eq_true rfl) (Nat.le_of_ble_eq_true rfl) (by decide) (by decide) rfl ?_
  refine ev_if_ne (q := 11) 14 dX7_say_8 (by decide) rfl (fun c_8 => ?_) (fun c_8 => ?_)
  · refine ev_aload_n (q := 15) dX7_say_14 rfl rfl ?_
    refine ev_get (q := 18) dX7_say_15 fr_X7_121 rfl (lt_n hn (by decide)) rfl rfl ?_
    refine ev_bipush (q := 20) (40) dX7_say_18 (by decide) rfl ?_
    refine ev_icmp_ne (q := 23) 26 dX7_say_20 (by decide) rfl (fun c_20 => ?_) (fun c_20 => ?_)
    · exact absurd hsg c_20
    · refine ev_bipush (q := 25) (-4) dX7_say_23 (by decide) rfl ?_
      exact ev_iretE dX7_say_25 rfl rfl rfl rfl rfl (hQ _ _)
  · exact absurd c_8 (b2i_n0.mpr hv)
theorem s_X7_say (hn : 49 ≤ n) {v : Int32} (hv : inb v 33 126 = true) (hsg : I 33 16 = nI sg) (h40 : sg < 40) : RnS xl xs 1 22 0 0 mX7_say [.ref 33, .int v] n I J X (some (.int (nI (sg + 1)))) n (wr (wr I 41 sg v) 33 16 (nI (sg + 1))) J X := by
  intro S T Q hQ
  show Ev xl xs 1 22 0 0 mX7_say 0 [some (.ref 33), some (.int v)] [] n (sysH (ov I S) (ovJ J T) X) Q
  refine ev_iload_n (q := 1) dX7_say_0 rfl rfl ?_
  refine ev_bipush (q := 3) (33) dX7_say_1 (by decide) rfl ?_
  refine ev_bipush (q := 5) (126) dX7_say_3 (by decide) rfl ?_
  refine ev_callS3i (q := 8) dX7_say_5 ca_X7_99 (c_X7_in _ _ _) (Nat.le_of_ble_eq_true rfl) (Nat.le_of_ble_eq_true rfl) (by decide) (by decide) rfl ?_
  refine ev_if_ne (q := 11) 14 dX7_say_8 (by decide) rfl (fun c_8 => ?_) (fun c_8 => ?_)
  · refine ev_aload_n (q := 15) dX7_say_14 rfl rfl ?_
    refine ev_get (q := 18) dX7_say_15 fr_X7_121 rfl (lt_n hn (by decide)) rfl rfl ?_
    refine ev_bipush (q := 20) (40) dX7_say_18 (by decide) rfl ?_
    rw [show ov I S 33 16 = nI sg from hsg]
    refine ev_icmp_ne (q := 23) 26 dX7_say_20 (by decide) rfl (fun c_20 => ?_) (fun c_20 => ?_)
    · refine ev_aload_n (q := 27) dX7_say_26 rfl rfl ?_
      refine ev_get (q := 30) dX7_say_27 fr_X7_36 rfl (lt_n hn (by decide)) rfl rfl ?_
      refine ev_aload_n (q := 31) dX7_say_30 rfl rfl ?_
      refine ev_get (q := 34) dX7_say_31 fr_X7_121 rfl (lt_n hn (by decide)) rfl rfl ?_
      refine ev_iload_n (q := 35) dX7_say_34 rfl rfl ?_
      first | refine ev_isK (q := 36) sg dX7_say_35 hsg rfl (by omega) (lt_n hn (by decide)) rfl rfl ?_ | refine ev_isR (q := 36) sg dX7_say_35 hsg rfl (by omega) (lt_n hn (by decide)) rfl rfl ?_
      refine ev_aload_n (q := 37) dX7_say_36 rfl rfl ?_
      refine ev_dup (q := 38) (fun _ => rfl) dX7_say_37 rfl ?_
      refine ev_get (q := 41) dX7_say_38 fr_X7_121 rfl (lt_n hn (by decide)) rfl rfl ?_
      refine ev_iconst (q := 42) (1) dX7_say_41 (by decide) rfl ?_
      refine ev_iadd (q := 43) dX7_say_42 rfl ?_
      rw [show ov (wr I 41 sg v) S 33 16 + 1 = nI (sg + 1) from by rw [show ov (wr I 41 sg v) S 33 16 = nI sg from hsg]; exact nI_1 sg]
      first | refine ev_putIK (q := 46) dX7_say_43 fa_X7_121 rfl (by decide) (lt_n hn (by decide)) (Nat.le_of_ble_eq_true rfl) ⟨rfl, rfl⟩ rfl rfl rfl ?_ | refine ev_putIR (q := 46) dX7_say_43 fa_X7_121 rfl (by decide) (lt_n hn (by decide)) (Nat.le_of_ble_eq_true rfl) ⟨rfl, rfl⟩ rfl rfl rfl ?_
      refine ev_aload_n (q := 47) dX7_say_46 rfl rfl ?_
      refine ev_get (q := 50) dX7_say_47 fr_X7_121 rfl (lt_n hn (by decide)) rfl rfl ?_
      exact ev_iretE dX7_say_50 rfl rfl rfl rfl rfl (hQ _ _)
    · exact absurd ((nI_eq (b := 40) (by omega) (by omega)).mp c_20) (by omega)
  · exact absurd c_8 (b2i_n0.mpr hv)
theorem s_X7_wipe (hn : 49 ≤ n) : RnS xl xs 0 0 0 0 mX7_wipe [.ref 33] n I J X (some (.int (I 33 16))) n (wr I 33 16 0) J X := by
  intro S T Q hQ
  show Ev xl xs 0 0 0 0 mX7_wipe 0 [some (.ref 33), none] [] n (sysH (ov I S) (ovJ J T) X) Q
  refine ev_aload_n (q := 1) dX7_wipe_0 rfl rfl ?_
  refine ev_get (q := 4) dX7_wipe_1 fr_X7_121 rfl (lt_n hn (by decide)) rfl rfl ?_
  refine ev_ist_1 (q := 5) dX7_wipe_4 rfl rfl ?_
  refine ev_aload_n (q := 6) dX7_wipe_5 rfl rfl ?_
  refine ev_iconst (q := 7) (0) dX7_wipe_6 (by decide) rfl ?_
  first | refine ev_putIK (q := 10) dX7_wipe_7 fa_X7_121 rfl (by decide) (lt_n hn (by decide)) (Nat.le_of_ble_eq_true rfl) ⟨rfl, rfl⟩ rfl rfl rfl ?_ | refine ev_putIR (q := 10) dX7_wipe_7 fa_X7_121 rfl (by decide) (lt_n hn (by decide)) (Nat.le_of_ble_eq_true rfl) ⟨rfl, rfl⟩ rfl rfl rfl ?_
  refine ev_iload_n (q := 11) dX7_wipe_10 rfl rfl ?_
  exact ev_iretE dX7_wipe_11 rfl rfl rfl rfl rfl (hQ _ _)
def sxF (a b c d : Int32) : Bool := inb a 0 6 && (inb b 0 6 && (inb c 0 6 && (inb d 0 6 && decide (a + b + c + d = 6))))
theorem s_X7_sixths_f (hn : 49 ≤ n) {a b c d : Int32} (hv : sxF a b c d = false) : RnS xl xs 1 22 0 0 mX7_sixths [.ref 33, .int a, .int b, .int c, .int d] n I J X (some (.int (-2))) n I J X := by
  intro S T Q hQ
  show Ev xl xs 1 22 0 0 mX7_sixths 0 [some (.ref 33), some (.int a), some (.int b), some (.int c), some (.int d)] [] n (sysH (ov I S) (ovJ J T) X) Q
  unfold sxF at hv
  refine ev_iload_n (q := 1) dX7_sixths_0 rfl rfl ?_
  refine ev_iconst (q := 2) (0) dX7_sixths_1 (by decide) rfl ?_
  refine ev_bipush (q := 4) (6) dX7_sixths_2 (by decide) rfl ?_
  refine ev_callS3i (q := 7) dX7_sixths_4 ca_X7_99 (c_X7_in _ _ _) (Nat.le_of_ble_eq_true rfl) (Nat.le_of_ble_eq_true rfl) (by decide) (by decide) rfl ?_
  refine ev_if_eq (q := 10) 54 dX7_sixths_7 (by decide) rfl (fun c_7 => ?_) (fun c_7 => ?_)
  · refine ev_bipush (q := 56) (-2) dX7_sixths_54 (by decide) rfl ?_
    exact ev_iretE dX7_sixths_56 rfl rfl rfl rfl rfl (hQ _ _)
  · have c_7 := b2i_n0.mp c_7
    rw [c_7, Bool.true_and] at hv
    refine ev_iload_n (q := 11) dX7_sixths_10 rfl rfl ?_
    refine ev_iconst (q := 12) (0) dX7_sixths_11 (by decide) rfl ?_
    refine ev_bipush (q := 14) (6) dX7_sixths_12 (by decide) rfl ?_
    refine ev_callS3i (q := 17) dX7_sixths_14 ca_X7_99 (c_X7_in _ _ _) (Nat.le_of_ble_eq_true rfl) (Nat.le_of_ble_eq_true rfl) (by decide) (by decide) rfl ?_
    refine ev_if_eq (q := 20) 54 dX7_sixths_17 (by decide) rfl (fun c_17 => ?_) (fun c_17 => ?_)
    · refine ev_bipush (q := 56) (-2) dX7_sixths_54 (by decide) rfl ?_
      exact ev_iretE dX7_sixths_56 rfl rfl rfl rfl rfl (hQ _ _)
    · have c_17 := b2i_n0.mp c_17
      rw [c_17, Bool.true_and] at hv
      refine ev_iload_n (q := 21) dX7_sixths_20 rfl rfl ?_
      refine ev_iconst (q := 22) (0) dX7_sixths_21 (by decide) rfl ?_
      refine ev_bipush (q := 24) (6) dX7_sixths_22 (by decide) rfl ?_
      refine ev_callS3i (q := 27) dX7_sixths_24 ca_X7_99 (c_X7_in _ _ _) (Nat.le_of_ble_eq_true rfl) (Nat.le_of_ble_eq_true rfl) (by decide) (by decide) rfl ?_
      refine ev_if_eq (q := 30) 54 dX7_sixths_27 (by decide) rfl (fun c_27 => ?_) (fun c_27 => ?_)
      · refine ev_bipush (q := 56) (-2) dX7_sixths_54 (by decide) rfl ?_
        exact ev_iretE dX7_sixths_56 rfl rfl rfl rfl rfl (hQ _ _)
      · have c_27 := b2i_n0.mp c_27
        rw [c_27, Bool.true_and] at hv
        refine ev_iload (q := 32) dX7_sixths_30 rfl rfl ?_
        refine ev_iconst (q := 33) (0) dX7_sixths_32 (by decide) rfl ?_
        refine ev_bipush (q := 35) (6) dX7_sixths_33 (by decide) rfl ?_
        refine ev_callS3i (q := 38) dX7_sixths_35 ca_X7_99 (c_X7_in _ _ _) (Nat.le_of_ble_eq_true rfl) (Nat.le_of_ble_eq_true rfl) (by decide) (by decide) rfl ?_
        refine ev_if_eq (q := 41) 54 dX7_sixths_38 (by decide) rfl (fun c_38 => ?_) (fun c_38 => ?_)
        · refine ev_bipush (q := 56) (-2) dX7_sixths_54 (by decide) rfl ?_
          exact ev_iretE dX7_sixths_56 rfl rfl rfl rfl rfl (hQ _ _)
        · have c_38 := b2i_n0.mp c_38
          rw [c_38, Bool.true_and] at hv
          refine ev_iload_n (q := 42) dX7_sixths_41 rfl rfl ?_
          refine ev_iload_n (q := 43) dX7_sixths_42 rfl rfl ?_
          refine ev_iadd (q := 44) dX7_sixths_43 rfl ?_
          refine ev_iload_n (q := 45) dX7_sixths_44 rfl rfl ?_
          refine ev_iadd (q := 46) dX7_sixths_45 rfl ?_
          refine ev_iload (q := 48) dX7_sixths_46 rfl rfl ?_
          refine ev_iadd (q := 49) dX7_sixths_48 rfl ?_
          refine ev_bipush (q := 51) (6) dX7_sixths_49 (by decide) rfl ?_
          refine ev_icmp_eq (q := 54) 57 dX7_sixths_51 (by decide) rfl (fun c_51 => ?_) (fun c_51 => ?_)
          · exact absurd (show a + b + c + d = 6 from c_51) (of_decide_eq_false hv)
          · refine ev_bipush (q := 56) (-2) dX7_sixths_54 (by decide) rfl ?_
            exact ev_iretE dX7_sixths_56 rfl rfl rfl rfl rfl (hQ _ _)
theorem s_X7_sixths (hn : 49 ≤ n) {a b c d : Int32} (hv : sxF a b c d = true) : RnS xl xs 1 22 0 0 mX7_sixths [.ref 33, .int a, .int b, .int c, .int d] n I J X (some (.int 1)) n (wr (wr (wr (wr I 36 0 a) 36 1 b) 36 2 c) 36 3 d) J X := by
  intro S T Q hQ
  show Ev xl xs 1 22 0 0 mX7_sixths 0 [some (.ref 33), some (.int a), some (.int b), some (.int c), some (.int d)] [] n (sysH (ov I S) (ovJ J T) X) Q
  unfold sxF at hv
  obtain ⟨g1, hv⟩ := Bool.and_eq_true_iff.mp hv
  obtain ⟨g2, hv⟩ := Bool.and_eq_true_iff.mp hv
  obtain ⟨g3, hv⟩ := Bool.and_eq_true_iff.mp hv
  obtain ⟨g4, hv⟩ := Bool.and_eq_true_iff.mp hv
  refine ev_iload_n (q := 1) dX7_sixths_0 rfl rfl ?_
  refine ev_iconst (q := 2) (0) dX7_sixths_1 (by decide) rfl ?_
  refine ev_bipush (q := 4) (6) dX7_sixths_2 (by decide) rfl ?_
  refine ev_callS3i (q := 7) dX7_sixths_4 ca_X7_99 (c_X7_in _ _ _) (Nat.le_of_ble_eq_true rfl) (Nat.le_of_ble_eq_true rfl) (by decide) (by decide) rfl ?_
  refine ev_if_eq (q := 10) 54 dX7_sixths_7 (by decide) rfl (fun c_7 => ?_) (fun c_7 => ?_)
  · exact absurd c_7 (b2i_n0.mpr g1)
  · refine ev_iload_n (q := 11) dX7_sixths_10 rfl rfl ?_
    refine ev_iconst (q := 12) (0) dX7_sixths_11 (by decide) rfl ?_
    refine ev_bipush (q := 14) (6) dX7_sixths_12 (by decide) rfl ?_
    refine ev_callS3i (q := 17) dX7_sixths_14 ca_X7_99 (c_X7_in _ _ _) (Nat.le_of_ble_eq_true rfl) (Nat.le_of_ble_eq_true rfl) (by decide) (by decide) rfl ?_
    refine ev_if_eq (q := 20) 54 dX7_sixths_17 (by decide) rfl (fun c_17 => ?_) (fun c_17 => ?_)
    · exact absurd c_17 (b2i_n0.mpr g2)
    · refine ev_iload_n (q := 21) dX7_sixths_20 rfl rfl ?_
      refine ev_iconst (q := 22) (0) dX7_sixths_21 (by decide) rfl ?_
      refine ev_bipush (q := 24) (6) dX7_sixths_22 (by decide) rfl ?_
      refine ev_callS3i (q := 27) dX7_sixths_24 ca_X7_99 (c_X7_in _ _ _) (Nat.le_of_ble_eq_true rfl) (Nat.le_of_ble_eq_true rfl) (by decide) (by decide) rfl ?_
      refine ev_if_eq (q := 30) 54 dX7_sixths_27 (by decide) rfl (fun c_27 => ?_) (fun c_27 => ?_)
      · exact absurd c_27 (b2i_n0.mpr g3)
      · refine ev_iload (q := 32) dX7_sixths_30 rfl rfl ?_
        refine ev_iconst (q := 33) (0) dX7_sixths_32 (by decide) rfl ?_
        refine ev_bipush (q := 35) (6) dX7_sixths_33 (by decide) rfl ?_
        refine ev_callS3i (q := 38) dX7_sixths_35 ca_X7_99 (c_X7_in _ _ _) (Nat.le_of_ble_eq_true rfl) (Nat.le_of_ble_eq_true rfl) (by decide) (by decide) rfl ?_
        refine ev_if_eq (q := 41) 54 dX7_sixths_38 (by decide) rfl (fun c_38 => ?_) (fun c_38 => ?_)
        · exact absurd c_38 (b2i_n0.mpr g4)
        · refine ev_iload_n (q := 42) dX7_sixths_41 rfl rfl ?_
          refine ev_iload_n (q := 43) dX7_sixths_42 rfl rfl ?_
          refine ev_iadd (q := 44) dX7_sixths_43 rfl ?_
          refine ev_iload_n (q := 45) dX7_sixths_44 rfl rfl ?_
          refine ev_iadd (q := 46) dX7_sixths_45 rfl ?_
          refine ev_iload (q := 48) dX7_sixths_46 rfl rfl ?_
          refine ev_iadd (q := 49) dX7_sixths_48 rfl ?_
          refine ev_bipush (q := 51) (6) dX7_sixths_49 (by decide) rfl ?_
          refine ev_icmp_eq (q := 54) 57 dX7_sixths_51 (by decide) rfl (fun c_51 => ?_) (fun c_51 => ?_)
          · refine ev_aload_n (q := 58) dX7_sixths_57 rfl rfl ?_
            refine ev_get (q := 61) dX7_sixths_58 fr_X7_20 rfl (lt_n hn (by decide)) rfl rfl ?_
            refine ev_iconst (q := 62) (0) dX7_sixths_61 (by decide) rfl ?_
            refine ev_iload_n (q := 63) dX7_sixths_62 rfl rfl ?_
            first | refine ev_isK (q := 64) 0 dX7_sixths_63 rfl rfl (by omega) (lt_n hn (by decide)) rfl rfl ?_ | refine ev_isR (q := 64) 0 dX7_sixths_63 rfl rfl (by omega) (lt_n hn (by decide)) rfl rfl ?_
            refine ev_aload_n (q := 65) dX7_sixths_64 rfl rfl ?_
            refine ev_get (q := 68) dX7_sixths_65 fr_X7_20 rfl (lt_n hn (by decide)) rfl rfl ?_
            refine ev_iconst (q := 69) (1) dX7_sixths_68 (by decide) rfl ?_
            refine ev_iload_n (q := 70) dX7_sixths_69 rfl rfl ?_
            first | refine ev_isK (q := 71) 1 dX7_sixths_70 rfl rfl (by omega) (lt_n hn (by decide)) rfl rfl ?_ | refine ev_isR (q := 71) 1 dX7_sixths_70 rfl rfl (by omega) (lt_n hn (by decide)) rfl rfl ?_
            refine ev_aload_n (q := 72) dX7_sixths_71 rfl rfl ?_
            refine ev_get (q := 75) dX7_sixths_72 fr_X7_20 rfl (lt_n hn (by decide)) rfl rfl ?_
            refine ev_iconst (q := 76) (2) dX7_sixths_75 (by decide) rfl ?_
            refine ev_iload_n (q := 77) dX7_sixths_76 rfl rfl ?_
            first | refine ev_isK (q := 78) 2 dX7_sixths_77 rfl rfl (by omega) (lt_n hn (by decide)) rfl rfl ?_ | refine ev_isR (q := 78) 2 dX7_sixths_77 rfl rfl (by omega) (lt_n hn (by decide)) rfl rfl ?_
            refine ev_aload_n (q := 79) dX7_sixths_78 rfl rfl ?_
            refine ev_get (q := 82) dX7_sixths_79 fr_X7_20 rfl (lt_n hn (by decide)) rfl rfl ?_
            refine ev_iconst (q := 83) (3) dX7_sixths_82 (by decide) rfl ?_
            refine ev_iload (q := 85) dX7_sixths_83 rfl rfl ?_
            first | refine ev_isK (q := 86) 3 dX7_sixths_85 rfl rfl (by omega) (lt_n hn (by decide)) rfl rfl ?_ | refine ev_isR (q := 86) 3 dX7_sixths_85 rfl rfl (by omega) (lt_n hn (by decide)) rfl rfl ?_
            refine ev_iconst (q := 87) (1) dX7_sixths_86 (by decide) rfl ?_
            exact ev_iretE dX7_sixths_87 rfl rfl rfl rfl rfl (hQ _ _)
          · exact absurd (of_decide_eq_true hv) c_51
theorem s_X7_came_f (hn : 49 ≤ n) (hm : MI I t sl wy wi he) {a b : Int32} (hv : (inb a 0 (nI (2 ^ t) - 1) && inb b 0 (nI (2 ^ t) - 1)) = false) : RnS xl xs 2 43 0 0 mX7_came [.ref 33, .int a, .int b] n I J X (some (.int (-2))) n I J X := by
  intro S T Q hQ
  show Ev xl xs 2 43 0 0 mX7_came 0 [some (.ref 33), some (.int a), some (.int b)] [] n (sysH (ov I S) (ovJ J T) X) Q
  refine ev_aload_n (q := 1) dX7_came_0 rfl rfl ?_
  refine ev_iload_n (q := 2) dX7_came_1 rfl rfl ?_
  refine ev_callV1i (q := 5) dX7_came_2 ca_X7_110 (s_X7_isWorld hn hm _) rfl (lt_n hn (by decide)) rfl rfl (Nat.le_of_ble_eq_true rfl) (Nat.le_of_ble_eq_true rfl) (by decide) (by decide) rfl ?_
  refine ev_if_eq (q := 8) 16 dX7_came_5 (by decide) rfl (fun c_5 => ?_) (fun c_5 => ?_)
  · refine ev_bipush (q := 18) (-2) dX7_came_16 (by decide) rfl ?_
    exact ev_iretE dX7_came_18 rfl rfl rfl rfl rfl (hQ _ _)
  · have c_5 := b2i_n0.mp c_5
    rw [c_5, Bool.true_and] at hv
    refine ev_aload_n (q := 9) dX7_came_8 rfl rfl ?_
    refine ev_iload_n (q := 10) dX7_came_9 rfl rfl ?_
    refine ev_callV1i (q := 13) dX7_came_10 ca_X7_110 (s_X7_isWorld hn hm _) rfl (lt_n hn (by decide)) rfl rfl (Nat.le_of_ble_eq_true rfl) (Nat.le_of_ble_eq_true rfl) (by decide) (by decide) rfl ?_
    refine ev_if_ne (q := 16) 19 dX7_came_13 (by decide) rfl (fun c_13 => ?_) (fun c_13 => ?_)
    · exact absurd (b2i_ne.mp c_13) (by rw [hv]; decide)
    · refine ev_bipush (q := 18) (-2) dX7_came_16 (by decide) rfl ?_
      exact ev_iretE dX7_came_18 rfl rfl rfl rfl rfl (hQ _ _)
theorem s_X7_came_6 (hn : 49 ≤ n) (hm : MI I t sl wy wi he) {a b : Int32} (ha : inb a 0 (nI (2 ^ t) - 1) = true) (hb : inb b 0 (nI (2 ^ t) - 1) = true) (hk : I 33 14 = nI 6) : RnS xl xs 2 43 0 0 mX7_came [.ref 33, .int a, .int b] n I J X (some (.int (-4))) n I J X := by
  intro S T Q hQ
  show Ev xl xs 2 43 0 0 mX7_came 0 [some (.ref 33), some (.int a), some (.int b)] [] n (sysH (ov I S) (ovJ J T) X) Q
  refine ev_aload_n (q := 1) dX7_came_0 rfl rfl ?_
  refine ev_iload_n (q := 2) dX7_came_1 rfl rfl ?_
  refine ev_callV1i (q := 5) dX7_came_2 ca_X7_110 (s_X7_isWorld hn hm _) rfl (lt_n hn (by decide)) rfl rfl (Nat.le_of_ble_eq_true rfl) (Nat.le_of_ble_eq_true rfl) (by decide) (by decide) rfl ?_
  refine ev_if_eq (q := 8) 16 dX7_came_5 (by decide) rfl (fun c_5 => ?_) (fun c_5 => ?_)
  · exact absurd c_5 (b2i_n0.mpr ha)
  · refine ev_aload_n (q := 9) dX7_came_8 rfl rfl ?_
    refine ev_iload_n (q := 10) dX7_came_9 rfl rfl ?_
    refine ev_callV1i (q := 13) dX7_came_10 ca_X7_110 (s_X7_isWorld hn hm _) rfl (lt_n hn (by decide)) rfl rfl (Nat.le_of_ble_eq_true rfl) (Nat.le_of_ble_eq_true rfl) (by decide) (by decide) rfl ?_
    refine ev_if_ne (q := 16) 19 dX7_came_13 (by decide) rfl (fun c_13 => ?_) (fun c_13 => ?_)
    · refine ev_aload_n (q := 20) dX7_came_19 rfl rfl ?_
      refine ev_get (q := 23) dX7_came_20 fr_X7_90 rfl (lt_n hn (by decide)) rfl rfl ?_
      refine ev_bipush (q := 25) (6) dX7_came_23 (by decide) rfl ?_
      refine ev_icmp_ne (q := 28) 31 dX7_came_25 (by decide) rfl (fun c_25 => ?_) (fun c_25 => ?_)
      · exact absurd hk c_25
      · refine ev_bipush (q := 30) (-4) dX7_came_28 (by decide) rfl ?_
        exact ev_iretE dX7_came_30 rfl rfl rfl rfl rfl (hQ _ _)
    · exact absurd c_13 (b2i_n0.mpr hb)
theorem s_X7_came {k : Nat} (hn : 49 ≤ n) (hm : MI I t sl wy wi he) {a b : Int32} (ha : inb a 0 (nI (2 ^ t) - 1) = true) (hb : inb b 0 (nI (2 ^ t) - 1) = true) (hk : I 33 14 = nI k) (hk6 : k < 6) : RnS xl xs 2 43 0 0 mX7_came [.ref 33, .int a, .int b] n I J X (some (.int (nI (k + 1)))) n (wr (wr (wr I 40 (2 * k) a) 40 (2 * k + 1) b) 33 14 (nI (k + 1))) J X := by
  intro S T Q hQ
  show Ev xl xs 2 43 0 0 mX7_came 0 [some (.ref 33), some (.int a), some (.int b)] [] n (sysH (ov I S) (ovJ J T) X) Q
  have e2 : (2 : Int32) * nI k = nI (2 * k) := pk_mul 2 k
  refine ev_aload_n (q := 1) dX7_came_0 rfl rfl ?_
  refine ev_iload_n (q := 2) dX7_came_1 rfl rfl ?_
  refine ev_callV1i (q := 5) dX7_came_2 ca_X7_110 (s_X7_isWorld hn hm _) rfl (lt_n hn (by decide)) rfl rfl (Nat.le_of_ble_eq_true rfl) (Nat.le_of_ble_eq_true rfl) (by decide) (by decide) rfl ?_
  refine ev_if_eq (q := 8) 16 dX7_came_5 (by decide) rfl (fun c_5 => ?_) (fun c_5 => ?_)
  · exact absurd c_5 (b2i_n0.mpr ha)
  · refine ev_aload_n (q := 9) dX7_came_8 rfl rfl ?_
    refine ev_iload_n (q := 10) dX7_came_9 rfl rfl ?_
    refine ev_callV1i (q := 13) dX7_came_10 ca_X7_110 (s_X7_isWorld hn hm _) rfl (lt_n hn (by decide)) rfl rfl (Nat.le_of_ble_eq_true rfl) (Nat.le_of_ble_eq_true rfl) (by decide) (by decide) rfl ?_
    refine ev_if_ne (q := 16) 19 dX7_came_13 (by decide) rfl (fun c_13 => ?_) (fun c_13 => ?_)
    · refine ev_aload_n (q := 20) dX7_came_19 rfl rfl ?_
      refine ev_get (q := 23) dX7_came_20 fr_X7_90 rfl (lt_n hn (by decide)) rfl rfl ?_
      refine ev_bipush (q := 25) (6) dX7_came_23 (by decide) rfl ?_
      rw [show ov I S 33 14 = nI k from hk]
      refine ev_icmp_ne (q := 28) 31 dX7_came_25 (by decide) rfl (fun c_25 => ?_) (fun c_25 => ?_)
      · refine ev_aload_n (q := 32) dX7_came_31 rfl rfl ?_
        refine ev_get (q := 35) dX7_came_32 fr_X7_33 rfl (lt_n hn (by decide)) rfl rfl ?_
        refine ev_iconst (q := 36) (2) dX7_came_35 (by decide) rfl ?_
        refine ev_aload_n (q := 37) dX7_came_36 rfl rfl ?_
        refine ev_get (q := 40) dX7_came_37 fr_X7_90 rfl (lt_n hn (by decide)) rfl rfl ?_
        refine ev_imul (q := 41) dX7_came_40 rfl ?_
        refine ev_iload_n (q := 42) dX7_came_41 rfl rfl ?_
        rw [show ov I S 33 14 = nI k from hk]
        first | refine ev_isK (q := 43) (2 * k) dX7_came_42 e2 rfl (by omega) (lt_n hn (by decide)) rfl rfl ?_ | refine ev_isR (q := 43) (2 * k) dX7_came_42 e2 rfl (by omega) (lt_n hn (by decide)) rfl rfl ?_
        refine ev_aload_n (q := 44) dX7_came_43 rfl rfl ?_
        refine ev_get (q := 47) dX7_came_44 fr_X7_33 rfl (lt_n hn (by decide)) rfl rfl ?_
        refine ev_iconst (q := 48) (2) dX7_came_47 (by decide) rfl ?_
        refine ev_aload_n (q := 49) dX7_came_48 rfl rfl ?_
        refine ev_get (q := 52) dX7_came_49 fr_X7_90 rfl (lt_n hn (by decide)) rfl rfl ?_
        refine ev_imul (q := 53) dX7_came_52 rfl ?_
        refine ev_iconst (q := 54) (1) dX7_came_53 (by decide) rfl ?_
        refine ev_iadd (q := 55) dX7_came_54 rfl ?_
        refine ev_iload_n (q := 56) dX7_came_55 rfl rfl ?_
        rw [show ov (wr I 40 (2 * k) a) S 33 14 = nI k from hk]
        first | refine ev_isK (q := 57) (2 * k + 1) dX7_came_56 (by rw [e2]; exact nI_1 _) rfl (by omega) (lt_n hn (by decide)) rfl rfl ?_ | refine ev_isR (q := 57) (2 * k + 1) dX7_came_56 (by rw [e2]; exact nI_1 _) rfl (by omega) (lt_n hn (by decide)) rfl rfl ?_
        refine ev_aload_n (q := 58) dX7_came_57 rfl rfl ?_
        refine ev_dup (q := 59) (fun _ => rfl) dX7_came_58 rfl ?_
        refine ev_get (q := 62) dX7_came_59 fr_X7_90 rfl (lt_n hn (by decide)) rfl rfl ?_
        refine ev_iconst (q := 63) (1) dX7_came_62 (by decide) rfl ?_
        refine ev_iadd (q := 64) dX7_came_63 rfl ?_
        rw [show ov (wr (wr I 40 (2 * k) a) 40 (2 * k + 1) b) S 33 14 + 1 = nI (k + 1) from by rw [show ov (wr (wr I 40 (2 * k) a) 40 (2 * k + 1) b) S 33 14 = nI k from hk]; exact nI_1 k]
        first | refine ev_putIK (q := 67) dX7_came_64 fa_X7_90 rfl (by decide) (lt_n hn (by decide)) (Nat.le_of_ble_eq_true rfl) ⟨rfl, rfl⟩ rfl rfl rfl ?_ | refine ev_putIR (q := 67) dX7_came_64 fa_X7_90 rfl (by decide) (lt_n hn (by decide)) (Nat.le_of_ble_eq_true rfl) ⟨rfl, rfl⟩ rfl rfl rfl ?_
        refine ev_aload_n (q := 68) dX7_came_67 rfl rfl ?_
        refine ev_get (q := 71) dX7_came_68 fr_X7_90 rfl (lt_n hn (by decide)) rfl rfl ?_
        exact ev_iretE dX7_came_71 rfl rfl rfl rfl rfl (hQ _ _)
      · exact absurd ((nI_eq (b := 6) (by omega) (by omega)).mp c_25) (by omega)
    · exact absurd c_13 (b2i_n0.mpr hb)
theorem s_X7_forget (hn : 49 ≤ n) : RnS xl xs 0 0 0 0 mX7_forget [.ref 33] n I J X (some (.int (I 33 11 + I 33 14))) n (wr (wr I 33 11 0) 33 14 0) J X := by
  intro S T Q hQ
  show Ev xl xs 0 0 0 0 mX7_forget 0 [some (.ref 33), none] [] n (sysH (ov I S) (ovJ J T) X) Q
  refine ev_aload_n (q := 1) dX7_forget_0 rfl rfl ?_
  refine ev_get (q := 4) dX7_forget_1 fr_X7_87 rfl (lt_n hn (by decide)) rfl rfl ?_
  refine ev_aload_n (q := 5) dX7_forget_4 rfl rfl ?_
  refine ev_get (q := 8) dX7_forget_5 fr_X7_90 rfl (lt_n hn (by decide)) rfl rfl ?_
  refine ev_iadd (q := 9) dX7_forget_8 rfl ?_
  refine ev_ist_1 (q := 10) dX7_forget_9 rfl rfl ?_
  refine ev_aload_n (q := 11) dX7_forget_10 rfl rfl ?_
  refine ev_iconst (q := 12) (0) dX7_forget_11 (by decide) rfl ?_
  first | refine ev_putIK (q := 15) dX7_forget_12 fa_X7_87 rfl (by decide) (lt_n hn (by decide)) (Nat.le_of_ble_eq_true rfl) ⟨rfl, rfl⟩ rfl rfl rfl ?_ | refine ev_putIR (q := 15) dX7_forget_12 fa_X7_87 rfl (by decide) (lt_n hn (by decide)) (Nat.le_of_ble_eq_true rfl) ⟨rfl, rfl⟩ rfl rfl rfl ?_
  refine ev_aload_n (q := 16) dX7_forget_15 rfl rfl ?_
  refine ev_iconst (q := 17) (0) dX7_forget_16 (by decide) rfl ?_
  first | refine ev_putIK (q := 20) dX7_forget_17 fa_X7_90 rfl (by decide) (lt_n hn (by decide)) (Nat.le_of_ble_eq_true rfl) ⟨rfl, rfl⟩ rfl rfl rfl ?_ | refine ev_putIR (q := 20) dX7_forget_17 fa_X7_90 rfl (by decide) (lt_n hn (by decide)) (Nat.le_of_ble_eq_true rfl) ⟨rfl, rfl⟩ rfl rfl rfl ?_
  refine ev_iload_n (q := 21) dX7_forget_20 rfl rfl ?_
  exact ev_iretE dX7_forget_21 rfl rfl rfl rfl rfl (hQ _ _)
theorem s_X7_picked_f (hn : 49 ≤ n) (hm : MI I t sl wy wi he) {v : Int32} (hv : inb v 0 (nI (2 ^ t) - 1) = false) : RnS xl xs 4 95 0 0 mX7_picked [.ref 33, .int v] n I J X (some (.int (-2))) n I J X := by
  intro S T Q hQ
  show Ev xl xs 4 95 0 0 mX7_picked 0 [some (.ref 33), some (.int v), none, none] [] n (sysH (ov I S) (ovJ J T) X) Q
  refine ev_aload_n (q := 1) dX7_picked_0 rfl rfl ?_
  refine ev_iload_n (q := 2) dX7_picked_1 rfl rfl ?_
  refine ev_callV1i (q := 5) dX7_picked_2 ca_X7_110 (s_X7_isWorld hn hm _) rfl (lt_n hn (by decide)) rfl rfl (Nat.le_of_ble_eq_true rfl) (Nat.le_of_ble_eq_true rfl) (by decide) (by decide) rfl ?_
  refine ev_if_ne (q := 8) 11 dX7_picked_5 (by decide) rfl (fun c_5 => ?_) (fun c_5 => ?_)
  · exact absurd (b2i_ne.mp c_5) (by rw [hv]; decide)
  · refine ev_bipush (q := 10) (-2) dX7_picked_8 (by decide) rfl ?_
    exact ev_iretE dX7_picked_10 rfl rfl rfl rfl rfl (hQ _ _)
theorem s_X7_picked_n (hn : 49 ≤ n) (hm : MI I t sl wy wi he) (hsg : I 33 16 = nI sg) (h40 : sg ≤ 40) {v : Int32} (hv : inb v 0 (nI (2 ^ t) - 1) = true) (hf : ¬ ffP I t sg = -6) : RnS xl xs 4 95 0 0 mX7_picked [.ref 33, .int v] n I J X (some (.int (-5))) n I J X := by
  intro S T Q hQ
  show Ev xl xs 4 95 0 0 mX7_picked 0 [some (.ref 33), some (.int v), none, none] [] n (sysH (ov I S) (ovJ J T) X) Q
  rcases ffP_or I t sg with hf2 | ⟨m, hm40, hf2⟩
  · exact absurd hf2 hf
  · have hff : ffM t (I 41) sg sg 0 1 false = nI m := hf2
    refine ev_aload_n (q := 1) dX7_picked_0 rfl rfl ?_
    refine ev_iload_n (q := 2) dX7_picked_1 rfl rfl ?_
    refine ev_callV1i (q := 5) dX7_picked_2 ca_X7_110 (s_X7_isWorld hn hm _) rfl (lt_n hn (by decide)) rfl rfl (Nat.le_of_ble_eq_true rfl) (Nat.le_of_ble_eq_true rfl) (by decide) (by decide) rfl ?_
    refine ev_if_ne (q := 8) 11 dX7_picked_5 (by decide) rfl (fun c_5 => ?_) (fun c_5 => ?_)
    · refine ev_aload_n (q := 12) dX7_picked_11 rfl rfl ?_
      refine ev_callV0i (q := 15) dX7_picked_12 ca_X7_130 (s_X7_faultOf hn hm hsg h40) rfl (lt_n hn (by decide)) rfl rfl (Nat.le_of_ble_eq_true rfl) (Nat.le_of_ble_eq_true rfl) (by decide) (by decide) rfl ?_
      rw [hff]
      refine ev_if_lt (q := 18) 21 dX7_picked_15 (by decide) rfl (fun c_15 => ?_) (fun c_15 => ?_)
      · exact absurd c_15 (nI_pos (by omega))
      · refine ev_bipush (q := 20) (-5) dX7_picked_18 (by decide) rfl ?_
        exact ev_iretE dX7_picked_20 rfl rfl rfl rfl rfl (hQ _ _)
    · exact absurd c_5 (b2i_n0.mpr hv)
theorem s_X7_picked_h {w : Nat} (hn : 49 ≤ n) (hm : MI I t sl wy wi he) (hsg : I 33 16 = nI sg) (h40 : sg ≤ 40) (hv : inb (nI w) 0 (nI (2 ^ t) - 1) = true) (hw : w < 2 ^ t) (hf : ffP I t sg = -6) (hb : lbit (kpL I J t sl sg he) w = false) : RnS xl xs 4 95 0 0 mX7_picked [.ref 33, .int (nI w)] n I J X (some (.int (-5))) n I J X := by
  intro S T Q hQ
  have hm' := hm
  obtain ⟨ht, ht2, h6, hs, hs6, hwy, h3, hwi, h4, hhe, hhl⟩ := hm'
  have h64 := p2_le h6
  have hvt := ffM_VT h6 ht2 h40 hf
  have hff : ffM t (I 41) sg sg 0 1 false = -6 := hf
  have hpad := pad_lpS (I := I) (S := S) (sg := sg)
  show Ev xl xs 4 95 0 0 mX7_picked 0 [some (.ref 33), some (.int (nI w)), none, none] [] n (sysH (ov I S) (ovJ J T) X) Q
  refine ev_aload_n (q := 1) dX7_picked_0 rfl rfl ?_
  refine ev_iload_n (q := 2) dX7_picked_1 rfl rfl ?_
  refine ev_callV1i (q := 5) dX7_picked_2 ca_X7_110 (s_X7_isWorld hn hm _) rfl (lt_n hn (by decide)) rfl rfl (Nat.le_of_ble_eq_true rfl) (Nat.le_of_ble_eq_true rfl) (by decide) (by decide) rfl ?_
  refine ev_if_ne (q := 8) 11 dX7_picked_5 (by decide) rfl (fun c_5 => ?_) (fun c_5 => ?_)
  · refine ev_aload_n (q := 12) dX7_picked_11 rfl rfl ?_
    refine ev_callV0i (q := 15) dX7_picked_12 ca_X7_130 (s_X7_faultOf hn hm hsg h40) rfl (lt_n hn (by decide)) rfl rfl (Nat.le_of_ble_eq_true rfl) (Nat.le_of_ble_eq_true rfl) (by decide) (by decide) rfl ?_
    rw [hff]
    refine ev_if_lt (q := 18) 21 dX7_picked_15 (by decide) rfl (fun c_15 => ?_) (fun c_15 => ?_)
    · refine ev_aload_n (q := 22) dX7_picked_21 rfl rfl ?_
      refine ev_callV0v (q := 25) dX7_picked_22 ca_X7_154 (s_X7_layPad hn hm hsg h40) rfl (lt_n hn (by decide)) rfl rfl (Nat.le_of_ble_eq_true rfl) (Nat.le_of_ble_eq_true rfl) (by decide) (by decide) rfl ?_
      refine ev_aload_n (q := 26) dX7_picked_25 rfl rfl ?_
      refine ev_aload_n (q := 27) dX7_picked_26 rfl rfl ?_
      refine ev_get (q := 30) dX7_picked_27 fr_X7_73 rfl (lt_n hn (by decide)) rfl rfl ?_
      rw [show ov I (lpS S sg (I 41)) 33 7 = nI he from hhe]
      refine ev_callV1lP (q := 33) dX7_picked_30 ca_X7_157 (s_keepP hn hm hvt hpad (by omega)) rfl (lt_n hn (by decide)) rfl rfl (Nat.le_of_ble_eq_true rfl) (Nat.le_of_ble_eq_true rfl) (by decide) (by decide) rfl (fun S T hp_30 => ?_)
      refine ev_lst_2 (q := 34) dX7_picked_33 rfl rfl ?_
      refine ev_lload_n (q := 35) dX7_picked_34 rfl rfl ?_
      refine ev_iload_n (q := 36) dX7_picked_35 rfl rfl ?_
      refine ev_callS2i (q := 39) dX7_picked_36 ca_X7_143 (c_X7_holds (by omega)) (Nat.le_of_ble_eq_true rfl) (Nat.le_of_ble_eq_true rfl) (by decide) (by decide) rfl ?_
      refine ev_if_ne (q := 42) 45 dX7_picked_39 (by decide) rfl (fun c_39 => ?_) (fun c_39 => ?_)
      · exact absurd (b2i_ne.mp c_39) (by rw [hb]; decide)
      · refine ev_bipush (q := 44) (-5) dX7_picked_42 (by decide) rfl ?_
        exact ev_iretE dX7_picked_44 rfl rfl rfl rfl rfl (hQ _ _)
    · exact absurd neg6 c_15
  · exact absurd c_5 (b2i_n0.mpr hv)
theorem s_X7_picked_6 {w : Nat} (hn : 49 ≤ n) (hm : MI I t sl wy wi he) (hsg : I 33 16 = nI sg) (h40 : sg ≤ 40) (hv : inb (nI w) 0 (nI (2 ^ t) - 1) = true) (hw : w < 2 ^ t) (hf : ffP I t sg = -6) (hb : lbit (kpL I J t sl sg he) w = true) (hk : I 33 11 = nI 6) : RnS xl xs 4 95 0 0 mX7_picked [.ref 33, .int (nI w)] n I J X (some (.int (-4))) n I J X := by
  intro S T Q hQ
  have hm' := hm
  obtain ⟨ht, ht2, h6, hs, hs6, hwy, h3, hwi, h4, hhe, hhl⟩ := hm'
  have h64 := p2_le h6
  have hvt := ffM_VT h6 ht2 h40 hf
  have hff : ffM t (I 41) sg sg 0 1 false = -6 := hf
  have hpad := pad_lpS (I := I) (S := S) (sg := sg)
  show Ev xl xs 4 95 0 0 mX7_picked 0 [some (.ref 33), some (.int (nI w)), none, none] [] n (sysH (ov I S) (ovJ J T) X) Q
  refine ev_aload_n (q := 1) dX7_picked_0 rfl rfl ?_
  refine ev_iload_n (q := 2) dX7_picked_1 rfl rfl ?_
  refine ev_callV1i (q := 5) dX7_picked_2 ca_X7_110 (s_X7_isWorld hn hm _) rfl (lt_n hn (by decide)) rfl rfl (Nat.le_of_ble_eq_true rfl) (Nat.le_of_ble_eq_true rfl) (by decide) (by decide) rfl ?_
  refine ev_if_ne (q := 8) 11 dX7_picked_5 (by decide) rfl (fun c_5 => ?_) (fun c_5 => ?_)
  · refine ev_aload_n (q := 12) dX7_picked_11 rfl rfl ?_
    refine ev_callV0i (q := 15) dX7_picked_12 ca_X7_130 (s_X7_faultOf hn hm hsg h40) rfl (lt_n hn (by decide)) rfl rfl (Nat.le_of_ble_eq_true rfl) (Nat.le_of_ble_eq_true rfl) (by decide) (by decide) rfl ?_
    rw [hff]
    refine ev_if_lt (q := 18) 21 dX7_picked_15 (by decide) rfl (fun c_15 => ?_) (fun c_15 => ?_)
    · refine ev_aload_n (q := 22) dX7_picked_21 rfl rfl ?_
      refine ev_callV0v (q := 25) dX7_picked_22 ca_X7_154 (s_X7_layPad hn hm hsg h40) rfl (lt_n hn (by decide)) rfl rfl (Nat.le_of_ble_eq_true rfl) (Nat.le_of_ble_eq_true rfl) (by decide) (by decide) rfl ?_
      refine ev_aload_n (q := 26) dX7_picked_25 rfl rfl ?_
      refine ev_aload_n (q := 27) dX7_picked_26 rfl rfl ?_
      refine ev_get (q := 30) dX7_picked_27 fr_X7_73 rfl (lt_n hn (by decide)) rfl rfl ?_
      rw [show ov I (lpS S sg (I 41)) 33 7 = nI he from hhe]
      refine ev_callV1lP (q := 33) dX7_picked_30 ca_X7_157 (s_keepP hn hm hvt hpad (by omega)) rfl (lt_n hn (by decide)) rfl rfl (Nat.le_of_ble_eq_true rfl) (Nat.le_of_ble_eq_true rfl) (by decide) (by decide) rfl (fun S T hp_30 => ?_)
      refine ev_lst_2 (q := 34) dX7_picked_33 rfl rfl ?_
      refine ev_lload_n (q := 35) dX7_picked_34 rfl rfl ?_
      refine ev_iload_n (q := 36) dX7_picked_35 rfl rfl ?_
      refine ev_callS2i (q := 39) dX7_picked_36 ca_X7_143 (c_X7_holds (by omega)) (Nat.le_of_ble_eq_true rfl) (Nat.le_of_ble_eq_true rfl) (by decide) (by decide) rfl ?_
      refine ev_if_ne (q := 42) 45 dX7_picked_39 (by decide) rfl (fun c_39 => ?_) (fun c_39 => ?_)
      · refine ev_aload_n (q := 46) dX7_picked_45 rfl rfl ?_
        refine ev_get (q := 49) dX7_picked_46 fr_X7_87 rfl (lt_n hn (by decide)) rfl rfl ?_
        refine ev_bipush (q := 51) (6) dX7_picked_49 (by decide) rfl ?_
        refine ev_icmp_ne (q := 54) 57 dX7_picked_51 (by decide) rfl (fun c_51 => ?_) (fun c_51 => ?_)
        · exact absurd hk c_51
        · refine ev_bipush (q := 56) (-4) dX7_picked_54 (by decide) rfl ?_
          exact ev_iretE dX7_picked_56 rfl rfl rfl rfl rfl (hQ _ _)
      · exact absurd c_39 (b2i_n0.mpr hb)
    · exact absurd neg6 c_15
  · exact absurd c_5 (b2i_n0.mpr hv)
theorem s_X7_picked {w k : Nat} (hn : 49 ≤ n) (hm : MI I t sl wy wi he) (hsg : I 33 16 = nI sg) (h40 : sg ≤ 40) (hv : inb (nI w) 0 (nI (2 ^ t) - 1) = true) (hw : w < 2 ^ t) (hf : ffP I t sg = -6) (hb : lbit (kpL I J t sl sg he) w = true) (hk : I 33 11 = nI k) (hk6 : k < 6) : RnS xl xs 4 95 0 0 mX7_picked [.ref 33, .int (nI w)] n I J X (some (.int (nI (k + 1)))) n (wr (wr I 39 k (nI w)) 33 11 (nI (k + 1))) (wrJ J 38 k (kpL I J t sl sg he)) X := by
  intro S T Q hQ
  have hm' := hm
  obtain ⟨ht, ht2, h6, hs, hs6, hwy, h3, hwi, h4, hhe, hhl⟩ := hm'
  have h64 := p2_le h6
  have hvt := ffM_VT h6 ht2 h40 hf
  have hff : ffM t (I 41) sg sg 0 1 false = -6 := hf
  have hpad := pad_lpS (I := I) (S := S) (sg := sg)
  show Ev xl xs 4 95 0 0 mX7_picked 0 [some (.ref 33), some (.int (nI w)), none, none] [] n (sysH (ov I S) (ovJ J T) X) Q
  refine ev_aload_n (q := 1) dX7_picked_0 rfl rfl ?_
  refine ev_iload_n (q := 2) dX7_picked_1 rfl rfl ?_
  refine ev_callV1i (q := 5) dX7_picked_2 ca_X7_110 (s_X7_isWorld hn hm _) rfl (lt_n hn (by decide)) rfl rfl (Nat.le_of_ble_eq_true rfl) (Nat.le_of_ble_eq_true rfl) (by decide) (by decide) rfl ?_
  refine ev_if_ne (q := 8) 11 dX7_picked_5 (by decide) rfl (fun c_5 => ?_) (fun c_5 => ?_)
  · refine ev_aload_n (q := 12) dX7_picked_11 rfl rfl ?_
    refine ev_callV0i (q := 15) dX7_picked_12 ca_X7_130 (s_X7_faultOf hn hm hsg h40) rfl (lt_n hn (by decide)) rfl rfl (Nat.le_of_ble_eq_true rfl) (Nat.le_of_ble_eq_true rfl) (by decide) (by decide) rfl ?_
    rw [hff]
    refine ev_if_lt (q := 18) 21 dX7_picked_15 (by decide) rfl (fun c_15 => ?_) (fun c_15 => ?_)
    · refine ev_aload_n (q := 22) dX7_picked_21 rfl rfl ?_
      refine ev_callV0v (q := 25) dX7_picked_22 ca_X7_154 (s_X7_layPad hn hm hsg h40) rfl (lt_n hn (by decide)) rfl rfl (Nat.le_of_ble_eq_true rfl) (Nat.le_of_ble_eq_true rfl) (by decide) (by decide) rfl ?_
      refine ev_aload_n (q := 26) dX7_picked_25 rfl rfl ?_
      refine ev_aload_n (q := 27) dX7_picked_26 rfl rfl ?_
      refine ev_get (q := 30) dX7_picked_27 fr_X7_73 rfl (lt_n hn (by decide)) rfl rfl ?_
      rw [show ov I (lpS S sg (I 41)) 33 7 = nI he from hhe]
      refine ev_callV1lP (q := 33) dX7_picked_30 ca_X7_157 (s_keepP hn hm hvt hpad (by omega)) rfl (lt_n hn (by decide)) rfl rfl (Nat.le_of_ble_eq_true rfl) (Nat.le_of_ble_eq_true rfl) (by decide) (by decide) rfl (fun S T hp_30 => ?_)
      refine ev_lst_2 (q := 34) dX7_picked_33 rfl rfl ?_
      refine ev_lload_n (q := 35) dX7_picked_34 rfl rfl ?_
      refine ev_iload_n (q := 36) dX7_picked_35 rfl rfl ?_
      refine ev_callS2i (q := 39) dX7_picked_36 ca_X7_143 (c_X7_holds (by omega)) (Nat.le_of_ble_eq_true rfl) (Nat.le_of_ble_eq_true rfl) (by decide) (by decide) rfl ?_
      refine ev_if_ne (q := 42) 45 dX7_picked_39 (by decide) rfl (fun c_39 => ?_) (fun c_39 => ?_)
      · refine ev_aload_n (q := 46) dX7_picked_45 rfl rfl ?_
        refine ev_get (q := 49) dX7_picked_46 fr_X7_87 rfl (lt_n hn (by decide)) rfl rfl ?_
        refine ev_bipush (q := 51) (6) dX7_picked_49 (by decide) rfl ?_
        rw [show ov I S 33 11 = nI k from hk]
        refine ev_icmp_ne (q := 54) 57 dX7_picked_51 (by decide) rfl (fun c_51 => ?_) (fun c_51 => ?_)
        · refine ev_aload_n (q := 58) dX7_picked_57 rfl rfl ?_
          refine ev_get (q := 61) dX7_picked_58 fr_X7_26 rfl (lt_n hn (by decide)) rfl rfl ?_
          refine ev_aload_n (q := 62) dX7_picked_61 rfl rfl ?_
          refine ev_get (q := 65) dX7_picked_62 fr_X7_87 rfl (lt_n hn (by decide)) rfl rfl ?_
          refine ev_lload_n (q := 66) dX7_picked_65 rfl rfl ?_
          first | refine ev_lsK (q := 67) k dX7_picked_66 hk rfl (by omega) (lt_n hn (by decide)) rfl rfl ?_ | refine ev_lsR (q := 67) k dX7_picked_66 hk rfl (by omega) (lt_n hn (by decide)) rfl rfl ?_
          refine ev_aload_n (q := 68) dX7_picked_67 rfl rfl ?_
          refine ev_get (q := 71) dX7_picked_68 fr_X7_30 rfl (lt_n hn (by decide)) rfl rfl ?_
          refine ev_aload_n (q := 72) dX7_picked_71 rfl rfl ?_
          refine ev_get (q := 75) dX7_picked_72 fr_X7_87 rfl (lt_n hn (by decide)) rfl rfl ?_
          refine ev_iload_n (q := 76) dX7_picked_75 rfl rfl ?_
          first | refine ev_isK (q := 77) k dX7_picked_76 hk rfl (by omega) (lt_n hn (by decide)) rfl rfl ?_ | refine ev_isR (q := 77) k dX7_picked_76 hk rfl (by omega) (lt_n hn (by decide)) rfl rfl ?_
          refine ev_aload_n (q := 78) dX7_picked_77 rfl rfl ?_
          refine ev_dup (q := 79) (fun _ => rfl) dX7_picked_78 rfl ?_
          refine ev_get (q := 82) dX7_picked_79 fr_X7_87 rfl (lt_n hn (by decide)) rfl rfl ?_
          refine ev_iconst (q := 83) (1) dX7_picked_82 (by decide) rfl ?_
          refine ev_iadd (q := 84) dX7_picked_83 rfl ?_
          rw [show ov (wr I 39 k (nI w)) S 33 11 + 1 = nI (k + 1) from by rw [show ov (wr I 39 k (nI w)) S 33 11 = nI k from hk]; exact nI_1 k]
          first | refine ev_putIK (q := 87) dX7_picked_84 fa_X7_87 rfl (by decide) (lt_n hn (by decide)) (Nat.le_of_ble_eq_true rfl) ⟨rfl, rfl⟩ rfl rfl rfl ?_ | refine ev_putIR (q := 87) dX7_picked_84 fa_X7_87 rfl (by decide) (lt_n hn (by decide)) (Nat.le_of_ble_eq_true rfl) ⟨rfl, rfl⟩ rfl rfl rfl ?_
          refine ev_aload_n (q := 88) dX7_picked_87 rfl rfl ?_
          refine ev_get (q := 91) dX7_picked_88 fr_X7_87 rfl (lt_n hn (by decide)) rfl rfl ?_
          exact ev_iretE dX7_picked_91 rfl rfl rfl rfl rfl (hQ _ _)
        · exact absurd ((nI_eq (b := 6) (by omega) (by omega)).mp c_51) (by omega)
      · exact absurd c_39 (b2i_n0.mpr hb)
    · exact absurd neg6 c_15
  · exact absurd c_5 (b2i_n0.mpr hv)
end MODEL20
