theorem dX6_now_0 : decode cX6_now 0 = .ok (.aload_n 0, 1) := by decide +kernel
theorem dX6_now_1 : decode cX6_now 1 = .ok (.iload_n 1, 1) := by decide +kernel
theorem dX6_now_2 : decode cX6_now 2 = .ok (.invokevirtual 100, 3) := by decide +kernel
theorem dX6_now_5 : decode cX6_now 5 = .ok (.ifCond .ne 6, 3) := by decide +kernel
theorem dX6_now_8 : decode cX6_now 8 = .ok (.bipush (-2), 2) := by decide +kernel
theorem dX6_now_10 : decode cX6_now 10 = .ok (.ireturn, 1) := by decide +kernel
theorem dX6_now_11 : decode cX6_now 11 = .ok (.aload_n 0, 1) := by decide +kernel
theorem dX6_now_12 : decode cX6_now 12 = .ok (.getfield 10, 3) := by decide +kernel
theorem dX6_now_15 : decode cX6_now 15 = .ok (.getfield 103, 3) := by decide +kernel
theorem dX6_now_18 : decode cX6_now 18 = .ok (.istore_n 2, 1) := by decide +kernel
theorem dX6_now_19 : decode cX6_now 19 = .ok (.aload_n 0, 1) := by decide +kernel
theorem dX6_now_20 : decode cX6_now 20 = .ok (.getfield 10, 3) := by decide +kernel
theorem dX6_now_23 : decode cX6_now 23 = .ok (.iload_n 1, 1) := by decide +kernel
theorem dX6_now_24 : decode cX6_now 24 = .ok (.putfield 103, 3) := by decide +kernel
theorem dX6_now_27 : decode cX6_now 27 = .ok (.aload_n 0, 1) := by decide +kernel
theorem dX6_now_28 : decode cX6_now 28 = .ok (.getfield 10, 3) := by decide +kernel
theorem dX6_now_31 : decode cX6_now 31 = .ok (.iconst 0, 1) := by decide +kernel
theorem dX6_now_32 : decode cX6_now 32 = .ok (.putfield 106, 3) := by decide +kernel
theorem dX6_now_35 : decode cX6_now 35 = .ok (.iload_n 2, 1) := by decide +kernel
theorem dX6_now_36 : decode cX6_now 36 = .ok (.ireturn, 1) := by decide +kernel
theorem dX6_set_0 : decode cX6_set 0 = .ok (.iload_n 2, 1) := by decide +kernel
theorem dX6_set_1 : decode cX6_set 1 = .ok (.ifCond .ge 6, 3) := by decide +kernel
theorem dX6_set_4 : decode cX6_set 4 = .ok (.bipush (-2), 2) := by decide +kernel
theorem dX6_set_6 : decode cX6_set 6 = .ok (.ireturn, 1) := by decide +kernel
theorem dX6_set_7 : decode cX6_set 7 = .ok (.iload_n 1, 1) := by decide +kernel
theorem dX6_set_8 : decode cX6_set 8 = .ok (.ifCond .ne 27, 3) := by decide +kernel
theorem dX6_set_11 : decode cX6_set 11 = .ok (.iload_n 2, 1) := by decide +kernel
theorem dX6_set_12 : decode cX6_set 12 = .ok (.iconst 2, 1) := by decide +kernel
theorem dX6_set_13 : decode cX6_set 13 = .ok (.if_icmp .gt 22, 3) := by decide +kernel
theorem dX6_set_16 : decode cX6_set 16 = .ok (.aload_n 0, 1) := by decide +kernel
theorem dX6_set_17 : decode cX6_set 17 = .ok (.getfield 10, 3) := by decide +kernel
theorem dX6_set_20 : decode cX6_set 20 = .ok (.getfield 91, 3) := by decide +kernel
theorem dX6_set_23 : decode cX6_set 23 = .ok (.istore_n 3, 1) := by decide +kernel
theorem dX6_set_24 : decode cX6_set 24 = .ok (.aload_n 0, 1) := by decide +kernel
theorem dX6_set_25 : decode cX6_set 25 = .ok (.getfield 10, 3) := by decide +kernel
theorem dX6_set_28 : decode cX6_set 28 = .ok (.iload_n 2, 1) := by decide +kernel
theorem dX6_set_29 : decode cX6_set 29 = .ok (.putfield 91, 3) := by decide +kernel
theorem dX6_set_32 : decode cX6_set 32 = .ok (.goto 65, 3) := by decide +kernel
theorem dX6_set_35 : decode cX6_set 35 = .ok (.iload_n 1, 1) := by decide +kernel
theorem dX6_set_36 : decode cX6_set 36 = .ok (.iconst 1, 1) := by decide +kernel
theorem dX6_set_37 : decode cX6_set 37 = .ok (.if_icmp .ne 27, 3) := by decide +kernel
theorem dX6_set_40 : decode cX6_set 40 = .ok (.iload_n 2, 1) := by decide +kernel
theorem dX6_set_41 : decode cX6_set 41 = .ok (.iconst 4, 1) := by decide +kernel
theorem dX6_set_42 : decode cX6_set 42 = .ok (.if_icmp .ge 22, 3) := by decide +kernel
theorem dX6_set_45 : decode cX6_set 45 = .ok (.aload_n 0, 1) := by decide +kernel
theorem dX6_set_46 : decode cX6_set 46 = .ok (.getfield 10, 3) := by decide +kernel
theorem dX6_set_49 : decode cX6_set 49 = .ok (.getfield 94, 3) := by decide +kernel
theorem dX6_set_52 : decode cX6_set 52 = .ok (.istore_n 3, 1) := by decide +kernel
theorem dX6_set_53 : decode cX6_set 53 = .ok (.aload_n 0, 1) := by decide +kernel
theorem dX6_set_54 : decode cX6_set 54 = .ok (.getfield 10, 3) := by decide +kernel
theorem dX6_set_57 : decode cX6_set 57 = .ok (.iload_n 2, 1) := by decide +kernel
theorem dX6_set_58 : decode cX6_set 58 = .ok (.putfield 94, 3) := by decide +kernel
theorem dX6_set_61 : decode cX6_set 61 = .ok (.goto 36, 3) := by decide +kernel
theorem dX6_set_64 : decode cX6_set 64 = .ok (.iload_n 1, 1) := by decide +kernel
theorem dX6_set_65 : decode cX6_set 65 = .ok (.iconst 2, 1) := by decide +kernel
theorem dX6_set_66 : decode cX6_set 66 = .ok (.if_icmp .ne 28, 3) := by decide +kernel
theorem dX6_set_69 : decode cX6_set 69 = .ok (.iload_n 2, 1) := by decide +kernel
theorem dX6_set_70 : decode cX6_set 70 = .ok (.bipush 6, 2) := by decide +kernel
theorem dX6_set_72 : decode cX6_set 72 = .ok (.if_icmp .gt 22, 3) := by decide +kernel
theorem dX6_set_75 : decode cX6_set 75 = .ok (.aload_n 0, 1) := by decide +kernel
theorem dX6_set_76 : decode cX6_set 76 = .ok (.getfield 10, 3) := by decide +kernel
theorem dX6_set_79 : decode cX6_set 79 = .ok (.getfield 97, 3) := by decide +kernel
theorem dX6_set_82 : decode cX6_set 82 = .ok (.istore_n 3, 1) := by decide +kernel
theorem dX6_set_83 : decode cX6_set 83 = .ok (.aload_n 0, 1) := by decide +kernel
theorem dX6_set_84 : decode cX6_set 84 = .ok (.getfield 10, 3) := by decide +kernel
theorem dX6_set_87 : decode cX6_set 87 = .ok (.iload_n 2, 1) := by decide +kernel
theorem dX6_set_88 : decode cX6_set 88 = .ok (.putfield 97, 3) := by decide +kernel
theorem dX6_set_91 : decode cX6_set 91 = .ok (.goto 6, 3) := by decide +kernel
theorem dX6_set_94 : decode cX6_set 94 = .ok (.bipush (-2), 2) := by decide +kernel
theorem dX6_set_96 : decode cX6_set 96 = .ok (.ireturn, 1) := by decide +kernel
theorem dX6_set_97 : decode cX6_set 97 = .ok (.iload_n 3, 1) := by decide +kernel
theorem dX6_set_98 : decode cX6_set 98 = .ok (.ireturn, 1) := by decide +kernel
theorem dX6_worth_0 : decode cX6_worth 0 = .ok (.iload_n 1, 1) := by decide +kernel
theorem dX6_worth_1 : decode cX6_worth 1 = .ok (.invokestatic 78, 3) := by decide +kernel
theorem dX6_worth_4 : decode cX6_worth 4 = .ok (.ifCond .eq 11, 3) := by decide +kernel
theorem dX6_worth_7 : decode cX6_worth 7 = .ok (.aload_n 0, 1) := by decide +kernel
theorem dX6_worth_8 : decode cX6_worth 8 = .ok (.iload_n 2, 1) := by decide +kernel
theorem dX6_worth_9 : decode cX6_worth 9 = .ok (.invokevirtual 82, 3) := by decide +kernel
theorem dX6_worth_12 : decode cX6_worth 12 = .ok (.ifCond .ne 5, 3) := by decide +kernel
theorem dX6_worth_15 : decode cX6_worth 15 = .ok (.iconst (-1), 1) := by decide +kernel
theorem dX6_worth_16 : decode cX6_worth 16 = .ok (.ireturn, 1) := by decide +kernel
theorem dX6_worth_17 : decode cX6_worth 17 = .ok (.iload_n 3, 1) := by decide +kernel
theorem dX6_worth_18 : decode cX6_worth 18 = .ok (.bipush (-9), 2) := by decide +kernel
theorem dX6_worth_20 : decode cX6_worth 20 = .ok (.if_icmp .lt 9, 3) := by decide +kernel
theorem dX6_worth_23 : decode cX6_worth 23 = .ok (.iload_n 3, 1) := by decide +kernel
theorem dX6_worth_24 : decode cX6_worth 24 = .ok (.bipush 9, 2) := by decide +kernel
theorem dX6_worth_26 : decode cX6_worth 26 = .ok (.if_icmp .le 6, 3) := by decide +kernel
theorem dX6_worth_29 : decode cX6_worth 29 = .ok (.bipush (-2), 2) := by decide +kernel
theorem dX6_worth_31 : decode cX6_worth 31 = .ok (.ireturn, 1) := by decide +kernel
theorem dX6_worth_32 : decode cX6_worth 32 = .ok (.iload_n 1, 1) := by decide +kernel
theorem dX6_worth_33 : decode cX6_worth 33 = .ok (.bipush 6, 2) := by decide +kernel
theorem dX6_worth_35 : decode cX6_worth 35 = .ok (.imul, 1) := by decide +kernel
theorem dX6_worth_36 : decode cX6_worth 36 = .ok (.iload_n 2, 1) := by decide +kernel
theorem dX6_worth_37 : decode cX6_worth 37 = .ok (.iadd, 1) := by decide +kernel
theorem dX6_worth_38 : decode cX6_worth 38 = .ok (.istore 4, 2) := by decide +kernel
theorem dX6_worth_40 : decode cX6_worth 40 = .ok (.aload_n 0, 1) := by decide +kernel
theorem dX6_worth_41 : decode cX6_worth 41 = .ok (.getfield 10, 3) := by decide +kernel
theorem dX6_worth_44 : decode cX6_worth 44 = .ok (.getfield 85, 3) := by decide +kernel
theorem dX6_worth_47 : decode cX6_worth 47 = .ok (.iload 4, 2) := by decide +kernel
theorem dX6_worth_49 : decode cX6_worth 49 = .ok (.iaload, 1) := by decide +kernel
theorem dX6_worth_50 : decode cX6_worth 50 = .ok (.istore 5, 2) := by decide +kernel
theorem dX6_worth_52 : decode cX6_worth 52 = .ok (.aload_n 0, 1) := by decide +kernel
theorem dX6_worth_53 : decode cX6_worth 53 = .ok (.getfield 10, 3) := by decide +kernel
theorem dX6_worth_56 : decode cX6_worth 56 = .ok (.getfield 85, 3) := by decide +kernel
theorem dX6_worth_59 : decode cX6_worth 59 = .ok (.iload 4, 2) := by decide +kernel
theorem dX6_worth_61 : decode cX6_worth 61 = .ok (.iload_n 3, 1) := by decide +kernel
theorem dX6_worth_62 : decode cX6_worth 62 = .ok (.iastore, 1) := by decide +kernel
theorem dX6_worth_63 : decode cX6_worth 63 = .ok (.iload 5, 2) := by decide +kernel
theorem dX6_worth_65 : decode cX6_worth 65 = .ok (.sipush 1000, 3) := by decide +kernel
theorem dX6_worth_68 : decode cX6_worth 68 = .ok (.iadd, 1) := by decide +kernel
theorem dX6_worth_69 : decode cX6_worth 69 = .ok (.ireturn, 1) := by decide +kernel
theorem dX6_taste_0 : decode cX6_taste 0 = .ok (.aload_n 0, 1) := by decide +kernel
theorem dX6_taste_1 : decode cX6_taste 1 = .ok (.iload_n 1, 1) := by decide +kernel
theorem dX6_taste_2 : decode cX6_taste 2 = .ok (.invokevirtual 82, 3) := by decide +kernel
theorem dX6_taste_5 : decode cX6_taste 5 = .ok (.ifCond .ne 5, 3) := by decide +kernel
theorem dX6_taste_8 : decode cX6_taste 8 = .ok (.iconst (-1), 1) := by decide +kernel
theorem dX6_taste_9 : decode cX6_taste 9 = .ok (.ireturn, 1) := by decide +kernel
theorem dX6_taste_10 : decode cX6_taste 10 = .ok (.iload_n 2, 1) := by decide +kernel
theorem dX6_taste_11 : decode cX6_taste 11 = .ok (.bipush (-9), 2) := by decide +kernel
theorem dX6_taste_13 : decode cX6_taste 13 = .ok (.if_icmp .lt 9, 3) := by decide +kernel
theorem dX6_taste_16 : decode cX6_taste 16 = .ok (.iload_n 2, 1) := by decide +kernel
theorem dX6_taste_17 : decode cX6_taste 17 = .ok (.bipush 9, 2) := by decide +kernel
theorem dX6_taste_19 : decode cX6_taste 19 = .ok (.if_icmp .le 6, 3) := by decide +kernel
theorem dX6_taste_22 : decode cX6_taste 22 = .ok (.bipush (-2), 2) := by decide +kernel
theorem dX6_taste_24 : decode cX6_taste 24 = .ok (.ireturn, 1) := by decide +kernel
theorem dX6_taste_25 : decode cX6_taste 25 = .ok (.aload_n 0, 1) := by decide +kernel
theorem dX6_taste_26 : decode cX6_taste 26 = .ok (.getfield 10, 3) := by decide +kernel
theorem dX6_taste_29 : decode cX6_taste 29 = .ok (.getfield 88, 3) := by decide +kernel
theorem dX6_taste_32 : decode cX6_taste 32 = .ok (.iload_n 1, 1) := by decide +kernel
theorem dX6_taste_33 : decode cX6_taste 33 = .ok (.iaload, 1) := by decide +kernel
theorem dX6_taste_34 : decode cX6_taste 34 = .ok (.istore_n 3, 1) := by decide +kernel
theorem dX6_taste_35 : decode cX6_taste 35 = .ok (.aload_n 0, 1) := by decide +kernel
theorem dX6_taste_36 : decode cX6_taste 36 = .ok (.getfield 10, 3) := by decide +kernel
theorem dX6_taste_39 : decode cX6_taste 39 = .ok (.getfield 88, 3) := by decide +kernel
theorem dX6_taste_42 : decode cX6_taste 42 = .ok (.iload_n 1, 1) := by decide +kernel
theorem dX6_taste_43 : decode cX6_taste 43 = .ok (.iload_n 2, 1) := by decide +kernel
theorem dX6_taste_44 : decode cX6_taste 44 = .ok (.iastore, 1) := by decide +kernel
theorem dX6_taste_45 : decode cX6_taste 45 = .ok (.iload_n 3, 1) := by decide +kernel
theorem dX6_taste_46 : decode cX6_taste 46 = .ok (.sipush 1000, 3) := by decide +kernel
theorem dX6_taste_49 : decode cX6_taste 49 = .ok (.iadd, 1) := by decide +kernel
theorem dX6_taste_50 : decode cX6_taste 50 = .ok (.ireturn, 1) := by decide +kernel
theorem dX6_worthOf_0 : decode cX6_worthOf 0 = .ok (.iload_n 1, 1) := by decide +kernel
theorem dX6_worthOf_1 : decode cX6_worthOf 1 = .ok (.invokestatic 78, 3) := by decide +kernel
theorem dX6_worthOf_4 : decode cX6_worthOf 4 = .ok (.ifCond .ne 5, 3) := by decide +kernel
theorem dX6_worthOf_7 : decode cX6_worthOf 7 = .ok (.iconst (-1), 1) := by decide +kernel
theorem dX6_worthOf_8 : decode cX6_worthOf 8 = .ok (.ireturn, 1) := by decide +kernel
theorem dX6_worthOf_9 : decode cX6_worthOf 9 = .ok (.aload_n 0, 1) := by decide +kernel
theorem dX6_worthOf_10 : decode cX6_worthOf 10 = .ok (.iload_n 2, 1) := by decide +kernel
theorem dX6_worthOf_11 : decode cX6_worthOf 11 = .ok (.invokevirtual 100, 3) := by decide +kernel
theorem dX6_worthOf_14 : decode cX6_worthOf 14 = .ok (.ifCond .ne 6, 3) := by decide +kernel
theorem dX6_worthOf_17 : decode cX6_worthOf 17 = .ok (.bipush (-2), 2) := by decide +kernel
theorem dX6_worthOf_19 : decode cX6_worthOf 19 = .ok (.ireturn, 1) := by decide +kernel
theorem dX6_worthOf_20 : decode cX6_worthOf 20 = .ok (.aload_n 0, 1) := by decide +kernel
theorem dX6_worthOf_21 : decode cX6_worthOf 21 = .ok (.getfield 10, 3) := by decide +kernel
theorem dX6_worthOf_24 : decode cX6_worthOf 24 = .ok (.iload_n 1, 1) := by decide +kernel
theorem dX6_worthOf_25 : decode cX6_worthOf 25 = .ok (.iload_n 2, 1) := by decide +kernel
theorem dX6_worthOf_26 : decode cX6_worthOf 26 = .ok (.invokevirtual 109, 3) := by decide +kernel
theorem dX6_worthOf_29 : decode cX6_worthOf 29 = .ok (.sipush 1000, 3) := by decide +kernel
theorem dX6_worthOf_32 : decode cX6_worthOf 32 = .ok (.iadd, 1) := by decide +kernel
theorem dX6_worthOf_33 : decode cX6_worthOf 33 = .ok (.ireturn, 1) := by decide +kernel
theorem dX6_say_0 : decode cX6_say 0 = .ok (.iload_n 1, 1) := by decide +kernel
theorem dX6_say_1 : decode cX6_say 1 = .ok (.bipush 33, 2) := by decide +kernel
theorem dX6_say_3 : decode cX6_say 3 = .ok (.if_icmp .lt 9, 3) := by decide +kernel
theorem dX6_say_6 : decode cX6_say 6 = .ok (.iload_n 1, 1) := by decide +kernel
theorem dX6_say_7 : decode cX6_say 7 = .ok (.bipush 126, 2) := by decide +kernel
theorem dX6_say_9 : decode cX6_say 9 = .ok (.if_icmp .le 6, 3) := by decide +kernel
theorem dX6_say_12 : decode cX6_say 12 = .ok (.bipush (-2), 2) := by decide +kernel
theorem dX6_say_14 : decode cX6_say 14 = .ok (.ireturn, 1) := by decide +kernel
theorem dX6_say_15 : decode cX6_say 15 = .ok (.aload_n 0, 1) := by decide +kernel
theorem dX6_say_16 : decode cX6_say 16 = .ok (.getfield 23, 3) := by decide +kernel
theorem dX6_say_19 : decode cX6_say 19 = .ok (.iload_n 1, 1) := by decide +kernel
theorem dX6_say_20 : decode cX6_say 20 = .ok (.invokevirtual 113, 3) := by decide +kernel
theorem dX6_say_23 : decode cX6_say 23 = .ok (.ifCond .eq 13, 3) := by decide +kernel
theorem dX6_say_26 : decode cX6_say 26 = .ok (.aload_n 0, 1) := by decide +kernel
theorem dX6_say_27 : decode cX6_say 27 = .ok (.getfield 23, 3) := by decide +kernel
theorem dX6_say_30 : decode cX6_say 30 = .ok (.getfield 116, 3) := by decide +kernel
theorem dX6_say_33 : decode cX6_say 33 = .ok (.goto 5, 3) := by decide +kernel
theorem dX6_say_36 : decode cX6_say 36 = .ok (.bipush (-4), 2) := by decide +kernel
theorem dX6_say_38 : decode cX6_say 38 = .ok (.ireturn, 1) := by decide +kernel
theorem dX6_wipe_0 : decode cX6_wipe 0 = .ok (.aload_n 0, 1) := by decide +kernel
theorem dX6_wipe_1 : decode cX6_wipe 1 = .ok (.getfield 23, 3) := by decide +kernel
theorem dX6_wipe_4 : decode cX6_wipe 4 = .ok (.invokevirtual 119, 3) := by decide +kernel
theorem dX6_wipe_7 : decode cX6_wipe 7 = .ok (.ireturn, 1) := by decide +kernel
theorem dX6_sixths_0 : decode cX6_sixths 0 = .ok (.iload_n 1, 1) := by decide +kernel
theorem dX6_sixths_1 : decode cX6_sixths 1 = .ok (.invokestatic 246, 3) := by decide +kernel
theorem dX6_sixths_4 : decode cX6_sixths 4 = .ok (.ifCond .eq 38, 3) := by decide +kernel
theorem dX6_sixths_7 : decode cX6_sixths 7 = .ok (.iload_n 2, 1) := by decide +kernel
theorem dX6_sixths_8 : decode cX6_sixths 8 = .ok (.invokestatic 246, 3) := by decide +kernel
theorem dX6_sixths_11 : decode cX6_sixths 11 = .ok (.ifCond .eq 31, 3) := by decide +kernel
theorem dX6_sixths_14 : decode cX6_sixths 14 = .ok (.iload_n 3, 1) := by decide +kernel
theorem dX6_sixths_15 : decode cX6_sixths 15 = .ok (.invokestatic 246, 3) := by decide +kernel
theorem dX6_sixths_18 : decode cX6_sixths 18 = .ok (.ifCond .eq 24, 3) := by decide +kernel
theorem dX6_sixths_21 : decode cX6_sixths 21 = .ok (.iload 4, 2) := by decide +kernel
theorem dX6_sixths_23 : decode cX6_sixths 23 = .ok (.invokestatic 246, 3) := by decide +kernel
theorem dX6_sixths_26 : decode cX6_sixths 26 = .ok (.ifCond .eq 16, 3) := by decide +kernel
theorem dX6_sixths_29 : decode cX6_sixths 29 = .ok (.iload_n 1, 1) := by decide +kernel
theorem dX6_sixths_30 : decode cX6_sixths 30 = .ok (.iload_n 2, 1) := by decide +kernel
theorem dX6_sixths_31 : decode cX6_sixths 31 = .ok (.iadd, 1) := by decide +kernel
theorem dX6_sixths_32 : decode cX6_sixths 32 = .ok (.iload_n 3, 1) := by decide +kernel
theorem dX6_sixths_33 : decode cX6_sixths 33 = .ok (.iadd, 1) := by decide +kernel
theorem dX6_sixths_34 : decode cX6_sixths 34 = .ok (.iload 4, 2) := by decide +kernel
theorem dX6_sixths_36 : decode cX6_sixths 36 = .ok (.iadd, 1) := by decide +kernel
theorem dX6_sixths_37 : decode cX6_sixths 37 = .ok (.bipush 6, 2) := by decide +kernel
theorem dX6_sixths_39 : decode cX6_sixths 39 = .ok (.if_icmp .eq 6, 3) := by decide +kernel
theorem dX6_sixths_42 : decode cX6_sixths 42 = .ok (.bipush (-2), 2) := by decide +kernel
theorem dX6_sixths_44 : decode cX6_sixths 44 = .ok (.ireturn, 1) := by decide +kernel
theorem dX6_sixths_45 : decode cX6_sixths 45 = .ok (.aload_n 0, 1) := by decide +kernel
theorem dX6_sixths_46 : decode cX6_sixths 46 = .ok (.getfield 10, 3) := by decide +kernel
theorem dX6_sixths_49 : decode cX6_sixths 49 = .ok (.getfield 249, 3) := by decide +kernel
theorem dX6_sixths_52 : decode cX6_sixths 52 = .ok (.iconst 0, 1) := by decide +kernel
theorem dX6_sixths_53 : decode cX6_sixths 53 = .ok (.iload_n 1, 1) := by decide +kernel
theorem dX6_sixths_54 : decode cX6_sixths 54 = .ok (.iastore, 1) := by decide +kernel
theorem dX6_sixths_55 : decode cX6_sixths 55 = .ok (.aload_n 0, 1) := by decide +kernel
theorem dX6_sixths_56 : decode cX6_sixths 56 = .ok (.getfield 10, 3) := by decide +kernel
theorem dX6_sixths_59 : decode cX6_sixths 59 = .ok (.getfield 249, 3) := by decide +kernel
theorem dX6_sixths_62 : decode cX6_sixths 62 = .ok (.iconst 1, 1) := by decide +kernel
theorem dX6_sixths_63 : decode cX6_sixths 63 = .ok (.iload_n 2, 1) := by decide +kernel
theorem dX6_sixths_64 : decode cX6_sixths 64 = .ok (.iastore, 1) := by decide +kernel
theorem dX6_sixths_65 : decode cX6_sixths 65 = .ok (.aload_n 0, 1) := by decide +kernel
theorem dX6_sixths_66 : decode cX6_sixths 66 = .ok (.getfield 10, 3) := by decide +kernel
theorem dX6_sixths_69 : decode cX6_sixths 69 = .ok (.getfield 249, 3) := by decide +kernel
theorem dX6_sixths_72 : decode cX6_sixths 72 = .ok (.iconst 2, 1) := by decide +kernel
theorem dX6_sixths_73 : decode cX6_sixths 73 = .ok (.iload_n 3, 1) := by decide +kernel
theorem dX6_sixths_74 : decode cX6_sixths 74 = .ok (.iastore, 1) := by decide +kernel
theorem dX6_sixths_75 : decode cX6_sixths 75 = .ok (.aload_n 0, 1) := by decide +kernel
theorem dX6_sixths_76 : decode cX6_sixths 76 = .ok (.getfield 10, 3) := by decide +kernel
theorem dX6_sixths_79 : decode cX6_sixths 79 = .ok (.getfield 249, 3) := by decide +kernel
theorem dX6_sixths_82 : decode cX6_sixths 82 = .ok (.iconst 3, 1) := by decide +kernel
theorem dX6_sixths_83 : decode cX6_sixths 83 = .ok (.iload 4, 2) := by decide +kernel
theorem dX6_sixths_85 : decode cX6_sixths 85 = .ok (.iastore, 1) := by decide +kernel
theorem dX6_sixths_86 : decode cX6_sixths 86 = .ok (.iconst 1, 1) := by decide +kernel
theorem dX6_sixths_87 : decode cX6_sixths 87 = .ok (.ireturn, 1) := by decide +kernel
theorem dX6_came_0 : decode cX6_came 0 = .ok (.aload_n 0, 1) := by decide +kernel
theorem dX6_came_1 : decode cX6_came 1 = .ok (.iload_n 1, 1) := by decide +kernel
theorem dX6_came_2 : decode cX6_came 2 = .ok (.invokevirtual 100, 3) := by decide +kernel
theorem dX6_came_5 : decode cX6_came 5 = .ok (.ifCond .eq 11, 3) := by decide +kernel
theorem dX6_came_8 : decode cX6_came 8 = .ok (.aload_n 0, 1) := by decide +kernel
theorem dX6_came_9 : decode cX6_came 9 = .ok (.iload_n 2, 1) := by decide +kernel
theorem dX6_came_10 : decode cX6_came 10 = .ok (.invokevirtual 100, 3) := by decide +kernel
theorem dX6_came_13 : decode cX6_came 13 = .ok (.ifCond .ne 6, 3) := by decide +kernel
theorem dX6_came_16 : decode cX6_came 16 = .ok (.bipush (-2), 2) := by decide +kernel
theorem dX6_came_18 : decode cX6_came 18 = .ok (.ireturn, 1) := by decide +kernel
theorem dX6_came_19 : decode cX6_came 19 = .ok (.aload_n 0, 1) := by decide +kernel
theorem dX6_came_20 : decode cX6_came 20 = .ok (.getfield 10, 3) := by decide +kernel
theorem dX6_came_23 : decode cX6_came 23 = .ok (.getfield 274, 3) := by decide +kernel
theorem dX6_came_26 : decode cX6_came 26 = .ok (.istore_n 3, 1) := by decide +kernel
theorem dX6_came_27 : decode cX6_came 27 = .ok (.iload_n 3, 1) := by decide +kernel
theorem dX6_came_28 : decode cX6_came 28 = .ok (.ifCond .lt 9, 3) := by decide +kernel
theorem dX6_came_31 : decode cX6_came 31 = .ok (.iload_n 3, 1) := by decide +kernel
theorem dX6_came_32 : decode cX6_came 32 = .ok (.bipush 6, 2) := by decide +kernel
theorem dX6_came_34 : decode cX6_came 34 = .ok (.if_icmp .lt 6, 3) := by decide +kernel
theorem dX6_came_37 : decode cX6_came 37 = .ok (.bipush (-4), 2) := by decide +kernel
theorem dX6_came_39 : decode cX6_came 39 = .ok (.ireturn, 1) := by decide +kernel
theorem dX6_came_40 : decode cX6_came 40 = .ok (.aload_n 0, 1) := by decide +kernel
theorem dX6_came_41 : decode cX6_came 41 = .ok (.getfield 10, 3) := by decide +kernel
theorem dX6_came_44 : decode cX6_came 44 = .ok (.getfield 277, 3) := by decide +kernel
theorem dX6_came_47 : decode cX6_came 47 = .ok (.iload_n 3, 1) := by decide +kernel
theorem dX6_came_48 : decode cX6_came 48 = .ok (.iload_n 1, 1) := by decide +kernel
theorem dX6_came_49 : decode cX6_came 49 = .ok (.iastore, 1) := by decide +kernel
theorem dX6_came_50 : decode cX6_came 50 = .ok (.aload_n 0, 1) := by decide +kernel
theorem dX6_came_51 : decode cX6_came 51 = .ok (.getfield 10, 3) := by decide +kernel
theorem dX6_came_54 : decode cX6_came 54 = .ok (.getfield 280, 3) := by decide +kernel
theorem dX6_came_57 : decode cX6_came 57 = .ok (.iload_n 3, 1) := by decide +kernel
theorem dX6_came_58 : decode cX6_came 58 = .ok (.iload_n 2, 1) := by decide +kernel
theorem dX6_came_59 : decode cX6_came 59 = .ok (.iastore, 1) := by decide +kernel
theorem dX6_came_60 : decode cX6_came 60 = .ok (.aload_n 0, 1) := by decide +kernel
theorem dX6_came_61 : decode cX6_came 61 = .ok (.getfield 10, 3) := by decide +kernel
theorem dX6_came_64 : decode cX6_came 64 = .ok (.iload_n 3, 1) := by decide +kernel
theorem dX6_came_65 : decode cX6_came 65 = .ok (.iconst 1, 1) := by decide +kernel
theorem dX6_came_66 : decode cX6_came 66 = .ok (.iadd, 1) := by decide +kernel
theorem dX6_came_67 : decode cX6_came 67 = .ok (.putfield 274, 3) := by decide +kernel
theorem dX6_came_70 : decode cX6_came 70 = .ok (.aload_n 0, 1) := by decide +kernel
theorem dX6_came_71 : decode cX6_came 71 = .ok (.getfield 10, 3) := by decide +kernel
theorem dX6_came_74 : decode cX6_came 74 = .ok (.getfield 274, 3) := by decide +kernel
theorem dX6_came_77 : decode cX6_came 77 = .ok (.ireturn, 1) := by decide +kernel
theorem dX6_forget_0 : decode cX6_forget 0 = .ok (.aload_n 0, 1) := by decide +kernel
theorem dX6_forget_1 : decode cX6_forget 1 = .ok (.getfield 10, 3) := by decide +kernel
theorem dX6_forget_4 : decode cX6_forget 4 = .ok (.getfield 258, 3) := by decide +kernel
theorem dX6_forget_7 : decode cX6_forget 7 = .ok (.aload_n 0, 1) := by decide +kernel
theorem dX6_forget_8 : decode cX6_forget 8 = .ok (.getfield 10, 3) := by decide +kernel
theorem dX6_forget_11 : decode cX6_forget 11 = .ok (.getfield 274, 3) := by decide +kernel
theorem dX6_forget_14 : decode cX6_forget 14 = .ok (.iadd, 1) := by decide +kernel
theorem dX6_forget_15 : decode cX6_forget 15 = .ok (.istore_n 1, 1) := by decide +kernel
theorem dX6_forget_16 : decode cX6_forget 16 = .ok (.aload_n 0, 1) := by decide +kernel
theorem dX6_forget_17 : decode cX6_forget 17 = .ok (.getfield 10, 3) := by decide +kernel
theorem dX6_forget_20 : decode cX6_forget 20 = .ok (.invokevirtual 286, 3) := by decide +kernel
theorem dX6_forget_23 : decode cX6_forget 23 = .ok (.iload_n 1, 1) := by decide +kernel
theorem dX6_forget_24 : decode cX6_forget 24 = .ok (.ireturn, 1) := by decide +kernel
theorem dX4_forgetSights_0 : decode cX4_forgetSights 0 = .ok (.aload_n 0, 1) := by decide +kernel
theorem dX4_forgetSights_1 : decode cX4_forgetSights 1 = .ok (.iconst 0, 1) := by decide +kernel
theorem dX4_forgetSights_2 : decode cX4_forgetSights 2 = .ok (.putfield 64, 3) := by decide +kernel
theorem dX4_forgetSights_5 : decode cX4_forgetSights 5 = .ok (.aload_n 0, 1) := by decide +kernel
theorem dX4_forgetSights_6 : decode cX4_forgetSights 6 = .ok (.iconst 0, 1) := by decide +kernel
theorem dX4_forgetSights_7 : decode cX4_forgetSights 7 = .ok (.putfield 67, 3) := by decide +kernel
theorem dX4_forgetSights_10 : decode cX4_forgetSights 10 = .ok (.iconst 0, 1) := by decide +kernel
theorem dX4_forgetSights_11 : decode cX4_forgetSights 11 = .ok (.istore_n 1, 1) := by decide +kernel
theorem dX4_forgetSights_12 : decode cX4_forgetSights 12 = .ok (.iload_n 1, 1) := by decide +kernel
theorem dX4_forgetSights_13 : decode cX4_forgetSights 13 = .ok (.bipush 12, 2) := by decide +kernel
theorem dX4_forgetSights_15 : decode cX4_forgetSights 15 = .ok (.if_icmp .ge 18, 3) := by decide +kernel
theorem dX4_forgetSights_18 : decode cX4_forgetSights 18 = .ok (.aload_n 0, 1) := by decide +kernel
theorem dX4_forgetSights_19 : decode cX4_forgetSights 19 = .ok (.getfield 24, 3) := by decide +kernel
theorem dX4_forgetSights_22 : decode cX4_forgetSights 22 = .ok (.iload_n 1, 1) := by decide +kernel
theorem dX4_forgetSights_23 : decode cX4_forgetSights 23 = .ok (.ldc2_w 70, 3) := by decide +kernel
theorem dX4_forgetSights_26 : decode cX4_forgetSights 26 = .ok (.lastore, 1) := by decide +kernel
theorem dX4_forgetSights_27 : decode cX4_forgetSights 27 = .ok (.iinc 1 1, 3) := by decide +kernel
theorem dX4_forgetSights_30 : decode cX4_forgetSights 30 = .ok (.goto (-18), 3) := by decide +kernel
theorem dX4_forgetSights_33 : decode cX4_forgetSights 33 = .ok (.return_, 1) := by decide +kernel
theorem dX6_enact_0 : decode cX6_enact 0 = .ok (.aload_n 0, 1) := by decide +kernel
theorem dX6_enact_1 : decode cX6_enact 1 = .ok (.invokevirtual 127, 3) := by decide +kernel
theorem dX6_enact_4 : decode cX6_enact 4 = .ok (.ifCond .eq 6, 3) := by decide +kernel
theorem dX6_enact_7 : decode cX6_enact 7 = .ok (.bipush (-5), 2) := by decide +kernel
theorem dX6_enact_9 : decode cX6_enact 9 = .ok (.ireturn, 1) := by decide +kernel
theorem dX6_enact_10 : decode cX6_enact 10 = .ok (.aload_n 0, 1) := by decide +kernel
theorem dX6_enact_11 : decode cX6_enact 11 = .ok (.getfield 10, 3) := by decide +kernel
theorem dX6_enact_14 : decode cX6_enact 14 = .ok (.aload_n 0, 1) := by decide +kernel
theorem dX6_enact_15 : decode cX6_enact 15 = .ok (.getfield 23, 3) := by decide +kernel
theorem dX6_enact_18 : decode cX6_enact 18 = .ok (.aload_n 0, 1) := by decide +kernel
theorem dX6_enact_19 : decode cX6_enact 19 = .ok (.getfield 10, 3) := by decide +kernel
theorem dX6_enact_22 : decode cX6_enact 22 = .ok (.getfield 103, 3) := by decide +kernel
theorem dX6_enact_25 : decode cX6_enact 25 = .ok (.invokevirtual 131, 3) := by decide +kernel
theorem dX6_enact_28 : decode cX6_enact 28 = .ok (.aload_n 0, 1) := by decide +kernel
theorem dX6_enact_29 : decode cX6_enact 29 = .ok (.getfield 10, 3) := by decide +kernel
theorem dX6_enact_32 : decode cX6_enact 32 = .ok (.invokevirtual 135, 3) := by decide +kernel
theorem dX6_enact_35 : decode cX6_enact 35 = .ok (.land, 1) := by decide +kernel
theorem dX6_enact_36 : decode cX6_enact 36 = .ok (.putfield 139, 3) := by decide +kernel
theorem dX6_enact_39 : decode cX6_enact 39 = .ok (.aload_n 0, 1) := by decide +kernel
theorem dX6_enact_40 : decode cX6_enact 40 = .ok (.getfield 23, 3) := by decide +kernel
theorem dX6_enact_43 : decode cX6_enact 43 = .ok (.invokevirtual 119, 3) := by decide +kernel
theorem dX6_enact_46 : decode cX6_enact 46 = .ok (.ireturn, 1) := by decide +kernel
theorem dX4_remember_0 : decode cX4_remember 0 = .ok (.aload_n 0, 1) := by decide +kernel
theorem dX4_remember_1 : decode cX4_remember 1 = .ok (.getfield 58, 3) := by decide +kernel
theorem dX4_remember_4 : decode cX4_remember 4 = .ok (.bipush 16, 2) := by decide +kernel
theorem dX4_remember_6 : decode cX4_remember 6 = .ok (.if_icmp .lt 24, 3) := by decide +kernel
theorem dX4_remember_9 : decode cX4_remember 9 = .ok (.aload_n 0, 1) := by decide +kernel
theorem dX4_remember_10 : decode cX4_remember 10 = .ok (.getfield 21, 3) := by decide +kernel
theorem dX4_remember_13 : decode cX4_remember 13 = .ok (.iconst 1, 1) := by decide +kernel
theorem dX4_remember_14 : decode cX4_remember 14 = .ok (.aload_n 0, 1) := by decide +kernel
theorem dX4_remember_15 : decode cX4_remember 15 = .ok (.getfield 21, 3) := by decide +kernel
theorem dX4_remember_18 : decode cX4_remember 18 = .ok (.iconst 0, 1) := by decide +kernel
theorem dX4_remember_19 : decode cX4_remember 19 = .ok (.bipush 15, 2) := by decide +kernel
theorem dX4_remember_21 : decode cX4_remember 21 = .ok (.invokestatic 72, 3) := by decide +kernel
theorem dX4_remember_24 : decode cX4_remember 24 = .ok (.aload_n 0, 1) := by decide +kernel
theorem dX4_remember_25 : decode cX4_remember 25 = .ok (.bipush 15, 2) := by decide +kernel
theorem dX4_remember_27 : decode cX4_remember 27 = .ok (.putfield 58, 3) := by decide +kernel
theorem dX4_remember_30 : decode cX4_remember 30 = .ok (.aload_n 0, 1) := by decide +kernel
theorem dX4_remember_31 : decode cX4_remember 31 = .ok (.getfield 21, 3) := by decide +kernel
theorem dX4_remember_34 : decode cX4_remember 34 = .ok (.aload_n 0, 1) := by decide +kernel
theorem dX4_remember_35 : decode cX4_remember 35 = .ok (.getfield 58, 3) := by decide +kernel
theorem dX4_remember_38 : decode cX4_remember 38 = .ok (.iload_n 1, 1) := by decide +kernel
theorem dX4_remember_39 : decode cX4_remember 39 = .ok (.iastore, 1) := by decide +kernel
theorem dX4_remember_40 : decode cX4_remember 40 = .ok (.aload_n 0, 1) := by decide +kernel
theorem dX4_remember_41 : decode cX4_remember 41 = .ok (.dup, 1) := by decide +kernel
theorem dX4_remember_42 : decode cX4_remember 42 = .ok (.getfield 58, 3) := by decide +kernel
theorem dX4_remember_45 : decode cX4_remember 45 = .ok (.iconst 1, 1) := by decide +kernel
theorem dX4_remember_46 : decode cX4_remember 46 = .ok (.iadd, 1) := by decide +kernel
theorem dX4_remember_47 : decode cX4_remember 47 = .ok (.putfield 58, 3) := by decide +kernel
theorem dX4_remember_50 : decode cX4_remember 50 = .ok (.return_, 1) := by decide +kernel
theorem dX6_grant_0 : decode cX6_grant 0 = .ok (.aload_n 0, 1) := by decide +kernel
theorem dX6_grant_1 : decode cX6_grant 1 = .ok (.invokevirtual 155, 3) := by decide +kernel
theorem dX6_grant_4 : decode cX6_grant 4 = .ok (.istore_n 1, 1) := by decide +kernel
theorem dX6_grant_5 : decode cX6_grant 5 = .ok (.iload_n 1, 1) := by decide +kernel
theorem dX6_grant_6 : decode cX6_grant 6 = .ok (.ifCond .ge 5, 3) := by decide +kernel
theorem dX6_grant_9 : decode cX6_grant 9 = .ok (.iload_n 1, 1) := by decide +kernel
theorem dX6_grant_10 : decode cX6_grant 10 = .ok (.ireturn, 1) := by decide +kernel
theorem dX6_grant_11 : decode cX6_grant 11 = .ok (.aload_n 0, 1) := by decide +kernel
theorem dX6_grant_12 : decode cX6_grant 12 = .ok (.getfield 10, 3) := by decide +kernel
theorem dX6_grant_15 : decode cX6_grant 15 = .ok (.aload_n 0, 1) := by decide +kernel
theorem dX6_grant_16 : decode cX6_grant 16 = .ok (.getfield 10, 3) := by decide +kernel
theorem dX6_grant_19 : decode cX6_grant 19 = .ok (.getfield 103, 3) := by decide +kernel
theorem dX6_grant_22 : decode cX6_grant 22 = .ok (.invokevirtual 176, 3) := by decide +kernel
theorem dX6_grant_25 : decode cX6_grant 25 = .ok (.aload_n 0, 1) := by decide +kernel
theorem dX6_grant_26 : decode cX6_grant 26 = .ok (.getfield 10, 3) := by decide +kernel
theorem dX6_grant_29 : decode cX6_grant 29 = .ok (.iload_n 1, 1) := by decide +kernel
theorem dX6_grant_30 : decode cX6_grant 30 = .ok (.putfield 103, 3) := by decide +kernel
theorem dX6_grant_33 : decode cX6_grant 33 = .ok (.aload_n 0, 1) := by decide +kernel
theorem dX6_grant_34 : decode cX6_grant 34 = .ok (.getfield 23, 3) := by decide +kernel
theorem dX6_grant_37 : decode cX6_grant 37 = .ok (.invokevirtual 119, 3) := by decide +kernel
theorem dX6_grant_40 : decode cX6_grant 40 = .ok (.pop, 1) := by decide +kernel
theorem dX6_grant_41 : decode cX6_grant 41 = .ok (.iload_n 1, 1) := by decide +kernel
theorem dX6_grant_42 : decode cX6_grant 42 = .ok (.ireturn, 1) := by decide +kernel
theorem dX6_undo_0 : decode cX6_undo 0 = .ok (.aload_n 0, 1) := by decide +kernel
theorem dX6_undo_1 : decode cX6_undo 1 = .ok (.getfield 10, 3) := by decide +kernel
theorem dX6_undo_4 : decode cX6_undo 4 = .ok (.getfield 106, 3) := by decide +kernel
theorem dX6_undo_7 : decode cX6_undo 7 = .ok (.ifCond .le 15, 3) := by decide +kernel
theorem dX6_undo_10 : decode cX6_undo 10 = .ok (.aload_n 0, 1) := by decide +kernel
theorem dX6_undo_11 : decode cX6_undo 11 = .ok (.getfield 10, 3) := by decide +kernel
theorem dX6_undo_14 : decode cX6_undo 14 = .ok (.getfield 106, 3) := by decide +kernel
theorem dX6_undo_17 : decode cX6_undo 17 = .ok (.bipush 16, 2) := by decide +kernel
theorem dX6_undo_19 : decode cX6_undo 19 = .ok (.if_icmp .le 6, 3) := by decide +kernel
theorem dX6_undo_22 : decode cX6_undo 22 = .ok (.bipush (-3), 2) := by decide +kernel
theorem dX6_undo_24 : decode cX6_undo 24 = .ok (.ireturn, 1) := by decide +kernel
theorem dX6_undo_25 : decode cX6_undo 25 = .ok (.aload_n 0, 1) := by decide +kernel
theorem dX6_undo_26 : decode cX6_undo 26 = .ok (.getfield 10, 3) := by decide +kernel
theorem dX6_undo_29 : decode cX6_undo 29 = .ok (.dup, 1) := by decide +kernel
theorem dX6_undo_30 : decode cX6_undo 30 = .ok (.getfield 106, 3) := by decide +kernel
theorem dX6_undo_33 : decode cX6_undo 33 = .ok (.iconst 1, 1) := by decide +kernel
theorem dX6_undo_34 : decode cX6_undo 34 = .ok (.isub, 1) := by decide +kernel
theorem dX6_undo_35 : decode cX6_undo 35 = .ok (.putfield 106, 3) := by decide +kernel
theorem dX6_undo_38 : decode cX6_undo 38 = .ok (.aload_n 0, 1) := by decide +kernel
theorem dX6_undo_39 : decode cX6_undo 39 = .ok (.getfield 10, 3) := by decide +kernel
theorem dX6_undo_42 : decode cX6_undo 42 = .ok (.aload_n 0, 1) := by decide +kernel
theorem dX6_undo_43 : decode cX6_undo 43 = .ok (.getfield 10, 3) := by decide +kernel
theorem dX6_undo_46 : decode cX6_undo 46 = .ok (.getfield 179, 3) := by decide +kernel
theorem dX6_undo_49 : decode cX6_undo 49 = .ok (.aload_n 0, 1) := by decide +kernel
theorem dX6_undo_50 : decode cX6_undo 50 = .ok (.getfield 10, 3) := by decide +kernel
theorem dX6_undo_53 : decode cX6_undo 53 = .ok (.getfield 106, 3) := by decide +kernel
theorem dX6_undo_56 : decode cX6_undo 56 = .ok (.iaload, 1) := by decide +kernel
theorem dX6_undo_57 : decode cX6_undo 57 = .ok (.putfield 103, 3) := by decide +kernel
theorem dX6_undo_60 : decode cX6_undo 60 = .ok (.aload_n 0, 1) := by decide +kernel
theorem dX6_undo_61 : decode cX6_undo 61 = .ok (.getfield 10, 3) := by decide +kernel
theorem dX6_undo_64 : decode cX6_undo 64 = .ok (.getfield 103, 3) := by decide +kernel
theorem dX6_undo_67 : decode cX6_undo 67 = .ok (.ireturn, 1) := by decide +kernel
theorem dX6_term_0 : decode cX6_term 0 = .ok (.iload_n 1, 1) := by decide +kernel
theorem dX6_term_1 : decode cX6_term 1 = .ok (.ifCond .lt 14, 3) := by decide +kernel
theorem dX6_term_4 : decode cX6_term 4 = .ok (.iload_n 1, 1) := by decide +kernel
theorem dX6_term_5 : decode cX6_term 5 = .ok (.aload_n 0, 1) := by decide +kernel
theorem dX6_term_6 : decode cX6_term 6 = .ok (.getfield 33, 3) := by decide +kernel
theorem dX6_term_9 : decode cX6_term 9 = .ok (.getfield 211, 3) := by decide +kernel
theorem dX6_term_12 : decode cX6_term 12 = .ok (.if_icmp .lt 6, 3) := by decide +kernel
theorem dX6_term_15 : decode cX6_term 15 = .ok (.bipush (-2), 2) := by decide +kernel
theorem dX6_term_17 : decode cX6_term 17 = .ok (.ireturn, 1) := by decide +kernel
theorem dX6_term_18 : decode cX6_term 18 = .ok (.aload_n 0, 1) := by decide +kernel
theorem dX6_term_19 : decode cX6_term 19 = .ok (.getfield 42, 3) := by decide +kernel
theorem dX6_term_22 : decode cX6_term 22 = .ok (.invokevirtual 182, 3) := by decide +kernel
theorem dX6_term_25 : decode cX6_term 25 = .ok (.aload_n 0, 1) := by decide +kernel
theorem dX6_term_26 : decode cX6_term 26 = .ok (.getfield 42, 3) := by decide +kernel
theorem dX6_term_29 : decode cX6_term 29 = .ok (.iload_n 1, 1) := by decide +kernel
theorem dX6_term_30 : decode cX6_term 30 = .ok (.aload_n 0, 1) := by decide +kernel
theorem dX6_term_31 : decode cX6_term 31 = .ok (.getfield 10, 3) := by decide +kernel
theorem dX6_term_34 : decode cX6_term 34 = .ok (.getfield 103, 3) := by decide +kernel
theorem dX6_term_37 : decode cX6_term 37 = .ok (.invokevirtual 212, 3) := by decide +kernel
theorem dX6_term_40 : decode cX6_term 40 = .ok (.ireturn, 1) := by decide +kernel
theorem dX6_told_0 : decode cX6_told 0 = .ok (.iload_n 1, 1) := by decide +kernel
theorem dX6_told_1 : decode cX6_told 1 = .ok (.ifCond .lt 9, 3) := by decide +kernel
theorem dX6_told_4 : decode cX6_told 4 = .ok (.iload_n 1, 1) := by decide +kernel
theorem dX6_told_5 : decode cX6_told 5 = .ok (.bipush 69, 2) := by decide +kernel
theorem dX6_told_7 : decode cX6_told 7 = .ok (.if_icmp .le 6, 3) := by decide +kernel
theorem dX6_told_10 : decode cX6_told 10 = .ok (.bipush (-2), 2) := by decide +kernel
theorem dX6_told_12 : decode cX6_told 12 = .ok (.ireturn, 1) := by decide +kernel
theorem dX6_told_13 : decode cX6_told 13 = .ok (.iload_n 1, 1) := by decide +kernel
theorem dX6_told_14 : decode cX6_told 14 = .ok (.bipush 10, 2) := by decide +kernel
theorem dX6_told_16 : decode cX6_told 16 = .ok (.if_icmp .ge 9, 3) := by decide +kernel
theorem dX6_told_19 : decode cX6_told 19 = .ok (.aload_n 0, 1) := by decide +kernel
theorem dX6_told_20 : decode cX6_told 20 = .ok (.iload_n 1, 1) := by decide +kernel
theorem dX6_told_21 : decode cX6_told 21 = .ok (.invokevirtual 304, 3) := by decide +kernel
theorem dX6_told_24 : decode cX6_told 24 = .ok (.ireturn, 1) := by decide +kernel
theorem dX6_told_25 : decode cX6_told 25 = .ok (.iload_n 1, 1) := by decide +kernel
theorem dX6_told_26 : decode cX6_told 26 = .ok (.bipush 10, 2) := by decide +kernel
theorem dX6_told_28 : decode cX6_told 28 = .ok (.idiv, 1) := by decide +kernel
theorem dX6_told_29 : decode cX6_told 29 = .ok (.istore_n 2, 1) := by decide +kernel
theorem dX6_told_30 : decode cX6_told 30 = .ok (.iload_n 1, 1) := by decide +kernel
theorem dX6_told_31 : decode cX6_told 31 = .ok (.bipush 10, 2) := by decide +kernel
theorem dX6_told_33 : decode cX6_told 33 = .ok (.irem, 1) := by decide +kernel
theorem dX6_told_34 : decode cX6_told 34 = .ok (.istore_n 3, 1) := by decide +kernel
theorem dX6_told_35 : decode cX6_told 35 = .ok (.iload_n 2, 1) := by decide +kernel
theorem dX6_told_36 : decode cX6_told 36 = .ok (.iconst 1, 1) := by decide +kernel
theorem dX6_told_37 : decode cX6_told 37 = .ok (.if_icmp .ne 30, 3) := by decide +kernel
theorem dX6_told_40 : decode cX6_told 40 = .ok (.aload_n 0, 1) := by decide +kernel
theorem dX6_told_41 : decode cX6_told 41 = .ok (.iload_n 3, 1) := by decide +kernel
theorem dX6_told_42 : decode cX6_told 42 = .ok (.invokevirtual 82, 3) := by decide +kernel
theorem dX6_told_45 : decode cX6_told 45 = .ok (.ifCond .eq 19, 3) := by decide +kernel
theorem dX6_told_48 : decode cX6_told 48 = .ok (.aload_n 0, 1) := by decide +kernel
theorem dX6_told_49 : decode cX6_told 49 = .ok (.getfield 10, 3) := by decide +kernel
theorem dX6_told_52 : decode cX6_told 52 = .ok (.getfield 88, 3) := by decide +kernel
theorem dX6_told_55 : decode cX6_told 55 = .ok (.iload_n 3, 1) := by decide +kernel
theorem dX6_told_56 : decode cX6_told 56 = .ok (.iaload, 1) := by decide +kernel
theorem dX6_told_57 : decode cX6_told 57 = .ok (.sipush 1000, 3) := by decide +kernel
theorem dX6_told_60 : decode cX6_told 60 = .ok (.iadd, 1) := by decide +kernel
theorem dX6_told_61 : decode cX6_told 61 = .ok (.goto 5, 3) := by decide +kernel
theorem dX6_told_64 : decode cX6_told 64 = .ok (.bipush (-2), 2) := by decide +kernel
theorem dX6_told_66 : decode cX6_told 66 = .ok (.ireturn, 1) := by decide +kernel
theorem dX6_told_67 : decode cX6_told 67 = .ok (.iload_n 2, 1) := by decide +kernel
theorem dX6_told_68 : decode cX6_told 68 = .ok (.iconst 2, 1) := by decide +kernel
theorem dX6_told_69 : decode cX6_told 69 = .ok (.if_icmp .ne 25, 3) := by decide +kernel
theorem dX6_told_72 : decode cX6_told 72 = .ok (.iload_n 3, 1) := by decide +kernel
theorem dX6_told_73 : decode cX6_told 73 = .ok (.invokestatic 78, 3) := by decide +kernel
theorem dX6_told_76 : decode cX6_told 76 = .ok (.ifCond .eq 15, 3) := by decide +kernel
theorem dX6_told_79 : decode cX6_told 79 = .ok (.aload_n 0, 1) := by decide +kernel
theorem dX6_told_80 : decode cX6_told 80 = .ok (.getfield 10, 3) := by decide +kernel
theorem dX6_told_83 : decode cX6_told 83 = .ok (.getfield 249, 3) := by decide +kernel
theorem dX6_told_86 : decode cX6_told 86 = .ok (.iload_n 3, 1) := by decide +kernel
theorem dX6_told_87 : decode cX6_told 87 = .ok (.iaload, 1) := by decide +kernel
theorem dX6_told_88 : decode cX6_told 88 = .ok (.goto 5, 3) := by decide +kernel
theorem dX6_told_91 : decode cX6_told 91 = .ok (.bipush (-2), 2) := by decide +kernel
theorem dX6_told_93 : decode cX6_told 93 = .ok (.ireturn, 1) := by decide +kernel
theorem dX6_told_94 : decode cX6_told 94 = .ok (.iload_n 2, 1) := by decide +kernel
theorem dX6_told_95 : decode cX6_told 95 = .ok (.iconst 3, 1) := by decide +kernel
theorem dX6_told_96 : decode cX6_told 96 = .ok (.isub, 1) := by decide +kernel
theorem dX6_told_97 : decode cX6_told 97 = .ok (.istore 4, 2) := by decide +kernel
theorem dX6_told_99 : decode cX6_told 99 = .ok (.iload 4, 2) := by decide +kernel
theorem dX6_told_101 : decode cX6_told 101 = .ok (.invokestatic 78, 3) := by decide +kernel
theorem dX6_told_104 : decode cX6_told 104 = .ok (.ifCond .eq 11, 3) := by decide +kernel
theorem dX6_told_107 : decode cX6_told 107 = .ok (.aload_n 0, 1) := by decide +kernel
theorem dX6_told_108 : decode cX6_told 108 = .ok (.iload_n 3, 1) := by decide +kernel
theorem dX6_told_109 : decode cX6_told 109 = .ok (.invokevirtual 82, 3) := by decide +kernel
theorem dX6_told_112 : decode cX6_told 112 = .ok (.ifCond .ne 6, 3) := by decide +kernel
theorem dX6_told_115 : decode cX6_told 115 = .ok (.bipush (-2), 2) := by decide +kernel
theorem dX6_told_117 : decode cX6_told 117 = .ok (.ireturn, 1) := by decide +kernel
theorem dX6_told_118 : decode cX6_told 118 = .ok (.aload_n 0, 1) := by decide +kernel
theorem dX6_told_119 : decode cX6_told 119 = .ok (.getfield 10, 3) := by decide +kernel
theorem dX6_told_122 : decode cX6_told 122 = .ok (.getfield 85, 3) := by decide +kernel
theorem dX6_told_125 : decode cX6_told 125 = .ok (.iload 4, 2) := by decide +kernel
theorem dX6_told_127 : decode cX6_told 127 = .ok (.bipush 6, 2) := by decide +kernel
theorem dX6_told_129 : decode cX6_told 129 = .ok (.imul, 1) := by decide +kernel
theorem dX6_told_130 : decode cX6_told 130 = .ok (.iload_n 3, 1) := by decide +kernel
theorem dX6_told_131 : decode cX6_told 131 = .ok (.iadd, 1) := by decide +kernel
theorem dX6_told_132 : decode cX6_told 132 = .ok (.iaload, 1) := by decide +kernel
theorem dX6_told_133 : decode cX6_told 133 = .ok (.sipush 1000, 3) := by decide +kernel
theorem dX6_told_136 : decode cX6_told 136 = .ok (.iadd, 1) := by decide +kernel
theorem dX6_told_137 : decode cX6_told 137 = .ok (.ireturn, 1) := by decide +kernel
theorem dX6_toldPlain_0 : decode cX6_toldPlain 0 = .ok (.iload_n 1, 1) := by decide +kernel
theorem dX6_toldPlain_1 : decode cX6_toldPlain 1 = .ok (.tableswitch 123 0 8 #[51, 59, 67, 75, 83, 91, 99, 107, 115], 51) := by decide +kernel
theorem dX6_toldPlain_52 : decode cX6_toldPlain 52 = .ok (.aload_n 0, 1) := by decide +kernel
theorem dX6_toldPlain_53 : decode cX6_toldPlain 53 = .ok (.getfield 23, 3) := by decide +kernel
theorem dX6_toldPlain_56 : decode cX6_toldPlain 56 = .ok (.getfield 116, 3) := by decide +kernel
theorem dX6_toldPlain_59 : decode cX6_toldPlain 59 = .ok (.ireturn, 1) := by decide +kernel
theorem dX6_toldPlain_60 : decode cX6_toldPlain 60 = .ok (.aload_n 0, 1) := by decide +kernel
theorem dX6_toldPlain_61 : decode cX6_toldPlain 61 = .ok (.getfield 10, 3) := by decide +kernel
theorem dX6_toldPlain_64 : decode cX6_toldPlain 64 = .ok (.getfield 74, 3) := by decide +kernel
theorem dX6_toldPlain_67 : decode cX6_toldPlain 67 = .ok (.ireturn, 1) := by decide +kernel
theorem dX6_toldPlain_68 : decode cX6_toldPlain 68 = .ok (.aload_n 0, 1) := by decide +kernel
theorem dX6_toldPlain_69 : decode cX6_toldPlain 69 = .ok (.getfield 10, 3) := by decide +kernel
theorem dX6_toldPlain_72 : decode cX6_toldPlain 72 = .ok (.getfield 103, 3) := by decide +kernel
theorem dX6_toldPlain_75 : decode cX6_toldPlain 75 = .ok (.ireturn, 1) := by decide +kernel
theorem dX6_toldPlain_76 : decode cX6_toldPlain 76 = .ok (.aload_n 0, 1) := by decide +kernel
theorem dX6_toldPlain_77 : decode cX6_toldPlain 77 = .ok (.getfield 10, 3) := by decide +kernel
theorem dX6_toldPlain_80 : decode cX6_toldPlain 80 = .ok (.getfield 91, 3) := by decide +kernel
theorem dX6_toldPlain_83 : decode cX6_toldPlain 83 = .ok (.ireturn, 1) := by decide +kernel
theorem dX6_toldPlain_84 : decode cX6_toldPlain 84 = .ok (.aload_n 0, 1) := by decide +kernel
theorem dX6_toldPlain_85 : decode cX6_toldPlain 85 = .ok (.getfield 10, 3) := by decide +kernel
theorem dX6_toldPlain_88 : decode cX6_toldPlain 88 = .ok (.getfield 94, 3) := by decide +kernel
theorem dX6_toldPlain_91 : decode cX6_toldPlain 91 = .ok (.ireturn, 1) := by decide +kernel
theorem dX6_toldPlain_92 : decode cX6_toldPlain 92 = .ok (.aload_n 0, 1) := by decide +kernel
theorem dX6_toldPlain_93 : decode cX6_toldPlain 93 = .ok (.getfield 10, 3) := by decide +kernel
theorem dX6_toldPlain_96 : decode cX6_toldPlain 96 = .ok (.getfield 97, 3) := by decide +kernel
theorem dX6_toldPlain_99 : decode cX6_toldPlain 99 = .ok (.ireturn, 1) := by decide +kernel
theorem dX6_toldPlain_100 : decode cX6_toldPlain 100 = .ok (.aload_n 0, 1) := by decide +kernel
theorem dX6_toldPlain_101 : decode cX6_toldPlain 101 = .ok (.getfield 10, 3) := by decide +kernel
theorem dX6_toldPlain_104 : decode cX6_toldPlain 104 = .ok (.getfield 106, 3) := by decide +kernel
theorem dX6_toldPlain_107 : decode cX6_toldPlain 107 = .ok (.ireturn, 1) := by decide +kernel
theorem dX6_toldPlain_108 : decode cX6_toldPlain 108 = .ok (.aload_n 0, 1) := by decide +kernel
theorem dX6_toldPlain_109 : decode cX6_toldPlain 109 = .ok (.getfield 10, 3) := by decide +kernel
theorem dX6_toldPlain_112 : decode cX6_toldPlain 112 = .ok (.getfield 258, 3) := by decide +kernel
theorem dX6_toldPlain_115 : decode cX6_toldPlain 115 = .ok (.ireturn, 1) := by decide +kernel
theorem dX6_toldPlain_116 : decode cX6_toldPlain 116 = .ok (.aload_n 0, 1) := by decide +kernel
theorem dX6_toldPlain_117 : decode cX6_toldPlain 117 = .ok (.getfield 10, 3) := by decide +kernel
theorem dX6_toldPlain_120 : decode cX6_toldPlain 120 = .ok (.getfield 274, 3) := by decide +kernel
theorem dX6_toldPlain_123 : decode cX6_toldPlain 123 = .ok (.ireturn, 1) := by decide +kernel
theorem dX6_toldPlain_124 : decode cX6_toldPlain 124 = .ok (.aload_n 0, 1) := by decide +kernel
theorem dX6_toldPlain_125 : decode cX6_toldPlain 125 = .ok (.getfield 10, 3) := by decide +kernel
theorem dX6_toldPlain_128 : decode cX6_toldPlain 128 = .ok (.getfield 139, 3) := by decide +kernel
theorem dX6_toldPlain_131 : decode cX6_toldPlain 131 = .ok (.invokestatic 146, 3) := by decide +kernel
theorem dX6_toldPlain_134 : decode cX6_toldPlain 134 = .ok (.ireturn, 1) := by decide +kernel
def shC (f : Nat → Int32) : Nat → Int32 := va_cpy f f 1 0 15
theorem inb_cases {v lo hi : Int32} (h : inb v lo hi = false) : v < lo ∨ hi < v := by
  simp only [inb, Bool.and_eq_false_iff, decide_eq_false_iff_not, i_le, i_lt] at *
  omega
section CLS8
variable {xl : Nat} {xs : Nat → Int32} {n : Nat} {h : Nat → PC} {I S : Nat → Nat → Int32} {J T : Nat → Nat → Int64} {X : Nat → Option Nat} {t sl wy wi he sg : Nat}
theorem k_X6_now_f (hn : 49 ≤ n) (hk : KI I J t sl wy wi he) {v : Int32} (hv : inb v 0 (nI (2 ^ t) - 1) = false) : RnS xl xs 2 41 0 0 mX6_now [.ref 0, .int v] n I J X (some (.int (-2))) n I J X := by
  intro S T Q hQ
  show Ev xl xs 2 41 0 0 mX6_now 0 [some (.ref 0), some (.int v), none] [] n (sysH (ov I S) (ovJ J T) X) Q
  refine ev_aload_n (q := 1) dX6_now_0 rfl rfl ?_
  refine ev_iload_n (q := 2) dX6_now_1 rfl rfl ?_
  refine ev_callV1i (q := 5) dX6_now_2 ca_X6_100 (k_X6_isWorld hn hk _) rfl (lt_n hn (by decide)) rfl rfl (Nat.le_of_ble_eq_true rfl) (Nat.le_of_ble_eq_true rfl) (by decide) (by decide) rfl ?_
  refine ev_if_ne (q := 8) 11 dX6_now_5 (by decide) rfl (fun c_5 => ?_) (fun c_5 => ?_)
  · exact absurd (b2i_ne.mp c_5) (by rw [hv]; decide)
  · refine ev_bipush (q := 10) (-2) dX6_now_8 (by decide) rfl ?_
    exact ev_iretE dX6_now_10 rfl rfl rfl rfl rfl (hQ _ _)
theorem k_X6_now (hn : 49 ≤ n) (hk : KI I J t sl wy wi he) {v : Int32} (hv : inb v 0 (nI (2 ^ t) - 1) = true) : RnS xl xs 2 41 0 0 mX6_now [.ref 0, .int v] n I J X (some (.int (I 1 1))) n (wr (wr I 1 1 v) 1 10 0) J X := by
  intro S T Q hQ
  show Ev xl xs 2 41 0 0 mX6_now 0 [some (.ref 0), some (.int v), none] [] n (sysH (ov I S) (ovJ J T) X) Q
  refine ev_aload_n (q := 1) dX6_now_0 rfl rfl ?_
  refine ev_iload_n (q := 2) dX6_now_1 rfl rfl ?_
  refine ev_callV1i (q := 5) dX6_now_2 ca_X6_100 (k_X6_isWorld hn hk _) rfl (lt_n hn (by decide)) rfl rfl (Nat.le_of_ble_eq_true rfl) (Nat.le_of_ble_eq_true rfl) (by decide) (by decide) rfl ?_
  refine ev_if_ne (q := 8) 11 dX6_now_5 (by decide) rfl (fun c_5 => ?_) (fun c_5 => ?_)
  · refine ev_aload_n (q := 12) dX6_now_11 rfl rfl ?_
    refine ev_get (q := 15) dX6_now_12 fr_X6_10 rfl (lt_n hn (by decide)) rfl rfl ?_
    refine ev_get (q := 18) dX6_now_15 fr_X6_103 rfl (lt_n hn (by decide)) rfl rfl ?_
    refine ev_ist_2 (q := 19) dX6_now_18 rfl rfl ?_
    refine ev_aload_n (q := 20) dX6_now_19 rfl rfl ?_
    refine ev_get (q := 23) dX6_now_20 fr_X6_10 rfl (lt_n hn (by decide)) rfl rfl ?_
    refine ev_iload_n (q := 24) dX6_now_23 rfl rfl ?_
    first | refine ev_putIK (q := 27) dX6_now_24 fa_X6_103 rfl (by decide) (lt_n hn (by decide)) (Nat.le_of_ble_eq_true rfl) ⟨rfl, rfl⟩ rfl rfl rfl ?_ | refine ev_putIR (q := 27) dX6_now_24 fa_X6_103 rfl (by decide) (lt_n hn (by decide)) (Nat.le_of_ble_eq_true rfl) ⟨rfl, rfl⟩ rfl rfl rfl ?_
    refine ev_aload_n (q := 28) dX6_now_27 rfl rfl ?_
    refine ev_get (q := 31) dX6_now_28 fr_X6_10 rfl (lt_n hn (by decide)) rfl rfl ?_
    refine ev_iconst (q := 32) (0) dX6_now_31 (by decide) rfl ?_
    first | refine ev_putIK (q := 35) dX6_now_32 fa_X6_106 rfl (by decide) (lt_n hn (by decide)) (Nat.le_of_ble_eq_true rfl) ⟨rfl, rfl⟩ rfl rfl rfl ?_ | refine ev_putIR (q := 35) dX6_now_32 fa_X6_106 rfl (by decide) (lt_n hn (by decide)) (Nat.le_of_ble_eq_true rfl) ⟨rfl, rfl⟩ rfl rfl rfl ?_
    refine ev_iload_n (q := 36) dX6_now_35 rfl rfl ?_
    exact ev_iretE dX6_now_36 rfl rfl rfl rfl rfl (hQ _ _)
  · exact absurd c_5 (b2i_n0.mpr hv)
theorem k_X6_set_f (hn : 49 ≤ n) {which v : Int32} (hv : setF which v = false) : RnS xl xs 0 0 0 0 mX6_set [.ref 0, .int which, .int v] n I J X (some (.int (-2))) n I J X := by
  intro S T Q hQ
  show Ev xl xs 0 0 0 0 mX6_set 0 [some (.ref 0), some (.int which), some (.int v), none] [] n (sysH (ov I S) (ovJ J T) X) Q
  unfold setF at hv
  have e2 : (2 : Int32).toInt = 2 := rfl
  refine ev_iload_n (q := 1) dX6_set_0 rfl rfl ?_
  refine ev_if_ge (q := 4) 7 dX6_set_1 (by decide) rfl (fun c_1 => ?_) (fun c_1 => ?_)
  · refine ev_iload_n (q := 8) dX6_set_7 rfl rfl ?_
    refine ev_if_ne (q := 11) 35 dX6_set_8 (by decide) rfl (fun c_8 => ?_) (fun c_8 => ?_)
    · refine ev_iload_n (q := 36) dX6_set_35 rfl rfl ?_
      refine ev_iconst (q := 37) (1) dX6_set_36 (by decide) rfl ?_
      refine ev_icmp_ne (q := 40) 64 dX6_set_37 (by decide) rfl (fun c_37 => ?_) (fun c_37 => ?_)
      · refine ev_iload_n (q := 65) dX6_set_64 rfl rfl ?_
        refine ev_iconst (q := 66) (2) dX6_set_65 (by decide) rfl ?_
        refine ev_icmp_ne (q := 69) 94 dX6_set_66 (by decide) rfl (fun c_66 => ?_) (fun c_66 => ?_)
        · refine ev_bipush (q := 96) (-2) dX6_set_94 (by decide) rfl ?_
          exact ev_iretE dX6_set_96 rfl rfl rfl rfl rfl (hQ _ _)
        · refine ev_iload_n (q := 70) dX6_set_69 rfl rfl ?_
          refine ev_bipush (q := 72) (6) dX6_set_70 (by decide) rfl ?_
          refine ev_icmp_gt (q := 75) 94 dX6_set_72 (by decide) rfl (fun c_72 => ?_) (fun c_72 => ?_)
          · refine ev_bipush (q := 96) (-2) dX6_set_94 (by decide) rfl ?_
            exact ev_iretE dX6_set_96 rfl rfl rfl rfl rfl (hQ _ _)
          · (have c_66 : which = 2 := c_66; rw [if_neg (by rw [c_66]; decide), if_neg (by rw [c_66]; decide), if_pos c_66] at hv; have := inb_cases hv; simp only [i_le, i_lt, e_0i, e_6i] at *; omega)
      · refine ev_iload_n (q := 41) dX6_set_40 rfl rfl ?_
        refine ev_iconst (q := 42) (4) dX6_set_41 (by decide) rfl ?_
        refine ev_icmp_ge (q := 45) 64 dX6_set_42 (by decide) rfl (fun c_42 => ?_) (fun c_42 => ?_)
        · refine ev_iload_n (q := 65) dX6_set_64 rfl rfl ?_
          refine ev_iconst (q := 66) (2) dX6_set_65 (by decide) rfl ?_
          refine ev_icmp_ne (q := 69) 94 dX6_set_66 (by decide) rfl (fun c_66 => ?_) (fun c_66 => ?_)
          · refine ev_bipush (q := 96) (-2) dX6_set_94 (by decide) rfl ?_
            exact ev_iretE dX6_set_96 rfl rfl rfl rfl rfl (hQ _ _)
          · refine ev_iload_n (q := 70) dX6_set_69 rfl rfl ?_
            refine ev_bipush (q := 72) (6) dX6_set_70 (by decide) rfl ?_
            refine ev_icmp_gt (q := 75) 94 dX6_set_72 (by decide) rfl (fun c_72 => ?_) (fun c_72 => ?_)
            · refine ev_bipush (q := 96) (-2) dX6_set_94 (by decide) rfl ?_
              exact ev_iretE dX6_set_96 rfl rfl rfl rfl rfl (hQ _ _)
            · (have c_66 : which = 2 := c_66; rw [if_neg (by rw [c_66]; decide), if_neg (by rw [c_66]; decide), if_pos c_66] at hv; have := inb_cases hv; simp only [i_le, i_lt, e_0i, e_6i] at *; omega)
        · (have c_37 : which = 1 := c_37; rw [if_neg (by rw [c_37]; decide), if_pos c_37] at hv; have := inb_cases hv; simp only [i_le, i_lt, e_0i, e_3i, e_4i] at *; omega)
    · refine ev_iload_n (q := 12) dX6_set_11 rfl rfl ?_
      refine ev_iconst (q := 13) (2) dX6_set_12 (by decide) rfl ?_
      refine ev_icmp_gt (q := 16) 35 dX6_set_13 (by decide) rfl (fun c_13 => ?_) (fun c_13 => ?_)
      · refine ev_iload_n (q := 36) dX6_set_35 rfl rfl ?_
        refine ev_iconst (q := 37) (1) dX6_set_36 (by decide) rfl ?_
        refine ev_icmp_ne (q := 40) 64 dX6_set_37 (by decide) rfl (fun c_37 => ?_) (fun c_37 => ?_)
        · refine ev_iload_n (q := 65) dX6_set_64 rfl rfl ?_
          refine ev_iconst (q := 66) (2) dX6_set_65 (by decide) rfl ?_
          refine ev_icmp_ne (q := 69) 94 dX6_set_66 (by decide) rfl (fun c_66 => ?_) (fun c_66 => ?_)
          · refine ev_bipush (q := 96) (-2) dX6_set_94 (by decide) rfl ?_
            exact ev_iretE dX6_set_96 rfl rfl rfl rfl rfl (hQ _ _)
          · refine ev_iload_n (q := 70) dX6_set_69 rfl rfl ?_
            refine ev_bipush (q := 72) (6) dX6_set_70 (by decide) rfl ?_
            refine ev_icmp_gt (q := 75) 94 dX6_set_72 (by decide) rfl (fun c_72 => ?_) (fun c_72 => ?_)
            · refine ev_bipush (q := 96) (-2) dX6_set_94 (by decide) rfl ?_
              exact ev_iretE dX6_set_96 rfl rfl rfl rfl rfl (hQ _ _)
            · (have c_66 : which = 2 := c_66; rw [if_neg (by rw [c_66]; decide), if_neg (by rw [c_66]; decide), if_pos c_66] at hv; have := inb_cases hv; simp only [i_le, i_lt, e_0i, e_6i] at *; omega)
        · refine ev_iload_n (q := 41) dX6_set_40 rfl rfl ?_
          refine ev_iconst (q := 42) (4) dX6_set_41 (by decide) rfl ?_
          refine ev_icmp_ge (q := 45) 64 dX6_set_42 (by decide) rfl (fun c_42 => ?_) (fun c_42 => ?_)
          · refine ev_iload_n (q := 65) dX6_set_64 rfl rfl ?_
            refine ev_iconst (q := 66) (2) dX6_set_65 (by decide) rfl ?_
            refine ev_icmp_ne (q := 69) 94 dX6_set_66 (by decide) rfl (fun c_66 => ?_) (fun c_66 => ?_)
            · refine ev_bipush (q := 96) (-2) dX6_set_94 (by decide) rfl ?_
              exact ev_iretE dX6_set_96 rfl rfl rfl rfl rfl (hQ _ _)
            · refine ev_iload_n (q := 70) dX6_set_69 rfl rfl ?_
              refine ev_bipush (q := 72) (6) dX6_set_70 (by decide) rfl ?_
              refine ev_icmp_gt (q := 75) 94 dX6_set_72 (by decide) rfl (fun c_72 => ?_) (fun c_72 => ?_)
              · refine ev_bipush (q := 96) (-2) dX6_set_94 (by decide) rfl ?_
                exact ev_iretE dX6_set_96 rfl rfl rfl rfl rfl (hQ _ _)
              · (have c_66 : which = 2 := c_66; rw [if_neg (by rw [c_66]; decide), if_neg (by rw [c_66]; decide), if_pos c_66] at hv; have := inb_cases hv; simp only [i_le, i_lt, e_0i, e_6i] at *; omega)
          · (have c_37 : which = 1 := c_37; rw [if_neg (by rw [c_37]; decide), if_pos c_37] at hv; have := inb_cases hv; simp only [i_le, i_lt, e_0i, e_3i, e_4i] at *; omega)
      · (have c_8 : which = 0 := c_8; rw [if_pos c_8] at hv; have := inb_cases hv; simp only [i_le, i_lt, e_0i, e2] at *; omega)
  · refine ev_bipush (q := 6) (-2) dX6_set_4 (by decide) rfl ?_
    exact ev_iretE dX6_set_6 rfl rfl rfl rfl rfl (hQ _ _)
theorem k_X6_set_0 (hn : 49 ≤ n) {v : Int32} (hv : inb v 0 2 = true) : RnS xl xs 0 0 0 0 mX6_set [.ref 0, .int 0, .int v] n I J X (some (.int (I 1 2))) n (wr I 1 2 v) J X := by
  intro S T Q hQ
  simp only [inb, Bool.and_eq_true, decide_eq_true_eq] at hv
  obtain ⟨h1, h2⟩ := hv
  show Ev xl xs 0 0 0 0 mX6_set 0 [some (.ref 0), some (.int 0), some (.int v), none] [] n (sysH (ov I S) (ovJ J T) X) Q
  refine ev_iload_n (q := 1) dX6_set_0 rfl rfl ?_
  refine ev_if_ge (q := 4) 7 dX6_set_1 (by decide) rfl (fun c_1 => ?_) (fun c_1 => ?_)
  · refine ev_iload_n (q := 8) dX6_set_7 rfl rfl ?_
    refine ev_if_ne (q := 11) 35 dX6_set_8 (by decide) rfl (fun c_8 => ?_) (fun c_8 => ?_)
    · exact absurd rfl c_8
    · refine ev_iload_n (q := 12) dX6_set_11 rfl rfl ?_
      refine ev_iconst (q := 13) (2) dX6_set_12 (by decide) rfl ?_
      refine ev_icmp_gt (q := 16) 35 dX6_set_13 (by decide) rfl (fun c_13 => ?_) (fun c_13 => ?_)
      · exact absurd (show (2 : Int32) < v from c_13) (by simp only [i_le, i_lt] at *; omega)
      · refine ev_aload_n (q := 17) dX6_set_16 rfl rfl ?_
        refine ev_get (q := 20) dX6_set_17 fr_X6_10 rfl (lt_n hn (by decide)) rfl rfl ?_
        refine ev_get (q := 23) dX6_set_20 fr_X6_91 rfl (lt_n hn (by decide)) rfl rfl ?_
        refine ev_ist_3 (q := 24) dX6_set_23 rfl rfl ?_
        refine ev_aload_n (q := 25) dX6_set_24 rfl rfl ?_
        refine ev_get (q := 28) dX6_set_25 fr_X6_10 rfl (lt_n hn (by decide)) rfl rfl ?_
        refine ev_iload_n (q := 29) dX6_set_28 rfl rfl ?_
        first | refine ev_putIK (q := 32) dX6_set_29 fa_X6_91 rfl (by decide) (lt_n hn (by decide)) (Nat.le_of_ble_eq_true rfl) ⟨rfl, rfl⟩ rfl rfl rfl ?_ | refine ev_putIR (q := 32) dX6_set_29 fa_X6_91 rfl (by decide) (lt_n hn (by decide)) (Nat.le_of_ble_eq_true rfl) ⟨rfl, rfl⟩ rfl rfl rfl ?_
        refine ev_goto 97 dX6_set_32 (by decide) ?_
        refine ev_iload_n (q := 98) dX6_set_97 rfl rfl ?_
        exact ev_iretE dX6_set_98 rfl rfl rfl rfl rfl (hQ _ _)
  · exact absurd h1 c_1
theorem k_X6_set_1 (hn : 49 ≤ n) {v : Int32} (hv : inb v 0 3 = true) : RnS xl xs 0 0 0 0 mX6_set [.ref 0, .int 1, .int v] n I J X (some (.int (I 1 3))) n (wr I 1 3 v) J X := by
  intro S T Q hQ
  simp only [inb, Bool.and_eq_true, decide_eq_true_eq] at hv
  obtain ⟨h1, h2⟩ := hv
  show Ev xl xs 0 0 0 0 mX6_set 0 [some (.ref 0), some (.int 1), some (.int v), none] [] n (sysH (ov I S) (ovJ J T) X) Q
  refine ev_iload_n (q := 1) dX6_set_0 rfl rfl ?_
  refine ev_if_ge (q := 4) 7 dX6_set_1 (by decide) rfl (fun c_1 => ?_) (fun c_1 => ?_)
  · refine ev_iload_n (q := 8) dX6_set_7 rfl rfl ?_
    refine ev_if_ne (q := 11) 35 dX6_set_8 (by decide) rfl (fun c_8 => ?_) (fun c_8 => ?_)
    · refine ev_iload_n (q := 36) dX6_set_35 rfl rfl ?_
      refine ev_iconst (q := 37) (1) dX6_set_36 (by decide) rfl ?_
      refine ev_icmp_ne (q := 40) 64 dX6_set_37 (by decide) rfl (fun c_37 => ?_) (fun c_37 => ?_)
      · exact absurd rfl c_37
      · refine ev_iload_n (q := 41) dX6_set_40 rfl rfl ?_
        refine ev_iconst (q := 42) (4) dX6_set_41 (by decide) rfl ?_
        refine ev_icmp_ge (q := 45) 64 dX6_set_42 (by decide) rfl (fun c_42 => ?_) (fun c_42 => ?_)
        · exact absurd (show (4 : Int32) ≤ v from c_42) (by simp only [i_le, i_lt, e_3i, e_4i] at *; omega)
        · refine ev_aload_n (q := 46) dX6_set_45 rfl rfl ?_
          refine ev_get (q := 49) dX6_set_46 fr_X6_10 rfl (lt_n hn (by decide)) rfl rfl ?_
          refine ev_get (q := 52) dX6_set_49 fr_X6_94 rfl (lt_n hn (by decide)) rfl rfl ?_
          refine ev_ist_3 (q := 53) dX6_set_52 rfl rfl ?_
          refine ev_aload_n (q := 54) dX6_set_53 rfl rfl ?_
          refine ev_get (q := 57) dX6_set_54 fr_X6_10 rfl (lt_n hn (by decide)) rfl rfl ?_
          refine ev_iload_n (q := 58) dX6_set_57 rfl rfl ?_
          first | refine ev_putIK (q := 61) dX6_set_58 fa_X6_94 rfl (by decide) (lt_n hn (by decide)) (Nat.le_of_ble_eq_true rfl) ⟨rfl, rfl⟩ rfl rfl rfl ?_ | refine ev_putIR (q := 61) dX6_set_58 fa_X6_94 rfl (by decide) (lt_n hn (by decide)) (Nat.le_of_ble_eq_true rfl) ⟨rfl, rfl⟩ rfl rfl rfl ?_
          refine ev_goto 97 dX6_set_61 (by decide) ?_
          refine ev_iload_n (q := 98) dX6_set_97 rfl rfl ?_
          exact ev_iretE dX6_set_98 rfl rfl rfl rfl rfl (hQ _ _)
    · exact absurd c_8 (by decide)
  · exact absurd h1 c_1
theorem k_X6_set_2 (hn : 49 ≤ n) {v : Int32} (hv : inb v 0 6 = true) : RnS xl xs 0 0 0 0 mX6_set [.ref 0, .int 2, .int v] n I J X (some (.int (I 1 4))) n (wr I 1 4 v) J X := by
  intro S T Q hQ
  simp only [inb, Bool.and_eq_true, decide_eq_true_eq] at hv
  obtain ⟨h1, h2⟩ := hv
  show Ev xl xs 0 0 0 0 mX6_set 0 [some (.ref 0), some (.int 2), some (.int v), none] [] n (sysH (ov I S) (ovJ J T) X) Q
  refine ev_iload_n (q := 1) dX6_set_0 rfl rfl ?_
  refine ev_if_ge (q := 4) 7 dX6_set_1 (by decide) rfl (fun c_1 => ?_) (fun c_1 => ?_)
  · refine ev_iload_n (q := 8) dX6_set_7 rfl rfl ?_
    refine ev_if_ne (q := 11) 35 dX6_set_8 (by decide) rfl (fun c_8 => ?_) (fun c_8 => ?_)
    · refine ev_iload_n (q := 36) dX6_set_35 rfl rfl ?_
      refine ev_iconst (q := 37) (1) dX6_set_36 (by decide) rfl ?_
      refine ev_icmp_ne (q := 40) 64 dX6_set_37 (by decide) rfl (fun c_37 => ?_) (fun c_37 => ?_)
      · refine ev_iload_n (q := 65) dX6_set_64 rfl rfl ?_
        refine ev_iconst (q := 66) (2) dX6_set_65 (by decide) rfl ?_
        refine ev_icmp_ne (q := 69) 94 dX6_set_66 (by decide) rfl (fun c_66 => ?_) (fun c_66 => ?_)
        · exact absurd rfl c_66
        · refine ev_iload_n (q := 70) dX6_set_69 rfl rfl ?_
          refine ev_bipush (q := 72) (6) dX6_set_70 (by decide) rfl ?_
          refine ev_icmp_gt (q := 75) 94 dX6_set_72 (by decide) rfl (fun c_72 => ?_) (fun c_72 => ?_)
          · exact absurd (show (6 : Int32) < v from c_72) (by simp only [i_le, i_lt] at *; omega)
          · refine ev_aload_n (q := 76) dX6_set_75 rfl rfl ?_
            refine ev_get (q := 79) dX6_set_76 fr_X6_10 rfl (lt_n hn (by decide)) rfl rfl ?_
            refine ev_get (q := 82) dX6_set_79 fr_X6_97 rfl (lt_n hn (by decide)) rfl rfl ?_
            refine ev_ist_3 (q := 83) dX6_set_82 rfl rfl ?_
            refine ev_aload_n (q := 84) dX6_set_83 rfl rfl ?_
            refine ev_get (q := 87) dX6_set_84 fr_X6_10 rfl (lt_n hn (by decide)) rfl rfl ?_
            refine ev_iload_n (q := 88) dX6_set_87 rfl rfl ?_
            first | refine ev_putIK (q := 91) dX6_set_88 fa_X6_97 rfl (by decide) (lt_n hn (by decide)) (Nat.le_of_ble_eq_true rfl) ⟨rfl, rfl⟩ rfl rfl rfl ?_ | refine ev_putIR (q := 91) dX6_set_88 fa_X6_97 rfl (by decide) (lt_n hn (by decide)) (Nat.le_of_ble_eq_true rfl) ⟨rfl, rfl⟩ rfl rfl rfl ?_
            refine ev_goto 97 dX6_set_91 (by decide) ?_
            refine ev_iload_n (q := 98) dX6_set_97 rfl rfl ?_
            exact ev_iretE dX6_set_98 rfl rfl rfl rfl rfl (hQ _ _)
      · exact absurd c_37 (by decide)
    · exact absurd c_8 (by decide)
  · exact absurd h1 c_1
theorem k_X6_worth_u (hn : 49 ≤ n) (hk : KI I J t sl wy wi he) {c k v : Int32} (hv : (inb c 0 3 && inb k 0 (nI t - 1)) = false) : RnS xl xs 1 21 0 0 mX6_worth [.ref 0, .int c, .int k, .int v] n I J X (some (.int (-1))) n I J X := by
  intro S T Q hQ
  show Ev xl xs 1 21 0 0 mX6_worth 0 [some (.ref 0), some (.int c), some (.int k), some (.int v), none, none] [] n (sysH (ov I S) (ovJ J T) X) Q
  refine ev_iload_n (q := 1) dX6_worth_0 rfl rfl ?_
  refine ev_callS1i (q := 4) dX6_worth_1 ca_X6_78 (c_X6_isCousin _) (Nat.le_of_ble_eq_true rfl) (Nat.le_of_ble_eq_true rfl) (by decide) (by decide) rfl ?_
  refine ev_if_eq (q := 7) 15 dX6_worth_4 (by decide) rfl (fun c_4 => ?_) (fun c_4 => ?_)
  · refine ev_iconst (q := 16) (-1) dX6_worth_15 (by decide) rfl ?_
    exact ev_iretE dX6_worth_16 rfl rfl rfl rfl rfl (hQ _ _)
  · have c_4 := b2i_n0.mp c_4
    refine ev_aload_n (q := 8) dX6_worth_7 rfl rfl ?_
    refine ev_iload_n (q := 9) dX6_worth_8 rfl rfl ?_
    refine ev_callV1i (q := 12) dX6_worth_9 ca_X6_82 (k_X6_isThing hn hk _) rfl (lt_n hn (by decide)) rfl rfl (Nat.le_of_ble_eq_true rfl) (Nat.le_of_ble_eq_true rfl) (by decide) (by decide) rfl ?_
    refine ev_if_ne (q := 15) 17 dX6_worth_12 (by decide) rfl (fun c_12 => ?_) (fun c_12 => ?_)
    · exact absurd (b2i_ne.mp c_12) (by rw [c_4, Bool.true_and] at hv; rw [hv]; decide)
    · refine ev_iconst (q := 16) (-1) dX6_worth_15 (by decide) rfl ?_
      exact ev_iretE dX6_worth_16 rfl rfl rfl rfl rfl (hQ _ _)
theorem k_X6_worth_o (hn : 49 ≤ n) (hk : KI I J t sl wy wi he) {c k v : Int32} (hc : inb c 0 3 = true) (hk2 : inb k 0 (nI t - 1) = true) (hv : inb v (-9) 9 = false) : RnS xl xs 1 21 0 0 mX6_worth [.ref 0, .int c, .int k, .int v] n I J X (some (.int (-2))) n I J X := by
  intro S T Q hQ
  have hv2 := inb_cases hv
  show Ev xl xs 1 21 0 0 mX6_worth 0 [some (.ref 0), some (.int c), some (.int k), some (.int v), none, none] [] n (sysH (ov I S) (ovJ J T) X) Q
  refine ev_iload_n (q := 1) dX6_worth_0 rfl rfl ?_
  refine ev_callS1i (q := 4) dX6_worth_1 ca_X6_78 (c_X6_isCousin _) (Nat.le_of_ble_eq_true rfl) (Nat.le_of_ble_eq_true rfl) (by decide) (by decide) rfl ?_
  refine ev_if_eq (q := 7) 15 dX6_worth_4 (by decide) rfl (fun c_4 => ?_) (fun c_4 => ?_)
  · exact absurd c_4 (b2i_n0.mpr hc)
  · refine ev_aload_n (q := 8) dX6_worth_7 rfl rfl ?_
    refine ev_iload_n (q := 9) dX6_worth_8 rfl rfl ?_
    refine ev_callV1i (q := 12) dX6_worth_9 ca_X6_82 (k_X6_isThing hn hk _) rfl (lt_n hn (by decide)) rfl rfl (Nat.le_of_ble_eq_true rfl) (Nat.le_of_ble_eq_true rfl) (by decide) (by decide) rfl ?_
    refine ev_if_ne (q := 15) 17 dX6_worth_12 (by decide) rfl (fun c_12 => ?_) (fun c_12 => ?_)
    · refine ev_iload_n (q := 18) dX6_worth_17 rfl rfl ?_
      refine ev_bipush (q := 20) (-9) dX6_worth_18 (by decide) rfl ?_
      refine ev_icmp_lt (q := 23) 29 dX6_worth_20 (by decide) rfl (fun c_20 => ?_) (fun c_20 => ?_)
      · refine ev_bipush (q := 31) (-2) dX6_worth_29 (by decide) rfl ?_
        exact ev_iretE dX6_worth_31 rfl rfl rfl rfl rfl (hQ _ _)
      · refine ev_iload_n (q := 24) dX6_worth_23 rfl rfl ?_
        refine ev_bipush (q := 26) (9) dX6_worth_24 (by decide) rfl ?_
        refine ev_icmp_le (q := 29) 32 dX6_worth_26 (by decide) rfl (fun c_26 => ?_) (fun c_26 => ?_)
        · (simp only [i_le, i_lt] at *; omega)
        · refine ev_bipush (q := 31) (-2) dX6_worth_29 (by decide) rfl ?_
          exact ev_iretE dX6_worth_31 rfl rfl rfl rfl rfl (hQ _ _)
    · exact absurd c_12 (b2i_n0.mpr hk2)
theorem k_X6_worth {c k : Nat} (hn : 49 ≤ n) (hk : KI I J t sl wy wi he) {v : Int32} (hc : c < 4) (hkt : k < t) (hv : inb v (-9) 9 = true) (hc2 : inb (nI c) 0 3 = true) (hk2 : inb (nI k) 0 (nI t - 1) = true) : RnS xl xs 1 21 0 0 mX6_worth [.ref 0, .int (nI c), .int (nI k), .int v] n I J X (some (.int (I 2 (6 * c + k) + 1000))) n (wr I 2 (6 * c + k) v) J X := by
  intro S T Q hQ
  have h6 := hk.1.2.2.1
  simp only [inb, Bool.and_eq_true, decide_eq_true_eq] at hv
  obtain ⟨h1, h2⟩ := hv
  have hx : nI c * (6 : Int32) + nI k = nI (6 * c + k) := by rw [show (6 : Int32) = nI 6 from rfl, pk_mul, nI_add, Nat.mul_comm]
  show Ev xl xs 1 21 0 0 mX6_worth 0 [some (.ref 0), some (.int (nI c)), some (.int (nI k)), some (.int v), none, none] [] n (sysH (ov I S) (ovJ J T) X) Q
  refine ev_iload_n (q := 1) dX6_worth_0 rfl rfl ?_
  refine ev_callS1i (q := 4) dX6_worth_1 ca_X6_78 (c_X6_isCousin _) (Nat.le_of_ble_eq_true rfl) (Nat.le_of_ble_eq_true rfl) (by decide) (by decide) rfl ?_
  refine ev_if_eq (q := 7) 15 dX6_worth_4 (by decide) rfl (fun c_4 => ?_) (fun c_4 => ?_)
  · exact absurd c_4 (b2i_n0.mpr hc2)
  · refine ev_aload_n (q := 8) dX6_worth_7 rfl rfl ?_
    refine ev_iload_n (q := 9) dX6_worth_8 rfl rfl ?_
    refine ev_callV1i (q := 12) dX6_worth_9 ca_X6_82 (k_X6_isThing hn hk _) rfl (lt_n hn (by decide)) rfl rfl (Nat.le_of_ble_eq_true rfl) (Nat.le_of_ble_eq_true rfl) (by decide) (by decide) rfl ?_
    refine ev_if_ne (q := 15) 17 dX6_worth_12 (by decide) rfl (fun c_12 => ?_) (fun c_12 => ?_)
    · refine ev_iload_n (q := 18) dX6_worth_17 rfl rfl ?_
      refine ev_bipush (q := 20) (-9) dX6_worth_18 (by decide) rfl ?_
      refine ev_icmp_lt (q := 23) 29 dX6_worth_20 (by decide) rfl (fun c_20 => ?_) (fun c_20 => ?_)
      · (simp only [i_le, i_lt] at *; omega)
      · refine ev_iload_n (q := 24) dX6_worth_23 rfl rfl ?_
        refine ev_bipush (q := 26) (9) dX6_worth_24 (by decide) rfl ?_
        refine ev_icmp_le (q := 29) 32 dX6_worth_26 (by decide) rfl (fun c_26 => ?_) (fun c_26 => ?_)
        · refine ev_iload_n (q := 33) dX6_worth_32 rfl rfl ?_
          refine ev_bipush (q := 35) (6) dX6_worth_33 (by decide) rfl ?_
          refine ev_imul (q := 36) dX6_worth_35 rfl ?_
          refine ev_iload_n (q := 37) dX6_worth_36 rfl rfl ?_
          refine ev_iadd (q := 38) dX6_worth_37 rfl ?_
          rw [hx]
          refine ev_ist_4 (q := 40) dX6_worth_38 rfl rfl ?_
          refine ev_aload_n (q := 41) dX6_worth_40 rfl rfl ?_
          refine ev_get (q := 44) dX6_worth_41 fr_X6_10 rfl (lt_n hn (by decide)) rfl rfl ?_
          refine ev_get (q := 47) dX6_worth_44 fr_X6_85 rfl (lt_n hn (by decide)) rfl rfl ?_
          refine ev_iload (q := 49) dX6_worth_47 rfl rfl ?_
          refine ev_iaS (q := 50) (6 * c + k) dX6_worth_49 rfl rfl (by omega) (lt_n hn (by decide)) rfl ?_
          refine ev_ist_5 (q := 52) dX6_worth_50 rfl rfl ?_
          refine ev_aload_n (q := 53) dX6_worth_52 rfl rfl ?_
          refine ev_get (q := 56) dX6_worth_53 fr_X6_10 rfl (lt_n hn (by decide)) rfl rfl ?_
          refine ev_get (q := 59) dX6_worth_56 fr_X6_85 rfl (lt_n hn (by decide)) rfl rfl ?_
          refine ev_iload (q := 61) dX6_worth_59 rfl rfl ?_
          refine ev_iload_n (q := 62) dX6_worth_61 rfl rfl ?_
          first | refine ev_isK (q := 63) (6 * c + k) dX6_worth_62 rfl rfl (by omega) (lt_n hn (by decide)) rfl rfl ?_ | refine ev_isR (q := 63) (6 * c + k) dX6_worth_62 rfl rfl (by omega) (lt_n hn (by decide)) rfl rfl ?_
          refine ev_iload (q := 65) dX6_worth_63 rfl rfl ?_
          refine ev_sipush (q := 68) (1000) dX6_worth_65 (by decide) rfl ?_
          refine ev_iadd (q := 69) dX6_worth_68 rfl ?_
          exact ev_iretE dX6_worth_69 rfl rfl rfl rfl rfl (hQ _ _)
        · exact absurd h2 c_26
    · exact absurd c_12 (b2i_n0.mpr hk2)
theorem k_X6_taste_u (hn : 49 ≤ n) (hk : KI I J t sl wy wi he) {k v : Int32} (hv : inb k 0 (nI t - 1) = false) : RnS xl xs 1 21 0 0 mX6_taste [.ref 0, .int k, .int v] n I J X (some (.int (-1))) n I J X := by
  intro S T Q hQ
  show Ev xl xs 1 21 0 0 mX6_taste 0 [some (.ref 0), some (.int k), some (.int v), none] [] n (sysH (ov I S) (ovJ J T) X) Q
  refine ev_aload_n (q := 1) dX6_taste_0 rfl rfl ?_
  refine ev_iload_n (q := 2) dX6_taste_1 rfl rfl ?_
  refine ev_callV1i (q := 5) dX6_taste_2 ca_X6_82 (k_X6_isThing hn hk _) rfl (lt_n hn (by decide)) rfl rfl (Nat.le_of_ble_eq_true rfl) (Nat.le_of_ble_eq_true rfl) (by decide) (by decide) rfl ?_
  refine ev_if_ne (q := 8) 10 dX6_taste_5 (by decide) rfl (fun c_5 => ?_) (fun c_5 => ?_)
  · exact absurd (b2i_ne.mp c_5) (by rw [hv]; decide)
  · refine ev_iconst (q := 9) (-1) dX6_taste_8 (by decide) rfl ?_
    exact ev_iretE dX6_taste_9 rfl rfl rfl rfl rfl (hQ _ _)
theorem k_X6_taste_o (hn : 49 ≤ n) (hk : KI I J t sl wy wi he) {k v : Int32} (hk2 : inb k 0 (nI t - 1) = true) (hv : inb v (-9) 9 = false) : RnS xl xs 1 21 0 0 mX6_taste [.ref 0, .int k, .int v] n I J X (some (.int (-2))) n I J X := by
  intro S T Q hQ
  have hv2 := inb_cases hv
  show Ev xl xs 1 21 0 0 mX6_taste 0 [some (.ref 0), some (.int k), some (.int v), none] [] n (sysH (ov I S) (ovJ J T) X) Q
  refine ev_aload_n (q := 1) dX6_taste_0 rfl rfl ?_
  refine ev_iload_n (q := 2) dX6_taste_1 rfl rfl ?_
  refine ev_callV1i (q := 5) dX6_taste_2 ca_X6_82 (k_X6_isThing hn hk _) rfl (lt_n hn (by decide)) rfl rfl (Nat.le_of_ble_eq_true rfl) (Nat.le_of_ble_eq_true rfl) (by decide) (by decide) rfl ?_
  refine ev_if_ne (q := 8) 10 dX6_taste_5 (by decide) rfl (fun c_5 => ?_) (fun c_5 => ?_)
  · refine ev_iload_n (q := 11) dX6_taste_10 rfl rfl ?_
    refine ev_bipush (q := 13) (-9) dX6_taste_11 (by decide) rfl ?_
    refine ev_icmp_lt (q := 16) 22 dX6_taste_13 (by decide) rfl (fun c_13 => ?_) (fun c_13 => ?_)
    · refine ev_bipush (q := 24) (-2) dX6_taste_22 (by decide) rfl ?_
      exact ev_iretE dX6_taste_24 rfl rfl rfl rfl rfl (hQ _ _)
    · refine ev_iload_n (q := 17) dX6_taste_16 rfl rfl ?_
      refine ev_bipush (q := 19) (9) dX6_taste_17 (by decide) rfl ?_
      refine ev_icmp_le (q := 22) 25 dX6_taste_19 (by decide) rfl (fun c_19 => ?_) (fun c_19 => ?_)
      · (simp only [i_le, i_lt] at *; omega)
      · refine ev_bipush (q := 24) (-2) dX6_taste_22 (by decide) rfl ?_
        exact ev_iretE dX6_taste_24 rfl rfl rfl rfl rfl (hQ _ _)
  · exact absurd c_5 (b2i_n0.mpr hk2)
theorem k_X6_taste {k : Nat} (hn : 49 ≤ n) (hk : KI I J t sl wy wi he) {v : Int32} (hkt : k < t) (hv : inb v (-9) 9 = true) (hk2 : inb (nI k) 0 (nI t - 1) = true) : RnS xl xs 1 21 0 0 mX6_taste [.ref 0, .int (nI k), .int v] n I J X (some (.int (I 3 k + 1000))) n (wr I 3 k v) J X := by
  intro S T Q hQ
  have h6 := hk.1.2.2.1
  simp only [inb, Bool.and_eq_true, decide_eq_true_eq] at hv
  obtain ⟨h1, h2⟩ := hv
  show Ev xl xs 1 21 0 0 mX6_taste 0 [some (.ref 0), some (.int (nI k)), some (.int v), none] [] n (sysH (ov I S) (ovJ J T) X) Q
  refine ev_aload_n (q := 1) dX6_taste_0 rfl rfl ?_
  refine ev_iload_n (q := 2) dX6_taste_1 rfl rfl ?_
  refine ev_callV1i (q := 5) dX6_taste_2 ca_X6_82 (k_X6_isThing hn hk _) rfl (lt_n hn (by decide)) rfl rfl (Nat.le_of_ble_eq_true rfl) (Nat.le_of_ble_eq_true rfl) (by decide) (by decide) rfl ?_
  refine ev_if_ne (q := 8) 10 dX6_taste_5 (by decide) rfl (fun c_5 => ?_) (fun c_5 => ?_)
  · refine ev_iload_n (q := 11) dX6_taste_10 rfl rfl ?_
    refine ev_bipush (q := 13) (-9) dX6_taste_11 (by decide) rfl ?_
    refine ev_icmp_lt (q := 16) 22 dX6_taste_13 (by decide) rfl (fun c_13 => ?_) (fun c_13 => ?_)
    · (simp only [i_le, i_lt] at *; omega)
    · refine ev_iload_n (q := 17) dX6_taste_16 rfl rfl ?_
      refine ev_bipush (q := 19) (9) dX6_taste_17 (by decide) rfl ?_
      refine ev_icmp_le (q := 22) 25 dX6_taste_19 (by decide) rfl (fun c_19 => ?_) (fun c_19 => ?_)
      · refine ev_aload_n (q := 26) dX6_taste_25 rfl rfl ?_
        refine ev_get (q := 29) dX6_taste_26 fr_X6_10 rfl (lt_n hn (by decide)) rfl rfl ?_
        refine ev_get (q := 32) dX6_taste_29 fr_X6_88 rfl (lt_n hn (by decide)) rfl rfl ?_
        refine ev_iload_n (q := 33) dX6_taste_32 rfl rfl ?_
        refine ev_iaS (q := 34) k dX6_taste_33 rfl rfl (by omega) (lt_n hn (by decide)) rfl ?_
        refine ev_ist_3 (q := 35) dX6_taste_34 rfl rfl ?_
        refine ev_aload_n (q := 36) dX6_taste_35 rfl rfl ?_
        refine ev_get (q := 39) dX6_taste_36 fr_X6_10 rfl (lt_n hn (by decide)) rfl rfl ?_
        refine ev_get (q := 42) dX6_taste_39 fr_X6_88 rfl (lt_n hn (by decide)) rfl rfl ?_
        refine ev_iload_n (q := 43) dX6_taste_42 rfl rfl ?_
        refine ev_iload_n (q := 44) dX6_taste_43 rfl rfl ?_
        first | refine ev_isK (q := 45) k dX6_taste_44 rfl rfl (by omega) (lt_n hn (by decide)) rfl rfl ?_ | refine ev_isR (q := 45) k dX6_taste_44 rfl rfl (by omega) (lt_n hn (by decide)) rfl rfl ?_
        refine ev_iload_n (q := 46) dX6_taste_45 rfl rfl ?_
        refine ev_sipush (q := 49) (1000) dX6_taste_46 (by decide) rfl ?_
        refine ev_iadd (q := 50) dX6_taste_49 rfl ?_
        exact ev_iretE dX6_taste_50 rfl rfl rfl rfl rfl (hQ _ _)
      · exact absurd h2 c_19
  · exact absurd c_5 (b2i_n0.mpr hk2)
theorem k_X6_worthOf (hn : 49 ≤ n) (hk : KI I J t sl wy wi he) (c w : Int32) : RnS xl xs 2 41 0 0 mX6_worthOf [.ref 0, .int c, .int w] n I J X (some (.int (if inb c 0 3 then (if inb w 0 (nI (2 ^ t) - 1) then wtF I t c.toNatClampNeg w.toNatClampNeg + 1000 else -2) else -1))) n I J X := by
  intro S T Q hQ
  have h6 := hk.1.2.2.1
  have h64 := p2_le h6
  have hpos : 0 < 2 ^ t := Nat.pow_pos (by decide)
  show Ev xl xs 2 41 0 0 mX6_worthOf 0 [some (.ref 0), some (.int c), some (.int w)] [] n (sysH (ov I S) (ovJ J T) X) Q
  cases hc : inb c 0 3 with
  | false =>
    rw [hc] at hQ
    refine ev_iload_n (q := 1) dX6_worthOf_0 rfl rfl ?_
    refine ev_callS1i (q := 4) dX6_worthOf_1 ca_X6_78 (c_X6_isCousin _) (Nat.le_of_ble_eq_true rfl) (Nat.le_of_ble_eq_true rfl) (by decide) (by decide) rfl ?_
    refine ev_if_ne (q := 7) 9 dX6_worthOf_4 (by decide) rfl (fun c_4 => ?_) (fun c_4 => ?_)
    · exact absurd (b2i_ne.mp c_4) (by rw [hc]; decide)
    · refine ev_iconst (q := 8) (-1) dX6_worthOf_7 (by decide) rfl ?_
      exact ev_iretE dX6_worthOf_8 rfl rfl rfl rfl rfl (hQ _ _)
  | true =>
    rw [hc, if_pos rfl] at hQ
    cases hw : inb w 0 (nI (2 ^ t) - 1) with
    | false =>
      rw [hw] at hQ
      refine ev_iload_n (q := 1) dX6_worthOf_0 rfl rfl ?_
      refine ev_callS1i (q := 4) dX6_worthOf_1 ca_X6_78 (c_X6_isCousin _) (Nat.le_of_ble_eq_true rfl) (Nat.le_of_ble_eq_true rfl) (by decide) (by decide) rfl ?_
      refine ev_if_ne (q := 7) 9 dX6_worthOf_4 (by decide) rfl (fun c_4 => ?_) (fun c_4 => ?_)
      · refine ev_aload_n (q := 10) dX6_worthOf_9 rfl rfl ?_
        refine ev_iload_n (q := 11) dX6_worthOf_10 rfl rfl ?_
        refine ev_callV1i (q := 14) dX6_worthOf_11 ca_X6_100 (k_X6_isWorld hn hk _) rfl (lt_n hn (by decide)) rfl rfl (Nat.le_of_ble_eq_true rfl) (Nat.le_of_ble_eq_true rfl) (by decide) (by decide) rfl ?_
        refine ev_if_ne (q := 17) 20 dX6_worthOf_14 (by decide) rfl (fun c_14 => ?_) (fun c_14 => ?_)
        · exact absurd (b2i_ne.mp c_14) (by rw [hw]; decide)
        · refine ev_bipush (q := 19) (-2) dX6_worthOf_17 (by decide) rfl ?_
          exact ev_iretE dX6_worthOf_19 rfl rfl rfl rfl rfl (hQ _ _)
      · exact absurd c_4 (b2i_n0.mpr hc)
    | true =>
      rw [hw, if_pos rfl] at hQ
      obtain ⟨C, -, hC3, rfl⟩ := inb_lo (lo := 0) (hi := 3) (by decide) hc (by decide)
      obtain ⟨W, hW, rfl⟩ := inb_nat (by omega) hw hpos
      rw [nI_clamp (by omega), nI_clamp (by omega)] at hQ
      refine ev_iload_n (q := 1) dX6_worthOf_0 rfl rfl ?_
      refine ev_callS1i (q := 4) dX6_worthOf_1 ca_X6_78 (c_X6_isCousin _) (Nat.le_of_ble_eq_true rfl) (Nat.le_of_ble_eq_true rfl) (by decide) (by decide) rfl ?_
      refine ev_if_ne (q := 7) 9 dX6_worthOf_4 (by decide) rfl (fun c_4 => ?_) (fun c_4 => ?_)
      · refine ev_aload_n (q := 10) dX6_worthOf_9 rfl rfl ?_
        refine ev_iload_n (q := 11) dX6_worthOf_10 rfl rfl ?_
        refine ev_callV1i (q := 14) dX6_worthOf_11 ca_X6_100 (k_X6_isWorld hn hk _) rfl (lt_n hn (by decide)) rfl rfl (Nat.le_of_ble_eq_true rfl) (Nat.le_of_ble_eq_true rfl) (by decide) (by decide) rfl ?_
        refine ev_if_ne (q := 17) 20 dX6_worthOf_14 (by decide) rfl (fun c_14 => ?_) (fun c_14 => ?_)
        · refine ev_aload_n (q := 21) dX6_worthOf_20 rfl rfl ?_
          refine ev_get (q := 24) dX6_worthOf_21 fr_X6_10 rfl (lt_n hn (by decide)) rfl rfl ?_
          refine ev_iload_n (q := 25) dX6_worthOf_24 rfl rfl ?_
          refine ev_iload_n (q := 26) dX6_worthOf_25 rfl rfl ?_
          refine ev_callV2i (q := 29) dX6_worthOf_26 ca_X6_109 (kw_X4_worthTo hn hk (by omega) (by omega)) rfl (lt_n hn (by decide)) rfl rfl (Nat.le_of_ble_eq_true rfl) (Nat.le_of_ble_eq_true rfl) (by decide) (by decide) rfl ?_
          refine ev_sipush (q := 32) (1000) dX6_worthOf_29 (by decide) rfl ?_
          refine ev_iadd (q := 33) dX6_worthOf_32 rfl ?_
          exact ev_iretE dX6_worthOf_33 rfl rfl rfl rfl rfl (hQ _ _)
        · exact absurd c_14 (b2i_n0.mpr hw)
      · exact absurd c_4 (b2i_n0.mpr hc)
theorem k_X6_say_f (hn : 49 ≤ n) {v : Int32} (hv : inb v 33 126 = false) : RnS xl xs 1 21 0 0 mX6_say [.ref 0, .int v] n I J X (some (.int (-2))) n I J X := by
  intro S T Q hQ
  have hv2 := inb_cases hv
  show Ev xl xs 1 21 0 0 mX6_say 0 [some (.ref 0), some (.int v)] [] n (sysH (ov I S) (ovJ J T) X) Q
  refine ev_iload_n (q := 1) dX6_say_0 rfl rfl ?_
  refine ev_bipush (q := 3) (33) dX6_say_1 (by decide) rfl ?_
  refine ev_icmp_lt (q := 6) 12 dX6_say_3 (by decide) rfl (fun c_3 => ?_) (fun c_3 => ?_)
  · refine ev_bipush (q := 14) (-2) dX6_say_12 (by decide) rfl ?_
    exact ev_iretE dX6_say_14 rfl rfl rfl rfl rfl (hQ _ _)
  · refine ev_iload_n (q := 7) dX6_say_6 rfl rfl ?_
    refine ev_bipush (q := 9) (126) dX6_say_7 (by decide) rfl ?_
    refine ev_icmp_le (q := 12) 15 dX6_say_9 (by decide) rfl (fun c_9 => ?_) (fun c_9 => ?_)
    · (simp only [i_le, i_lt] at *; omega)
    · refine ev_bipush (q := 14) (-2) dX6_say_12 (by decide) rfl ?_
      exact ev_iretE dX6_say_14 rfl rfl rfl rfl rfl (hQ _ _)
theorem k_X6_say_40 (hn : 49 ≤ n) {v : Int32} (hv : inb v 33 126 = true) (hsg : I 10 1 = nI 40) : RnS xl xs 1 21 0 0 mX6_say [.ref 0, .int v] n I J X (some (.int (-4))) n I J X := by
  intro S T Q hQ
  simp only [inb, Bool.and_eq_true, decide_eq_true_eq] at hv
  obtain ⟨h1, h2⟩ := hv
  show Ev xl xs 1 21 0 0 mX6_say 0 [some (.ref 0), some (.int v)] [] n (sysH (ov I S) (ovJ J T) X) Q
  refine ev_iload_n (q := 1) dX6_say_0 rfl rfl ?_
  refine ev_bipush (q := 3) (33) dX6_say_1 (by decide) rfl ?_
  refine ev_icmp_lt (q := 6) 12 dX6_say_3 (by decide) rfl (fun c_3 => ?_) (fun c_3 => ?_)
  · (simp only [i_le, i_lt] at *; omega)
  · refine ev_iload_n (q := 7) dX6_say_6 rfl rfl ?_
    refine ev_bipush (q := 9) (126) dX6_say_7 (by decide) rfl ?_
    refine ev_icmp_le (q := 12) 15 dX6_say_9 (by decide) rfl (fun c_9 => ?_) (fun c_9 => ?_)
    · refine ev_aload_n (q := 16) dX6_say_15 rfl rfl ?_
      refine ev_get (q := 19) dX6_say_16 fr_X6_23 rfl (lt_n hn (by decide)) rfl rfl ?_
      refine ev_iload_n (q := 20) dX6_say_19 rfl rfl ?_
      refine ev_callV1iS (q := 23) dX6_say_20 ca_X6_113 (k_write10_f hn hsg) rfl (lt_n hn (by decide)) rfl rfl (Nat.le_of_ble_eq_true rfl) (Nat.le_of_ble_eq_true rfl) (by decide) (by decide) rfl (fun S T => ?_)
      refine ev_if_eq (q := 26) 36 dX6_say_23 (by decide) rfl (fun c_23 => ?_) (fun c_23 => ?_)
      · refine ev_bipush (q := 38) (-4) dX6_say_36 (by decide) rfl ?_
        exact ev_iretE dX6_say_38 rfl rfl rfl rfl rfl (hQ _ _)
      · exact absurd rfl c_23
    · exact absurd h2 c_9
theorem k_X6_say (hn : 49 ≤ n) {v : Int32} (hv : inb v 33 126 = true) (hsg : I 10 1 = nI sg) (h40 : sg < 40) : RnS xl xs 1 21 0 0 mX6_say [.ref 0, .int v] n I J X (some (.int (nI (sg + 1)))) n (wr (wr I 11 sg v) 10 1 (nI (sg + 1))) J X := by
  intro S T Q hQ
  simp only [inb, Bool.and_eq_true, decide_eq_true_eq] at hv
  obtain ⟨h1, h2⟩ := hv
  show Ev xl xs 1 21 0 0 mX6_say 0 [some (.ref 0), some (.int v)] [] n (sysH (ov I S) (ovJ J T) X) Q
  refine ev_iload_n (q := 1) dX6_say_0 rfl rfl ?_
  refine ev_bipush (q := 3) (33) dX6_say_1 (by decide) rfl ?_
  refine ev_icmp_lt (q := 6) 12 dX6_say_3 (by decide) rfl (fun c_3 => ?_) (fun c_3 => ?_)
  · (simp only [i_le, i_lt] at *; omega)
  · refine ev_iload_n (q := 7) dX6_say_6 rfl rfl ?_
    refine ev_bipush (q := 9) (126) dX6_say_7 (by decide) rfl ?_
    refine ev_icmp_le (q := 12) 15 dX6_say_9 (by decide) rfl (fun c_9 => ?_) (fun c_9 => ?_)
    · refine ev_aload_n (q := 16) dX6_say_15 rfl rfl ?_
      refine ev_get (q := 19) dX6_say_16 fr_X6_23 rfl (lt_n hn (by decide)) rfl rfl ?_
      refine ev_iload_n (q := 20) dX6_say_19 rfl rfl ?_
      refine ev_callV1iS (q := 23) dX6_say_20 ca_X6_113 (k_write10_t hn hsg h40) rfl (lt_n hn (by decide)) rfl rfl (Nat.le_of_ble_eq_true rfl) (Nat.le_of_ble_eq_true rfl) (by decide) (by decide) rfl (fun S T => ?_)
      refine ev_if_eq (q := 26) 36 dX6_say_23 (by decide) rfl (fun c_23 => ?_) (fun c_23 => ?_)
      · exact absurd c_23 (by decide)
      · refine ev_aload_n (q := 27) dX6_say_26 rfl rfl ?_
        refine ev_get (q := 30) dX6_say_27 fr_X6_23 rfl (lt_n hn (by decide)) rfl rfl ?_
        refine ev_get (q := 33) dX6_say_30 fr_X6_116 rfl (lt_n hn (by decide)) rfl rfl ?_
        refine ev_goto 38 dX6_say_33 (by decide) ?_
        exact ev_iretE dX6_say_38 rfl rfl rfl rfl rfl (hQ _ _)
    · exact absurd h2 c_9
theorem k_X6_wipe (hn : 49 ≤ n) : RnS xl xs 1 21 0 0 mX6_wipe [.ref 0] n I J X (some (.int (I 10 1))) n (wr I 10 1 0) J X := by
  intro S T Q hQ
  show Ev xl xs 1 21 0 0 mX6_wipe 0 [some (.ref 0)] [] n (sysH (ov I S) (ovJ J T) X) Q
  refine ev_aload_n (q := 1) dX6_wipe_0 rfl rfl ?_
  refine ev_get (q := 4) dX6_wipe_1 fr_X6_23 rfl (lt_n hn (by decide)) rfl rfl ?_
  refine ev_callV0iS (q := 7) dX6_wipe_4 ca_X6_119 (k_clear10 hn) rfl (lt_n hn (by decide)) rfl rfl (Nat.le_of_ble_eq_true rfl) (Nat.le_of_ble_eq_true rfl) (by decide) (by decide) rfl (fun S T => ?_)
  exact ev_iretE dX6_wipe_7 rfl rfl rfl rfl rfl (hQ _ _)
theorem k_X6_sixths_f (hn : 49 ≤ n) {a b c d : Int32} (hv : sxF a b c d = false) : RnS xl xs 1 20 0 0 mX6_sixths [.ref 0, .int a, .int b, .int c, .int d] n I J X (some (.int (-2))) n I J X := by
  intro S T Q hQ
  show Ev xl xs 1 20 0 0 mX6_sixths 0 [some (.ref 0), some (.int a), some (.int b), some (.int c), some (.int d)] [] n (sysH (ov I S) (ovJ J T) X) Q
  unfold sxF at hv
  refine ev_iload_n (q := 1) dX6_sixths_0 rfl rfl ?_
  refine ev_callS1i (q := 4) dX6_sixths_1 ca_X6_246 (c_X6_isShare _) (Nat.le_of_ble_eq_true rfl) (Nat.le_of_ble_eq_true rfl) (by decide) (by decide) rfl ?_
  refine ev_if_eq (q := 7) 42 dX6_sixths_4 (by decide) rfl (fun c_4 => ?_) (fun c_4 => ?_)
  · refine ev_bipush (q := 44) (-2) dX6_sixths_42 (by decide) rfl ?_
    exact ev_iretE dX6_sixths_44 rfl rfl rfl rfl rfl (hQ _ _)
  · have c_4 := b2i_n0.mp c_4
    rw [c_4, Bool.true_and] at hv
    refine ev_iload_n (q := 8) dX6_sixths_7 rfl rfl ?_
    refine ev_callS1i (q := 11) dX6_sixths_8 ca_X6_246 (c_X6_isShare _) (Nat.le_of_ble_eq_true rfl) (Nat.le_of_ble_eq_true rfl) (by decide) (by decide) rfl ?_
    refine ev_if_eq (q := 14) 42 dX6_sixths_11 (by decide) rfl (fun c_11 => ?_) (fun c_11 => ?_)
    · refine ev_bipush (q := 44) (-2) dX6_sixths_42 (by decide) rfl ?_
      exact ev_iretE dX6_sixths_44 rfl rfl rfl rfl rfl (hQ _ _)
    · have c_11 := b2i_n0.mp c_11
      rw [c_11, Bool.true_and] at hv
      refine ev_iload_n (q := 15) dX6_sixths_14 rfl rfl ?_
      refine ev_callS1i (q := 18) dX6_sixths_15 ca_X6_246 (c_X6_isShare _) (Nat.le_of_ble_eq_true rfl) (Nat.le_of_ble_eq_true rfl) (by decide) (by decide) rfl ?_
      refine ev_if_eq (q := 21) 42 dX6_sixths_18 (by decide) rfl (fun c_18 => ?_) (fun c_18 => ?_)
      · refine ev_bipush (q := 44) (-2) dX6_sixths_42 (by decide) rfl ?_
        exact ev_iretE dX6_sixths_44 rfl rfl rfl rfl rfl (hQ _ _)
      · have c_18 := b2i_n0.mp c_18
        rw [c_18, Bool.true_and] at hv
        refine ev_iload (q := 23) dX6_sixths_21 rfl rfl ?_
        refine ev_callS1i (q := 26) dX6_sixths_23 ca_X6_246 (c_X6_isShare _) (Nat.le_of_ble_eq_true rfl) (Nat.le_of_ble_eq_true rfl) (by decide) (by decide) rfl ?_
        refine ev_if_eq (q := 29) 42 dX6_sixths_26 (by decide) rfl (fun c_26 => ?_) (fun c_26 => ?_)
        · refine ev_bipush (q := 44) (-2) dX6_sixths_42 (by decide) rfl ?_
          exact ev_iretE dX6_sixths_44 rfl rfl rfl rfl rfl (hQ _ _)
        · have c_26 := b2i_n0.mp c_26
          rw [c_26, Bool.true_and] at hv
          refine ev_iload_n (q := 30) dX6_sixths_29 rfl rfl ?_
          refine ev_iload_n (q := 31) dX6_sixths_30 rfl rfl ?_
          refine ev_iadd (q := 32) dX6_sixths_31 rfl ?_
          refine ev_iload_n (q := 33) dX6_sixths_32 rfl rfl ?_
          refine ev_iadd (q := 34) dX6_sixths_33 rfl ?_
          refine ev_iload (q := 36) dX6_sixths_34 rfl rfl ?_
          refine ev_iadd (q := 37) dX6_sixths_36 rfl ?_
          refine ev_bipush (q := 39) (6) dX6_sixths_37 (by decide) rfl ?_
          refine ev_icmp_eq (q := 42) 45 dX6_sixths_39 (by decide) rfl (fun c_39 => ?_) (fun c_39 => ?_)
          · exact absurd (show a + b + c + d = 6 from c_39) (of_decide_eq_false hv)
          · refine ev_bipush (q := 44) (-2) dX6_sixths_42 (by decide) rfl ?_
            exact ev_iretE dX6_sixths_44 rfl rfl rfl rfl rfl (hQ _ _)
theorem k_X6_sixths (hn : 49 ≤ n) {a b c d : Int32} (hv : sxF a b c d = true) : RnS xl xs 1 20 0 0 mX6_sixths [.ref 0, .int a, .int b, .int c, .int d] n I J X (some (.int 1)) n (wr (wr (wr (wr I 4 0 a) 4 1 b) 4 2 c) 4 3 d) J X := by
  intro S T Q hQ
  show Ev xl xs 1 20 0 0 mX6_sixths 0 [some (.ref 0), some (.int a), some (.int b), some (.int c), some (.int d)] [] n (sysH (ov I S) (ovJ J T) X) Q
  unfold sxF at hv
  obtain ⟨g1, hv⟩ := Bool.and_eq_true_iff.mp hv
  obtain ⟨g2, hv⟩ := Bool.and_eq_true_iff.mp hv
  obtain ⟨g3, hv⟩ := Bool.and_eq_true_iff.mp hv
  obtain ⟨g4, hv⟩ := Bool.and_eq_true_iff.mp hv
  refine ev_iload_n (q := 1) dX6_sixths_0 rfl rfl ?_
  refine ev_callS1i (q := 4) dX6_sixths_1 ca_X6_246 (c_X6_isShare _) (Nat.le_of_ble_eq_true rfl) (Nat.le_of_ble_eq_true rfl) (by decide) (by decide) rfl ?_
  refine ev_if_eq (q := 7) 42 dX6_sixths_4 (by decide) rfl (fun c_4 => ?_) (fun c_4 => ?_)
  · exact absurd c_4 (b2i_n0.mpr g1)
  · refine ev_iload_n (q := 8) dX6_sixths_7 rfl rfl ?_
    refine ev_callS1i (q := 11) dX6_sixths_8 ca_X6_246 (c_X6_isShare _) (Nat.le_of_ble_eq_true rfl) (Nat.le_of_ble_eq_true rfl) (by decide) (by decide) rfl ?_
    refine ev_if_eq (q := 14) 42 dX6_sixths_11 (by decide) rfl (fun c_11 => ?_) (fun c_11 => ?_)
    · exact absurd c_11 (b2i_n0.mpr g2)
    · refine ev_iload_n (q := 15) dX6_sixths_14 rfl rfl ?_
      refine ev_callS1i (q := 18) dX6_sixths_15 ca_X6_246 (c_X6_isShare _) (Nat.le_of_ble_eq_true rfl) (Nat.le_of_ble_eq_true rfl) (by decide) (by decide) rfl ?_
      refine ev_if_eq (q := 21) 42 dX6_sixths_18 (by decide) rfl (fun c_18 => ?_) (fun c_18 => ?_)
      · exact absurd c_18 (b2i_n0.mpr g3)
      · refine ev_iload (q := 23) dX6_sixths_21 rfl rfl ?_
        refine ev_callS1i (q := 26) dX6_sixths_23 ca_X6_246 (c_X6_isShare _) (Nat.le_of_ble_eq_true rfl) (Nat.le_of_ble_eq_true rfl) (by decide) (by decide) rfl ?_
        refine ev_if_eq (q := 29) 42 dX6_sixths_26 (by decide) rfl (fun c_26 => ?_) (fun c_26 => ?_)
        · exact absurd c_26 (b2i_n0.mpr g4)
        · refine ev_iload_n (q := 30) dX6_sixths_29 rfl rfl ?_
          refine ev_iload_n (q := 31) dX6_sixths_30 rfl rfl ?_
          refine ev_iadd (q := 32) dX6_sixths_31 rfl ?_
          refine ev_iload_n (q := 33) dX6_sixths_32 rfl rfl ?_
          refine ev_iadd (q := 34) dX6_sixths_33 rfl ?_
          refine ev_iload (q := 36) dX6_sixths_34 rfl rfl ?_
          refine ev_iadd (q := 37) dX6_sixths_36 rfl ?_
          refine ev_bipush (q := 39) (6) dX6_sixths_37 (by decide) rfl ?_
          refine ev_icmp_eq (q := 42) 45 dX6_sixths_39 (by decide) rfl (fun c_39 => ?_) (fun c_39 => ?_)
          · refine ev_aload_n (q := 46) dX6_sixths_45 rfl rfl ?_
            refine ev_get (q := 49) dX6_sixths_46 fr_X6_10 rfl (lt_n hn (by decide)) rfl rfl ?_
            refine ev_get (q := 52) dX6_sixths_49 fr_X6_249 rfl (lt_n hn (by decide)) rfl rfl ?_
            refine ev_iconst (q := 53) (0) dX6_sixths_52 (by decide) rfl ?_
            refine ev_iload_n (q := 54) dX6_sixths_53 rfl rfl ?_
            first | refine ev_isK (q := 55) 0 dX6_sixths_54 rfl rfl (by omega) (lt_n hn (by decide)) rfl rfl ?_ | refine ev_isR (q := 55) 0 dX6_sixths_54 rfl rfl (by omega) (lt_n hn (by decide)) rfl rfl ?_
            refine ev_aload_n (q := 56) dX6_sixths_55 rfl rfl ?_
            refine ev_get (q := 59) dX6_sixths_56 fr_X6_10 rfl (lt_n hn (by decide)) rfl rfl ?_
            refine ev_get (q := 62) dX6_sixths_59 fr_X6_249 rfl (lt_n hn (by decide)) rfl rfl ?_
            refine ev_iconst (q := 63) (1) dX6_sixths_62 (by decide) rfl ?_
            refine ev_iload_n (q := 64) dX6_sixths_63 rfl rfl ?_
            first | refine ev_isK (q := 65) 1 dX6_sixths_64 rfl rfl (by omega) (lt_n hn (by decide)) rfl rfl ?_ | refine ev_isR (q := 65) 1 dX6_sixths_64 rfl rfl (by omega) (lt_n hn (by decide)) rfl rfl ?_
            refine ev_aload_n (q := 66) dX6_sixths_65 rfl rfl ?_
            refine ev_get (q := 69) dX6_sixths_66 fr_X6_10 rfl (lt_n hn (by decide)) rfl rfl ?_
            refine ev_get (q := 72) dX6_sixths_69 fr_X6_249 rfl (lt_n hn (by decide)) rfl rfl ?_
            refine ev_iconst (q := 73) (2) dX6_sixths_72 (by decide) rfl ?_
            refine ev_iload_n (q := 74) dX6_sixths_73 rfl rfl ?_
            first | refine ev_isK (q := 75) 2 dX6_sixths_74 rfl rfl (by omega) (lt_n hn (by decide)) rfl rfl ?_ | refine ev_isR (q := 75) 2 dX6_sixths_74 rfl rfl (by omega) (lt_n hn (by decide)) rfl rfl ?_
            refine ev_aload_n (q := 76) dX6_sixths_75 rfl rfl ?_
            refine ev_get (q := 79) dX6_sixths_76 fr_X6_10 rfl (lt_n hn (by decide)) rfl rfl ?_
            refine ev_get (q := 82) dX6_sixths_79 fr_X6_249 rfl (lt_n hn (by decide)) rfl rfl ?_
            refine ev_iconst (q := 83) (3) dX6_sixths_82 (by decide) rfl ?_
            refine ev_iload (q := 85) dX6_sixths_83 rfl rfl ?_
            first | refine ev_isK (q := 86) 3 dX6_sixths_85 rfl rfl (by omega) (lt_n hn (by decide)) rfl rfl ?_ | refine ev_isR (q := 86) 3 dX6_sixths_85 rfl rfl (by omega) (lt_n hn (by decide)) rfl rfl ?_
            refine ev_iconst (q := 87) (1) dX6_sixths_86 (by decide) rfl ?_
            exact ev_iretE dX6_sixths_87 rfl rfl rfl rfl rfl (hQ _ _)
          · exact absurd (of_decide_eq_true hv) c_39
theorem k_X6_came_f (hn : 49 ≤ n) (hk : KI I J t sl wy wi he) {a b : Int32} (hv : (inb a 0 (nI (2 ^ t) - 1) && inb b 0 (nI (2 ^ t) - 1)) = false) : RnS xl xs 2 41 0 0 mX6_came [.ref 0, .int a, .int b] n I J X (some (.int (-2))) n I J X := by
  intro S T Q hQ
  show Ev xl xs 2 41 0 0 mX6_came 0 [some (.ref 0), some (.int a), some (.int b), none] [] n (sysH (ov I S) (ovJ J T) X) Q
  refine ev_aload_n (q := 1) dX6_came_0 rfl rfl ?_
  refine ev_iload_n (q := 2) dX6_came_1 rfl rfl ?_
  refine ev_callV1i (q := 5) dX6_came_2 ca_X6_100 (k_X6_isWorld hn hk _) rfl (lt_n hn (by decide)) rfl rfl (Nat.le_of_ble_eq_true rfl) (Nat.le_of_ble_eq_true rfl) (by decide) (by decide) rfl ?_
  refine ev_if_eq (q := 8) 16 dX6_came_5 (by decide) rfl (fun c_5 => ?_) (fun c_5 => ?_)
  · refine ev_bipush (q := 18) (-2) dX6_came_16 (by decide) rfl ?_
    exact ev_iretE dX6_came_18 rfl rfl rfl rfl rfl (hQ _ _)
  · have c_5 := b2i_n0.mp c_5
    rw [c_5, Bool.true_and] at hv
    refine ev_aload_n (q := 9) dX6_came_8 rfl rfl ?_
    refine ev_iload_n (q := 10) dX6_came_9 rfl rfl ?_
    refine ev_callV1i (q := 13) dX6_came_10 ca_X6_100 (k_X6_isWorld hn hk _) rfl (lt_n hn (by decide)) rfl rfl (Nat.le_of_ble_eq_true rfl) (Nat.le_of_ble_eq_true rfl) (by decide) (by decide) rfl ?_
    refine ev_if_ne (q := 16) 19 dX6_came_13 (by decide) rfl (fun c_13 => ?_) (fun c_13 => ?_)
    · exact absurd (b2i_ne.mp c_13) (by rw [hv]; decide)
    · refine ev_bipush (q := 18) (-2) dX6_came_16 (by decide) rfl ?_
      exact ev_iretE dX6_came_18 rfl rfl rfl rfl rfl (hQ _ _)
theorem k_X6_came_6 (hn : 49 ≤ n) (hk : KI I J t sl wy wi he) {a b : Int32} (ha : inb a 0 (nI (2 ^ t) - 1) = true) (hb : inb b 0 (nI (2 ^ t) - 1) = true) (hc : I 1 15 = nI 6) : RnS xl xs 2 41 0 0 mX6_came [.ref 0, .int a, .int b] n I J X (some (.int (-4))) n I J X := by
  intro S T Q hQ
  show Ev xl xs 2 41 0 0 mX6_came 0 [some (.ref 0), some (.int a), some (.int b), none] [] n (sysH (ov I S) (ovJ J T) X) Q
  refine ev_aload_n (q := 1) dX6_came_0 rfl rfl ?_
  refine ev_iload_n (q := 2) dX6_came_1 rfl rfl ?_
  refine ev_callV1i (q := 5) dX6_came_2 ca_X6_100 (k_X6_isWorld hn hk _) rfl (lt_n hn (by decide)) rfl rfl (Nat.le_of_ble_eq_true rfl) (Nat.le_of_ble_eq_true rfl) (by decide) (by decide) rfl ?_
  refine ev_if_eq (q := 8) 16 dX6_came_5 (by decide) rfl (fun c_5 => ?_) (fun c_5 => ?_)
  · exact absurd c_5 (b2i_n0.mpr ha)
  · refine ev_aload_n (q := 9) dX6_came_8 rfl rfl ?_
    refine ev_iload_n (q := 10) dX6_came_9 rfl rfl ?_
    refine ev_callV1i (q := 13) dX6_came_10 ca_X6_100 (k_X6_isWorld hn hk _) rfl (lt_n hn (by decide)) rfl rfl (Nat.le_of_ble_eq_true rfl) (Nat.le_of_ble_eq_true rfl) (by decide) (by decide) rfl ?_
    refine ev_if_ne (q := 16) 19 dX6_came_13 (by decide) rfl (fun c_13 => ?_) (fun c_13 => ?_)
    · refine ev_aload_n (q := 20) dX6_came_19 rfl rfl ?_
      refine ev_get (q := 23) dX6_came_20 fr_X6_10 rfl (lt_n hn (by decide)) rfl rfl ?_
      refine ev_get (q := 26) dX6_came_23 fr_X6_274 rfl (lt_n hn (by decide)) rfl rfl ?_
      rw [show ov I S 1 15 = nI 6 from hc]
      refine ev_ist_3 (q := 27) dX6_came_26 rfl rfl ?_
      refine ev_iload_n (q := 28) dX6_came_27 rfl rfl ?_
      refine ev_if_lt (q := 31) 37 dX6_came_28 (by decide) rfl (fun c_28 => ?_) (fun c_28 => ?_)
      · refine ev_bipush (q := 39) (-4) dX6_came_37 (by decide) rfl ?_
        exact ev_iretE dX6_came_39 rfl rfl rfl rfl rfl (hQ _ _)
      · refine ev_iload_n (q := 32) dX6_came_31 rfl rfl ?_
        refine ev_bipush (q := 34) (6) dX6_came_32 (by decide) rfl ?_
        refine ev_icmp_lt (q := 37) 40 dX6_came_34 (by decide) rfl (fun c_34 => ?_) (fun c_34 => ?_)
        · exact absurd c_34 (by decide)
        · refine ev_bipush (q := 39) (-4) dX6_came_37 (by decide) rfl ?_
          exact ev_iretE dX6_came_39 rfl rfl rfl rfl rfl (hQ _ _)
    · exact absurd c_13 (b2i_n0.mpr hb)
theorem k_X6_came {c : Nat} (hn : 49 ≤ n) (hk : KI I J t sl wy wi he) {a b : Int32} (ha : inb a 0 (nI (2 ^ t) - 1) = true) (hb : inb b 0 (nI (2 ^ t) - 1) = true) (hc : I 1 15 = nI c) (hc6 : c < 6) : RnS xl xs 2 41 0 0 mX6_came [.ref 0, .int a, .int b] n I J X (some (.int (nI (c + 1)))) n (wr (wr (wr I 7 c a) 8 c b) 1 15 (nI (c + 1))) J X := by
  intro S T Q hQ
  show Ev xl xs 2 41 0 0 mX6_came 0 [some (.ref 0), some (.int a), some (.int b), none] [] n (sysH (ov I S) (ovJ J T) X) Q
  refine ev_aload_n (q := 1) dX6_came_0 rfl rfl ?_
  refine ev_iload_n (q := 2) dX6_came_1 rfl rfl ?_
  refine ev_callV1i (q := 5) dX6_came_2 ca_X6_100 (k_X6_isWorld hn hk _) rfl (lt_n hn (by decide)) rfl rfl (Nat.le_of_ble_eq_true rfl) (Nat.le_of_ble_eq_true rfl) (by decide) (by decide) rfl ?_
  refine ev_if_eq (q := 8) 16 dX6_came_5 (by decide) rfl (fun c_5 => ?_) (fun c_5 => ?_)
  · exact absurd c_5 (b2i_n0.mpr ha)
  · refine ev_aload_n (q := 9) dX6_came_8 rfl rfl ?_
    refine ev_iload_n (q := 10) dX6_came_9 rfl rfl ?_
    refine ev_callV1i (q := 13) dX6_came_10 ca_X6_100 (k_X6_isWorld hn hk _) rfl (lt_n hn (by decide)) rfl rfl (Nat.le_of_ble_eq_true rfl) (Nat.le_of_ble_eq_true rfl) (by decide) (by decide) rfl ?_
    refine ev_if_ne (q := 16) 19 dX6_came_13 (by decide) rfl (fun c_13 => ?_) (fun c_13 => ?_)
    · refine ev_aload_n (q := 20) dX6_came_19 rfl rfl ?_
      refine ev_get (q := 23) dX6_came_20 fr_X6_10 rfl (lt_n hn (by decide)) rfl rfl ?_
      refine ev_get (q := 26) dX6_came_23 fr_X6_274 rfl (lt_n hn (by decide)) rfl rfl ?_
      rw [show ov I S 1 15 = nI c from hc]
      refine ev_ist_3 (q := 27) dX6_came_26 rfl rfl ?_
      refine ev_iload_n (q := 28) dX6_came_27 rfl rfl ?_
      refine ev_if_lt (q := 31) 37 dX6_came_28 (by decide) rfl (fun c_28 => ?_) (fun c_28 => ?_)
      · exact absurd c_28 (nI_pos (by omega))
      · refine ev_iload_n (q := 32) dX6_came_31 rfl rfl ?_
        refine ev_bipush (q := 34) (6) dX6_came_32 (by decide) rfl ?_
        refine ev_icmp_lt (q := 37) 40 dX6_came_34 (by decide) rfl (fun c_34 => ?_) (fun c_34 => ?_)
        · refine ev_aload_n (q := 41) dX6_came_40 rfl rfl ?_
          refine ev_get (q := 44) dX6_came_41 fr_X6_10 rfl (lt_n hn (by decide)) rfl rfl ?_
          refine ev_get (q := 47) dX6_came_44 fr_X6_277 rfl (lt_n hn (by decide)) rfl rfl ?_
          refine ev_iload_n (q := 48) dX6_came_47 rfl rfl ?_
          refine ev_iload_n (q := 49) dX6_came_48 rfl rfl ?_
          first | refine ev_isK (q := 50) c dX6_came_49 rfl rfl (by omega) (lt_n hn (by decide)) rfl rfl ?_ | refine ev_isR (q := 50) c dX6_came_49 rfl rfl (by omega) (lt_n hn (by decide)) rfl rfl ?_
          refine ev_aload_n (q := 51) dX6_came_50 rfl rfl ?_
          refine ev_get (q := 54) dX6_came_51 fr_X6_10 rfl (lt_n hn (by decide)) rfl rfl ?_
          refine ev_get (q := 57) dX6_came_54 fr_X6_280 rfl (lt_n hn (by decide)) rfl rfl ?_
          refine ev_iload_n (q := 58) dX6_came_57 rfl rfl ?_
          refine ev_iload_n (q := 59) dX6_came_58 rfl rfl ?_
          first | refine ev_isK (q := 60) c dX6_came_59 rfl rfl (by omega) (lt_n hn (by decide)) rfl rfl ?_ | refine ev_isR (q := 60) c dX6_came_59 rfl rfl (by omega) (lt_n hn (by decide)) rfl rfl ?_
          refine ev_aload_n (q := 61) dX6_came_60 rfl rfl ?_
          refine ev_get (q := 64) dX6_came_61 fr_X6_10 rfl (lt_n hn (by decide)) rfl rfl ?_
          refine ev_iload_n (q := 65) dX6_came_64 rfl rfl ?_
          refine ev_iconst (q := 66) (1) dX6_came_65 (by decide) rfl ?_
          refine ev_iadd (q := 67) dX6_came_66 rfl ?_
          rw [nI_1 c]
          first | refine ev_putIK (q := 70) dX6_came_67 fa_X6_274 rfl (by decide) (lt_n hn (by decide)) (Nat.le_of_ble_eq_true rfl) ⟨rfl, rfl⟩ rfl rfl rfl ?_ | refine ev_putIR (q := 70) dX6_came_67 fa_X6_274 rfl (by decide) (lt_n hn (by decide)) (Nat.le_of_ble_eq_true rfl) ⟨rfl, rfl⟩ rfl rfl rfl ?_
          refine ev_aload_n (q := 71) dX6_came_70 rfl rfl ?_
          refine ev_get (q := 74) dX6_came_71 fr_X6_10 rfl (lt_n hn (by decide)) rfl rfl ?_
          refine ev_get (q := 77) dX6_came_74 fr_X6_274 rfl (lt_n hn (by decide)) rfl rfl ?_
          exact ev_iretE dX6_came_77 rfl rfl rfl rfl rfl (hQ _ _)
        · exact absurd ((nI_ltI (b := 6) (by omega) (by omega)).mpr hc6) c_34
    · exact absurd c_13 (b2i_n0.mpr hb)
theorem k_X4_forget (hn : 49 ≤ n) : RnS xl xs 0 0 0 0 mX4_forgetSights [.ref 1] n I J X none n (wr (wr I 1 12 0) 1 15 0) (fillJ J 6 12 (fun _ => -1)) X := by
  intro S T Q hQ
  show Ev xl xs 0 0 0 0 mX4_forgetSights 0 [some (.ref 1), none] [] n (sysH (ov I S) (ovJ J T) X) Q
  have lp : ∀ j k, k + j = 12 → Ev xl xs 0 0 0 0 mX4_forgetSights 12 [some (.ref 1), some (.int (nI k))] [] n (sysH (ov (wr (wr I 1 12 0) 1 15 0) S) (ovJ (fillJ J 6 k (fun _ => -1)) T) X) Q := by
    intro j
    induction j using Nat.strongRecOn with
    | _ j ih =>
      intro k hk
      have e : ∀ h1, _ := fun (h1 : j - 1 < j) => ih (j - 1) h1 (k + 1)
      refine ev_iload_n (q := 13) dX4_forgetSights_12 rfl rfl ?_
      refine ev_bipush (q := 15) (12) dX4_forgetSights_13 (by decide) rfl ?_
      refine ev_icmp_ge (q := 18) 33 dX4_forgetSights_15 (by decide) rfl (fun c_15 => ?_) (fun c_15 => ?_)
      · have c_15 : 12 ≤ k := (nI_leI (a := 12) (by omega) (by omega)).mp c_15
        rw [show k = 12 by omega]
        exact ev_retE dX4_forgetSights_33 rfl rfl rfl (hQ _ _)
      · have c_15 : ¬ 12 ≤ k := fun h => c_15 ((nI_leI (a := 12) (by omega) (by omega)).mpr h)
        refine ev_aload_n (q := 19) dX4_forgetSights_18 rfl rfl ?_
        refine ev_get (q := 22) dX4_forgetSights_19 fr_X4_24 rfl (lt_n hn (by decide)) rfl rfl ?_
        refine ev_iload_n (q := 23) dX4_forgetSights_22 rfl rfl ?_
        refine ev_ldc2 (q := 26) co_X4_70 dX4_forgetSights_23 rfl ?_
        first | refine ev_lsK (q := 27) k dX4_forgetSights_26 rfl rfl (by omega) (lt_n hn (by decide)) rfl rfl ?_ | refine ev_lsR (q := 27) k dX4_forgetSights_26 rfl rfl (by omega) (lt_n hn (by decide)) rfl rfl ?_
        rw [show setJ (fillJ J 6 k (fun _ => -1)) 6 (vp_updL (fillJ J 6 k (fun _ => -1) 6) k (-1)) = fillJ J 6 (k + 1) (fun _ => -1) from fillJ_s _ _ _ (fun _ => -1)]
        refine ev_inc_1 (q := 30) (nI (k + 1)) dX4_forgetSights_27 (nI_1 k) rfl rfl ?_
        refine ev_goto 12 dX4_forgetSights_30 (by decide) ?_
        exact e (by omega) (by omega)
  refine ev_aload_n (q := 1) dX4_forgetSights_0 rfl rfl ?_
  refine ev_iconst (q := 2) (0) dX4_forgetSights_1 (by decide) rfl ?_
  first | refine ev_putIK (q := 5) dX4_forgetSights_2 fa_X4_64 rfl (by decide) (lt_n hn (by decide)) (Nat.le_of_ble_eq_true rfl) ⟨rfl, rfl⟩ rfl rfl rfl ?_ | refine ev_putIR (q := 5) dX4_forgetSights_2 fa_X4_64 rfl (by decide) (lt_n hn (by decide)) (Nat.le_of_ble_eq_true rfl) ⟨rfl, rfl⟩ rfl rfl rfl ?_
  refine ev_aload_n (q := 6) dX4_forgetSights_5 rfl rfl ?_
  refine ev_iconst (q := 7) (0) dX4_forgetSights_6 (by decide) rfl ?_
  first | refine ev_putIK (q := 10) dX4_forgetSights_7 fa_X4_67 rfl (by decide) (lt_n hn (by decide)) (Nat.le_of_ble_eq_true rfl) ⟨rfl, rfl⟩ rfl rfl rfl ?_ | refine ev_putIR (q := 10) dX4_forgetSights_7 fa_X4_67 rfl (by decide) (lt_n hn (by decide)) (Nat.le_of_ble_eq_true rfl) ⟨rfl, rfl⟩ rfl rfl rfl ?_
  refine ev_iconst (q := 11) (0) dX4_forgetSights_10 (by decide) rfl ?_
  refine ev_ist_1 (q := 12) dX4_forgetSights_11 rfl rfl ?_
  have e := lp 12 0 (by omega)
  rw [fillJ_0] at e
  exact e
theorem k_X6_forget (hn : 49 ≤ n) : RnS xl xs 1 21 0 0 mX6_forget [.ref 0] n I J X (some (.int (I 1 12 + I 1 15))) n (wr (wr I 1 12 0) 1 15 0) (fillJ J 6 12 (fun _ => -1)) X := by
  intro S T Q hQ
  show Ev xl xs 1 21 0 0 mX6_forget 0 [some (.ref 0), none] [] n (sysH (ov I S) (ovJ J T) X) Q
  refine ev_aload_n (q := 1) dX6_forget_0 rfl rfl ?_
  refine ev_get (q := 4) dX6_forget_1 fr_X6_10 rfl (lt_n hn (by decide)) rfl rfl ?_
  refine ev_get (q := 7) dX6_forget_4 fr_X6_258 rfl (lt_n hn (by decide)) rfl rfl ?_
  refine ev_aload_n (q := 8) dX6_forget_7 rfl rfl ?_
  refine ev_get (q := 11) dX6_forget_8 fr_X6_10 rfl (lt_n hn (by decide)) rfl rfl ?_
  refine ev_get (q := 14) dX6_forget_11 fr_X6_274 rfl (lt_n hn (by decide)) rfl rfl ?_
  refine ev_iadd (q := 15) dX6_forget_14 rfl ?_
  refine ev_ist_1 (q := 16) dX6_forget_15 rfl rfl ?_
  refine ev_aload_n (q := 17) dX6_forget_16 rfl rfl ?_
  refine ev_get (q := 20) dX6_forget_17 fr_X6_10 rfl (lt_n hn (by decide)) rfl rfl ?_
  refine ev_callV0vS (q := 23) dX6_forget_20 ca_X6_286 (k_X4_forget hn) rfl (lt_n hn (by decide)) rfl rfl (Nat.le_of_ble_eq_true rfl) (Nat.le_of_ble_eq_true rfl) (by decide) (by decide) rfl (fun S T => ?_)
  refine ev_iload_n (q := 24) dX6_forget_23 rfl rfl ?_
  exact ev_iretE dX6_forget_24 rfl rfl rfl rfl rfl (hQ _ _)
theorem k_X6_enact_f (hn : 49 ≤ n) (hk : KI I J t sl wy wi he) (hp : PdI I sg) (hf : ¬ ffP I t sg = -6) : RnS xl xs 3 67 0 0 mX6_enact [.ref 0] n I J X (some (.int (-5))) n I J X := by
  intro S T Q hQ
  have hb : decide (ffP I t sg ≠ -6) = true := decide_eq_true hf
  show Ev xl xs 3 67 0 0 mX6_enact 0 [some (.ref 0)] [] n (sysH (ov I S) (ovJ J T) X) Q
  refine ev_aload_n (q := 1) dX6_enact_0 rfl rfl ?_
  refine ev_callV0i (q := 4) dX6_enact_1 ca_X6_127 (k_X6_isFaulty hn hk hp) rfl (lt_n hn (by decide)) rfl rfl (Nat.le_of_ble_eq_true rfl) (Nat.le_of_ble_eq_true rfl) (by decide) (by decide) rfl ?_
  rw [hb]
  refine ev_if_eq (q := 7) 10 dX6_enact_4 (by decide) rfl (fun c_4 => ?_) (fun c_4 => ?_)
  · exact absurd c_4 (by decide)
  · refine ev_bipush (q := 9) (-5) dX6_enact_7 (by decide) rfl ?_
    exact ev_iretE dX6_enact_9 rfl rfl rfl rfl rfl (hQ _ _)
theorem so_all {I : Nat → Nat → Int32} {t sg he : Nat} (h64 : 2 ^ t ≤ 64) : mk64 (soM t (I 41) sg he) 64 &&& allL t = soS I t sg he := by
  apply l_ext
  intro w hw
  unfold allL soS
  rw [lb_and, mk64_bit _ 64 (Nat.le_refl _), mk64_bit _ _ h64, mk64_bit _ _ h64, decide_eq_true hw, Bool.true_and, Bool.and_true, Bool.and_comm]
theorem k_X6_enact_t (hn : 49 ≤ n) (hk : KI I J t sl wy wi he) (hp : PdI I sg) (hf : ffP I t sg = -6) : RnS xl xs 3 67 0 0 mX6_enact [.ref 0] n I J X (some (.int (nI sg))) n (wr I 10 1 0) (wrJ J 1 5 (soS I t sg he)) X := by
  intro S T Q hQ
  have h6 := hk.1.2.2.1
  have ht2 := hk.1.2.1
  have h64 := p2_le h6
  have hhl := hk.1.2.2.2.2.2.2.2.2.2.2
  have hw := ffP_WT h6 ht2 hp.2.2.1 hf
  have h40 := hp.2.2.1
  have hb : decide (ffP I t sg ≠ -6) = false := decide_eq_false (fun h => h hf)
  show Ev xl xs 3 67 0 0 mX6_enact 0 [some (.ref 0)] [] n (sysH (ov I S) (ovJ J T) X) Q
  refine ev_aload_n (q := 1) dX6_enact_0 rfl rfl ?_
  refine ev_callV0i (q := 4) dX6_enact_1 ca_X6_127 (k_X6_isFaulty hn hk hp) rfl (lt_n hn (by decide)) rfl rfl (Nat.le_of_ble_eq_true rfl) (Nat.le_of_ble_eq_true rfl) (by decide) (by decide) rfl ?_
  rw [hb]
  refine ev_if_eq (q := 7) 10 dX6_enact_4 (by decide) rfl (fun c_4 => ?_) (fun c_4 => ?_)
  · refine ev_aload_n (q := 11) dX6_enact_10 rfl rfl ?_
    refine ev_get (q := 14) dX6_enact_11 fr_X6_10 rfl (lt_n hn (by decide)) rfl rfl ?_
    refine ev_aload_n (q := 15) dX6_enact_14 rfl rfl ?_
    refine ev_get (q := 18) dX6_enact_15 fr_X6_23 rfl (lt_n hn (by decide)) rfl rfl ?_
    refine ev_aload_n (q := 19) dX6_enact_18 rfl rfl ?_
    refine ev_get (q := 22) dX6_enact_19 fr_X6_10 rfl (lt_n hn (by decide)) rfl rfl ?_
    refine ev_get (q := 25) dX6_enact_22 fr_X6_103 rfl (lt_n hn (by decide)) rfl rfl ?_
    rw [show ov I S 1 1 = nI he from hk.2.1.2.1]
    refine ev_callV1lP (q := 28) dX6_enact_25 ca_X6_131 (k_worldsFrom_10 hn h6 ht2 hp.2.1 (fun k hk => hp.2.2.2 k (by omega)) hw (by omega)) rfl (lt_n hn (by decide)) rfl rfl (Nat.le_of_ble_eq_true rfl) (Nat.le_of_ble_eq_true rfl) (by decide) (by decide) rfl (fun S T hp_25 => ?_)
    refine ev_aload_n (q := 29) dX6_enact_28 rfl rfl ?_
    refine ev_get (q := 32) dX6_enact_29 fr_X6_10 rfl (lt_n hn (by decide)) rfl rfl ?_
    refine ev_callV0l (q := 35) dX6_enact_32 ca_X6_135 (k_X4_allWorlds hn hk) rfl (lt_n hn (by decide)) rfl rfl (Nat.le_of_ble_eq_true rfl) (Nat.le_of_ble_eq_true rfl) (by decide) (by decide) rfl ?_
    refine ev_land (q := 36) dX6_enact_35 rfl ?_
    rw [so_all h64]
    refine ev_putJR (q := 39) dX6_enact_36 fa_X6_139 rfl (by decide) (lt_n hn (by decide)) (Nat.le_of_ble_eq_true rfl) ⟨rfl, rfl⟩ rfl rfl rfl ?_
    refine ev_aload_n (q := 40) dX6_enact_39 rfl rfl ?_
    refine ev_get (q := 43) dX6_enact_40 fr_X6_23 rfl (lt_n hn (by decide)) rfl rfl ?_
    refine ev_callV0iS (q := 46) dX6_enact_43 ca_X6_119 (k_clear10 hn) rfl (lt_n hn (by decide)) rfl rfl (Nat.le_of_ble_eq_true rfl) (Nat.le_of_ble_eq_true rfl) (by decide) (by decide) rfl (fun S T => ?_)
    exact ev_iretE dX6_enact_46 rfl rfl hp.2.1 rfl rfl (hQ _ _)
  · exact absurd rfl c_4
theorem k_remember {u : Nat} (hn : 49 ≤ n) (hu : I 1 10 = nI u) (hu16 : u < 16) (x : Int32) : RnS xl xs 1 26 0 0 mX4_remember [.ref 1, .int x] n I J X none n (wr (wr I 5 u x) 1 10 (nI (u + 1))) J X := by
  intro S T Q hQ
  show Ev xl xs 1 26 0 0 mX4_remember 0 [some (.ref 1), some (.int x)] [] n (sysH (ov I S) (ovJ J T) X) Q
  refine ev_aload_n (q := 1) dX4_remember_0 rfl rfl ?_
  refine ev_get (q := 4) dX4_remember_1 fr_X4_58 rfl (lt_n hn (by decide)) rfl rfl ?_
  refine ev_bipush (q := 6) (16) dX4_remember_4 (by decide) rfl ?_
  rw [show ov I S 1 10 = nI u from hu]
  refine ev_icmp_lt (q := 9) 30 dX4_remember_6 (by decide) rfl (fun c_6 => ?_) (fun c_6 => ?_)
  · refine ev_aload_n (q := 31) dX4_remember_30 rfl rfl ?_
    refine ev_get (q := 34) dX4_remember_31 fr_X4_21 rfl (lt_n hn (by decide)) rfl rfl ?_
    refine ev_aload_n (q := 35) dX4_remember_34 rfl rfl ?_
    refine ev_get (q := 38) dX4_remember_35 fr_X4_58 rfl (lt_n hn (by decide)) rfl rfl ?_
    refine ev_iload_n (q := 39) dX4_remember_38 rfl rfl ?_
    first | refine ev_isK (q := 40) u dX4_remember_39 hu rfl (by omega) (lt_n hn (by decide)) rfl rfl ?_ | refine ev_isR (q := 40) u dX4_remember_39 hu rfl (by omega) (lt_n hn (by decide)) rfl rfl ?_
    refine ev_aload_n (q := 41) dX4_remember_40 rfl rfl ?_
    refine ev_dup (q := 42) (fun _ => rfl) dX4_remember_41 rfl ?_
    refine ev_get (q := 45) dX4_remember_42 fr_X4_58 rfl (lt_n hn (by decide)) rfl rfl ?_
    refine ev_iconst (q := 46) (1) dX4_remember_45 (by decide) rfl ?_
    refine ev_iadd (q := 47) dX4_remember_46 rfl ?_
    rw [show ov (wr I 5 u x) S 1 10 + 1 = nI (u + 1) from by rw [show ov (wr I 5 u x) S 1 10 = nI u from hu]; exact nI_1 u]
    first | refine ev_putIK (q := 50) dX4_remember_47 fa_X4_58 rfl (by decide) (lt_n hn (by decide)) (Nat.le_of_ble_eq_true rfl) ⟨rfl, rfl⟩ rfl rfl rfl ?_ | refine ev_putIR (q := 50) dX4_remember_47 fa_X4_58 rfl (by decide) (lt_n hn (by decide)) (Nat.le_of_ble_eq_true rfl) ⟨rfl, rfl⟩ rfl rfl rfl ?_
    exact ev_retE dX4_remember_50 rfl rfl rfl (hQ _ _)
  · exact absurd ((nI_ltI (b := 16) (by omega) (by omega)).mpr hu16) c_6
theorem k_remember_16 (hn : 49 ≤ n) (hu : I 1 10 = nI 16) (x : Int32) : RnS xl xs 1 26 0 0 mX4_remember [.ref 1, .int x] n I J X none n (wr (wr (wr (setI I 5 (shC (I 5))) 1 10 (nI 15)) 5 15 x) 1 10 (nI 16)) J X := by
  intro S T Q hQ
  show Ev xl xs 1 26 0 0 mX4_remember 0 [some (.ref 1), some (.int x)] [] n (sysH (ov I S) (ovJ J T) X) Q
  refine ev_aload_n (q := 1) dX4_remember_0 rfl rfl ?_
  refine ev_get (q := 4) dX4_remember_1 fr_X4_58 rfl (lt_n hn (by decide)) rfl rfl ?_
  refine ev_bipush (q := 6) (16) dX4_remember_4 (by decide) rfl ?_
  rw [show ov I S 1 10 = nI 16 from hu]
  refine ev_icmp_lt (q := 9) 30 dX4_remember_6 (by decide) rfl (fun c_6 => ?_) (fun c_6 => ?_)
  · exact absurd c_6 (by decide)
  · refine ev_aload_n (q := 10) dX4_remember_9 rfl rfl ?_
    refine ev_get (q := 13) dX4_remember_10 fr_X4_21 rfl (lt_n hn (by decide)) rfl rfl ?_
    refine ev_iconst (q := 14) (1) dX4_remember_13 (by decide) rfl ?_
    refine ev_aload_n (q := 15) dX4_remember_14 rfl rfl ?_
    refine ev_get (q := 18) dX4_remember_15 fr_X4_21 rfl (lt_n hn (by decide)) rfl rfl ?_
    refine ev_iconst (q := 19) (0) dX4_remember_18 (by decide) rfl ?_
    refine ev_bipush (q := 21) (15) dX4_remember_19 (by decide) rfl ?_
    refine ev_cpyI (q := 24) dX4_remember_21 (tb_in (tt_2 218 rfl) rfl) rfl (lt_n hn (by decide)) rfl (lt_n hn (by decide)) (by decide) (by decide) (by decide) (by decide) (by decide) (by decide) (by decide) rfl ?_
    rw [show setI (ov I S) 5 (va_cpy (ov I S 5) (ov I S 5) (1 : Int32).toNatClampNeg (0 : Int32).toNatClampNeg (15 : Int32).toNatClampNeg) = ov (setI I 5 (shC (I 5))) S from ovI_r _ (fun j => rfl)]
    refine ev_aload_n (q := 25) dX4_remember_24 rfl rfl ?_
    refine ev_bipush (q := 27) (15) dX4_remember_25 (by decide) rfl ?_
    first | refine ev_putIK (q := 30) dX4_remember_27 fa_X4_58 rfl (by decide) (lt_n hn (by decide)) (Nat.le_of_ble_eq_true rfl) ⟨rfl, rfl⟩ rfl rfl rfl ?_ | refine ev_putIR (q := 30) dX4_remember_27 fa_X4_58 rfl (by decide) (lt_n hn (by decide)) (Nat.le_of_ble_eq_true rfl) ⟨rfl, rfl⟩ rfl rfl rfl ?_
    refine ev_aload_n (q := 31) dX4_remember_30 rfl rfl ?_
    refine ev_get (q := 34) dX4_remember_31 fr_X4_21 rfl (lt_n hn (by decide)) rfl rfl ?_
    refine ev_aload_n (q := 35) dX4_remember_34 rfl rfl ?_
    refine ev_get (q := 38) dX4_remember_35 fr_X4_58 rfl (lt_n hn (by decide)) rfl rfl ?_
    refine ev_iload_n (q := 39) dX4_remember_38 rfl rfl ?_
    first | refine ev_isK (q := 40) 15 dX4_remember_39 rfl rfl (by decide) (lt_n hn (by decide)) rfl rfl ?_ | refine ev_isR (q := 40) 15 dX4_remember_39 rfl rfl (by decide) (lt_n hn (by decide)) rfl rfl ?_
    refine ev_aload_n (q := 41) dX4_remember_40 rfl rfl ?_
    refine ev_dup (q := 42) (fun _ => rfl) dX4_remember_41 rfl ?_
    refine ev_get (q := 45) dX4_remember_42 fr_X4_58 rfl (lt_n hn (by decide)) rfl rfl ?_
    refine ev_iconst (q := 46) (1) dX4_remember_45 (by decide) rfl ?_
    refine ev_iadd (q := 47) dX4_remember_46 rfl ?_
    first | refine ev_putIK (q := 50) dX4_remember_47 fa_X4_58 rfl (by decide) (lt_n hn (by decide)) (Nat.le_of_ble_eq_true rfl) ⟨rfl, rfl⟩ rfl rfl rfl ?_ | refine ev_putIR (q := 50) dX4_remember_47 fa_X4_58 rfl (by decide) (lt_n hn (by decide)) (Nat.le_of_ble_eq_true rfl) ⟨rfl, rfl⟩ rfl rfl rfl ?_
    exact ev_retE dX4_remember_50 rfl rfl rfl (hQ _ _)
theorem k_X6_grant_f (hn : 49 ≤ n) (hk : KI I J t sl wy wi he) (hp : PdI I sg) (hf : ffP I t sg = -6 → mdO I J t sl wy wi he sg = none) : RnS xl xs 5 116 0 0 mX6_grant [.ref 0] n I J X (some (.int (if ffP I t sg = -6 then -3 else -5))) n I J X := by
  intro S T Q hQ
  show Ev xl xs 5 116 0 0 mX6_grant 0 [some (.ref 0), none] [] n (sysH (ov I S) (ovJ J T) X) Q
  rcases mdF_or (I := I) (J := J) (t := t) (sl := sl) (wy := wy) (wi := wi) (he := he) (sg := sg) with ⟨hd, hf1⟩ | ⟨hd, hf1, ho⟩ | ⟨w, hw, hd, hf1, ho⟩
  · refine ev_aload_n (q := 1) dX6_grant_0 rfl rfl ?_
    refine ev_callV0iS (q := 4) dX6_grant_1 ca_X6_155 (k_X6_wishOutcome hn hk hp) rfl (lt_n hn (by decide)) rfl rfl (Nat.le_of_ble_eq_true rfl) (Nat.le_of_ble_eq_true rfl) (by decide) (by decide) rfl (fun S T => ?_)
    rw [hd]
    refine ev_ist_1 (q := 5) dX6_grant_4 rfl rfl ?_
    refine ev_iload_n (q := 6) dX6_grant_5 rfl rfl ?_
    refine ev_if_ge (q := 9) 11 dX6_grant_6 (by decide) rfl (fun c_6 => ?_) (fun c_6 => ?_)
    · exact absurd c_6 (by decide)
    · refine ev_iload_n (q := 10) dX6_grant_9 rfl rfl ?_
      exact ev_iretE dX6_grant_10 rfl rfl (by rw [if_neg hf1]) rfl rfl (hQ _ _)
  · refine ev_aload_n (q := 1) dX6_grant_0 rfl rfl ?_
    refine ev_callV0iS (q := 4) dX6_grant_1 ca_X6_155 (k_X6_wishOutcome hn hk hp) rfl (lt_n hn (by decide)) rfl rfl (Nat.le_of_ble_eq_true rfl) (Nat.le_of_ble_eq_true rfl) (by decide) (by decide) rfl (fun S T => ?_)
    rw [hd]
    refine ev_ist_1 (q := 5) dX6_grant_4 rfl rfl ?_
    refine ev_iload_n (q := 6) dX6_grant_5 rfl rfl ?_
    refine ev_if_ge (q := 9) 11 dX6_grant_6 (by decide) rfl (fun c_6 => ?_) (fun c_6 => ?_)
    · exact absurd c_6 (by decide)
    · refine ev_iload_n (q := 10) dX6_grant_9 rfl rfl ?_
      exact ev_iretE dX6_grant_10 rfl rfl (by rw [if_pos hf1]) rfl rfl (hQ _ _)
  · rw [hf hf1] at ho; cases ho
theorem k_X6_grant_t {u w : Nat} (hn : 49 ≤ n) (hk : KI I J t sl wy wi he) (hp : PdI I sg) (hf : ffP I t sg = -6) (ho : mdO I J t sl wy wi he sg = some w) (hu : I 1 10 = nI u) (hu16 : u < 16) : RnS xl xs 5 116 0 0 mX6_grant [.ref 0] n I J X (some (.int (nI w))) n (wr (wr (wr (wr I 5 u (nI he)) 1 10 (nI (u + 1))) 1 1 (nI w)) 10 1 0) J X := by
  intro S T Q hQ
  have hw := mdO_lt ho
  have h64 := p2_le hk.1.2.2.1
  have hd : mdF I J t sl wy wi he sg = nI w := by unfold mdF; rw [if_pos hf, ho]; rfl
  show Ev xl xs 5 116 0 0 mX6_grant 0 [some (.ref 0), none] [] n (sysH (ov I S) (ovJ J T) X) Q
  refine ev_aload_n (q := 1) dX6_grant_0 rfl rfl ?_
  refine ev_callV0iS (q := 4) dX6_grant_1 ca_X6_155 (k_X6_wishOutcome hn hk hp) rfl (lt_n hn (by decide)) rfl rfl (Nat.le_of_ble_eq_true rfl) (Nat.le_of_ble_eq_true rfl) (by decide) (by decide) rfl (fun S T => ?_)
  rw [hd]
  refine ev_ist_1 (q := 5) dX6_grant_4 rfl rfl ?_
  refine ev_iload_n (q := 6) dX6_grant_5 rfl rfl ?_
  refine ev_if_ge (q := 9) 11 dX6_grant_6 (by decide) rfl (fun c_6 => ?_) (fun c_6 => ?_)
  · refine ev_aload_n (q := 12) dX6_grant_11 rfl rfl ?_
    refine ev_get (q := 15) dX6_grant_12 fr_X6_10 rfl (lt_n hn (by decide)) rfl rfl ?_
    refine ev_aload_n (q := 16) dX6_grant_15 rfl rfl ?_
    refine ev_get (q := 19) dX6_grant_16 fr_X6_10 rfl (lt_n hn (by decide)) rfl rfl ?_
    refine ev_get (q := 22) dX6_grant_19 fr_X6_103 rfl (lt_n hn (by decide)) rfl rfl ?_
    rw [show ov I S 1 1 = nI he from hk.2.1.2.1]
    refine ev_callV1vS (q := 25) dX6_grant_22 ca_X6_176 (k_remember hn hu hu16 _) rfl (lt_n hn (by decide)) rfl rfl (Nat.le_of_ble_eq_true rfl) (Nat.le_of_ble_eq_true rfl) (by decide) (by decide) rfl (fun S T => ?_)
    refine ev_aload_n (q := 26) dX6_grant_25 rfl rfl ?_
    refine ev_get (q := 29) dX6_grant_26 fr_X6_10 rfl (lt_n hn (by decide)) rfl rfl ?_
    refine ev_iload_n (q := 30) dX6_grant_29 rfl rfl ?_
    first | refine ev_putIK (q := 33) dX6_grant_30 fa_X6_103 rfl (by decide) (lt_n hn (by decide)) (Nat.le_of_ble_eq_true rfl) ⟨rfl, rfl⟩ rfl rfl rfl ?_ | refine ev_putIR (q := 33) dX6_grant_30 fa_X6_103 rfl (by decide) (lt_n hn (by decide)) (Nat.le_of_ble_eq_true rfl) ⟨rfl, rfl⟩ rfl rfl rfl ?_
    refine ev_aload_n (q := 34) dX6_grant_33 rfl rfl ?_
    refine ev_get (q := 37) dX6_grant_34 fr_X6_23 rfl (lt_n hn (by decide)) rfl rfl ?_
    refine ev_callV0iS (q := 40) dX6_grant_37 ca_X6_119 (k_clear10 hn) rfl (lt_n hn (by decide)) rfl rfl (Nat.le_of_ble_eq_true rfl) (Nat.le_of_ble_eq_true rfl) (by decide) (by decide) rfl (fun S T => ?_)
    refine ev_pop (q := 41) (fun _ => rfl) dX6_grant_40 rfl ?_
    refine ev_iload_n (q := 42) dX6_grant_41 rfl rfl ?_
    exact ev_iretE dX6_grant_42 rfl rfl rfl rfl rfl (hQ _ _)
  · exact absurd (nI_pos' (by omega)) c_6
theorem k_X6_grant_16 {w : Nat} (hn : 49 ≤ n) (hk : KI I J t sl wy wi he) (hp : PdI I sg) (hf : ffP I t sg = -6) (ho : mdO I J t sl wy wi he sg = some w) (hu : I 1 10 = nI 16) : RnS xl xs 5 116 0 0 mX6_grant [.ref 0] n I J X (some (.int (nI w))) n (wr (wr (wr (wr (wr (setI I 5 (shC (I 5))) 1 10 (nI 15)) 5 15 (nI he)) 1 10 (nI 16)) 1 1 (nI w)) 10 1 0) J X := by
  intro S T Q hQ
  have hw := mdO_lt ho
  have h64 := p2_le hk.1.2.2.1
  have hd : mdF I J t sl wy wi he sg = nI w := by unfold mdF; rw [if_pos hf, ho]; rfl
  show Ev xl xs 5 116 0 0 mX6_grant 0 [some (.ref 0), none] [] n (sysH (ov I S) (ovJ J T) X) Q
  refine ev_aload_n (q := 1) dX6_grant_0 rfl rfl ?_
  refine ev_callV0iS (q := 4) dX6_grant_1 ca_X6_155 (k_X6_wishOutcome hn hk hp) rfl (lt_n hn (by decide)) rfl rfl (Nat.le_of_ble_eq_true rfl) (Nat.le_of_ble_eq_true rfl) (by decide) (by decide) rfl (fun S T => ?_)
  rw [hd]
  refine ev_ist_1 (q := 5) dX6_grant_4 rfl rfl ?_
  refine ev_iload_n (q := 6) dX6_grant_5 rfl rfl ?_
  refine ev_if_ge (q := 9) 11 dX6_grant_6 (by decide) rfl (fun c_6 => ?_) (fun c_6 => ?_)
  · refine ev_aload_n (q := 12) dX6_grant_11 rfl rfl ?_
    refine ev_get (q := 15) dX6_grant_12 fr_X6_10 rfl (lt_n hn (by decide)) rfl rfl ?_
    refine ev_aload_n (q := 16) dX6_grant_15 rfl rfl ?_
    refine ev_get (q := 19) dX6_grant_16 fr_X6_10 rfl (lt_n hn (by decide)) rfl rfl ?_
    refine ev_get (q := 22) dX6_grant_19 fr_X6_103 rfl (lt_n hn (by decide)) rfl rfl ?_
    rw [show ov I S 1 1 = nI he from hk.2.1.2.1]
    refine ev_callV1vS (q := 25) dX6_grant_22 ca_X6_176 (k_remember_16 hn hu _) rfl (lt_n hn (by decide)) rfl rfl (Nat.le_of_ble_eq_true rfl) (Nat.le_of_ble_eq_true rfl) (by decide) (by decide) rfl (fun S T => ?_)
    refine ev_aload_n (q := 26) dX6_grant_25 rfl rfl ?_
    refine ev_get (q := 29) dX6_grant_26 fr_X6_10 rfl (lt_n hn (by decide)) rfl rfl ?_
    refine ev_iload_n (q := 30) dX6_grant_29 rfl rfl ?_
    first | refine ev_putIK (q := 33) dX6_grant_30 fa_X6_103 rfl (by decide) (lt_n hn (by decide)) (Nat.le_of_ble_eq_true rfl) ⟨rfl, rfl⟩ rfl rfl rfl ?_ | refine ev_putIR (q := 33) dX6_grant_30 fa_X6_103 rfl (by decide) (lt_n hn (by decide)) (Nat.le_of_ble_eq_true rfl) ⟨rfl, rfl⟩ rfl rfl rfl ?_
    refine ev_aload_n (q := 34) dX6_grant_33 rfl rfl ?_
    refine ev_get (q := 37) dX6_grant_34 fr_X6_23 rfl (lt_n hn (by decide)) rfl rfl ?_
    refine ev_callV0iS (q := 40) dX6_grant_37 ca_X6_119 (k_clear10 hn) rfl (lt_n hn (by decide)) rfl rfl (Nat.le_of_ble_eq_true rfl) (Nat.le_of_ble_eq_true rfl) (by decide) (by decide) rfl (fun S T => ?_)
    refine ev_pop (q := 41) (fun _ => rfl) dX6_grant_40 rfl ?_
    refine ev_iload_n (q := 42) dX6_grant_41 rfl rfl ?_
    exact ev_iretE dX6_grant_42 rfl rfl rfl rfl rfl (hQ _ _)
  · exact absurd (nI_pos' (by omega)) c_6
theorem k_X6_undo_0 (hn : 49 ≤ n) (hu : I 1 10 = nI 0) : RnS xl xs 0 0 0 0 mX6_undo [.ref 0] n I J X (some (.int (-3))) n I J X := by
  intro S T Q hQ
  show Ev xl xs 0 0 0 0 mX6_undo 0 [some (.ref 0)] [] n (sysH (ov I S) (ovJ J T) X) Q
  refine ev_aload_n (q := 1) dX6_undo_0 rfl rfl ?_
  refine ev_get (q := 4) dX6_undo_1 fr_X6_10 rfl (lt_n hn (by decide)) rfl rfl ?_
  refine ev_get (q := 7) dX6_undo_4 fr_X6_106 rfl (lt_n hn (by decide)) rfl rfl ?_
  rw [show ov I S 1 10 = nI 0 from hu]
  refine ev_if_le (q := 10) 22 dX6_undo_7 (by decide) rfl (fun c_7 => ?_) (fun c_7 => ?_)
  · refine ev_bipush (q := 24) (-3) dX6_undo_22 (by decide) rfl ?_
    exact ev_iretE dX6_undo_24 rfl rfl rfl rfl rfl (hQ _ _)
  · exact absurd (show nI 0 ≤ 0 by decide) c_7
theorem k_X6_undo {u : Nat} (hn : 49 ≤ n) (hu : I 1 10 = nI (u + 1)) (hu16 : u < 16) : RnS xl xs 0 0 0 0 mX6_undo [.ref 0] n I J X (some (.int (I 5 u))) n (wr (wr I 1 10 (nI u)) 1 1 (I 5 u)) J X := by
  intro S T Q hQ
  show Ev xl xs 0 0 0 0 mX6_undo 0 [some (.ref 0)] [] n (sysH (ov I S) (ovJ J T) X) Q
  refine ev_aload_n (q := 1) dX6_undo_0 rfl rfl ?_
  refine ev_get (q := 4) dX6_undo_1 fr_X6_10 rfl (lt_n hn (by decide)) rfl rfl ?_
  refine ev_get (q := 7) dX6_undo_4 fr_X6_106 rfl (lt_n hn (by decide)) rfl rfl ?_
  rw [show ov I S 1 10 = nI (u + 1) from hu]
  refine ev_if_le (q := 10) 22 dX6_undo_7 (by decide) rfl (fun c_7 => ?_) (fun c_7 => ?_)
  · exact absurd c_7 (nI_nle (by omega) (by omega))
  · refine ev_aload_n (q := 11) dX6_undo_10 rfl rfl ?_
    refine ev_get (q := 14) dX6_undo_11 fr_X6_10 rfl (lt_n hn (by decide)) rfl rfl ?_
    refine ev_get (q := 17) dX6_undo_14 fr_X6_106 rfl (lt_n hn (by decide)) rfl rfl ?_
    refine ev_bipush (q := 19) (16) dX6_undo_17 (by decide) rfl ?_
    rw [show ov I S 1 10 = nI (u + 1) from hu]
    refine ev_icmp_le (q := 22) 25 dX6_undo_19 (by decide) rfl (fun c_19 => ?_) (fun c_19 => ?_)
    · refine ev_aload_n (q := 26) dX6_undo_25 rfl rfl ?_
      refine ev_get (q := 29) dX6_undo_26 fr_X6_10 rfl (lt_n hn (by decide)) rfl rfl ?_
      refine ev_dup (q := 30) (fun _ => rfl) dX6_undo_29 rfl ?_
      refine ev_get (q := 33) dX6_undo_30 fr_X6_106 rfl (lt_n hn (by decide)) rfl rfl ?_
      refine ev_iconst (q := 34) (1) dX6_undo_33 (by decide) rfl ?_
      refine ev_isub (q := 35) dX6_undo_34 rfl ?_
      rw [show ov I S 1 10 - 1 = nI u from by rw [show ov I S 1 10 = nI (u + 1) from hu]; exact nI_pred u]
      first | refine ev_putIK (q := 38) dX6_undo_35 fa_X6_106 rfl (by decide) (lt_n hn (by decide)) (Nat.le_of_ble_eq_true rfl) ⟨rfl, rfl⟩ rfl rfl rfl ?_ | refine ev_putIR (q := 38) dX6_undo_35 fa_X6_106 rfl (by decide) (lt_n hn (by decide)) (Nat.le_of_ble_eq_true rfl) ⟨rfl, rfl⟩ rfl rfl rfl ?_
      refine ev_aload_n (q := 39) dX6_undo_38 rfl rfl ?_
      refine ev_get (q := 42) dX6_undo_39 fr_X6_10 rfl (lt_n hn (by decide)) rfl rfl ?_
      refine ev_aload_n (q := 43) dX6_undo_42 rfl rfl ?_
      refine ev_get (q := 46) dX6_undo_43 fr_X6_10 rfl (lt_n hn (by decide)) rfl rfl ?_
      refine ev_get (q := 49) dX6_undo_46 fr_X6_179 rfl (lt_n hn (by decide)) rfl rfl ?_
      refine ev_aload_n (q := 50) dX6_undo_49 rfl rfl ?_
      refine ev_get (q := 53) dX6_undo_50 fr_X6_10 rfl (lt_n hn (by decide)) rfl rfl ?_
      refine ev_get (q := 56) dX6_undo_53 fr_X6_106 rfl (lt_n hn (by decide)) rfl rfl ?_
      refine ev_iaS (q := 57) u dX6_undo_56 rfl rfl (by omega) (lt_n hn (by decide)) rfl ?_
      first | refine ev_putIK (q := 60) dX6_undo_57 fa_X6_103 rfl (by decide) (lt_n hn (by decide)) (Nat.le_of_ble_eq_true rfl) ⟨rfl, rfl⟩ rfl rfl rfl ?_ | refine ev_putIR (q := 60) dX6_undo_57 fa_X6_103 rfl (by decide) (lt_n hn (by decide)) (Nat.le_of_ble_eq_true rfl) ⟨rfl, rfl⟩ rfl rfl rfl ?_
      refine ev_aload_n (q := 61) dX6_undo_60 rfl rfl ?_
      refine ev_get (q := 64) dX6_undo_61 fr_X6_10 rfl (lt_n hn (by decide)) rfl rfl ?_
      refine ev_get (q := 67) dX6_undo_64 fr_X6_103 rfl (lt_n hn (by decide)) rfl rfl ?_
      exact ev_iretE dX6_undo_67 rfl rfl rfl rfl rfl (hQ _ _)
    · exact absurd ((nI_leI (b := 16) (by omega) (by omega)).mpr (by omega)) c_19
theorem k_X6_term (hn : 49 ≤ n) (hk : KI I J t sl wy wi he) (ht : TOK I J t) (v : Int32) : RnS xl xs 5 118 0 0 mX6_term [.ref 0, .int v] n I J X (some (.int (if inb v 0 (nI (3 ^ t) - 1) then e3 (mtF I J t sl wy wi v.toNatClampNeg he) else -2))) n I J X := by
  intro S T Q hQ
  have h6 := hk.1.2.2.1
  have h64 := p2_le h6
  have h729 := p3_le h6
  have hpos : 0 < 3 ^ t := Nat.pow_pos (by decide)
  have hhl := hk.1.2.2.2.2.2.2.2.2.2.2
  show Ev xl xs 5 118 0 0 mX6_term 0 [some (.ref 0), some (.int v)] [] n (sysH (ov I S) (ovJ J T) X) Q
  cases hin : inb v 0 (nI (3 ^ t) - 1) with
  | false =>
    rw [hin] at hQ
    have h2 := inb_cases hin
    have e2 : (nI (3 ^ t) - 1).toInt = ((3 ^ t : Nat) : Int) - 1 := by rw [show nI (3 ^ t) - 1 = nI (3 ^ t - 1) from pk_sub (b := 1) (by omega), nI_toInt (by omega)]; omega
    have e3 : (nI (3 ^ t)).toInt = ((3 ^ t : Nat) : Int) := nI_toInt (by omega)
    refine ev_iload_n (q := 1) dX6_term_0 rfl rfl ?_
    refine ev_if_lt (q := 4) 15 dX6_term_1 (by decide) rfl (fun c_1 => ?_) (fun c_1 => ?_)
    · refine ev_bipush (q := 17) (-2) dX6_term_15 (by decide) rfl ?_
      exact ev_iretE dX6_term_17 rfl rfl rfl rfl rfl (hQ _ _)
    · refine ev_iload_n (q := 5) dX6_term_4 rfl rfl ?_
      refine ev_aload_n (q := 6) dX6_term_5 rfl rfl ?_
      refine ev_get (q := 9) dX6_term_6 fr_X6_33 rfl (lt_n hn (by decide)) rfl rfl ?_
      refine ev_get (q := 12) dX6_term_9 fr_X6_211 rfl (lt_n hn (by decide)) rfl rfl ?_
      rw [show ov I S 16 0 = nI (3 ^ t) from ht.1]
      refine ev_icmp_lt (q := 15) 18 dX6_term_12 (by decide) rfl (fun c_12 => ?_) (fun c_12 => ?_)
      · (simp only [i_le, i_lt, e2, e3, e_0i] at *; omega)
      · refine ev_bipush (q := 17) (-2) dX6_term_15 (by decide) rfl ?_
        exact ev_iretE dX6_term_17 rfl rfl rfl rfl rfl (hQ _ _)
  | true =>
    rw [hin, if_pos rfl] at hQ
    obtain ⟨m, hm, rfl⟩ := inb_nat (by omega) hin hpos
    rw [nI_clamp (by omega)] at hQ
    have hr := RD_rdS (I := I) (S := S) (wy := wy) (wi := wi)
    refine ev_iload_n (q := 1) dX6_term_0 rfl rfl ?_
    refine ev_if_lt (q := 4) 15 dX6_term_1 (by decide) rfl (fun c_1 => ?_) (fun c_1 => ?_)
    · exact absurd c_1 (nI_pos (by omega))
    · refine ev_iload_n (q := 5) dX6_term_4 rfl rfl ?_
      refine ev_aload_n (q := 6) dX6_term_5 rfl rfl ?_
      refine ev_get (q := 9) dX6_term_6 fr_X6_33 rfl (lt_n hn (by decide)) rfl rfl ?_
      refine ev_get (q := 12) dX6_term_9 fr_X6_211 rfl (lt_n hn (by decide)) rfl rfl ?_
      rw [show ov I S 16 0 = nI (3 ^ t) from ht.1]
      refine ev_icmp_lt (q := 15) 18 dX6_term_12 (by decide) rfl (fun c_12 => ?_) (fun c_12 => ?_)
      · refine ev_aload_n (q := 19) dX6_term_18 rfl rfl ?_
        refine ev_get (q := 22) dX6_term_19 fr_X6_42 rfl (lt_n hn (by decide)) rfl rfl ?_
        refine ev_callV0v (q := 25) dX6_term_22 ca_X6_182 (k_X3_ready hn hk) rfl (lt_n hn (by decide)) rfl rfl (Nat.le_of_ble_eq_true rfl) (Nat.le_of_ble_eq_true rfl) (by decide) (by decide) rfl ?_
        refine ev_aload_n (q := 26) dX6_term_25 rfl rfl ?_
        refine ev_get (q := 29) dX6_term_26 fr_X6_42 rfl (lt_n hn (by decide)) rfl rfl ?_
        refine ev_iload_n (q := 30) dX6_term_29 rfl rfl ?_
        refine ev_aload_n (q := 31) dX6_term_30 rfl rfl ?_
        refine ev_get (q := 34) dX6_term_31 fr_X6_10 rfl (lt_n hn (by decide)) rfl rfl ?_
        refine ev_get (q := 37) dX6_term_34 fr_X6_103 rfl (lt_n hn (by decide)) rfl rfl ?_
        rw [show ov I _ 1 1 = nI he from hk.2.1.2.1]
        refine ev_callV2i (q := 40) dX6_term_37 ca_X6_212 (k_X3_ofTerm hn hk ht hr (by omega) (by omega)) rfl (lt_n hn (by decide)) rfl rfl (Nat.le_of_ble_eq_true rfl) (Nat.le_of_ble_eq_true rfl) (by decide) (by decide) rfl ?_
        exact ev_iretE dX6_term_40 rfl rfl rfl rfl rfl (hQ _ _)
      · exact absurd ((nI_ltI (by omega) (by omega)).mpr hm) c_12
theorem k_X6_told_w {c k : Nat} (hn : 49 ≤ n) (hk : KI I J t sl wy wi he) (hc : c < 4) (hk10 : k < 10) : RnS xl xs 2 42 0 0 mX6_told [.ref 0, .int (nI (10 * (c + 3) + k))] n I J X (some (.int (if k < t then I 34 (6 * c + k) + 1000 else -2))) n I J X := by
  intro S T Q hQ
  have h6 := hk.1.2.2.1
  have ht2 := hk.1.2.1
  have hr : nI (10 * (c + 3) + k) - nI (10 * (c + 3) + k) / 10 * 10 = nI k := by rw [show (10 : Int32) = nI 10 from rfl, pk_rem (by omega) (by decide) (by decide)]; congr 1; omega
  have hd : nI (10 * (c + 3) + k) / 10 = nI (c + 3) := by rw [show (10 : Int32) = nI 10 from rfl, pk_div (by omega) (by decide) (by decide), show (10 * (c + 3) + k) / 10 = c + 3 by omega]
  have hc2 : inb (nI c) 0 3 = true := by rw [show (0 : Int32) = nI 0 from rfl, show (3 : Int32) = nI 3 from rfl, inb_nI (by omega) (by decide) (by decide)]; simp; omega
  have h1 := inb_t1 (a := k) (m := t) (by omega) (by omega) (by omega)
  show Ev xl xs 2 42 0 0 mX6_told 0 [some (.ref 0), some (.int (nI (10 * (c + 3) + k))), none, none, none] [] n (sysH (ov I S) (ovJ J T) X) Q
  have pre : ∀ (W : (∀ S T, Ev xl xs 2 42 0 0 mX6_told 94 [some (.ref 0), some (.int (nI (10 * (c + 3) + k))), some (.int (nI (c + 3))), some (.int (nI k)), none] [] n (sysH (ov I S) (ovJ J T) X) Q)), Ev xl xs 2 42 0 0 mX6_told 0 [some (.ref 0), some (.int (nI (10 * (c + 3) + k))), none, none, none] [] n (sysH (ov I S) (ovJ J T) X) Q := by
    intro W
    refine ev_iload_n (q := 1) dX6_told_0 rfl rfl ?_
    refine ev_if_lt (q := 4) 10 dX6_told_1 (by decide) rfl (fun c_1 => ?_) (fun c_1 => ?_)
    · exact absurd c_1 (nI_pos (by omega))
    · refine ev_iload_n (q := 5) dX6_told_4 rfl rfl ?_
      refine ev_bipush (q := 7) (69) dX6_told_5 (by decide) rfl ?_
      refine ev_icmp_le (q := 10) 13 dX6_told_7 (by decide) rfl (fun c_7 => ?_) (fun c_7 => ?_)
      · refine ev_iload_n (q := 14) dX6_told_13 rfl rfl ?_
        refine ev_bipush (q := 16) (10) dX6_told_14 (by decide) rfl ?_
        refine ev_icmp_ge (q := 19) 25 dX6_told_16 (by decide) rfl (fun c_16 => ?_) (fun c_16 => ?_)
        · refine ev_iload_n (q := 26) dX6_told_25 rfl rfl ?_
          refine ev_bipush (q := 28) (10) dX6_told_26 (by decide) rfl ?_
          refine ev_idiv (q := 29) (by decide) dX6_told_28 rfl ?_
          rw [hd]
          refine ev_ist_2 (q := 30) dX6_told_29 rfl rfl ?_
          refine ev_iload_n (q := 31) dX6_told_30 rfl rfl ?_
          refine ev_bipush (q := 33) (10) dX6_told_31 (by decide) rfl ?_
          refine ev_irem (q := 34) (by decide) dX6_told_33 rfl ?_
          rw [hr]
          refine ev_ist_3 (q := 35) dX6_told_34 rfl rfl ?_
          refine ev_iload_n (q := 36) dX6_told_35 rfl rfl ?_
          refine ev_iconst (q := 37) (1) dX6_told_36 (by decide) rfl ?_
          refine ev_icmp_ne (q := 40) 67 dX6_told_37 (by decide) rfl (fun c_37 => ?_) (fun c_37 => ?_)
          · refine ev_iload_n (q := 68) dX6_told_67 rfl rfl ?_
            refine ev_iconst (q := 69) (2) dX6_told_68 (by decide) rfl ?_
            refine ev_icmp_ne (q := 72) 94 dX6_told_69 (by decide) rfl (fun c_69 => ?_) (fun c_69 => ?_)
            · exact W _ _
            · exact absurd ((nI_eq (b := 2) (by omega) (by omega)).mp c_69) (by omega)
          · exact absurd ((nI_eq (b := 1) (by omega) (by omega)).mp c_37) (by omega)
        · exact absurd ((nI_leI (a := 10) (by omega) (by omega)).mpr (by omega)) c_16
      · exact absurd ((nI_leI (b := 69) (by omega) (by omega)).mpr (by omega)) c_7
  refine pre (fun S T => ?_)
  have h3 : nI (c + 3) - 3 = nI c := pk_sub (a := c + 3) (b := 3) (by omega)
  by_cases hkt : k < t
  · rw [if_pos hkt] at hQ
    rw [decide_eq_true hkt] at h1
    refine ev_iload_n (q := 95) dX6_told_94 rfl rfl ?_
    refine ev_iconst (q := 96) (3) dX6_told_95 (by decide) rfl ?_
    refine ev_isub (q := 97) dX6_told_96 rfl ?_
    rw [h3]
    refine ev_ist_4 (q := 99) dX6_told_97 rfl rfl ?_
    refine ev_iload (q := 101) dX6_told_99 rfl rfl ?_
    refine ev_callS1i (q := 104) dX6_told_101 ca_X6_78 (c_X6_isCousin _) (Nat.le_of_ble_eq_true rfl) (Nat.le_of_ble_eq_true rfl) (by decide) (by decide) rfl ?_
    refine ev_if_eq (q := 107) 115 dX6_told_104 (by decide) rfl (fun c_104 => ?_) (fun c_104 => ?_)
    · exact absurd c_104 (b2i_n0.mpr hc2)
    · refine ev_aload_n (q := 108) dX6_told_107 rfl rfl ?_
      refine ev_iload_n (q := 109) dX6_told_108 rfl rfl ?_
      refine ev_callV1i (q := 112) dX6_told_109 ca_X6_82 (k_X6_isThing hn hk _) rfl (lt_n hn (by decide)) rfl rfl (Nat.le_of_ble_eq_true rfl) (Nat.le_of_ble_eq_true rfl) (by decide) (by decide) rfl ?_
      refine ev_if_ne (q := 115) 118 dX6_told_112 (by decide) rfl (fun c_112 => ?_) (fun c_112 => ?_)
      · refine ev_aload_n (q := 119) dX6_told_118 rfl rfl ?_
        refine ev_get (q := 122) dX6_told_119 fr_X6_10 rfl (lt_n hn (by decide)) rfl rfl ?_
        refine ev_get (q := 125) dX6_told_122 fr_X6_85 rfl (lt_n hn (by decide)) rfl rfl ?_
        refine ev_iload (q := 127) dX6_told_125 rfl rfl ?_
        refine ev_bipush (q := 129) (6) dX6_told_127 (by decide) rfl ?_
        refine ev_imul (q := 130) dX6_told_129 rfl ?_
        refine ev_iload_n (q := 131) dX6_told_130 rfl rfl ?_
        refine ev_iadd (q := 132) dX6_told_131 rfl ?_
        refine ev_iaS (q := 133) (6 * c + k) dX6_told_132 (by rw [show (6 : Int32) = nI 6 from rfl, pk_mul, nI_add, Nat.mul_comm]) rfl (by omega) (lt_n hn (by decide)) rfl ?_
        rw [show ov I S 2 (6 * c + k) = I 34 (6 * c + k) from (hk.2.2.2.1 _ (by omega)).1]
        refine ev_sipush (q := 136) (1000) dX6_told_133 (by decide) rfl ?_
        refine ev_iadd (q := 137) dX6_told_136 rfl ?_
        exact ev_iretE dX6_told_137 rfl rfl rfl rfl rfl (hQ _ _)
      · exact absurd c_112 (b2i_n0.mpr h1)
  · rw [if_neg hkt] at hQ
    rw [decide_eq_false hkt] at h1
    refine ev_iload_n (q := 95) dX6_told_94 rfl rfl ?_
    refine ev_iconst (q := 96) (3) dX6_told_95 (by decide) rfl ?_
    refine ev_isub (q := 97) dX6_told_96 rfl ?_
    rw [h3]
    refine ev_ist_4 (q := 99) dX6_told_97 rfl rfl ?_
    refine ev_iload (q := 101) dX6_told_99 rfl rfl ?_
    refine ev_callS1i (q := 104) dX6_told_101 ca_X6_78 (c_X6_isCousin _) (Nat.le_of_ble_eq_true rfl) (Nat.le_of_ble_eq_true rfl) (by decide) (by decide) rfl ?_
    refine ev_if_eq (q := 107) 115 dX6_told_104 (by decide) rfl (fun c_104 => ?_) (fun c_104 => ?_)
    · exact absurd c_104 (b2i_n0.mpr hc2)
    · refine ev_aload_n (q := 108) dX6_told_107 rfl rfl ?_
      refine ev_iload_n (q := 109) dX6_told_108 rfl rfl ?_
      refine ev_callV1i (q := 112) dX6_told_109 ca_X6_82 (k_X6_isThing hn hk _) rfl (lt_n hn (by decide)) rfl rfl (Nat.le_of_ble_eq_true rfl) (Nat.le_of_ble_eq_true rfl) (by decide) (by decide) rfl ?_
      refine ev_if_ne (q := 115) 118 dX6_told_112 (by decide) rfl (fun c_112 => ?_) (fun c_112 => ?_)
      · exact absurd (b2i_ne.mp c_112) (by rw [h1]; decide)
      · refine ev_bipush (q := 117) (-2) dX6_told_115 (by decide) rfl ?_
        exact ev_iretE dX6_told_117 rfl rfl rfl rfl rfl (hQ _ _)
theorem k_X6_told_t {k : Nat} (hn : 49 ≤ n) (hk : KI I J t sl wy wi he) (hk10 : k < 10) : RnS xl xs 2 42 0 0 mX6_told [.ref 0, .int (nI (10 + k))] n I J X (some (.int (if k < t then I 35 k + 1000 else -2))) n I J X := by
  intro S T Q hQ
  have h6 := hk.1.2.2.1
  have ht2 := hk.1.2.1
  have hr : nI (10 + k) - nI (10 + k) / 10 * 10 = nI k := by rw [show (10 : Int32) = nI 10 from rfl, pk_rem (by omega) (by decide) (by decide)]; congr 1; omega
  have hd : nI (10 + k) / 10 = nI 1 := by rw [show (10 : Int32) = nI 10 from rfl, pk_div (by omega) (by decide) (by decide), show (10 + k) / 10 = 1 by omega]
  have h1 := inb_t1 (a := k) (m := t) (by omega) (by omega) (by omega)
  show Ev xl xs 2 42 0 0 mX6_told 0 [some (.ref 0), some (.int (nI (10 + k))), none, none, none] [] n (sysH (ov I S) (ovJ J T) X) Q
  by_cases hkt : k < t
  · rw [if_pos hkt] at hQ
    rw [decide_eq_true hkt] at h1
    refine ev_iload_n (q := 1) dX6_told_0 rfl rfl ?_
    refine ev_if_lt (q := 4) 10 dX6_told_1 (by decide) rfl (fun c_1 => ?_) (fun c_1 => ?_)
    · exact absurd c_1 (nI_pos (by omega))
    · refine ev_iload_n (q := 5) dX6_told_4 rfl rfl ?_
      refine ev_bipush (q := 7) (69) dX6_told_5 (by decide) rfl ?_
      refine ev_icmp_le (q := 10) 13 dX6_told_7 (by decide) rfl (fun c_7 => ?_) (fun c_7 => ?_)
      · refine ev_iload_n (q := 14) dX6_told_13 rfl rfl ?_
        refine ev_bipush (q := 16) (10) dX6_told_14 (by decide) rfl ?_
        refine ev_icmp_ge (q := 19) 25 dX6_told_16 (by decide) rfl (fun c_16 => ?_) (fun c_16 => ?_)
        · refine ev_iload_n (q := 26) dX6_told_25 rfl rfl ?_
          refine ev_bipush (q := 28) (10) dX6_told_26 (by decide) rfl ?_
          refine ev_idiv (q := 29) (by decide) dX6_told_28 rfl ?_
          rw [hd]
          refine ev_ist_2 (q := 30) dX6_told_29 rfl rfl ?_
          refine ev_iload_n (q := 31) dX6_told_30 rfl rfl ?_
          refine ev_bipush (q := 33) (10) dX6_told_31 (by decide) rfl ?_
          refine ev_irem (q := 34) (by decide) dX6_told_33 rfl ?_
          rw [hr]
          refine ev_ist_3 (q := 35) dX6_told_34 rfl rfl ?_
          refine ev_iload_n (q := 36) dX6_told_35 rfl rfl ?_
          refine ev_iconst (q := 37) (1) dX6_told_36 (by decide) rfl ?_
          refine ev_icmp_ne (q := 40) 67 dX6_told_37 (by decide) rfl (fun c_37 => ?_) (fun c_37 => ?_)
          · exact absurd rfl c_37
          · refine ev_aload_n (q := 41) dX6_told_40 rfl rfl ?_
            refine ev_iload_n (q := 42) dX6_told_41 rfl rfl ?_
            refine ev_callV1i (q := 45) dX6_told_42 ca_X6_82 (k_X6_isThing hn hk _) rfl (lt_n hn (by decide)) rfl rfl (Nat.le_of_ble_eq_true rfl) (Nat.le_of_ble_eq_true rfl) (by decide) (by decide) rfl ?_
            refine ev_if_eq (q := 48) 64 dX6_told_45 (by decide) rfl (fun c_45 => ?_) (fun c_45 => ?_)
            · exact absurd c_45 (b2i_n0.mpr h1)
            · refine ev_aload_n (q := 49) dX6_told_48 rfl rfl ?_
              refine ev_get (q := 52) dX6_told_49 fr_X6_10 rfl (lt_n hn (by decide)) rfl rfl ?_
              refine ev_get (q := 55) dX6_told_52 fr_X6_88 rfl (lt_n hn (by decide)) rfl rfl ?_
              refine ev_iload_n (q := 56) dX6_told_55 rfl rfl ?_
              refine ev_iaS (q := 57) k dX6_told_56 rfl rfl (by omega) (lt_n hn (by decide)) rfl ?_
              rw [show ov I S 3 k = I 35 k from (hk.2.2.2.2.1 _ (by omega)).1]
              refine ev_sipush (q := 60) (1000) dX6_told_57 (by decide) rfl ?_
              refine ev_iadd (q := 61) dX6_told_60 rfl ?_
              refine ev_goto 66 dX6_told_61 (by decide) ?_
              exact ev_iretE dX6_told_66 rfl rfl rfl rfl rfl (hQ _ _)
        · exact absurd ((nI_leI (a := 10) (by omega) (by omega)).mpr (by omega)) c_16
      · exact absurd ((nI_leI (b := 69) (by omega) (by omega)).mpr (by omega)) c_7
  · rw [if_neg hkt] at hQ
    rw [decide_eq_false hkt] at h1
    refine ev_iload_n (q := 1) dX6_told_0 rfl rfl ?_
    refine ev_if_lt (q := 4) 10 dX6_told_1 (by decide) rfl (fun c_1 => ?_) (fun c_1 => ?_)
    · exact absurd c_1 (nI_pos (by omega))
    · refine ev_iload_n (q := 5) dX6_told_4 rfl rfl ?_
      refine ev_bipush (q := 7) (69) dX6_told_5 (by decide) rfl ?_
      refine ev_icmp_le (q := 10) 13 dX6_told_7 (by decide) rfl (fun c_7 => ?_) (fun c_7 => ?_)
      · refine ev_iload_n (q := 14) dX6_told_13 rfl rfl ?_
        refine ev_bipush (q := 16) (10) dX6_told_14 (by decide) rfl ?_
        refine ev_icmp_ge (q := 19) 25 dX6_told_16 (by decide) rfl (fun c_16 => ?_) (fun c_16 => ?_)
        · refine ev_iload_n (q := 26) dX6_told_25 rfl rfl ?_
          refine ev_bipush (q := 28) (10) dX6_told_26 (by decide) rfl ?_
          refine ev_idiv (q := 29) (by decide) dX6_told_28 rfl ?_
          rw [hd]
          refine ev_ist_2 (q := 30) dX6_told_29 rfl rfl ?_
          refine ev_iload_n (q := 31) dX6_told_30 rfl rfl ?_
          refine ev_bipush (q := 33) (10) dX6_told_31 (by decide) rfl ?_
          refine ev_irem (q := 34) (by decide) dX6_told_33 rfl ?_
          rw [hr]
          refine ev_ist_3 (q := 35) dX6_told_34 rfl rfl ?_
          refine ev_iload_n (q := 36) dX6_told_35 rfl rfl ?_
          refine ev_iconst (q := 37) (1) dX6_told_36 (by decide) rfl ?_
          refine ev_icmp_ne (q := 40) 67 dX6_told_37 (by decide) rfl (fun c_37 => ?_) (fun c_37 => ?_)
          · exact absurd rfl c_37
          · refine ev_aload_n (q := 41) dX6_told_40 rfl rfl ?_
            refine ev_iload_n (q := 42) dX6_told_41 rfl rfl ?_
            refine ev_callV1i (q := 45) dX6_told_42 ca_X6_82 (k_X6_isThing hn hk _) rfl (lt_n hn (by decide)) rfl rfl (Nat.le_of_ble_eq_true rfl) (Nat.le_of_ble_eq_true rfl) (by decide) (by decide) rfl ?_
            refine ev_if_eq (q := 48) 64 dX6_told_45 (by decide) rfl (fun c_45 => ?_) (fun c_45 => ?_)
            · refine ev_bipush (q := 66) (-2) dX6_told_64 (by decide) rfl ?_
              exact ev_iretE dX6_told_66 rfl rfl rfl rfl rfl (hQ _ _)
            · exact absurd (b2i_n0.mp c_45) (by rw [h1]; decide)
        · exact absurd ((nI_leI (a := 10) (by omega) (by omega)).mpr (by omega)) c_16
      · exact absurd ((nI_leI (b := 69) (by omega) (by omega)).mpr (by omega)) c_7
theorem k_X6_told_s {k : Nat} (hn : 49 ≤ n) (hk : KI I J t sl wy wi he) (hk10 : k < 10) : RnS xl xs 2 42 0 0 mX6_told [.ref 0, .int (nI (20 + k))] n I J X (some (.int (if k < 4 then I 36 k else -2))) n I J X := by
  intro S T Q hQ
  have hr : nI (20 + k) - nI (20 + k) / 10 * 10 = nI k := by rw [show (10 : Int32) = nI 10 from rfl, pk_rem (by omega) (by decide) (by decide)]; congr 1; omega
  have hd : nI (20 + k) / 10 = nI 2 := by rw [show (10 : Int32) = nI 10 from rfl, pk_div (by omega) (by decide) (by decide), show (20 + k) / 10 = 2 by omega]
  have h1 : inb (nI k) 0 3 = decide (k < 4) := by rw [show (0 : Int32) = nI 0 from rfl, show (3 : Int32) = nI 3 from rfl, inb_nI (by omega) (by decide) (by decide)]; simp; omega
  show Ev xl xs 2 42 0 0 mX6_told 0 [some (.ref 0), some (.int (nI (20 + k))), none, none, none] [] n (sysH (ov I S) (ovJ J T) X) Q
  by_cases hkt : k < 4
  · rw [if_pos hkt] at hQ
    rw [decide_eq_true hkt] at h1
    refine ev_iload_n (q := 1) dX6_told_0 rfl rfl ?_
    refine ev_if_lt (q := 4) 10 dX6_told_1 (by decide) rfl (fun c_1 => ?_) (fun c_1 => ?_)
    · exact absurd c_1 (nI_pos (by omega))
    · refine ev_iload_n (q := 5) dX6_told_4 rfl rfl ?_
      refine ev_bipush (q := 7) (69) dX6_told_5 (by decide) rfl ?_
      refine ev_icmp_le (q := 10) 13 dX6_told_7 (by decide) rfl (fun c_7 => ?_) (fun c_7 => ?_)
      · refine ev_iload_n (q := 14) dX6_told_13 rfl rfl ?_
        refine ev_bipush (q := 16) (10) dX6_told_14 (by decide) rfl ?_
        refine ev_icmp_ge (q := 19) 25 dX6_told_16 (by decide) rfl (fun c_16 => ?_) (fun c_16 => ?_)
        · refine ev_iload_n (q := 26) dX6_told_25 rfl rfl ?_
          refine ev_bipush (q := 28) (10) dX6_told_26 (by decide) rfl ?_
          refine ev_idiv (q := 29) (by decide) dX6_told_28 rfl ?_
          rw [hd]
          refine ev_ist_2 (q := 30) dX6_told_29 rfl rfl ?_
          refine ev_iload_n (q := 31) dX6_told_30 rfl rfl ?_
          refine ev_bipush (q := 33) (10) dX6_told_31 (by decide) rfl ?_
          refine ev_irem (q := 34) (by decide) dX6_told_33 rfl ?_
          rw [hr]
          refine ev_ist_3 (q := 35) dX6_told_34 rfl rfl ?_
          refine ev_iload_n (q := 36) dX6_told_35 rfl rfl ?_
          refine ev_iconst (q := 37) (1) dX6_told_36 (by decide) rfl ?_
          refine ev_icmp_ne (q := 40) 67 dX6_told_37 (by decide) rfl (fun c_37 => ?_) (fun c_37 => ?_)
          · refine ev_iload_n (q := 68) dX6_told_67 rfl rfl ?_
            refine ev_iconst (q := 69) (2) dX6_told_68 (by decide) rfl ?_
            refine ev_icmp_ne (q := 72) 94 dX6_told_69 (by decide) rfl (fun c_69 => ?_) (fun c_69 => ?_)
            · exact absurd rfl c_69
            · refine ev_iload_n (q := 73) dX6_told_72 rfl rfl ?_
              refine ev_callS1i (q := 76) dX6_told_73 ca_X6_78 (c_X6_isCousin _) (Nat.le_of_ble_eq_true rfl) (Nat.le_of_ble_eq_true rfl) (by decide) (by decide) rfl ?_
              refine ev_if_eq (q := 79) 91 dX6_told_76 (by decide) rfl (fun c_76 => ?_) (fun c_76 => ?_)
              · exact absurd c_76 (b2i_n0.mpr h1)
              · refine ev_aload_n (q := 80) dX6_told_79 rfl rfl ?_
                refine ev_get (q := 83) dX6_told_80 fr_X6_10 rfl (lt_n hn (by decide)) rfl rfl ?_
                refine ev_get (q := 86) dX6_told_83 fr_X6_249 rfl (lt_n hn (by decide)) rfl rfl ?_
                refine ev_iload_n (q := 87) dX6_told_86 rfl rfl ?_
                refine ev_iaS (q := 88) k dX6_told_87 rfl rfl (by omega) (lt_n hn (by decide)) rfl ?_
                rw [show ov I S 4 k = I 36 k from (hk.2.2.2.2.2 _ (by omega)).1]
                refine ev_goto 93 dX6_told_88 (by decide) ?_
                exact ev_iretE dX6_told_93 rfl rfl rfl rfl rfl (hQ _ _)
          · exact absurd c_37 (by decide)
        · exact absurd ((nI_leI (a := 10) (by omega) (by omega)).mpr (by omega)) c_16
      · exact absurd ((nI_leI (b := 69) (by omega) (by omega)).mpr (by omega)) c_7
  · rw [if_neg hkt] at hQ
    rw [decide_eq_false hkt] at h1
    refine ev_iload_n (q := 1) dX6_told_0 rfl rfl ?_
    refine ev_if_lt (q := 4) 10 dX6_told_1 (by decide) rfl (fun c_1 => ?_) (fun c_1 => ?_)
    · exact absurd c_1 (nI_pos (by omega))
    · refine ev_iload_n (q := 5) dX6_told_4 rfl rfl ?_
      refine ev_bipush (q := 7) (69) dX6_told_5 (by decide) rfl ?_
      refine ev_icmp_le (q := 10) 13 dX6_told_7 (by decide) rfl (fun c_7 => ?_) (fun c_7 => ?_)
      · refine ev_iload_n (q := 14) dX6_told_13 rfl rfl ?_
        refine ev_bipush (q := 16) (10) dX6_told_14 (by decide) rfl ?_
        refine ev_icmp_ge (q := 19) 25 dX6_told_16 (by decide) rfl (fun c_16 => ?_) (fun c_16 => ?_)
        · refine ev_iload_n (q := 26) dX6_told_25 rfl rfl ?_
          refine ev_bipush (q := 28) (10) dX6_told_26 (by decide) rfl ?_
          refine ev_idiv (q := 29) (by decide) dX6_told_28 rfl ?_
          rw [hd]
          refine ev_ist_2 (q := 30) dX6_told_29 rfl rfl ?_
          refine ev_iload_n (q := 31) dX6_told_30 rfl rfl ?_
          refine ev_bipush (q := 33) (10) dX6_told_31 (by decide) rfl ?_
          refine ev_irem (q := 34) (by decide) dX6_told_33 rfl ?_
          rw [hr]
          refine ev_ist_3 (q := 35) dX6_told_34 rfl rfl ?_
          refine ev_iload_n (q := 36) dX6_told_35 rfl rfl ?_
          refine ev_iconst (q := 37) (1) dX6_told_36 (by decide) rfl ?_
          refine ev_icmp_ne (q := 40) 67 dX6_told_37 (by decide) rfl (fun c_37 => ?_) (fun c_37 => ?_)
          · refine ev_iload_n (q := 68) dX6_told_67 rfl rfl ?_
            refine ev_iconst (q := 69) (2) dX6_told_68 (by decide) rfl ?_
            refine ev_icmp_ne (q := 72) 94 dX6_told_69 (by decide) rfl (fun c_69 => ?_) (fun c_69 => ?_)
            · exact absurd rfl c_69
            · refine ev_iload_n (q := 73) dX6_told_72 rfl rfl ?_
              refine ev_callS1i (q := 76) dX6_told_73 ca_X6_78 (c_X6_isCousin _) (Nat.le_of_ble_eq_true rfl) (Nat.le_of_ble_eq_true rfl) (by decide) (by decide) rfl ?_
              refine ev_if_eq (q := 79) 91 dX6_told_76 (by decide) rfl (fun c_76 => ?_) (fun c_76 => ?_)
              · refine ev_bipush (q := 93) (-2) dX6_told_91 (by decide) rfl ?_
                exact ev_iretE dX6_told_93 rfl rfl rfl rfl rfl (hQ _ _)
              · exact absurd (b2i_n0.mp c_76) (by rw [h1]; decide)
          · exact absurd c_37 (by decide)
        · exact absurd ((nI_leI (a := 10) (by omega) (by omega)).mpr (by omega)) c_16
      · exact absurd ((nI_leI (b := 69) (by omega) (by omega)).mpr (by omega)) c_7
def tdC (I : Nat → Nat → Int32) : Nat → Int32
  | 0 => I 10 1
  | 1 => I 1 0
  | 2 => I 1 1
  | 3 => I 1 2
  | 4 => I 1 3
  | 5 => I 1 4
  | 6 => I 1 10
  | 7 => I 1 12
  | _ => I 1 15
theorem k_X6_told_p {k : Nat} (hn : 49 ≤ n) (hk : k < 9) : RnS xl xs 2 42 0 0 mX6_told [.ref 0, .int (nI k)] n I J X (some (.int (tdC I k))) n I J X := by
  intro S T Q hQ
  have tp : RnS xl xs 1 21 0 0 mX6_toldPlain [.ref 0, .int (nI k)] n I J X (some (.int (tdC I k))) n I J X := by
    intro S T Q hQ
    show Ev xl xs 1 21 0 0 mX6_toldPlain 0 [some (.ref 0), some (.int (nI k))] [] n (sysH (ov I S) (ovJ J T) X) Q
    have T1 : Ev xl xs 1 21 0 0 mX6_toldPlain 1 [some (.ref 0), some (.int (nI k))] [.int (nI k)] n (sysH (ov I S) (ovJ J T) X) Q := by
      by_cases h0 : k = 0
      · subst h0
        refine ev_tabIn (off := 51) 52 dX6_toldPlain_1 (by decide) (by decide) (by decide) (by decide) ?_
        refine ev_aload_n (q := 53) dX6_toldPlain_52 rfl rfl ?_
        refine ev_get (q := 56) dX6_toldPlain_53 fr_X6_23 rfl (lt_n hn (by decide)) rfl rfl ?_
        refine ev_get (q := 59) dX6_toldPlain_56 fr_X6_116 rfl (lt_n hn (by decide)) rfl rfl ?_
        exact ev_iretE dX6_toldPlain_59 rfl rfl rfl rfl rfl (hQ _ _)
      by_cases h1 : k = 1
      · subst h1
        refine ev_tabIn (off := 59) 60 dX6_toldPlain_1 (by decide) (by decide) (by decide) (by decide) ?_
        refine ev_aload_n (q := 61) dX6_toldPlain_60 rfl rfl ?_
        refine ev_get (q := 64) dX6_toldPlain_61 fr_X6_10 rfl (lt_n hn (by decide)) rfl rfl ?_
        refine ev_get (q := 67) dX6_toldPlain_64 fr_X6_74 rfl (lt_n hn (by decide)) rfl rfl ?_
        exact ev_iretE dX6_toldPlain_67 rfl rfl rfl rfl rfl (hQ _ _)
      by_cases h2 : k = 2
      · subst h2
        refine ev_tabIn (off := 67) 68 dX6_toldPlain_1 (by decide) (by decide) (by decide) (by decide) ?_
        refine ev_aload_n (q := 69) dX6_toldPlain_68 rfl rfl ?_
        refine ev_get (q := 72) dX6_toldPlain_69 fr_X6_10 rfl (lt_n hn (by decide)) rfl rfl ?_
        refine ev_get (q := 75) dX6_toldPlain_72 fr_X6_103 rfl (lt_n hn (by decide)) rfl rfl ?_
        exact ev_iretE dX6_toldPlain_75 rfl rfl rfl rfl rfl (hQ _ _)
      by_cases h3 : k = 3
      · subst h3
        refine ev_tabIn (off := 75) 76 dX6_toldPlain_1 (by decide) (by decide) (by decide) (by decide) ?_
        refine ev_aload_n (q := 77) dX6_toldPlain_76 rfl rfl ?_
        refine ev_get (q := 80) dX6_toldPlain_77 fr_X6_10 rfl (lt_n hn (by decide)) rfl rfl ?_
        refine ev_get (q := 83) dX6_toldPlain_80 fr_X6_91 rfl (lt_n hn (by decide)) rfl rfl ?_
        exact ev_iretE dX6_toldPlain_83 rfl rfl rfl rfl rfl (hQ _ _)
      by_cases h4 : k = 4
      · subst h4
        refine ev_tabIn (off := 83) 84 dX6_toldPlain_1 (by decide) (by decide) (by decide) (by decide) ?_
        refine ev_aload_n (q := 85) dX6_toldPlain_84 rfl rfl ?_
        refine ev_get (q := 88) dX6_toldPlain_85 fr_X6_10 rfl (lt_n hn (by decide)) rfl rfl ?_
        refine ev_get (q := 91) dX6_toldPlain_88 fr_X6_94 rfl (lt_n hn (by decide)) rfl rfl ?_
        exact ev_iretE dX6_toldPlain_91 rfl rfl rfl rfl rfl (hQ _ _)
      by_cases h5 : k = 5
      · subst h5
        refine ev_tabIn (off := 91) 92 dX6_toldPlain_1 (by decide) (by decide) (by decide) (by decide) ?_
        refine ev_aload_n (q := 93) dX6_toldPlain_92 rfl rfl ?_
        refine ev_get (q := 96) dX6_toldPlain_93 fr_X6_10 rfl (lt_n hn (by decide)) rfl rfl ?_
        refine ev_get (q := 99) dX6_toldPlain_96 fr_X6_97 rfl (lt_n hn (by decide)) rfl rfl ?_
        exact ev_iretE dX6_toldPlain_99 rfl rfl rfl rfl rfl (hQ _ _)
      by_cases h6 : k = 6
      · subst h6
        refine ev_tabIn (off := 99) 100 dX6_toldPlain_1 (by decide) (by decide) (by decide) (by decide) ?_
        refine ev_aload_n (q := 101) dX6_toldPlain_100 rfl rfl ?_
        refine ev_get (q := 104) dX6_toldPlain_101 fr_X6_10 rfl (lt_n hn (by decide)) rfl rfl ?_
        refine ev_get (q := 107) dX6_toldPlain_104 fr_X6_106 rfl (lt_n hn (by decide)) rfl rfl ?_
        exact ev_iretE dX6_toldPlain_107 rfl rfl rfl rfl rfl (hQ _ _)
      by_cases h7 : k = 7
      · subst h7
        refine ev_tabIn (off := 107) 108 dX6_toldPlain_1 (by decide) (by decide) (by decide) (by decide) ?_
        refine ev_aload_n (q := 109) dX6_toldPlain_108 rfl rfl ?_
        refine ev_get (q := 112) dX6_toldPlain_109 fr_X6_10 rfl (lt_n hn (by decide)) rfl rfl ?_
        refine ev_get (q := 115) dX6_toldPlain_112 fr_X6_258 rfl (lt_n hn (by decide)) rfl rfl ?_
        exact ev_iretE dX6_toldPlain_115 rfl rfl rfl rfl rfl (hQ _ _)
      have h8 : k = 8 := by omega
      subst h8
      refine ev_tabIn (off := 115) 116 dX6_toldPlain_1 (by decide) (by decide) (by decide) (by decide) ?_
      refine ev_aload_n (q := 117) dX6_toldPlain_116 rfl rfl ?_
      refine ev_get (q := 120) dX6_toldPlain_117 fr_X6_10 rfl (lt_n hn (by decide)) rfl rfl ?_
      refine ev_get (q := 123) dX6_toldPlain_120 fr_X6_274 rfl (lt_n hn (by decide)) rfl rfl ?_
      exact ev_iretE dX6_toldPlain_123 rfl rfl rfl rfl rfl (hQ _ _)
    refine ev_iload_n (q := 1) dX6_toldPlain_0 rfl rfl ?_
    exact T1
  show Ev xl xs 2 42 0 0 mX6_told 0 [some (.ref 0), some (.int (nI k)), none, none, none] [] n (sysH (ov I S) (ovJ J T) X) Q
  refine ev_iload_n (q := 1) dX6_told_0 rfl rfl ?_
  refine ev_if_lt (q := 4) 10 dX6_told_1 (by decide) rfl (fun c_1 => ?_) (fun c_1 => ?_)
  · exact absurd c_1 (nI_pos (by omega))
  · refine ev_iload_n (q := 5) dX6_told_4 rfl rfl ?_
    refine ev_bipush (q := 7) (69) dX6_told_5 (by decide) rfl ?_
    refine ev_icmp_le (q := 10) 13 dX6_told_7 (by decide) rfl (fun c_7 => ?_) (fun c_7 => ?_)
    · refine ev_iload_n (q := 14) dX6_told_13 rfl rfl ?_
      refine ev_bipush (q := 16) (10) dX6_told_14 (by decide) rfl ?_
      refine ev_icmp_ge (q := 19) 25 dX6_told_16 (by decide) rfl (fun c_16 => ?_) (fun c_16 => ?_)
      · exact absurd ((nI_leI (a := 10) (by omega) (by omega)).mp c_16) (by omega)
      · refine ev_aload_n (q := 20) dX6_told_19 rfl rfl ?_
        refine ev_iload_n (q := 21) dX6_told_20 rfl rfl ?_
        refine ev_callV1iS (q := 24) dX6_told_21 ca_X6_304 tp rfl (lt_n hn (by decide)) rfl rfl (Nat.le_of_ble_eq_true rfl) (Nat.le_of_ble_eq_true rfl) (by decide) (by decide) rfl (fun S T => ?_)
        exact ev_iretE dX6_told_24 rfl rfl rfl rfl rfl (hQ _ _)
    · exact absurd ((nI_leI (b := 69) (by omega) (by omega)).mpr (by omega)) c_7
theorem k_X6_told_9 (hn : 49 ≤ n) : RnS xl xs 2 42 0 0 mX6_told [.ref 0, .int 9] n I J X (some (.int (nI (cN (lbit (J 1 5)) 64)))) n I J X := by
  intro S T Q hQ
  have tp : RnS xl xs 1 21 0 0 mX6_toldPlain [.ref 0, .int 9] n I J X (some (.int (nI (cN (lbit (J 1 5)) 64)))) n I J X := by
    intro S T Q hQ
    show Ev xl xs 1 21 0 0 mX6_toldPlain 0 [some (.ref 0), some (.int 9)] [] n (sysH (ov I S) (ovJ J T) X) Q
    have T1 : Ev xl xs 1 21 0 0 mX6_toldPlain 124 [some (.ref 0), some (.int 9)] [] n (sysH (ov I S) (ovJ J T) X) Q := by
      refine ev_aload_n (q := 125) dX6_toldPlain_124 rfl rfl ?_
      refine ev_get (q := 128) dX6_toldPlain_125 fr_X6_10 rfl (lt_n hn (by decide)) rfl rfl ?_
      refine ev_get (q := 131) dX6_toldPlain_128 fr_X6_139 rfl (lt_n hn (by decide)) rfl rfl ?_
      refine ev_callS1i (q := 134) dX6_toldPlain_131 ca_X6_146 (c_bitL _) (Nat.le_of_ble_eq_true rfl) (Nat.le_of_ble_eq_true rfl) (by decide) (by decide) rfl ?_
      exact ev_iretE dX6_toldPlain_134 rfl rfl rfl rfl rfl (hQ _ _)
    refine ev_iload_n (q := 1) dX6_toldPlain_0 rfl rfl ?_
    exact ev_tabOut 124 dX6_toldPlain_1 (by decide) (by decide) T1
  show Ev xl xs 2 42 0 0 mX6_told 0 [some (.ref 0), some (.int 9), none, none, none] [] n (sysH (ov I S) (ovJ J T) X) Q
  refine ev_iload_n (q := 1) dX6_told_0 rfl rfl ?_
  refine ev_if_lt (q := 4) 10 dX6_told_1 (by decide) rfl (fun c_1 => ?_) (fun c_1 => ?_)
  · exact absurd c_1 (by decide)
  · refine ev_iload_n (q := 5) dX6_told_4 rfl rfl ?_
    refine ev_bipush (q := 7) (69) dX6_told_5 (by decide) rfl ?_
    refine ev_icmp_le (q := 10) 13 dX6_told_7 (by decide) rfl (fun c_7 => ?_) (fun c_7 => ?_)
    · refine ev_iload_n (q := 14) dX6_told_13 rfl rfl ?_
      refine ev_bipush (q := 16) (10) dX6_told_14 (by decide) rfl ?_
      refine ev_icmp_ge (q := 19) 25 dX6_told_16 (by decide) rfl (fun c_16 => ?_) (fun c_16 => ?_)
      · exact absurd c_16 (by decide)
      · refine ev_aload_n (q := 20) dX6_told_19 rfl rfl ?_
        refine ev_iload_n (q := 21) dX6_told_20 rfl rfl ?_
        refine ev_callV1iS (q := 24) dX6_told_21 ca_X6_304 tp rfl (lt_n hn (by decide)) rfl rfl (Nat.le_of_ble_eq_true rfl) (Nat.le_of_ble_eq_true rfl) (by decide) (by decide) rfl (fun S T => ?_)
        exact ev_iretE dX6_told_24 rfl rfl rfl rfl rfl (hQ _ _)
    · exact absurd (show (9 : Int32) ≤ 69 by decide) c_7
theorem k_X6_told_f (hn : 49 ≤ n) {v : Int32} (hv : inb v 0 69 = false) : RnS xl xs 2 42 0 0 mX6_told [.ref 0, .int v] n I J X (some (.int (-2))) n I J X := by
  intro S T Q hQ
  have hv2 := inb_cases hv
  show Ev xl xs 2 42 0 0 mX6_told 0 [some (.ref 0), some (.int v), none, none, none] [] n (sysH (ov I S) (ovJ J T) X) Q
  refine ev_iload_n (q := 1) dX6_told_0 rfl rfl ?_
  refine ev_if_lt (q := 4) 10 dX6_told_1 (by decide) rfl (fun c_1 => ?_) (fun c_1 => ?_)
  · refine ev_bipush (q := 12) (-2) dX6_told_10 (by decide) rfl ?_
    exact ev_iretE dX6_told_12 rfl rfl rfl rfl rfl (hQ _ _)
  · refine ev_iload_n (q := 5) dX6_told_4 rfl rfl ?_
    refine ev_bipush (q := 7) (69) dX6_told_5 (by decide) rfl ?_
    refine ev_icmp_le (q := 10) 13 dX6_told_7 (by decide) rfl (fun c_7 => ?_) (fun c_7 => ?_)
    · (simp only [i_le, i_lt] at *; omega)
    · refine ev_bipush (q := 12) (-2) dX6_told_10 (by decide) rfl ?_
      exact ev_iretE dX6_told_12 rfl rfl rfl rfl rfl (hQ _ _)
end CLS8
