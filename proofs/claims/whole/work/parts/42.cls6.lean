theorem dX6_makes_0 : decode cX6_makes 0 = .ok (.aload_n 0, 1) := by decide +kernel
theorem dX6_makes_1 : decode cX6_makes 1 = .ok (.invokevirtual 155, 3) := by decide +kernel
theorem dX6_makes_4 : decode cX6_makes 4 = .ok (.ireturn, 1) := by decide +kernel
theorem dX6_fault_0 : decode cX6_fault 0 = .ok (.aload_n 0, 1) := by decide +kernel
theorem dX6_fault_1 : decode cX6_fault 1 = .ok (.getfield 23, 3) := by decide +kernel
theorem dX6_fault_4 : decode cX6_fault 4 = .ok (.aload_n 0, 1) := by decide +kernel
theorem dX6_fault_5 : decode cX6_fault 5 = .ok (.getfield 10, 3) := by decide +kernel
theorem dX6_fault_8 : decode cX6_fault 8 = .ok (.getfield 74, 3) := by decide +kernel
theorem dX6_fault_11 : decode cX6_fault 11 = .ok (.invokevirtual 123, 3) := by decide +kernel
theorem dX6_fault_14 : decode cX6_fault 14 = .ok (.ireturn, 1) := by decide +kernel
theorem dX6_votesFor_0 : decode cX6_votesFor 0 = .ok (.iconst 0, 1) := by decide +kernel
theorem dX6_votesFor_1 : decode cX6_votesFor 1 = .ok (.istore_n 2, 1) := by decide +kernel
theorem dX6_votesFor_2 : decode cX6_votesFor 2 = .ok (.iconst 0, 1) := by decide +kernel
theorem dX6_votesFor_3 : decode cX6_votesFor 3 = .ok (.istore_n 3, 1) := by decide +kernel
theorem dX6_votesFor_4 : decode cX6_votesFor 4 = .ok (.iload_n 3, 1) := by decide +kernel
theorem dX6_votesFor_5 : decode cX6_votesFor 5 = .ok (.iconst 4, 1) := by decide +kernel
theorem dX6_votesFor_6 : decode cX6_votesFor 6 = .ok (.if_icmp .ge 34, 3) := by decide +kernel
theorem dX6_votesFor_9 : decode cX6_votesFor 9 = .ok (.iload_n 2, 1) := by decide +kernel
theorem dX6_votesFor_10 : decode cX6_votesFor 10 = .ok (.aload_n 0, 1) := by decide +kernel
theorem dX6_votesFor_11 : decode cX6_votesFor 11 = .ok (.iload_n 3, 1) := by decide +kernel
theorem dX6_votesFor_12 : decode cX6_votesFor 12 = .ok (.iload_n 1, 1) := by decide +kernel
theorem dX6_votesFor_13 : decode cX6_votesFor 13 = .ok (.invokevirtual 173, 3) := by decide +kernel
theorem dX6_votesFor_16 : decode cX6_votesFor 16 = .ok (.ifCond .le 15, 3) := by decide +kernel
theorem dX6_votesFor_19 : decode cX6_votesFor 19 = .ok (.aload_n 0, 1) := by decide +kernel
theorem dX6_votesFor_20 : decode cX6_votesFor 20 = .ok (.getfield 10, 3) := by decide +kernel
theorem dX6_votesFor_23 : decode cX6_votesFor 23 = .ok (.getfield 249, 3) := by decide +kernel
theorem dX6_votesFor_26 : decode cX6_votesFor 26 = .ok (.iload_n 3, 1) := by decide +kernel
theorem dX6_votesFor_27 : decode cX6_votesFor 27 = .ok (.iaload, 1) := by decide +kernel
theorem dX6_votesFor_28 : decode cX6_votesFor 28 = .ok (.goto 4, 3) := by decide +kernel
theorem dX6_votesFor_31 : decode cX6_votesFor 31 = .ok (.iconst 0, 1) := by decide +kernel
theorem dX6_votesFor_32 : decode cX6_votesFor 32 = .ok (.iadd, 1) := by decide +kernel
theorem dX6_votesFor_33 : decode cX6_votesFor 33 = .ok (.istore_n 2, 1) := by decide +kernel
theorem dX6_votesFor_34 : decode cX6_votesFor 34 = .ok (.iinc 3 1, 3) := by decide +kernel
theorem dX6_votesFor_37 : decode cX6_votesFor 37 = .ok (.goto (-33), 3) := by decide +kernel
theorem dX6_votesFor_40 : decode cX6_votesFor 40 = .ok (.iload_n 2, 1) := by decide +kernel
theorem dX6_votesFor_41 : decode cX6_votesFor 41 = .ok (.ireturn, 1) := by decide +kernel
theorem dX6_votes_0 : decode cX6_votes 0 = .ok (.aload_n 0, 1) := by decide +kernel
theorem dX6_votes_1 : decode cX6_votes 1 = .ok (.invokevirtual 155, 3) := by decide +kernel
theorem dX6_votes_4 : decode cX6_votes 4 = .ok (.istore_n 1, 1) := by decide +kernel
theorem dX6_votes_5 : decode cX6_votes 5 = .ok (.iload_n 1, 1) := by decide +kernel
theorem dX6_votes_6 : decode cX6_votes 6 = .ok (.ifCond .ge 7, 3) := by decide +kernel
theorem dX6_votes_9 : decode cX6_votes 9 = .ok (.iload_n 1, 1) := by decide +kernel
theorem dX6_votes_10 : decode cX6_votes 10 = .ok (.goto 8, 3) := by decide +kernel
theorem dX6_votes_13 : decode cX6_votes 13 = .ok (.aload_n 0, 1) := by decide +kernel
theorem dX6_votes_14 : decode cX6_votes 14 = .ok (.iload_n 1, 1) := by decide +kernel
theorem dX6_votes_15 : decode cX6_votes 15 = .ok (.invokevirtual 252, 3) := by decide +kernel
theorem dX6_votes_18 : decode cX6_votes 18 = .ok (.ireturn, 1) := by decide +kernel
theorem dX6_harmed_0 : decode cX6_harmed 0 = .ok (.aload_n 0, 1) := by decide +kernel
theorem dX6_harmed_1 : decode cX6_harmed 1 = .ok (.invokevirtual 155, 3) := by decide +kernel
theorem dX6_harmed_4 : decode cX6_harmed 4 = .ok (.istore_n 1, 1) := by decide +kernel
theorem dX6_harmed_5 : decode cX6_harmed 5 = .ok (.iload_n 1, 1) := by decide +kernel
theorem dX6_harmed_6 : decode cX6_harmed 6 = .ok (.ifCond .ge 5, 3) := by decide +kernel
theorem dX6_harmed_9 : decode cX6_harmed 9 = .ok (.iload_n 1, 1) := by decide +kernel
theorem dX6_harmed_10 : decode cX6_harmed 10 = .ok (.ireturn, 1) := by decide +kernel
theorem dX6_harmed_11 : decode cX6_harmed 11 = .ok (.iconst 0, 1) := by decide +kernel
theorem dX6_harmed_12 : decode cX6_harmed 12 = .ok (.istore_n 2, 1) := by decide +kernel
theorem dX6_harmed_13 : decode cX6_harmed 13 = .ok (.iconst 0, 1) := by decide +kernel
theorem dX6_harmed_14 : decode cX6_harmed 14 = .ok (.istore_n 3, 1) := by decide +kernel
theorem dX6_harmed_15 : decode cX6_harmed 15 = .ok (.iload_n 3, 1) := by decide +kernel
theorem dX6_harmed_16 : decode cX6_harmed 16 = .ok (.iconst 4, 1) := by decide +kernel
theorem dX6_harmed_17 : decode cX6_harmed 17 = .ok (.if_icmp .ge 24, 3) := by decide +kernel
theorem dX6_harmed_20 : decode cX6_harmed 20 = .ok (.aload_n 0, 1) := by decide +kernel
theorem dX6_harmed_21 : decode cX6_harmed 21 = .ok (.iload_n 3, 1) := by decide +kernel
theorem dX6_harmed_22 : decode cX6_harmed 22 = .ok (.iload_n 1, 1) := by decide +kernel
theorem dX6_harmed_23 : decode cX6_harmed 23 = .ok (.invokevirtual 173, 3) := by decide +kernel
theorem dX6_harmed_26 : decode cX6_harmed 26 = .ok (.ifCond .ge 9, 3) := by decide +kernel
theorem dX6_harmed_29 : decode cX6_harmed 29 = .ok (.iload_n 2, 1) := by decide +kernel
theorem dX6_harmed_30 : decode cX6_harmed 30 = .ok (.iconst 1, 1) := by decide +kernel
theorem dX6_harmed_31 : decode cX6_harmed 31 = .ok (.iload_n 3, 1) := by decide +kernel
theorem dX6_harmed_32 : decode cX6_harmed 32 = .ok (.ishl, 1) := by decide +kernel
theorem dX6_harmed_33 : decode cX6_harmed 33 = .ok (.ior, 1) := by decide +kernel
theorem dX6_harmed_34 : decode cX6_harmed 34 = .ok (.istore_n 2, 1) := by decide +kernel
theorem dX6_harmed_35 : decode cX6_harmed 35 = .ok (.iinc 3 1, 3) := by decide +kernel
theorem dX6_harmed_38 : decode cX6_harmed 38 = .ok (.goto (-23), 3) := by decide +kernel
theorem dX6_harmed_41 : decode cX6_harmed 41 = .ok (.iload_n 2, 1) := by decide +kernel
theorem dX6_harmed_42 : decode cX6_harmed 42 = .ok (.ireturn, 1) := by decide +kernel
theorem dX6_paid_0 : decode cX6_paid 0 = .ok (.aload_n 0, 1) := by decide +kernel
theorem dX6_paid_1 : decode cX6_paid 1 = .ok (.invokevirtual 155, 3) := by decide +kernel
theorem dX6_paid_4 : decode cX6_paid 4 = .ok (.istore_n 1, 1) := by decide +kernel
theorem dX6_paid_5 : decode cX6_paid 5 = .ok (.iload_n 1, 1) := by decide +kernel
theorem dX6_paid_6 : decode cX6_paid 6 = .ok (.ifCond .ge 5, 3) := by decide +kernel
theorem dX6_paid_9 : decode cX6_paid 9 = .ok (.iload_n 1, 1) := by decide +kernel
theorem dX6_paid_10 : decode cX6_paid 10 = .ok (.ireturn, 1) := by decide +kernel
theorem dX6_paid_11 : decode cX6_paid 11 = .ok (.iconst 0, 1) := by decide +kernel
theorem dX6_paid_12 : decode cX6_paid 12 = .ok (.istore_n 2, 1) := by decide +kernel
theorem dX6_paid_13 : decode cX6_paid 13 = .ok (.iconst 0, 1) := by decide +kernel
theorem dX6_paid_14 : decode cX6_paid 14 = .ok (.istore_n 3, 1) := by decide +kernel
theorem dX6_paid_15 : decode cX6_paid 15 = .ok (.iconst 0, 1) := by decide +kernel
theorem dX6_paid_16 : decode cX6_paid 16 = .ok (.istore 4, 2) := by decide +kernel
theorem dX6_paid_18 : decode cX6_paid 18 = .ok (.iload 4, 2) := by decide +kernel
theorem dX6_paid_20 : decode cX6_paid 20 = .ok (.iconst 4, 1) := by decide +kernel
theorem dX6_paid_21 : decode cX6_paid 21 = .ok (.if_icmp .ge 53, 3) := by decide +kernel
theorem dX6_paid_24 : decode cX6_paid 24 = .ok (.aload_n 0, 1) := by decide +kernel
theorem dX6_paid_25 : decode cX6_paid 25 = .ok (.getfield 10, 3) := by decide +kernel
theorem dX6_paid_28 : decode cX6_paid 28 = .ok (.getfield 249, 3) := by decide +kernel
theorem dX6_paid_31 : decode cX6_paid 31 = .ok (.iload 4, 2) := by decide +kernel
theorem dX6_paid_33 : decode cX6_paid 33 = .ok (.iaload, 1) := by decide +kernel
theorem dX6_paid_34 : decode cX6_paid 34 = .ok (.ifCond .le 13, 3) := by decide +kernel
theorem dX6_paid_37 : decode cX6_paid 37 = .ok (.aload_n 0, 1) := by decide +kernel
theorem dX6_paid_38 : decode cX6_paid 38 = .ok (.iload 4, 2) := by decide +kernel
theorem dX6_paid_40 : decode cX6_paid 40 = .ok (.iload_n 1, 1) := by decide +kernel
theorem dX6_paid_41 : decode cX6_paid 41 = .ok (.invokevirtual 173, 3) := by decide +kernel
theorem dX6_paid_44 : decode cX6_paid 44 = .ok (.goto 4, 3) := by decide +kernel
theorem dX6_paid_47 : decode cX6_paid 47 = .ok (.iconst 0, 1) := by decide +kernel
theorem dX6_paid_48 : decode cX6_paid 48 = .ok (.istore 5, 2) := by decide +kernel
theorem dX6_paid_50 : decode cX6_paid 50 = .ok (.iload 5, 2) := by decide +kernel
theorem dX6_paid_52 : decode cX6_paid 52 = .ok (.ifCond .le 11, 3) := by decide +kernel
theorem dX6_paid_55 : decode cX6_paid 55 = .ok (.iload_n 2, 1) := by decide +kernel
theorem dX6_paid_56 : decode cX6_paid 56 = .ok (.iload 5, 2) := by decide +kernel
theorem dX6_paid_58 : decode cX6_paid 58 = .ok (.iadd, 1) := by decide +kernel
theorem dX6_paid_59 : decode cX6_paid 59 = .ok (.istore_n 2, 1) := by decide +kernel
theorem dX6_paid_60 : decode cX6_paid 60 = .ok (.goto 8, 3) := by decide +kernel
theorem dX6_paid_63 : decode cX6_paid 63 = .ok (.iload_n 3, 1) := by decide +kernel
theorem dX6_paid_64 : decode cX6_paid 64 = .ok (.iload 5, 2) := by decide +kernel
theorem dX6_paid_66 : decode cX6_paid 66 = .ok (.isub, 1) := by decide +kernel
theorem dX6_paid_67 : decode cX6_paid 67 = .ok (.istore_n 3, 1) := by decide +kernel
theorem dX6_paid_68 : decode cX6_paid 68 = .ok (.iinc 4 1, 3) := by decide +kernel
theorem dX6_paid_71 : decode cX6_paid 71 = .ok (.goto (-53), 3) := by decide +kernel
theorem dX6_paid_74 : decode cX6_paid 74 = .ok (.iload_n 2, 1) := by decide +kernel
theorem dX6_paid_75 : decode cX6_paid 75 = .ok (.iload_n 3, 1) := by decide +kernel
theorem dX6_paid_76 : decode cX6_paid 76 = .ok (.if_icmp .ge 8, 3) := by decide +kernel
theorem dX6_paid_79 : decode cX6_paid 79 = .ok (.bipush (-6), 2) := by decide +kernel
theorem dX6_paid_81 : decode cX6_paid 81 = .ok (.goto 4, 3) := by decide +kernel
theorem dX6_paid_84 : decode cX6_paid 84 = .ok (.iload_n 3, 1) := by decide +kernel
theorem dX6_paid_85 : decode cX6_paid 85 = .ok (.ireturn, 1) := by decide +kernel
theorem dX6_kept_0 : decode cX6_kept 0 = .ok (.aload_n 0, 1) := by decide +kernel
theorem dX6_kept_1 : decode cX6_kept 1 = .ok (.invokevirtual 127, 3) := by decide +kernel
theorem dX6_kept_4 : decode cX6_kept 4 = .ok (.ifCond .eq 6, 3) := by decide +kernel
theorem dX6_kept_7 : decode cX6_kept 7 = .ok (.bipush (-5), 2) := by decide +kernel
theorem dX6_kept_9 : decode cX6_kept 9 = .ok (.ireturn, 1) := by decide +kernel
theorem dX6_kept_10 : decode cX6_kept 10 = .ok (.aload_n 0, 1) := by decide +kernel
theorem dX6_kept_11 : decode cX6_kept 11 = .ok (.invokevirtual 143, 3) := by decide +kernel
theorem dX6_kept_14 : decode cX6_kept 14 = .ok (.lstore_n 2, 1) := by decide +kernel
theorem dX6_kept_15 : decode cX6_kept 15 = .ok (.lload_n 2, 1) := by decide +kernel
theorem dX6_kept_16 : decode cX6_kept 16 = .ok (.invokestatic 146, 3) := by decide +kernel
theorem dX6_kept_19 : decode cX6_kept 19 = .ok (.istore 4, 2) := by decide +kernel
theorem dX6_kept_21 : decode cX6_kept 21 = .ok (.iload_n 1, 1) := by decide +kernel
theorem dX6_kept_22 : decode cX6_kept 22 = .ok (.iconst (-1), 1) := by decide +kernel
theorem dX6_kept_23 : decode cX6_kept 23 = .ok (.if_icmp .ne 6, 3) := by decide +kernel
theorem dX6_kept_26 : decode cX6_kept 26 = .ok (.iload 4, 2) := by decide +kernel
theorem dX6_kept_28 : decode cX6_kept 28 = .ok (.ireturn, 1) := by decide +kernel
theorem dX6_kept_29 : decode cX6_kept 29 = .ok (.iload_n 1, 1) := by decide +kernel
theorem dX6_kept_30 : decode cX6_kept 30 = .ok (.ifCond .lt 9, 3) := by decide +kernel
theorem dX6_kept_33 : decode cX6_kept 33 = .ok (.iload_n 1, 1) := by decide +kernel
theorem dX6_kept_34 : decode cX6_kept 34 = .ok (.iload 4, 2) := by decide +kernel
theorem dX6_kept_36 : decode cX6_kept 36 = .ok (.if_icmp .lt 6, 3) := by decide +kernel
theorem dX6_kept_39 : decode cX6_kept 39 = .ok (.bipush (-6), 2) := by decide +kernel
theorem dX6_kept_41 : decode cX6_kept 41 = .ok (.ireturn, 1) := by decide +kernel
theorem dX6_kept_42 : decode cX6_kept 42 = .ok (.lload_n 2, 1) := by decide +kernel
theorem dX6_kept_43 : decode cX6_kept 43 = .ok (.lstore 5, 2) := by decide +kernel
theorem dX6_kept_45 : decode cX6_kept 45 = .ok (.iconst 0, 1) := by decide +kernel
theorem dX6_kept_46 : decode cX6_kept 46 = .ok (.istore 7, 2) := by decide +kernel
theorem dX6_kept_48 : decode cX6_kept 48 = .ok (.iload 7, 2) := by decide +kernel
theorem dX6_kept_50 : decode cX6_kept 50 = .ok (.iload_n 1, 1) := by decide +kernel
theorem dX6_kept_51 : decode cX6_kept 51 = .ok (.if_icmp .ge 18, 3) := by decide +kernel
theorem dX6_kept_54 : decode cX6_kept 54 = .ok (.lload 5, 2) := by decide +kernel
theorem dX6_kept_56 : decode cX6_kept 56 = .ok (.lload 5, 2) := by decide +kernel
theorem dX6_kept_58 : decode cX6_kept 58 = .ok (.lconst 1, 1) := by decide +kernel
theorem dX6_kept_59 : decode cX6_kept 59 = .ok (.lsub, 1) := by decide +kernel
theorem dX6_kept_60 : decode cX6_kept 60 = .ok (.land, 1) := by decide +kernel
theorem dX6_kept_61 : decode cX6_kept 61 = .ok (.lstore 5, 2) := by decide +kernel
theorem dX6_kept_63 : decode cX6_kept 63 = .ok (.iinc 7 1, 3) := by decide +kernel
theorem dX6_kept_66 : decode cX6_kept 66 = .ok (.goto (-18), 3) := by decide +kernel
theorem dX6_kept_69 : decode cX6_kept 69 = .ok (.lload 5, 2) := by decide +kernel
theorem dX6_kept_71 : decode cX6_kept 71 = .ok (.invokestatic 152, 3) := by decide +kernel
theorem dX6_kept_74 : decode cX6_kept 74 = .ok (.ireturn, 1) := by decide +kernel
theorem dX6_extreme_0 : decode cX6_extreme 0 = .ok (.aload_n 0, 1) := by decide +kernel
theorem dX6_extreme_1 : decode cX6_extreme 1 = .ok (.iload_n 1, 1) := by decide +kernel
theorem dX6_extreme_2 : decode cX6_extreme 2 = .ok (.invokestatic 78, 3) := by decide +kernel
theorem dX6_extreme_5 : decode cX6_extreme 5 = .ok (.iload_n 2, 1) := by decide +kernel
theorem dX6_extreme_6 : decode cX6_extreme 6 = .ok (.invokestatic 158, 3) := by decide +kernel
theorem dX6_extreme_9 : decode cX6_extreme 9 = .ok (.ifCond .eq 14, 3) := by decide +kernel
theorem dX6_extreme_12 : decode cX6_extreme 12 = .ok (.iload_n 3, 1) := by decide +kernel
theorem dX6_extreme_13 : decode cX6_extreme 13 = .ok (.invokestatic 158, 3) := by decide +kernel
theorem dX6_extreme_16 : decode cX6_extreme 16 = .ok (.ifCond .eq 7, 3) := by decide +kernel
theorem dX6_extreme_19 : decode cX6_extreme 19 = .ok (.iconst 1, 1) := by decide +kernel
theorem dX6_extreme_20 : decode cX6_extreme 20 = .ok (.goto 4, 3) := by decide +kernel
theorem dX6_extreme_23 : decode cX6_extreme 23 = .ok (.iconst 0, 1) := by decide +kernel
theorem dX6_extreme_24 : decode cX6_extreme 24 = .ok (.invokevirtual 161, 3) := by decide +kernel
theorem dX6_extreme_27 : decode cX6_extreme 27 = .ok (.istore 4, 2) := by decide +kernel
theorem dX6_extreme_29 : decode cX6_extreme 29 = .ok (.iload 4, 2) := by decide +kernel
theorem dX6_extreme_31 : decode cX6_extreme 31 = .ok (.ifCond .ge 6, 3) := by decide +kernel
theorem dX6_extreme_34 : decode cX6_extreme 34 = .ok (.iload 4, 2) := by decide +kernel
theorem dX6_extreme_36 : decode cX6_extreme 36 = .ok (.ireturn, 1) := by decide +kernel
theorem dX6_extreme_37 : decode cX6_extreme 37 = .ok (.iload_n 2, 1) := by decide +kernel
theorem dX6_extreme_38 : decode cX6_extreme 38 = .ok (.ifCond .ne 7, 3) := by decide +kernel
theorem dX6_extreme_41 : decode cX6_extreme 41 = .ok (.iconst 1, 1) := by decide +kernel
theorem dX6_extreme_42 : decode cX6_extreme 42 = .ok (.goto 4, 3) := by decide +kernel
theorem dX6_extreme_45 : decode cX6_extreme 45 = .ok (.iconst (-1), 1) := by decide +kernel
theorem dX6_extreme_46 : decode cX6_extreme 46 = .ok (.istore 5, 2) := by decide +kernel
theorem dX6_extreme_48 : decode cX6_extreme 48 = .ok (.aload_n 0, 1) := by decide +kernel
theorem dX6_extreme_49 : decode cX6_extreme 49 = .ok (.getfield 10, 3) := by decide +kernel
theorem dX6_extreme_52 : decode cX6_extreme 52 = .ok (.getfield 85, 3) := by decide +kernel
theorem dX6_extreme_55 : decode cX6_extreme 55 = .ok (.iload_n 1, 1) := by decide +kernel
theorem dX6_extreme_56 : decode cX6_extreme 56 = .ok (.bipush 6, 2) := by decide +kernel
theorem dX6_extreme_58 : decode cX6_extreme 58 = .ok (.imul, 1) := by decide +kernel
theorem dX6_extreme_59 : decode cX6_extreme 59 = .ok (.iload 5, 2) := by decide +kernel
theorem dX6_extreme_61 : decode cX6_extreme 61 = .ok (.aload_n 0, 1) := by decide +kernel
theorem dX6_extreme_62 : decode cX6_extreme 62 = .ok (.getfield 60, 3) := by decide +kernel
theorem dX6_extreme_65 : decode cX6_extreme 65 = .ok (.invokestatic 165, 3) := by decide +kernel
theorem dX6_extreme_68 : decode cX6_extreme 68 = .ok (.aload_n 0, 1) := by decide +kernel
theorem dX6_extreme_69 : decode cX6_extreme 69 = .ok (.invokevirtual 143, 3) := by decide +kernel
theorem dX6_extreme_72 : decode cX6_extreme 72 = .ok (.aload_n 0, 1) := by decide +kernel
theorem dX6_extreme_73 : decode cX6_extreme 73 = .ok (.getfield 60, 3) := by decide +kernel
theorem dX6_extreme_76 : decode cX6_extreme 76 = .ok (.iconst 0, 1) := by decide +kernel
theorem dX6_extreme_77 : decode cX6_extreme 77 = .ok (.iconst 0, 1) := by decide +kernel
theorem dX6_extreme_78 : decode cX6_extreme 78 = .ok (.invokestatic 169, 3) := by decide +kernel
theorem dX6_extreme_81 : decode cX6_extreme 81 = .ok (.istore 6, 2) := by decide +kernel
theorem dX6_extreme_83 : decode cX6_extreme 83 = .ok (.iload 6, 2) := by decide +kernel
theorem dX6_extreme_85 : decode cX6_extreme 85 = .ok (.ifCond .ge 6, 3) := by decide +kernel
theorem dX6_extreme_88 : decode cX6_extreme 88 = .ok (.bipush (-3), 2) := by decide +kernel
theorem dX6_extreme_90 : decode cX6_extreme 90 = .ok (.ireturn, 1) := by decide +kernel
theorem dX6_extreme_91 : decode cX6_extreme 91 = .ok (.iload_n 3, 1) := by decide +kernel
theorem dX6_extreme_92 : decode cX6_extreme 92 = .ok (.ifCond .ne 20, 3) := by decide +kernel
theorem dX6_extreme_95 : decode cX6_extreme 95 = .ok (.iload 5, 2) := by decide +kernel
theorem dX6_extreme_97 : decode cX6_extreme 97 = .ok (.aload_n 0, 1) := by decide +kernel
theorem dX6_extreme_98 : decode cX6_extreme 98 = .ok (.getfield 60, 3) := by decide +kernel
theorem dX6_extreme_101 : decode cX6_extreme 101 = .ok (.iload 6, 2) := by decide +kernel
theorem dX6_extreme_103 : decode cX6_extreme 103 = .ok (.iaload, 1) := by decide +kernel
theorem dX6_extreme_104 : decode cX6_extreme 104 = .ok (.imul, 1) := by decide +kernel
theorem dX6_extreme_105 : decode cX6_extreme 105 = .ok (.sipush 1000, 3) := by decide +kernel
theorem dX6_extreme_108 : decode cX6_extreme 108 = .ok (.iadd, 1) := by decide +kernel
theorem dX6_extreme_109 : decode cX6_extreme 109 = .ok (.goto 5, 3) := by decide +kernel
theorem dX6_extreme_112 : decode cX6_extreme 112 = .ok (.iload 6, 2) := by decide +kernel
theorem dX6_extreme_114 : decode cX6_extreme 114 = .ok (.ireturn, 1) := by decide +kernel
theorem ww_eq {I : Nat → Nat → Int32} {J : Nat → Nat → Int64} {t sl wy wi he sg : Nat} (hk : KI I J t sl wy wi he) : mk64 (soM t (I 41) sg he) 64 &&& J 33 8 &&& slW t sl (sdM t (I 41) sg) he = kpL I J t sl sg he := by
  have h64 := p2_le hk.1.2.2.1
  apply l_ext
  intro w hw
  unfold kpL slW
  rw [lb_and, lb_and, mk64_bit _ 64 (Nat.le_refl _), mk64_bit _ _ h64, mk64_bit _ _ h64, decide_eq_true hw, Bool.true_and]
  unfold kpM
  by_cases h : w < 2 ^ t
  · rw [decide_eq_true h, Bool.true_and, Bool.true_and]
    cases soM t (I 41) sg he w <;> cases lbit (J 33 8) w <;> simp
  · rw [decide_eq_false h]; simp
theorem wtF_b {I : Nat → Nat → Int32} {J : Nat → Nat → Int64} {t sl wy wi he c : Nat} (hk : KI I J t sl wy wi he) (hc : c < 4) (w : Nat) : -54 ≤ (wtF I t c w).toInt ∧ (wtF I t c w).toInt ≤ 54 := by
  have h6 := hk.1.2.2.1
  have := wsum_b (f := fun k => I 34 (6 * c + k)) (w := w) t h6 (fun i hi => (hk.2.2.2.1 _ (by omega)).2)
  unfold wtF
  omega
theorem gain_lt {I : Nat → Nat → Int32} {J : Nat → Nat → Int64} {t sl wy wi he c : Nat} (hk : KI I J t sl wy wi he) (hc : c < 4) (w v : Nat) : (wtF I t c w - wtF I t c v).toInt = (wtF I t c w).toInt - (wtF I t c v).toInt := by
  have h1 := wtF_b hk hc w
  have h2 := wtF_b hk hc v
  exact ti_sub (by omega) (by omega)
theorem cN_s {p : Nat → Bool} {k : Nat} : cN p (k + 1) = cN p k + if p k then 1 else 0 := rfl
theorem cN_mono {p : Nat → Bool} {a b : Nat} (h : a ≤ b) : cN p a ≤ cN p b := by
  induction b with
  | zero => rw [Nat.le_zero.mp h]; exact Nat.le_refl _
  | succ b ih =>
    by_cases e : a = b + 1
    · rw [e]; exact Nat.le_refl _
    · exact Nat.le_trans (ih (by omega)) (Nat.le_add_right _ _)
theorem cN_flat {p : Nat → Bool} {a b : Nat} (h : a ≤ b) (h2 : ∀ i, a ≤ i → i < b → p i = false) : cN p b = cN p a := by
  induction b with
  | zero => rw [Nat.le_zero.mp h]
  | succ b ih =>
    by_cases e : a = b + 1
    · rw [e]
    · show cN p b + (if p b then 1 else 0) = _
      rw [ih (by omega) (fun i h3 h4 => h2 i h3 (by omega)), h2 b (by omega) (by omega)]; rfl
theorem cN_top {p : Nat → Bool} {a b : Nat} (h : a ≤ b) (h2 : ∀ i, a ≤ i → p i = false) : cN p b = cN p a := cN_flat h (fun i h3 _ => h2 i h3)
theorem cN_split (p : Nat → Bool) {a b : Nat} (h : a ≤ b) : cN p b = cN p a + cN (fun i => decide (a ≤ i) && p i) b := by
  have h0 : cN (fun i => decide (a ≤ i) && p i) a = 0 := by
    have : ∀ k, k ≤ a → cN (fun i => decide (a ≤ i) && p i) k = 0 := by
      intro k
      induction k with
      | zero => intro _; rfl
      | succ k ih =>
        intro hk
        show cN _ k + (if (decide (a ≤ k) && p k) = true then 1 else 0) = 0
        rw [ih (by omega), decide_eq_false (by omega)]; rfl
    exact this a (Nat.le_refl _)
  induction b with
  | zero => rw [Nat.le_zero.mp h]; rfl
  | succ b ih =>
    by_cases e : a = b + 1
    · rw [← e, h0]; rfl
    · have ih := ih (by omega)
      show cN p b + (if p b then 1 else 0) = cN p a + (cN (fun i => decide (a ≤ i) && p i) b + (if (decide (a ≤ b) && p b) = true then 1 else 0))
      rw [ih, decide_eq_true (show a ≤ b by omega), Bool.true_and]
      omega
theorem lo_step {l g : Int32} (h : ¬ 0 < g) : l - g = l + (if g < 0 then -g else 0) := by
  by_cases h2 : g < 0
  · rw [if_pos h2, Int32.sub_eq_add_neg]
  · have : g = 0 := Int32.toInt_inj.mp (by simp only [i_lt] at h h2; have e : (0 : Int32).toInt = 0 := rfl; omega)
    rw [this]
    simp
theorem kt_stay {Z : Int64} {q m N : Nat} (hN : N ≤ 64) (hq : q < N) (hb : lbit Z q = true) (hc : cN (lbit Z) q = m) : ktV Z (nI m) N = nI q := by
  have hm : m ≤ q := by rw [← hc]; exact cN_le _ _
  have h1 : ∀ k, k ≤ q → upto (ktF2 Z (nI m)) k (0, none) = (nI (cN (lbit Z) k), none) := by
    intro k
    induction k with
    | zero => intro _; rfl
    | succ k ih =>
      intro hk
      show ktF2 Z (nI m) k (upto (ktF2 Z (nI m)) k (0, none)) = _
      rw [ih (by omega), cN_s]
      cases hb2 : lbit Z k with
      | false => rw [ktF2_n hb2]; rfl
      | true =>
        have hlt : cN (lbit Z) k < m := by
          have h9 : cN (lbit Z) (k + 1) ≤ cN (lbit Z) q := cN_mono (by omega)
          have h10 : cN (lbit Z) (k + 1) = cN (lbit Z) k + 1 := by
            show cN (lbit Z) k + (if lbit Z k then 1 else 0) = _
            rw [hb2]; rfl
          omega
        rw [ktF2_s hb2 (fun e => by have := (nI_eq (by omega) (by omega)).mp e; omega), nI_1]
        rfl
  have h2 : upto (ktF2 Z (nI m)) (q + 1) (0, none) = (nI m, some q) := by
    show ktF2 Z (nI m) q (upto (ktF2 Z (nI m)) q (0, none)) = _
    rw [h1 q (Nat.le_refl _), hc]
    simp [ktF2, hb]
  have h3 := ktF2_stay h2 (N - (q + 1))
  rw [show q + 1 + (N - (q + 1)) = N by omega] at h3
  unfold ktV
  rw [h3]
  rfl
theorem kt_none {Z : Int64} {i : Int32} {N : Nat} (h : ∀ k, k < N → lbit Z k = true → ¬ nI (cN (lbit Z) k) = i) : ktV Z i N = -6 := by
  have h1 : ∀ k, k ≤ N → upto (ktF2 Z i) k (0, none) = (nI (cN (lbit Z) k), none) := by
    intro k
    induction k with
    | zero => intro _; rfl
    | succ k ih =>
      intro hk
      show ktF2 Z i k (upto (ktF2 Z i) k (0, none)) = _
      rw [ih (by omega), cN_s]
      cases hb2 : lbit Z k with
      | false => rw [ktF2_n hb2]; rfl
      | true => rw [ktF2_s hb2 (h k (by omega) hb2), nI_1]; rfl
  unfold ktV
  rw [h1 N (Nat.le_refl _)]
  rfl
theorem kept_n {Z : Int64} {i : Int32} {N : Nat} (h1 : ¬ i = -1) (h : ∀ k, k < N → lbit Z k = true → ¬ nI (cN (lbit Z) k) = i) : (-6 : Int32) = if i = -1 then upto (fun w c => c + b2i (lbit Z w)) N 0 else ktV Z i N := by rw [if_neg h1, kt_none h]
theorem kept_a {Z : Int64} {i : Int32} (hi : i < 0) (k : Nat) (hk : k < 64) (_ : lbit Z k = true) : ¬ nI (cN (lbit Z) k) = i := fun e => absurd (show nI (cN (lbit Z) k) < 0 by rw [e]; exact hi) (nI_pos (by have := cN_le (lbit Z) k; omega))
theorem kept_b {Z : Int64} {m N : Nat} (hN : N ≤ 64) (hm31 : m < 2 ^ 31) (hm : ¬ m < cN (lbit Z) N) (k : Nat) (hk : k < N) (hb : lbit Z k = true) : ¬ nI (cN (lbit Z) k) = nI m := by
  intro e
  have h8 := cN_le (lbit Z) k
  have h9 := cN_mono (p := lbit Z) (show k + 1 ≤ N by omega)
  have h7 := (nI_eq (by omega) (by omega)).mp e
  have h5 : cN (lbit Z) (k + 1) = cN (lbit Z) k + 1 := by
    show cN (lbit Z) k + (if lbit Z k then 1 else 0) = _
    rw [hb]; rfl
  omega
section CLS6
variable {xl : Nat} {xs : Nat → Int32} {n : Nat} {h : Nat → PC} {I S : Nat → Nat → Int32} {J T : Nat → Nat → Int64} {X : Nat → Option Nat} {t sl wy wi he sg : Nat}
theorem k_X6_wishWorlds (hn : 49 ≤ n) (hk : KI I J t sl wy wi he) (hp : PdI I sg) (hf : ffP I t sg = -6) : RnP xl xs 2 49 mX6_wishWorlds [.ref 0] n I S J T X (some (.long (kpL I J t sl sg he))) (fun S' _ => S' = S) := by
  intro Q hQ
  have h6 := hk.1.2.2.1
  have ht2 := hk.1.2.1
  have h64 := p2_le h6
  have hhl := hk.1.2.2.2.2.2.2.2.2.2.2
  have hw := ffP_WT h6 ht2 hp.2.2.1 hf
  have hsd := sdM_lt (t := t) (tx := I 41) h6 ht2 sg
  have h40 := hp.2.2.1
  show Ev xl xs 2 49 0 0 mX6_wishWorlds 0 [some (.ref 0)] [] n (sysH (ov I S) (ovJ J T) X) Q
  refine ev_aload_n (q := 1) dX6_wishWorlds_0 rfl rfl ?_
  refine ev_get (q := 4) dX6_wishWorlds_1 fr_X6_23 rfl (lt_n hn (by decide)) rfl rfl ?_
  refine ev_aload_n (q := 5) dX6_wishWorlds_4 rfl rfl ?_
  refine ev_get (q := 8) dX6_wishWorlds_5 fr_X6_10 rfl (lt_n hn (by decide)) rfl rfl ?_
  refine ev_get (q := 11) dX6_wishWorlds_8 fr_X6_103 rfl (lt_n hn (by decide)) rfl rfl ?_
  rw [show ov I S 1 1 = nI he from hk.2.1.2.1]
  refine ev_callV1lP (q := 14) dX6_wishWorlds_11 ca_X6_131 (k_worldsFrom_10 hn h6 ht2 hp.2.1 (fun k hk => hp.2.2.2 k (by omega)) hw (by omega)) rfl (lt_n hn (by decide)) rfl rfl (Nat.le_of_ble_eq_true rfl) (Nat.le_of_ble_eq_true rfl) (by decide) (by decide) rfl (fun S T hp_11 => ?_)
  rw [hp_11]
  refine ev_aload_n (q := 15) dX6_wishWorlds_14 rfl rfl ?_
  refine ev_get (q := 18) dX6_wishWorlds_15 fr_X6_10 rfl (lt_n hn (by decide)) rfl rfl ?_
  refine ev_get (q := 21) dX6_wishWorlds_18 fr_X6_139 rfl (lt_n hn (by decide)) rfl rfl ?_
  rw [show ovJ J T 1 5 = J 33 8 from hk.2.2.1.1]
  refine ev_land (q := 22) dX6_wishWorlds_21 rfl ?_
  refine ev_aload_n (q := 23) dX6_wishWorlds_22 rfl rfl ?_
  refine ev_get (q := 26) dX6_wishWorlds_23 fr_X6_10 rfl (lt_n hn (by decide)) rfl rfl ?_
  refine ev_aload_n (q := 27) dX6_wishWorlds_26 rfl rfl ?_
  refine ev_get (q := 30) dX6_wishWorlds_27 fr_X6_23 rfl (lt_n hn (by decide)) rfl rfl ?_
  refine ev_callV0i (q := 33) dX6_wishWorlds_30 ca_X6_187 (k_saidThings hn hp h6 ht2 hw) rfl (lt_n hn (by decide)) rfl rfl (Nat.le_of_ble_eq_true rfl) (Nat.le_of_ble_eq_true rfl) (by decide) (by decide) rfl ?_
  refine ev_aload_n (q := 34) dX6_wishWorlds_33 rfl rfl ?_
  refine ev_get (q := 37) dX6_wishWorlds_34 fr_X6_10 rfl (lt_n hn (by decide)) rfl rfl ?_
  refine ev_get (q := 40) dX6_wishWorlds_37 fr_X6_103 rfl (lt_n hn (by decide)) rfl rfl ?_
  rw [show ov I _ 1 1 = nI he from hk.2.1.2.1]
  refine ev_callV2l (q := 43) dX6_wishWorlds_40 ca_X6_190 (k_X4_stillWorlds hn hk hsd (by omega)) rfl (lt_n hn (by decide)) rfl rfl (Nat.le_of_ble_eq_true rfl) (Nat.le_of_ble_eq_true rfl) (by decide) (by decide) rfl ?_
  refine ev_land (q := 44) dX6_wishWorlds_43 rfl ?_
  exact ev_lretE dX6_wishWorlds_44 rfl (ww_eq hk) rfl rfl (hQ _ _ rfl)
theorem k_X6_wishOutcome (hn : 49 ≤ n) (hk : KI I J t sl wy wi he) (hp : PdI I sg) : RnS xl xs 4 96 0 0 mX6_wishOutcome [.ref 0] n I J X (some (.int (mdF I J t sl wy wi he sg))) n I J X := by
  intro S T Q hQ
  have h64 := p2_le hk.1.2.2.1
  have hhl := hk.1.2.2.2.2.2.2.2.2.2.2
  show Ev xl xs 4 96 0 0 mX6_wishOutcome 0 [some (.ref 0)] [] n (sysH (ov I S) (ovJ J T) X) Q
  by_cases hf : ffP I t sg = -6
  · have hd : e3 (mdO I J t sl wy wi he sg) = mdF I J t sl wy wi he sg := by unfold mdF; rw [if_pos hf]
    have hb : decide (ffP I t sg ≠ -6) = false := decide_eq_false (fun h => h hf)
    have hr := RD_rdS (I := I) (S := S) (wy := wy) (wi := wi)
    refine ev_aload_n (q := 1) dX6_wishOutcome_0 rfl rfl ?_
    refine ev_callV0i (q := 4) dX6_wishOutcome_1 ca_X6_127 (k_X6_isFaulty hn hk hp) rfl (lt_n hn (by decide)) rfl rfl (Nat.le_of_ble_eq_true rfl) (Nat.le_of_ble_eq_true rfl) (by decide) (by decide) rfl ?_
    rw [hb]
    refine ev_if_eq (q := 7) 10 dX6_wishOutcome_4 (by decide) rfl (fun c_4 => ?_) (fun c_4 => ?_)
    · refine ev_aload_n (q := 11) dX6_wishOutcome_10 rfl rfl ?_
      refine ev_get (q := 14) dX6_wishOutcome_11 fr_X6_42 rfl (lt_n hn (by decide)) rfl rfl ?_
      refine ev_callV0v (q := 17) dX6_wishOutcome_14 ca_X6_182 (k_X3_ready hn hk) rfl (lt_n hn (by decide)) rfl rfl (Nat.le_of_ble_eq_true rfl) (Nat.le_of_ble_eq_true rfl) (by decide) (by decide) rfl ?_
      refine ev_aload_n (q := 18) dX6_wishOutcome_17 rfl rfl ?_
      refine ev_get (q := 21) dX6_wishOutcome_18 fr_X6_42 rfl (lt_n hn (by decide)) rfl rfl ?_
      refine ev_aload_n (q := 22) dX6_wishOutcome_21 rfl rfl ?_
      refine ev_callV0lP (q := 25) dX6_wishOutcome_22 ca_X6_143 (k_X6_wishWorlds hn hk hp hf) rfl (lt_n hn (by decide)) rfl rfl (Nat.le_of_ble_eq_true rfl) (Nat.le_of_ble_eq_true rfl) (by decide) (by decide) rfl (fun S T hp_22 => ?_)
      rw [hp_22]
      refine ev_aload_n (q := 26) dX6_wishOutcome_25 rfl rfl ?_
      refine ev_get (q := 29) dX6_wishOutcome_26 fr_X6_10 rfl (lt_n hn (by decide)) rfl rfl ?_
      refine ev_get (q := 32) dX6_wishOutcome_29 fr_X6_103 rfl (lt_n hn (by decide)) rfl rfl ?_
      rw [show ov I _ 1 1 = nI he from hk.2.1.2.1]
      refine ev_callV2i (q := 35) dX6_wishOutcome_32 ca_X6_310 (k_X3_outcome hn hk hr (fun w hw => mk64_hi h64 hw) hhl) rfl (lt_n hn (by decide)) rfl rfl (Nat.le_of_ble_eq_true rfl) (Nat.le_of_ble_eq_true rfl) (by decide) (by decide) rfl ?_
      exact ev_iretE dX6_wishOutcome_35 rfl rfl hd rfl rfl (hQ _ _)
    · exact absurd rfl c_4
  · have hd : mdF I J t sl wy wi he sg = -5 := by unfold mdF; rw [if_neg hf]
    have hb : decide (ffP I t sg ≠ -6) = true := decide_eq_true hf
    refine ev_aload_n (q := 1) dX6_wishOutcome_0 rfl rfl ?_
    refine ev_callV0i (q := 4) dX6_wishOutcome_1 ca_X6_127 (k_X6_isFaulty hn hk hp) rfl (lt_n hn (by decide)) rfl rfl (Nat.le_of_ble_eq_true rfl) (Nat.le_of_ble_eq_true rfl) (by decide) (by decide) rfl ?_
    rw [hb]
    refine ev_if_eq (q := 7) 10 dX6_wishOutcome_4 (by decide) rfl (fun c_4 => ?_) (fun c_4 => ?_)
    · exact absurd c_4 (by decide)
    · refine ev_bipush (q := 9) (-5) dX6_wishOutcome_7 (by decide) rfl ?_
      exact ev_iretE dX6_wishOutcome_9 rfl rfl hd.symm rfl rfl (hQ _ _)
theorem k_X6_makes (hn : 49 ≤ n) (hk : KI I J t sl wy wi he) (hp : PdI I sg) : RnS xl xs 5 116 0 0 mX6_makes [.ref 0] n I J X (some (.int (mdF I J t sl wy wi he sg))) n I J X := by
  intro S T Q hQ
  show Ev xl xs 5 116 0 0 mX6_makes 0 [some (.ref 0)] [] n (sysH (ov I S) (ovJ J T) X) Q
  refine ev_aload_n (q := 1) dX6_makes_0 rfl rfl ?_
  refine ev_callV0iS (q := 4) dX6_makes_1 ca_X6_155 (k_X6_wishOutcome hn hk hp) rfl (lt_n hn (by decide)) rfl rfl (Nat.le_of_ble_eq_true rfl) (Nat.le_of_ble_eq_true rfl) (by decide) (by decide) rfl (fun S T => ?_)
  exact ev_iretE dX6_makes_4 rfl rfl rfl rfl rfl (hQ _ _)
theorem k_X6_fault (hn : 49 ≤ n) (hk : KI I J t sl wy wi he) (hp : PdI I sg) : RnS xl xs 2 47 0 0 mX6_fault [.ref 0] n I J X (some (.int (ffP I t sg))) n I J X := by
  intro S T Q hQ
  show Ev xl xs 2 47 0 0 mX6_fault 0 [some (.ref 0)] [] n (sysH (ov I S) (ovJ J T) X) Q
  refine ev_aload_n (q := 1) dX6_fault_0 rfl rfl ?_
  refine ev_get (q := 4) dX6_fault_1 fr_X6_23 rfl (lt_n hn (by decide)) rfl rfl ?_
  refine ev_aload_n (q := 5) dX6_fault_4 rfl rfl ?_
  refine ev_get (q := 8) dX6_fault_5 fr_X6_10 rfl (lt_n hn (by decide)) rfl rfl ?_
  refine ev_get (q := 11) dX6_fault_8 fr_X6_74 rfl (lt_n hn (by decide)) rfl rfl ?_
  rw [show ov I S 1 0 = nI t from hk.2.1.1]
  refine ev_callV1i (q := 14) dX6_fault_11 ca_X6_123 (k_firstFault hn hp hk.1.2.2.1 hk.1.2.1) rfl (lt_n hn (by decide)) rfl rfl (Nat.le_of_ble_eq_true rfl) (Nat.le_of_ble_eq_true rfl) (by decide) (by decide) rfl ?_
  exact ev_iretE dX6_fault_14 rfl rfl rfl rfl rfl (hQ _ _)
theorem k_X6_votesFor {w : Nat} (hn : 49 ≤ n) (hk : KI I J t sl wy wi he) (hw : w < 2 ^ t) : Rn xl xs 2 46 0 0 mX6_votesFor [.ref 0, .int (nI w)] n (sysH (ov I S) (ovJ J T) X) (some (.int (voF I t he w))) n (sysH (ov I S) (ovJ J T) X) := by
  intro Q hQ
  show Ev xl xs 2 46 0 0 mX6_votesFor 0 [some (.ref 0), some (.int (nI w)), none, none] [] n (sysH (ov I S) (ovJ J T) X) Q
  have lp : ∀ j k, k + j = 4 → Ev xl xs 2 46 0 0 mX6_votesFor 4 [some (.ref 0), some (.int (nI w)), some (.int (upto (fun c s => s + if wtF I t c he < wtF I t c w then I 36 c else 0) k 0)), some (.int (nI k))] [] n (sysH (ov I S) (ovJ J T) X) Q := by
    intro j
    induction j using Nat.strongRecOn with
    | _ j ih =>
      intro k hk2
      have e : ∀ h1, _ := fun (h1 : j - 1 < j) => ih (j - 1) h1 (k + 1)
      refine ev_iload_n (q := 5) dX6_votesFor_4 rfl rfl ?_
      refine ev_iconst (q := 6) (4) dX6_votesFor_5 (by decide) rfl ?_
      refine ev_icmp_ge (q := 9) 40 dX6_votesFor_6 (by decide) rfl (fun c_6 => ?_) (fun c_6 => ?_)
      · have c_6 : 4 ≤ k := (nI_leI (a := 4) (by omega) (by omega)).mp c_6
        refine ev_iload_n (q := 41) dX6_votesFor_40 rfl rfl ?_
        exact ev_iretE dX6_votesFor_41 rfl rfl (by rw [show k = 4 by omega]; rfl) rfl rfl hQ
      · have c_6 : ¬ 4 ≤ k := fun h => c_6 ((nI_leI (a := 4) (by omega) (by omega)).mpr h)
        have e := e (by omega) (by omega)
        have hg := gain_lt hk (show k < 4 by omega) w he
        refine ev_iload_n (q := 10) dX6_votesFor_9 rfl rfl ?_
        refine ev_aload_n (q := 11) dX6_votesFor_10 rfl rfl ?_
        refine ev_iload_n (q := 12) dX6_votesFor_11 rfl rfl ?_
        refine ev_iload_n (q := 13) dX6_votesFor_12 rfl rfl ?_
        refine ev_callV2i (q := 16) dX6_votesFor_13 ca_X6_173 (k_X6_gainOf hn hk (by omega) (by omega)) rfl (lt_n hn (by decide)) rfl rfl (Nat.le_of_ble_eq_true rfl) (Nat.le_of_ble_eq_true rfl) (by decide) (by decide) rfl ?_
        refine ev_if_le (q := 19) 31 dX6_votesFor_16 (by decide) rfl (fun c_16 => ?_) (fun c_16 => ?_)
        · have c_16 : ¬ wtF I t k he < wtF I t k w := by simp only [i_le, i_lt, e_0i] at *; omega
          refine ev_iconst (q := 32) (0) dX6_votesFor_31 (by decide) rfl ?_
          refine ev_iadd (q := 33) dX6_votesFor_32 rfl ?_
          refine ev_ist_2 (q := 34) dX6_votesFor_33 rfl rfl ?_
          refine ev_inc_3 (q := 37) (nI (k + 1)) dX6_votesFor_34 (nI_1 k) rfl rfl ?_
          refine ev_goto 4 dX6_votesFor_37 (by decide) ?_
          simp only [upto, c_16, if_true, if_false] at e
          exact e
        · have c_16 : wtF I t k he < wtF I t k w := by simp only [i_le, i_lt, e_0i] at *; omega
          refine ev_aload_n (q := 20) dX6_votesFor_19 rfl rfl ?_
          refine ev_get (q := 23) dX6_votesFor_20 fr_X6_10 rfl (lt_n hn (by decide)) rfl rfl ?_
          refine ev_get (q := 26) dX6_votesFor_23 fr_X6_249 rfl (lt_n hn (by decide)) rfl rfl ?_
          refine ev_iload_n (q := 27) dX6_votesFor_26 rfl rfl ?_
          refine ev_iaS (q := 28) k dX6_votesFor_27 rfl rfl (by omega) (lt_n hn (by decide)) rfl ?_
          rw [show ov I S 4 k = I 36 k from (hk.2.2.2.2.2 k (by omega)).1]
          refine ev_goto 32 dX6_votesFor_28 (by decide) ?_
          refine ev_iadd (q := 33) dX6_votesFor_32 rfl ?_
          refine ev_ist_2 (q := 34) dX6_votesFor_33 rfl rfl ?_
          refine ev_inc_3 (q := 37) (nI (k + 1)) dX6_votesFor_34 (nI_1 k) rfl rfl ?_
          refine ev_goto 4 dX6_votesFor_37 (by decide) ?_
          simp only [upto, c_16, if_true, if_false] at e
          exact e
  refine ev_iconst (q := 1) (0) dX6_votesFor_0 (by decide) rfl ?_
  refine ev_ist_2 (q := 2) dX6_votesFor_1 rfl rfl ?_
  refine ev_iconst (q := 3) (0) dX6_votesFor_2 (by decide) rfl ?_
  refine ev_ist_3 (q := 4) dX6_votesFor_3 rfl rfl ?_
  exact lp 4 0 (by omega)
theorem k_X6_votes (hn : 49 ≤ n) (hk : KI I J t sl wy wi he) (hp : PdI I sg) : RnS xl xs 5 116 0 0 mX6_votes [.ref 0] n I J X (some (.int (if ffP I t sg = -6 then (match mdO I J t sl wy wi he sg with | none => -3 | some w => voF I t he w) else -5))) n I J X := by
  intro S T Q hQ
  have h64 := p2_le hk.1.2.2.1
  show Ev xl xs 5 116 0 0 mX6_votes 0 [some (.ref 0), none] [] n (sysH (ov I S) (ovJ J T) X) Q
  rcases mdF_or (I := I) (J := J) (t := t) (sl := sl) (wy := wy) (wi := wi) (he := he) (sg := sg) with ⟨hd, hf⟩ | ⟨hd, hf, ho⟩ | ⟨w, hw, hd, hf, ho⟩
  · refine ev_aload_n (q := 1) dX6_votes_0 rfl rfl ?_
    refine ev_callV0iS (q := 4) dX6_votes_1 ca_X6_155 (k_X6_wishOutcome hn hk hp) rfl (lt_n hn (by decide)) rfl rfl (Nat.le_of_ble_eq_true rfl) (Nat.le_of_ble_eq_true rfl) (by decide) (by decide) rfl (fun S T => ?_)
    rw [hd]
    refine ev_ist_1 (q := 5) dX6_votes_4 rfl rfl ?_
    refine ev_iload_n (q := 6) dX6_votes_5 rfl rfl ?_
    refine ev_if_ge (q := 9) 13 dX6_votes_6 (by decide) rfl (fun c_6 => ?_) (fun c_6 => ?_)
    · exact absurd c_6 (by decide)
    · refine ev_iload_n (q := 10) dX6_votes_9 rfl rfl ?_
      refine ev_goto 18 dX6_votes_10 (by decide) ?_
      exact ev_iretE dX6_votes_18 rfl rfl (by rw [if_neg hf]) rfl rfl (hQ _ _)
  · refine ev_aload_n (q := 1) dX6_votes_0 rfl rfl ?_
    refine ev_callV0iS (q := 4) dX6_votes_1 ca_X6_155 (k_X6_wishOutcome hn hk hp) rfl (lt_n hn (by decide)) rfl rfl (Nat.le_of_ble_eq_true rfl) (Nat.le_of_ble_eq_true rfl) (by decide) (by decide) rfl (fun S T => ?_)
    rw [hd]
    refine ev_ist_1 (q := 5) dX6_votes_4 rfl rfl ?_
    refine ev_iload_n (q := 6) dX6_votes_5 rfl rfl ?_
    refine ev_if_ge (q := 9) 13 dX6_votes_6 (by decide) rfl (fun c_6 => ?_) (fun c_6 => ?_)
    · exact absurd c_6 (by decide)
    · refine ev_iload_n (q := 10) dX6_votes_9 rfl rfl ?_
      refine ev_goto 18 dX6_votes_10 (by decide) ?_
      exact ev_iretE dX6_votes_18 rfl rfl (by rw [if_pos hf, ho]) rfl rfl (hQ _ _)
  · refine ev_aload_n (q := 1) dX6_votes_0 rfl rfl ?_
    refine ev_callV0iS (q := 4) dX6_votes_1 ca_X6_155 (k_X6_wishOutcome hn hk hp) rfl (lt_n hn (by decide)) rfl rfl (Nat.le_of_ble_eq_true rfl) (Nat.le_of_ble_eq_true rfl) (by decide) (by decide) rfl (fun S T => ?_)
    rw [hd]
    refine ev_ist_1 (q := 5) dX6_votes_4 rfl rfl ?_
    refine ev_iload_n (q := 6) dX6_votes_5 rfl rfl ?_
    refine ev_if_ge (q := 9) 13 dX6_votes_6 (by decide) rfl (fun c_6 => ?_) (fun c_6 => ?_)
    · refine ev_aload_n (q := 14) dX6_votes_13 rfl rfl ?_
      refine ev_iload_n (q := 15) dX6_votes_14 rfl rfl ?_
      refine ev_callV1i (q := 18) dX6_votes_15 ca_X6_252 (k_X6_votesFor hn hk (by omega)) rfl (lt_n hn (by decide)) rfl rfl (Nat.le_of_ble_eq_true rfl) (Nat.le_of_ble_eq_true rfl) (by decide) (by decide) rfl ?_
      exact ev_iretE dX6_votes_18 rfl rfl (by rw [if_pos hf, ho]) rfl rfl (hQ _ _)
    · exact absurd (nI_pos' (by omega)) c_6
theorem k_X6_harmed (hn : 49 ≤ n) (hk : KI I J t sl wy wi he) (hp : PdI I sg) : RnS xl xs 5 116 0 0 mX6_harmed [.ref 0] n I J X (some (.int (if ffP I t sg = -6 then (match mdO I J t sl wy wi he sg with | none => -3 | some w => haF I t he w) else -5))) n I J X := by
  intro S T Q hQ
  have h64 := p2_le hk.1.2.2.1
  show Ev xl xs 5 116 0 0 mX6_harmed 0 [some (.ref 0), none, none, none] [] n (sysH (ov I S) (ovJ J T) X) Q
  rcases mdF_or (I := I) (J := J) (t := t) (sl := sl) (wy := wy) (wi := wi) (he := he) (sg := sg) with ⟨hd, hf⟩ | ⟨hd, hf, ho⟩ | ⟨w, hw, hd, hf, ho⟩
  · refine ev_aload_n (q := 1) dX6_harmed_0 rfl rfl ?_
    refine ev_callV0iS (q := 4) dX6_harmed_1 ca_X6_155 (k_X6_wishOutcome hn hk hp) rfl (lt_n hn (by decide)) rfl rfl (Nat.le_of_ble_eq_true rfl) (Nat.le_of_ble_eq_true rfl) (by decide) (by decide) rfl (fun S T => ?_)
    rw [hd]
    refine ev_ist_1 (q := 5) dX6_harmed_4 rfl rfl ?_
    refine ev_iload_n (q := 6) dX6_harmed_5 rfl rfl ?_
    refine ev_if_ge (q := 9) 11 dX6_harmed_6 (by decide) rfl (fun c_6 => ?_) (fun c_6 => ?_)
    · exact absurd c_6 (by decide)
    · refine ev_iload_n (q := 10) dX6_harmed_9 rfl rfl ?_
      exact ev_iretE dX6_harmed_10 rfl rfl (by rw [if_neg hf]) rfl rfl (hQ _ _)
  · refine ev_aload_n (q := 1) dX6_harmed_0 rfl rfl ?_
    refine ev_callV0iS (q := 4) dX6_harmed_1 ca_X6_155 (k_X6_wishOutcome hn hk hp) rfl (lt_n hn (by decide)) rfl rfl (Nat.le_of_ble_eq_true rfl) (Nat.le_of_ble_eq_true rfl) (by decide) (by decide) rfl (fun S T => ?_)
    rw [hd]
    refine ev_ist_1 (q := 5) dX6_harmed_4 rfl rfl ?_
    refine ev_iload_n (q := 6) dX6_harmed_5 rfl rfl ?_
    refine ev_if_ge (q := 9) 11 dX6_harmed_6 (by decide) rfl (fun c_6 => ?_) (fun c_6 => ?_)
    · exact absurd c_6 (by decide)
    · refine ev_iload_n (q := 10) dX6_harmed_9 rfl rfl ?_
      exact ev_iretE dX6_harmed_10 rfl rfl (by rw [if_pos hf, ho]) rfl rfl (hQ _ _)
  · have lp : ∀ j k, k + j = 4 → ∀ S T, Ev xl xs 5 116 0 0 mX6_harmed 15 [some (.ref 0), some (.int (nI w)), some (.int (upto (fun c s => s ||| if wtF I t c w < wtF I t c he then nI (2 ^ c) else 0) k 0)), some (.int (nI k))] [] n (sysH (ov I S) (ovJ J T) X) Q := by
      intro j
      induction j using Nat.strongRecOn with
      | _ j ih =>
        intro k hk2 S T
        have e : ∀ h1, _ := fun (h1 : j - 1 < j) => ih (j - 1) h1 (k + 1)
        refine ev_iload_n (q := 16) dX6_harmed_15 rfl rfl ?_
        refine ev_iconst (q := 17) (4) dX6_harmed_16 (by decide) rfl ?_
        refine ev_icmp_ge (q := 20) 41 dX6_harmed_17 (by decide) rfl (fun c_17 => ?_) (fun c_17 => ?_)
        · have c_17 : 4 ≤ k := (nI_leI (a := 4) (by omega) (by omega)).mp c_17
          refine ev_iload_n (q := 42) dX6_harmed_41 rfl rfl ?_
          exact ev_iretE dX6_harmed_42 rfl rfl (by rw [if_pos hf, ho, show k = 4 by omega]; rfl) rfl rfl (hQ _ _)
        · have c_17 : ¬ 4 ≤ k := fun h => c_17 ((nI_leI (a := 4) (by omega) (by omega)).mpr h)
          have e := e (by omega) (by omega)
          have hg := gain_lt hk (show k < 4 by omega) w he
          refine ev_aload_n (q := 21) dX6_harmed_20 rfl rfl ?_
          refine ev_iload_n (q := 22) dX6_harmed_21 rfl rfl ?_
          refine ev_iload_n (q := 23) dX6_harmed_22 rfl rfl ?_
          refine ev_callV2i (q := 26) dX6_harmed_23 ca_X6_173 (k_X6_gainOf hn hk (by omega) (by omega)) rfl (lt_n hn (by decide)) rfl rfl (Nat.le_of_ble_eq_true rfl) (Nat.le_of_ble_eq_true rfl) (by decide) (by decide) rfl ?_
          refine ev_if_ge (q := 29) 35 dX6_harmed_26 (by decide) rfl (fun c_26 => ?_) (fun c_26 => ?_)
          · have c_26 : ¬ wtF I t k w < wtF I t k he := by simp only [i_le, i_lt, e_0i] at *; omega
            simp only [upto, c_26, if_false] at e
            rw [show ∀ z : Int32, z ||| 0 = z from fun z => Int32.or_zero] at e
            refine ev_inc_3 (q := 38) (nI (k + 1)) dX6_harmed_35 (nI_1 k) rfl rfl ?_
            refine ev_goto 15 dX6_harmed_38 (by decide) ?_
            exact e _ _
          · have c_26 : wtF I t k w < wtF I t k he := by simp only [i_le, i_lt, e_0i] at *; omega
            simp only [upto, c_26, if_true] at e
            refine ev_iload_n (q := 30) dX6_harmed_29 rfl rfl ?_
            refine ev_iconst (q := 31) (1) dX6_harmed_30 (by decide) rfl ?_
            refine ev_iload_n (q := 32) dX6_harmed_31 rfl rfl ?_
            refine ev_ishl (q := 33) dX6_harmed_32 rfl ?_
            refine ev_ior (q := 34) dX6_harmed_33 rfl ?_
            rw [nI_sh1 (by omega)]
            refine ev_ist_2 (q := 35) dX6_harmed_34 rfl rfl ?_
            refine ev_inc_3 (q := 38) (nI (k + 1)) dX6_harmed_35 (nI_1 k) rfl rfl ?_
            refine ev_goto 15 dX6_harmed_38 (by decide) ?_
            exact e _ _
    refine ev_aload_n (q := 1) dX6_harmed_0 rfl rfl ?_
    refine ev_callV0iS (q := 4) dX6_harmed_1 ca_X6_155 (k_X6_wishOutcome hn hk hp) rfl (lt_n hn (by decide)) rfl rfl (Nat.le_of_ble_eq_true rfl) (Nat.le_of_ble_eq_true rfl) (by decide) (by decide) rfl (fun S T => ?_)
    rw [hd]
    refine ev_ist_1 (q := 5) dX6_harmed_4 rfl rfl ?_
    refine ev_iload_n (q := 6) dX6_harmed_5 rfl rfl ?_
    refine ev_if_ge (q := 9) 11 dX6_harmed_6 (by decide) rfl (fun c_6 => ?_) (fun c_6 => ?_)
    · refine ev_iconst (q := 12) (0) dX6_harmed_11 (by decide) rfl ?_
      refine ev_ist_2 (q := 13) dX6_harmed_12 rfl rfl ?_
      refine ev_iconst (q := 14) (0) dX6_harmed_13 (by decide) rfl ?_
      refine ev_ist_3 (q := 15) dX6_harmed_14 rfl rfl ?_
      exact lp 4 0 (by omega) _ _
    · exact absurd (nI_pos' (by omega)) c_6
theorem k_X6_paid (hn : 49 ≤ n) (hk : KI I J t sl wy wi he) (hp : PdI I sg) : RnS xl xs 5 116 0 0 mX6_paid [.ref 0] n I J X (some (.int (if ffP I t sg = -6 then (match mdO I J t sl wy wi he sg with | none => -3 | some w => if loF I t he w 4 ≤ gaF I t he w 4 then loF I t he w 4 else -6) else -5))) n I J X := by
  intro S T Q hQ
  have h64 := p2_le hk.1.2.2.1
  show Ev xl xs 5 116 0 0 mX6_paid 0 [some (.ref 0), none, none, none, none, none] [] n (sysH (ov I S) (ovJ J T) X) Q
  rcases mdF_or (I := I) (J := J) (t := t) (sl := sl) (wy := wy) (wi := wi) (he := he) (sg := sg) with ⟨hd, hf⟩ | ⟨hd, hf, ho⟩ | ⟨w, hw, hd, hf, ho⟩
  · refine ev_aload_n (q := 1) dX6_paid_0 rfl rfl ?_
    refine ev_callV0iS (q := 4) dX6_paid_1 ca_X6_155 (k_X6_wishOutcome hn hk hp) rfl (lt_n hn (by decide)) rfl rfl (Nat.le_of_ble_eq_true rfl) (Nat.le_of_ble_eq_true rfl) (by decide) (by decide) rfl (fun S T => ?_)
    rw [hd]
    refine ev_ist_1 (q := 5) dX6_paid_4 rfl rfl ?_
    refine ev_iload_n (q := 6) dX6_paid_5 rfl rfl ?_
    refine ev_if_ge (q := 9) 11 dX6_paid_6 (by decide) rfl (fun c_6 => ?_) (fun c_6 => ?_)
    · exact absurd c_6 (by decide)
    · refine ev_iload_n (q := 10) dX6_paid_9 rfl rfl ?_
      exact ev_iretE dX6_paid_10 rfl rfl (by rw [if_neg hf]) rfl rfl (hQ _ _)
  · refine ev_aload_n (q := 1) dX6_paid_0 rfl rfl ?_
    refine ev_callV0iS (q := 4) dX6_paid_1 ca_X6_155 (k_X6_wishOutcome hn hk hp) rfl (lt_n hn (by decide)) rfl rfl (Nat.le_of_ble_eq_true rfl) (Nat.le_of_ble_eq_true rfl) (by decide) (by decide) rfl (fun S T => ?_)
    rw [hd]
    refine ev_ist_1 (q := 5) dX6_paid_4 rfl rfl ?_
    refine ev_iload_n (q := 6) dX6_paid_5 rfl rfl ?_
    refine ev_if_ge (q := 9) 11 dX6_paid_6 (by decide) rfl (fun c_6 => ?_) (fun c_6 => ?_)
    · exact absurd c_6 (by decide)
    · refine ev_iload_n (q := 10) dX6_paid_9 rfl rfl ?_
      exact ev_iretE dX6_paid_10 rfl rfl (by rw [if_pos hf, ho]) rfl rfl (hQ _ _)
  · have lp : ∀ j k, k + j = 4 → ∀ S T a5, Ev xl xs 5 116 0 0 mX6_paid 18 [some (.ref 0), some (.int (nI w)), some (.int (gaF I t he w k)), some (.int (loF I t he w k)), some (.int (nI k)), a5] [] n (sysH (ov I S) (ovJ J T) X) Q := by
      intro j
      induction j using Nat.strongRecOn with
      | _ j ih =>
        intro k hk2 S T a5
        have e : ∀ h1, _ := fun (h1 : j - 1 < j) => ih (j - 1) h1 (k + 1)
        have J48 : ¬ 4 ≤ k → ∀ S T v, v = ogF I t he w k → Ev xl xs 5 116 0 0 mX6_paid 48 [some (.ref 0), some (.int (nI w)), some (.int (gaF I t he w k)), some (.int (loF I t he w k)), some (.int (nI k)), a5] [.int v] n (sysH (ov I S) (ovJ J T) X) Q := by
          intro hk4 S T v hv
          subst hv
          have e := e (by omega) (by omega)
          simp only [gaF, loF, upto] at e
          refine ev_ist_5 (q := 50) dX6_paid_48 rfl rfl ?_
          refine ev_iload (q := 52) dX6_paid_50 rfl rfl ?_
          refine ev_if_le (q := 55) 63 dX6_paid_52 (by decide) rfl (fun c_52 => ?_) (fun c_52 => ?_)
          · have c_52 : ¬ 0 < ogF I t he w k := fun h => absurd c_52 (by simp only [i_le, i_lt] at *; omega)
            rw [if_neg c_52, i_add0] at e
            refine ev_iload_n (q := 64) dX6_paid_63 rfl rfl ?_
            refine ev_iload (q := 66) dX6_paid_64 rfl rfl ?_
            refine ev_isub (q := 67) dX6_paid_66 rfl ?_
            rw [show loF I t he w k - ogF I t he w k = loF I t he w k + (if ogF I t he w k < 0 then -ogF I t he w k else 0) from lo_step c_52]
            refine ev_ist_3 (q := 68) dX6_paid_67 rfl rfl ?_
            refine ev_inc_4 (q := 71) (nI (k + 1)) dX6_paid_68 (nI_1 k) rfl rfl ?_
            refine ev_goto 18 dX6_paid_71 (by decide) ?_
            exact e _ _ _
          · have c_52 : 0 < ogF I t he w k := by simp only [i_le, i_lt] at *; omega
            rw [if_pos c_52, if_neg (show ¬ ogF I t he w k < 0 by simp only [i_le, i_lt] at *; omega), i_add0] at e
            refine ev_iload_n (q := 56) dX6_paid_55 rfl rfl ?_
            refine ev_iload (q := 58) dX6_paid_56 rfl rfl ?_
            refine ev_iadd (q := 59) dX6_paid_58 rfl ?_
            refine ev_ist_2 (q := 60) dX6_paid_59 rfl rfl ?_
            refine ev_goto 68 dX6_paid_60 (by decide) ?_
            refine ev_inc_4 (q := 71) (nI (k + 1)) dX6_paid_68 (nI_1 k) rfl rfl ?_
            refine ev_goto 18 dX6_paid_71 (by decide) ?_
            exact e _ _ _
        refine ev_iload (q := 20) dX6_paid_18 rfl rfl ?_
        refine ev_iconst (q := 21) (4) dX6_paid_20 (by decide) rfl ?_
        refine ev_icmp_ge (q := 24) 74 dX6_paid_21 (by decide) rfl (fun c_21 => ?_) (fun c_21 => ?_)
        · have c_21 : 4 ≤ k := (nI_leI (a := 4) (by omega) (by omega)).mp c_21
          refine ev_iload_n (q := 75) dX6_paid_74 rfl rfl ?_
          refine ev_iload_n (q := 76) dX6_paid_75 rfl rfl ?_
          refine ev_icmp_ge (q := 79) 84 dX6_paid_76 (by decide) rfl (fun c_76 => ?_) (fun c_76 => ?_)
          · have c_76 : loF I t he w k ≤ gaF I t he w k := c_76
            refine ev_iload_n (q := 85) dX6_paid_84 rfl rfl ?_
            have hk4 : k = 4 := by omega
            subst hk4
            exact ev_iretE dX6_paid_85 rfl rfl (by rw [if_pos hf, ho]; simp only [c_76, if_true, if_false]) rfl rfl (hQ _ _)
          · have c_76 : ¬ loF I t he w k ≤ gaF I t he w k := c_76
            refine ev_bipush (q := 81) (-6) dX6_paid_79 (by decide) rfl ?_
            refine ev_goto 85 dX6_paid_81 (by decide) ?_
            have hk4 : k = 4 := by omega
            subst hk4
            exact ev_iretE dX6_paid_85 rfl rfl (by rw [if_pos hf, ho]; simp only [c_76, if_true, if_false]) rfl rfl (hQ _ _)
        · have c_21 : ¬ 4 ≤ k := fun h => c_21 ((nI_leI (a := 4) (by omega) (by omega)).mpr h)
          refine ev_aload_n (q := 25) dX6_paid_24 rfl rfl ?_
          refine ev_get (q := 28) dX6_paid_25 fr_X6_10 rfl (lt_n hn (by decide)) rfl rfl ?_
          refine ev_get (q := 31) dX6_paid_28 fr_X6_249 rfl (lt_n hn (by decide)) rfl rfl ?_
          refine ev_iload (q := 33) dX6_paid_31 rfl rfl ?_
          refine ev_iaS (q := 34) k dX6_paid_33 rfl rfl (by omega) (lt_n hn (by decide)) rfl ?_
          rw [show ov I S 4 k = I 36 k from (hk.2.2.2.2.2 k (by omega)).1]
          refine ev_if_le (q := 37) 47 dX6_paid_34 (by decide) rfl (fun c_34 => ?_) (fun c_34 => ?_)
          · have c_34 : ¬ 0 < I 36 k := fun h => absurd (show I 36 k ≤ 0 from c_34) (by simp only [i_le, i_lt] at *; omega)
            refine ev_iconst (q := 48) (0) dX6_paid_47 (by decide) rfl ?_
            exact J48 c_21 _ _ _ (by simp only [ogF, c_34, if_true, if_false])
          · have c_34 : 0 < I 36 k := by have c_34 : ¬ I 36 k ≤ 0 := c_34; simp only [i_le, i_lt] at *; omega
            refine ev_aload_n (q := 38) dX6_paid_37 rfl rfl ?_
            refine ev_iload (q := 40) dX6_paid_38 rfl rfl ?_
            refine ev_iload_n (q := 41) dX6_paid_40 rfl rfl ?_
            refine ev_callV2i (q := 44) dX6_paid_41 ca_X6_173 (k_X6_gainOf hn hk (by omega) (by omega)) rfl (lt_n hn (by decide)) rfl rfl (Nat.le_of_ble_eq_true rfl) (Nat.le_of_ble_eq_true rfl) (by decide) (by decide) rfl ?_
            refine ev_goto 48 dX6_paid_44 (by decide) ?_
            exact J48 c_21 _ _ _ (by simp only [ogF, c_34, if_true, if_false])
    refine ev_aload_n (q := 1) dX6_paid_0 rfl rfl ?_
    refine ev_callV0iS (q := 4) dX6_paid_1 ca_X6_155 (k_X6_wishOutcome hn hk hp) rfl (lt_n hn (by decide)) rfl rfl (Nat.le_of_ble_eq_true rfl) (Nat.le_of_ble_eq_true rfl) (by decide) (by decide) rfl (fun S T => ?_)
    rw [hd]
    refine ev_ist_1 (q := 5) dX6_paid_4 rfl rfl ?_
    refine ev_iload_n (q := 6) dX6_paid_5 rfl rfl ?_
    refine ev_if_ge (q := 9) 11 dX6_paid_6 (by decide) rfl (fun c_6 => ?_) (fun c_6 => ?_)
    · refine ev_iconst (q := 12) (0) dX6_paid_11 (by decide) rfl ?_
      refine ev_ist_2 (q := 13) dX6_paid_12 rfl rfl ?_
      refine ev_iconst (q := 14) (0) dX6_paid_13 (by decide) rfl ?_
      refine ev_ist_3 (q := 15) dX6_paid_14 rfl rfl ?_
      refine ev_iconst (q := 16) (0) dX6_paid_15 (by decide) rfl ?_
      refine ev_ist_4 (q := 18) dX6_paid_16 rfl rfl ?_
      exact lp 4 0 (by omega) _ _ _
    · exact absurd (nI_pos' (by omega)) c_6
theorem k_X6_kept (hn : 49 ≤ n) (hk : KI I J t sl wy wi he) (hp : PdI I sg) (i : Int32) : RnS xl xs 3 69 0 0 mX6_kept [.ref 0, .int i] n I J X (some (.int (if ffP I t sg = -6 then (if i = -1 then upto (fun w c => c + b2i (lbit (kpL I J t sl sg he) w)) (2 ^ t) 0 else ktV (kpL I J t sl sg he) i (2 ^ t)) else -5))) n I J X := by
  intro S T Q hQ
  have h64 := p2_le hk.1.2.2.1
  show Ev xl xs 3 69 0 0 mX6_kept 0 [some (.ref 0), some (.int i), none, none, none, none, none, none] [] n (sysH (ov I S) (ovJ J T) X) Q
  by_cases hf : ffP I t sg = -6
  · have hb : decide (ffP I t sg ≠ -6) = false := decide_eq_false (fun h => h hf)
    have hww : ∀ S T, _ := fun S T => k_X6_wishWorlds (xl := xl) (xs := xs) (n := n) (S := S) (T := T) (X := X) hn hk hp hf
    have hhi : ∀ w, 2 ^ t ≤ w → lbit (kpL I J t sl sg he) w = false := fun w hw => mk64_hi h64 hw
    rw [if_pos hf] at hQ
    generalize kpL I J t sl sg he = Z at hQ hww hhi
    have hc64 := cN_le (lbit Z) 64
    have hce : cN (lbit Z) 64 = cN (lbit Z) (2 ^ t) := cN_top h64 hhi
    have lp : ∀ m, i = nI m → m < cN (lbit Z) 64 → ∀ j k, k + j = m → ∀ S T p lf, p ≤ 64 → (∀ i, i < 64 → lbit lf i = (decide (p ≤ i) && lbit Z i)) → cN (lbit Z) p = k → Ev xl xs 3 69 0 0 mX6_kept 48 [some (.ref 0), some (.int i), some (.long Z), none, some (.int (nI (cN (lbit Z) 64))), some (.long lf), none, some (.int (nI k))] [] n (sysH (ov I S) (ovJ J T) X) Q := by
      intro m hi hm j
      subst hi
      rw [if_neg (fun e => absurd (show nI m < 0 by rw [e]; decide) (nI_pos (by omega)))] at hQ
      induction j using Nat.strongRecOn with
      | _ j ih =>
        intro k hkm S T p lf hp64 hlf hck
        have e : ∀ h1, _ := fun (h1 : j - 1 < j) => ih (j - 1) h1 (k + 1)
        have hpos : 0 < cN (lbit lf) 64 := by
          have h1 := cN_split (lbit Z) hp64
          have h2 : cN (fun i => decide (p ≤ i) && lbit Z i) 64 = cN (lbit lf) 64 := cN_congr (fun i hi => (hlf i hi).symm)
          omega
        obtain ⟨q, hq, hq1, hq2⟩ := cN_ex 64 hpos
        have hpq : p ≤ q ∧ lbit Z q = true := by have := hlf q hq; rw [hq1] at this; have := Bool.and_eq_true_iff.mp this.symm; exact ⟨of_decide_eq_true this.1, this.2⟩
        have hcq : cN (lbit Z) q = k := by rw [← hck]; exact cN_flat hpq.1 (fun i h1 h2 => by have := hlf i (by omega); rw [hq2 i (by omega), decide_eq_true h1, Bool.true_and] at this; exact this.symm)
        by_cases hkm2 : k = m
        · have hq2t : q < 2 ^ t := by
            by_cases h9 : q < 2 ^ t
            · exact h9
            · have := hhi q (by omega); rw [hpq.2] at this; cases this
          refine ev_iload (q := 50) dX6_kept_48 rfl rfl ?_
          refine ev_iload_n (q := 51) dX6_kept_50 rfl rfl ?_
          refine ev_icmp_ge (q := 54) 69 dX6_kept_51 (by decide) rfl (fun c_51 => ?_) (fun c_51 => ?_)
          · refine ev_lload (q := 71) dX6_kept_69 rfl rfl ?_
            refine ev_callS1i (q := 74) dX6_kept_71 ca_X6_152 (c_X6_lowestOf hq hq1 hq2) (Nat.le_of_ble_eq_true rfl) (Nat.le_of_ble_eq_true rfl) (by decide) (by decide) rfl ?_
            exact ev_iretE dX6_kept_74 rfl rfl (kt_stay h64 hq2t hpq.2 (hcq.trans hkm2)).symm rfl rfl (hQ _ _)
          · exact absurd ((nI_leI (by omega) (by omega)).mpr (by omega)) c_51
        · have hlf2 : ∀ i, i < 64 → lbit (lf &&& (lf - 1)) i = (decide (q + 1 ≤ i) && lbit Z i) := by
            intro i hi
            rw [clr_l hq1 hq2]
            by_cases h1 : i < q
            · rw [hq2 i h1, Bool.false_and, decide_eq_false (by omega), Bool.false_and]
            · by_cases h2 : i = q
              · rw [decide_eq_false (by simp [h2]), Bool.and_false, decide_eq_false (by omega), Bool.false_and]
              · rw [hlf i hi, decide_eq_true h2, Bool.and_true, decide_eq_true (show p ≤ i by omega), decide_eq_true (show q + 1 ≤ i by omega)]
          have hck2 : cN (lbit Z) (q + 1) = k + 1 := by
            show cN (lbit Z) q + (if lbit Z q then 1 else 0) = k + 1
            rw [hcq, hpq.2]; rfl
          refine ev_iload (q := 50) dX6_kept_48 rfl rfl ?_
          refine ev_iload_n (q := 51) dX6_kept_50 rfl rfl ?_
          refine ev_icmp_ge (q := 54) 69 dX6_kept_51 (by decide) rfl (fun c_51 => ?_) (fun c_51 => ?_)
          · exact absurd ((nI_leI (by omega) (by omega)).mp c_51) (by omega)
          · refine ev_lload (q := 56) dX6_kept_54 rfl rfl ?_
            refine ev_lload (q := 58) dX6_kept_56 rfl rfl ?_
            refine ev_lconst (q := 59) (1) dX6_kept_58 (by decide) rfl ?_
            refine ev_lsub (q := 60) dX6_kept_59 rfl ?_
            refine ev_land (q := 61) dX6_kept_60 rfl ?_
            refine ev_lst_5 (q := 63) dX6_kept_61 rfl rfl ?_
            refine ev_inc_7 (q := 66) (nI (k + 1)) dX6_kept_63 (nI_1 k) rfl rfl ?_
            refine ev_goto 48 dX6_kept_66 (by decide) ?_
            exact e (by omega) (by omega) _ _ (q + 1) _ (by omega) hlf2 hck2
    refine ev_aload_n (q := 1) dX6_kept_0 rfl rfl ?_
    refine ev_callV0i (q := 4) dX6_kept_1 ca_X6_127 (k_X6_isFaulty hn hk hp) rfl (lt_n hn (by decide)) rfl rfl (Nat.le_of_ble_eq_true rfl) (Nat.le_of_ble_eq_true rfl) (by decide) (by decide) rfl ?_
    rw [hb]
    refine ev_if_eq (q := 7) 10 dX6_kept_4 (by decide) rfl (fun c_4 => ?_) (fun c_4 => ?_)
    · refine ev_aload_n (q := 11) dX6_kept_10 rfl rfl ?_
      refine ev_callV0lP (q := 14) dX6_kept_11 ca_X6_143 (hww _ _) rfl (lt_n hn (by decide)) rfl rfl (Nat.le_of_ble_eq_true rfl) (Nat.le_of_ble_eq_true rfl) (by decide) (by decide) rfl (fun S T hp_11 => ?_)
      refine ev_lst_2 (q := 15) dX6_kept_14 rfl rfl ?_
      refine ev_lload_n (q := 16) dX6_kept_15 rfl rfl ?_
      refine ev_callS1i (q := 19) dX6_kept_16 ca_X6_146 (c_bitL _) (Nat.le_of_ble_eq_true rfl) (Nat.le_of_ble_eq_true rfl) (by decide) (by decide) rfl ?_
      refine ev_ist_4 (q := 21) dX6_kept_19 rfl rfl ?_
      refine ev_iload_n (q := 22) dX6_kept_21 rfl rfl ?_
      refine ev_iconst (q := 23) (-1) dX6_kept_22 (by decide) rfl ?_
      refine ev_icmp_ne (q := 26) 29 dX6_kept_23 (by decide) rfl (fun c_23 => ?_) (fun c_23 => ?_)
      · have c_23 : ¬ i = -1 := c_23
        refine ev_iload_n (q := 30) dX6_kept_29 rfl rfl ?_
        refine ev_if_lt (q := 33) 39 dX6_kept_30 (by decide) rfl (fun c_30 => ?_) (fun c_30 => ?_)
        · have c_30 : i < 0 := c_30
          refine ev_bipush (q := 41) (-6) dX6_kept_39 (by decide) rfl ?_
          exact ev_iretE dX6_kept_41 rfl rfl (by first | exact kept_n c_23 (kept_b h64 hm31 (hce ▸ c_36)) | exact kept_n c_23 (fun k hk2 => kept_a c_30 k (by omega))) rfl rfl (hQ _ _)
        · have c_30 : ¬ i < 0 := c_30
          obtain ⟨m, hm31, rfl⟩ := nI_of c_30
          refine ev_iload_n (q := 34) dX6_kept_33 rfl rfl ?_
          refine ev_iload (q := 36) dX6_kept_34 rfl rfl ?_
          refine ev_icmp_lt (q := 39) 42 dX6_kept_36 (by decide) rfl (fun c_36 => ?_) (fun c_36 => ?_)
          · have c_36 : m < cN (lbit Z) 64 := (nI_ltI (by omega) (by omega)).mp c_36
            refine ev_lload_n (q := 43) dX6_kept_42 rfl rfl ?_
            refine ev_lst_5 (q := 45) dX6_kept_43 rfl rfl ?_
            refine ev_iconst (q := 46) (0) dX6_kept_45 (by decide) rfl ?_
            refine ev_ist_7 (q := 48) dX6_kept_46 rfl rfl ?_
            exact lp m rfl c_36 m 0 (by omega) _ _ 0 Z (by decide) (fun i hi => by simp) rfl
          · have c_36 : ¬ m < cN (lbit Z) 64 := fun h => c_36 ((nI_ltI (by omega) (by omega)).mpr h)
            refine ev_bipush (q := 41) (-6) dX6_kept_39 (by decide) rfl ?_
            exact ev_iretE dX6_kept_41 rfl rfl (by first | exact kept_n c_23 (kept_b h64 hm31 (hce ▸ c_36)) | exact kept_n c_23 (fun k hk2 => kept_a c_30 k (by omega))) rfl rfl (hQ _ _)
      · have c_23 : i = -1 := c_23
        refine ev_iload (q := 28) dX6_kept_26 rfl rfl ?_
        exact ev_iretE dX6_kept_28 rfl rfl (by rw [if_pos c_23, upto_cN, hce]) rfl rfl (hQ _ _)
    · exact absurd rfl c_4
  · have hb : decide (ffP I t sg ≠ -6) = true := decide_eq_true hf
    rw [if_neg hf] at hQ
    refine ev_aload_n (q := 1) dX6_kept_0 rfl rfl ?_
    refine ev_callV0i (q := 4) dX6_kept_1 ca_X6_127 (k_X6_isFaulty hn hk hp) rfl (lt_n hn (by decide)) rfl rfl (Nat.le_of_ble_eq_true rfl) (Nat.le_of_ble_eq_true rfl) (by decide) (by decide) rfl ?_
    rw [hb]
    refine ev_if_eq (q := 7) 10 dX6_kept_4 (by decide) rfl (fun c_4 => ?_) (fun c_4 => ?_)
    · exact absurd c_4 (by decide)
    · refine ev_bipush (q := 9) (-5) dX6_kept_7 (by decide) rfl ?_
      exact ev_iretE dX6_kept_9 rfl rfl rfl rfl rfl (hQ _ _)
end CLS6
