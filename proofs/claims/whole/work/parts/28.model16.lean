theorem dX7_harmed_0 : decode cX7_harmed 0 = .ok (.aload_n 0, 1) := by decide +kernel
theorem dX7_harmed_1 : decode cX7_harmed 1 = .ok (.invokevirtual 175, 3) := by decide +kernel
theorem dX7_harmed_4 : decode cX7_harmed 4 = .ok (.istore_n 1, 1) := by decide +kernel
theorem dX7_harmed_5 : decode cX7_harmed 5 = .ok (.iload_n 1, 1) := by decide +kernel
theorem dX7_harmed_6 : decode cX7_harmed 6 = .ok (.ifCond .ge 5, 3) := by decide +kernel
theorem dX7_harmed_9 : decode cX7_harmed 9 = .ok (.iload_n 1, 1) := by decide +kernel
theorem dX7_harmed_10 : decode cX7_harmed 10 = .ok (.ireturn, 1) := by decide +kernel
theorem dX7_harmed_11 : decode cX7_harmed 11 = .ok (.iconst 0, 1) := by decide +kernel
theorem dX7_harmed_12 : decode cX7_harmed 12 = .ok (.istore_n 2, 1) := by decide +kernel
theorem dX7_harmed_13 : decode cX7_harmed 13 = .ok (.iconst 0, 1) := by decide +kernel
theorem dX7_harmed_14 : decode cX7_harmed 14 = .ok (.istore_n 3, 1) := by decide +kernel
theorem dX7_harmed_15 : decode cX7_harmed 15 = .ok (.iload_n 3, 1) := by decide +kernel
theorem dX7_harmed_16 : decode cX7_harmed 16 = .ok (.iconst 4, 1) := by decide +kernel
theorem dX7_harmed_17 : decode cX7_harmed 17 = .ok (.if_icmp .ge 37, 3) := by decide +kernel
theorem dX7_harmed_20 : decode cX7_harmed 20 = .ok (.iload_n 2, 1) := by decide +kernel
theorem dX7_harmed_21 : decode cX7_harmed 21 = .ok (.aload_n 0, 1) := by decide +kernel
theorem dX7_harmed_22 : decode cX7_harmed 22 = .ok (.iload_n 3, 1) := by decide +kernel
theorem dX7_harmed_23 : decode cX7_harmed 23 = .ok (.iload_n 1, 1) := by decide +kernel
theorem dX7_harmed_24 : decode cX7_harmed 24 = .ok (.invokevirtual 117, 3) := by decide +kernel
theorem dX7_harmed_27 : decode cX7_harmed 27 = .ok (.aload_n 0, 1) := by decide +kernel
theorem dX7_harmed_28 : decode cX7_harmed 28 = .ok (.iload_n 3, 1) := by decide +kernel
theorem dX7_harmed_29 : decode cX7_harmed 29 = .ok (.aload_n 0, 1) := by decide +kernel
theorem dX7_harmed_30 : decode cX7_harmed 30 = .ok (.getfield 73, 3) := by decide +kernel
theorem dX7_harmed_33 : decode cX7_harmed 33 = .ok (.invokevirtual 117, 3) := by decide +kernel
theorem dX7_harmed_36 : decode cX7_harmed 36 = .ok (.if_icmp .ge 9, 3) := by decide +kernel
theorem dX7_harmed_39 : decode cX7_harmed 39 = .ok (.iconst 1, 1) := by decide +kernel
theorem dX7_harmed_40 : decode cX7_harmed 40 = .ok (.iload_n 3, 1) := by decide +kernel
theorem dX7_harmed_41 : decode cX7_harmed 41 = .ok (.ishl, 1) := by decide +kernel
theorem dX7_harmed_42 : decode cX7_harmed 42 = .ok (.goto 4, 3) := by decide +kernel
theorem dX7_harmed_45 : decode cX7_harmed 45 = .ok (.iconst 0, 1) := by decide +kernel
theorem dX7_harmed_46 : decode cX7_harmed 46 = .ok (.ior, 1) := by decide +kernel
theorem dX7_harmed_47 : decode cX7_harmed 47 = .ok (.istore_n 2, 1) := by decide +kernel
theorem dX7_harmed_48 : decode cX7_harmed 48 = .ok (.iinc 3 1, 3) := by decide +kernel
theorem dX7_harmed_51 : decode cX7_harmed 51 = .ok (.goto (-36), 3) := by decide +kernel
theorem dX7_harmed_54 : decode cX7_harmed 54 = .ok (.iload_n 2, 1) := by decide +kernel
theorem dX7_harmed_55 : decode cX7_harmed 55 = .ok (.ireturn, 1) := by decide +kernel
theorem dX7_votes_0 : decode cX7_votes 0 = .ok (.aload_n 0, 1) := by decide +kernel
theorem dX7_votes_1 : decode cX7_votes 1 = .ok (.invokevirtual 175, 3) := by decide +kernel
theorem dX7_votes_4 : decode cX7_votes 4 = .ok (.istore_n 1, 1) := by decide +kernel
theorem dX7_votes_5 : decode cX7_votes 5 = .ok (.iload_n 1, 1) := by decide +kernel
theorem dX7_votes_6 : decode cX7_votes 6 = .ok (.ifCond .ge 7, 3) := by decide +kernel
theorem dX7_votes_9 : decode cX7_votes 9 = .ok (.iload_n 1, 1) := by decide +kernel
theorem dX7_votes_10 : decode cX7_votes 10 = .ok (.goto 8, 3) := by decide +kernel
theorem dX7_votes_13 : decode cX7_votes 13 = .ok (.aload_n 0, 1) := by decide +kernel
theorem dX7_votes_14 : decode cX7_votes 14 = .ok (.iload_n 1, 1) := by decide +kernel
theorem dX7_votes_15 : decode cX7_votes 15 = .ok (.invokevirtual 220, 3) := by decide +kernel
theorem dX7_votes_18 : decode cX7_votes 18 = .ok (.ireturn, 1) := by decide +kernel
theorem dX7_paid_0 : decode cX7_paid 0 = .ok (.aload_n 0, 1) := by decide +kernel
theorem dX7_paid_1 : decode cX7_paid 1 = .ok (.invokevirtual 175, 3) := by decide +kernel
theorem dX7_paid_4 : decode cX7_paid 4 = .ok (.istore_n 1, 1) := by decide +kernel
theorem dX7_paid_5 : decode cX7_paid 5 = .ok (.iload_n 1, 1) := by decide +kernel
theorem dX7_paid_6 : decode cX7_paid 6 = .ok (.ifCond .ge 5, 3) := by decide +kernel
theorem dX7_paid_9 : decode cX7_paid 9 = .ok (.iload_n 1, 1) := by decide +kernel
theorem dX7_paid_10 : decode cX7_paid 10 = .ok (.ireturn, 1) := by decide +kernel
theorem dX7_paid_11 : decode cX7_paid 11 = .ok (.iconst 0, 1) := by decide +kernel
theorem dX7_paid_12 : decode cX7_paid 12 = .ok (.istore_n 2, 1) := by decide +kernel
theorem dX7_paid_13 : decode cX7_paid 13 = .ok (.iconst 0, 1) := by decide +kernel
theorem dX7_paid_14 : decode cX7_paid 14 = .ok (.istore_n 3, 1) := by decide +kernel
theorem dX7_paid_15 : decode cX7_paid 15 = .ok (.iconst 0, 1) := by decide +kernel
theorem dX7_paid_16 : decode cX7_paid 16 = .ok (.istore 4, 2) := by decide +kernel
theorem dX7_paid_18 : decode cX7_paid 18 = .ok (.iload 4, 2) := by decide +kernel
theorem dX7_paid_20 : decode cX7_paid 20 = .ok (.iconst 4, 1) := by decide +kernel
theorem dX7_paid_21 : decode cX7_paid 21 = .ok (.if_icmp .ge 72, 3) := by decide +kernel
theorem dX7_paid_24 : decode cX7_paid 24 = .ok (.aload_n 0, 1) := by decide +kernel
theorem dX7_paid_25 : decode cX7_paid 25 = .ok (.getfield 20, 3) := by decide +kernel
theorem dX7_paid_28 : decode cX7_paid 28 = .ok (.iload 4, 2) := by decide +kernel
theorem dX7_paid_30 : decode cX7_paid 30 = .ok (.iaload, 1) := by decide +kernel
theorem dX7_paid_31 : decode cX7_paid 31 = .ok (.ifCond .le 24, 3) := by decide +kernel
theorem dX7_paid_34 : decode cX7_paid 34 = .ok (.aload_n 0, 1) := by decide +kernel
theorem dX7_paid_35 : decode cX7_paid 35 = .ok (.iload 4, 2) := by decide +kernel
theorem dX7_paid_37 : decode cX7_paid 37 = .ok (.iload_n 1, 1) := by decide +kernel
theorem dX7_paid_38 : decode cX7_paid 38 = .ok (.invokevirtual 117, 3) := by decide +kernel
theorem dX7_paid_41 : decode cX7_paid 41 = .ok (.aload_n 0, 1) := by decide +kernel
theorem dX7_paid_42 : decode cX7_paid 42 = .ok (.iload 4, 2) := by decide +kernel
theorem dX7_paid_44 : decode cX7_paid 44 = .ok (.aload_n 0, 1) := by decide +kernel
theorem dX7_paid_45 : decode cX7_paid 45 = .ok (.getfield 73, 3) := by decide +kernel
theorem dX7_paid_48 : decode cX7_paid 48 = .ok (.invokevirtual 117, 3) := by decide +kernel
theorem dX7_paid_51 : decode cX7_paid 51 = .ok (.isub, 1) := by decide +kernel
theorem dX7_paid_52 : decode cX7_paid 52 = .ok (.goto 4, 3) := by decide +kernel
theorem dX7_paid_55 : decode cX7_paid 55 = .ok (.iconst 0, 1) := by decide +kernel
theorem dX7_paid_56 : decode cX7_paid 56 = .ok (.istore 5, 2) := by decide +kernel
theorem dX7_paid_58 : decode cX7_paid 58 = .ok (.iload_n 2, 1) := by decide +kernel
theorem dX7_paid_59 : decode cX7_paid 59 = .ok (.iload 5, 2) := by decide +kernel
theorem dX7_paid_61 : decode cX7_paid 61 = .ok (.ifCond .le 8, 3) := by decide +kernel
theorem dX7_paid_64 : decode cX7_paid 64 = .ok (.iload 5, 2) := by decide +kernel
theorem dX7_paid_66 : decode cX7_paid 66 = .ok (.goto 4, 3) := by decide +kernel
theorem dX7_paid_69 : decode cX7_paid 69 = .ok (.iconst 0, 1) := by decide +kernel
theorem dX7_paid_70 : decode cX7_paid 70 = .ok (.iadd, 1) := by decide +kernel
theorem dX7_paid_71 : decode cX7_paid 71 = .ok (.istore_n 2, 1) := by decide +kernel
theorem dX7_paid_72 : decode cX7_paid 72 = .ok (.iload_n 3, 1) := by decide +kernel
theorem dX7_paid_73 : decode cX7_paid 73 = .ok (.iload 5, 2) := by decide +kernel
theorem dX7_paid_75 : decode cX7_paid 75 = .ok (.ifCond .ge 9, 3) := by decide +kernel
theorem dX7_paid_78 : decode cX7_paid 78 = .ok (.iload 5, 2) := by decide +kernel
theorem dX7_paid_80 : decode cX7_paid 80 = .ok (.ineg, 1) := by decide +kernel
theorem dX7_paid_81 : decode cX7_paid 81 = .ok (.goto 4, 3) := by decide +kernel
theorem dX7_paid_84 : decode cX7_paid 84 = .ok (.iconst 0, 1) := by decide +kernel
theorem dX7_paid_85 : decode cX7_paid 85 = .ok (.iadd, 1) := by decide +kernel
theorem dX7_paid_86 : decode cX7_paid 86 = .ok (.istore_n 3, 1) := by decide +kernel
theorem dX7_paid_87 : decode cX7_paid 87 = .ok (.iinc 4 1, 3) := by decide +kernel
theorem dX7_paid_90 : decode cX7_paid 90 = .ok (.goto (-72), 3) := by decide +kernel
theorem dX7_paid_93 : decode cX7_paid 93 = .ok (.iload_n 3, 1) := by decide +kernel
theorem dX7_paid_94 : decode cX7_paid 94 = .ok (.iload_n 2, 1) := by decide +kernel
theorem dX7_paid_95 : decode cX7_paid 95 = .ok (.if_icmp .gt 7, 3) := by decide +kernel
theorem dX7_paid_98 : decode cX7_paid 98 = .ok (.iload_n 3, 1) := by decide +kernel
theorem dX7_paid_99 : decode cX7_paid 99 = .ok (.goto 5, 3) := by decide +kernel
theorem dX7_paid_102 : decode cX7_paid 102 = .ok (.bipush (-6), 2) := by decide +kernel
theorem dX7_paid_104 : decode cX7_paid 104 = .ok (.ireturn, 1) := by decide +kernel
theorem dX7_grant_0 : decode cX7_grant 0 = .ok (.aload_n 0, 1) := by decide +kernel
theorem dX7_grant_1 : decode cX7_grant 1 = .ok (.invokevirtual 175, 3) := by decide +kernel
theorem dX7_grant_4 : decode cX7_grant 4 = .ok (.istore_n 1, 1) := by decide +kernel
theorem dX7_grant_5 : decode cX7_grant 5 = .ok (.iload_n 1, 1) := by decide +kernel
theorem dX7_grant_6 : decode cX7_grant 6 = .ok (.ifCond .ge 5, 3) := by decide +kernel
theorem dX7_grant_9 : decode cX7_grant 9 = .ok (.iload_n 1, 1) := by decide +kernel
theorem dX7_grant_10 : decode cX7_grant 10 = .ok (.ireturn, 1) := by decide +kernel
theorem dX7_grant_11 : decode cX7_grant 11 = .ok (.aload_n 0, 1) := by decide +kernel
theorem dX7_grant_12 : decode cX7_grant 12 = .ok (.getfield 84, 3) := by decide +kernel
theorem dX7_grant_15 : decode cX7_grant 15 = .ok (.bipush 16, 2) := by decide +kernel
theorem dX7_grant_17 : decode cX7_grant 17 = .ok (.if_icmp .ne 41, 3) := by decide +kernel
theorem dX7_grant_20 : decode cX7_grant 20 = .ok (.iconst 1, 1) := by decide +kernel
theorem dX7_grant_21 : decode cX7_grant 21 = .ok (.istore_n 2, 1) := by decide +kernel
theorem dX7_grant_22 : decode cX7_grant 22 = .ok (.iload_n 2, 1) := by decide +kernel
theorem dX7_grant_23 : decode cX7_grant 23 = .ok (.bipush 16, 2) := by decide +kernel
theorem dX7_grant_25 : decode cX7_grant 25 = .ok (.if_icmp .ge 23, 3) := by decide +kernel
theorem dX7_grant_28 : decode cX7_grant 28 = .ok (.aload_n 0, 1) := by decide +kernel
theorem dX7_grant_29 : decode cX7_grant 29 = .ok (.getfield 23, 3) := by decide +kernel
theorem dX7_grant_32 : decode cX7_grant 32 = .ok (.iload_n 2, 1) := by decide +kernel
theorem dX7_grant_33 : decode cX7_grant 33 = .ok (.iconst 1, 1) := by decide +kernel
theorem dX7_grant_34 : decode cX7_grant 34 = .ok (.isub, 1) := by decide +kernel
theorem dX7_grant_35 : decode cX7_grant 35 = .ok (.aload_n 0, 1) := by decide +kernel
theorem dX7_grant_36 : decode cX7_grant 36 = .ok (.getfield 23, 3) := by decide +kernel
theorem dX7_grant_39 : decode cX7_grant 39 = .ok (.iload_n 2, 1) := by decide +kernel
theorem dX7_grant_40 : decode cX7_grant 40 = .ok (.iaload, 1) := by decide +kernel
theorem dX7_grant_41 : decode cX7_grant 41 = .ok (.iastore, 1) := by decide +kernel
theorem dX7_grant_42 : decode cX7_grant 42 = .ok (.iinc 2 1, 3) := by decide +kernel
theorem dX7_grant_45 : decode cX7_grant 45 = .ok (.goto (-23), 3) := by decide +kernel
theorem dX7_grant_48 : decode cX7_grant 48 = .ok (.aload_n 0, 1) := by decide +kernel
theorem dX7_grant_49 : decode cX7_grant 49 = .ok (.dup, 1) := by decide +kernel
theorem dX7_grant_50 : decode cX7_grant 50 = .ok (.getfield 84, 3) := by decide +kernel
theorem dX7_grant_53 : decode cX7_grant 53 = .ok (.iconst 1, 1) := by decide +kernel
theorem dX7_grant_54 : decode cX7_grant 54 = .ok (.isub, 1) := by decide +kernel
theorem dX7_grant_55 : decode cX7_grant 55 = .ok (.putfield 84, 3) := by decide +kernel
theorem dX7_grant_58 : decode cX7_grant 58 = .ok (.aload_n 0, 1) := by decide +kernel
theorem dX7_grant_59 : decode cX7_grant 59 = .ok (.getfield 23, 3) := by decide +kernel
theorem dX7_grant_62 : decode cX7_grant 62 = .ok (.aload_n 0, 1) := by decide +kernel
theorem dX7_grant_63 : decode cX7_grant 63 = .ok (.getfield 84, 3) := by decide +kernel
theorem dX7_grant_66 : decode cX7_grant 66 = .ok (.aload_n 0, 1) := by decide +kernel
theorem dX7_grant_67 : decode cX7_grant 67 = .ok (.getfield 73, 3) := by decide +kernel
theorem dX7_grant_70 : decode cX7_grant 70 = .ok (.iastore, 1) := by decide +kernel
theorem dX7_grant_71 : decode cX7_grant 71 = .ok (.aload_n 0, 1) := by decide +kernel
theorem dX7_grant_72 : decode cX7_grant 72 = .ok (.dup, 1) := by decide +kernel
theorem dX7_grant_73 : decode cX7_grant 73 = .ok (.getfield 84, 3) := by decide +kernel
theorem dX7_grant_76 : decode cX7_grant 76 = .ok (.iconst 1, 1) := by decide +kernel
theorem dX7_grant_77 : decode cX7_grant 77 = .ok (.iadd, 1) := by decide +kernel
theorem dX7_grant_78 : decode cX7_grant 78 = .ok (.putfield 84, 3) := by decide +kernel
theorem dX7_grant_81 : decode cX7_grant 81 = .ok (.aload_n 0, 1) := by decide +kernel
theorem dX7_grant_82 : decode cX7_grant 82 = .ok (.iload_n 1, 1) := by decide +kernel
theorem dX7_grant_83 : decode cX7_grant 83 = .ok (.putfield 73, 3) := by decide +kernel
theorem dX7_grant_86 : decode cX7_grant 86 = .ok (.aload_n 0, 1) := by decide +kernel
theorem dX7_grant_87 : decode cX7_grant 87 = .ok (.iconst 0, 1) := by decide +kernel
theorem dX7_grant_88 : decode cX7_grant 88 = .ok (.putfield 121, 3) := by decide +kernel
theorem dX7_grant_91 : decode cX7_grant 91 = .ok (.iload_n 1, 1) := by decide +kernel
theorem dX7_grant_92 : decode cX7_grant 92 = .ok (.ireturn, 1) := by decide +kernel
theorem dX7_undo_0 : decode cX7_undo 0 = .ok (.aload_n 0, 1) := by decide +kernel
theorem dX7_undo_1 : decode cX7_undo 1 = .ok (.getfield 84, 3) := by decide +kernel
theorem dX7_undo_4 : decode cX7_undo 4 = .ok (.ifCond .ne 6, 3) := by decide +kernel
theorem dX7_undo_7 : decode cX7_undo 7 = .ok (.bipush (-3), 2) := by decide +kernel
theorem dX7_undo_9 : decode cX7_undo 9 = .ok (.ireturn, 1) := by decide +kernel
theorem dX7_undo_10 : decode cX7_undo 10 = .ok (.aload_n 0, 1) := by decide +kernel
theorem dX7_undo_11 : decode cX7_undo 11 = .ok (.dup, 1) := by decide +kernel
theorem dX7_undo_12 : decode cX7_undo 12 = .ok (.getfield 84, 3) := by decide +kernel
theorem dX7_undo_15 : decode cX7_undo 15 = .ok (.iconst 1, 1) := by decide +kernel
theorem dX7_undo_16 : decode cX7_undo 16 = .ok (.isub, 1) := by decide +kernel
theorem dX7_undo_17 : decode cX7_undo 17 = .ok (.putfield 84, 3) := by decide +kernel
theorem dX7_undo_20 : decode cX7_undo 20 = .ok (.aload_n 0, 1) := by decide +kernel
theorem dX7_undo_21 : decode cX7_undo 21 = .ok (.aload_n 0, 1) := by decide +kernel
theorem dX7_undo_22 : decode cX7_undo 22 = .ok (.getfield 23, 3) := by decide +kernel
theorem dX7_undo_25 : decode cX7_undo 25 = .ok (.aload_n 0, 1) := by decide +kernel
theorem dX7_undo_26 : decode cX7_undo 26 = .ok (.getfield 84, 3) := by decide +kernel
theorem dX7_undo_29 : decode cX7_undo 29 = .ok (.iaload, 1) := by decide +kernel
theorem dX7_undo_30 : decode cX7_undo 30 = .ok (.putfield 73, 3) := by decide +kernel
theorem dX7_undo_33 : decode cX7_undo 33 = .ok (.aload_n 0, 1) := by decide +kernel
theorem dX7_undo_34 : decode cX7_undo 34 = .ok (.getfield 73, 3) := by decide +kernel
theorem dX7_undo_37 : decode cX7_undo 37 = .ok (.ireturn, 1) := by decide +kernel
theorem dX7_picked_0 : decode cX7_picked 0 = .ok (.aload_n 0, 1) := by decide +kernel
theorem dX7_picked_1 : decode cX7_picked 1 = .ok (.iload_n 1, 1) := by decide +kernel
theorem dX7_picked_2 : decode cX7_picked 2 = .ok (.invokevirtual 110, 3) := by decide +kernel
theorem dX7_picked_5 : decode cX7_picked 5 = .ok (.ifCond .ne 6, 3) := by decide +kernel
theorem dX7_picked_8 : decode cX7_picked 8 = .ok (.bipush (-2), 2) := by decide +kernel
theorem dX7_picked_10 : decode cX7_picked 10 = .ok (.ireturn, 1) := by decide +kernel
theorem dX7_picked_11 : decode cX7_picked 11 = .ok (.aload_n 0, 1) := by decide +kernel
theorem dX7_picked_12 : decode cX7_picked 12 = .ok (.invokevirtual 130, 3) := by decide +kernel
theorem dX7_picked_15 : decode cX7_picked 15 = .ok (.ifCond .lt 6, 3) := by decide +kernel
theorem dX7_picked_18 : decode cX7_picked 18 = .ok (.bipush (-5), 2) := by decide +kernel
theorem dX7_picked_20 : decode cX7_picked 20 = .ok (.ireturn, 1) := by decide +kernel
theorem dX7_picked_21 : decode cX7_picked 21 = .ok (.aload_n 0, 1) := by decide +kernel
theorem dX7_picked_22 : decode cX7_picked 22 = .ok (.invokevirtual 154, 3) := by decide +kernel
theorem dX7_picked_25 : decode cX7_picked 25 = .ok (.aload_n 0, 1) := by decide +kernel
theorem dX7_picked_26 : decode cX7_picked 26 = .ok (.aload_n 0, 1) := by decide +kernel
theorem dX7_picked_27 : decode cX7_picked 27 = .ok (.getfield 73, 3) := by decide +kernel
theorem dX7_picked_30 : decode cX7_picked 30 = .ok (.invokevirtual 157, 3) := by decide +kernel
theorem dX7_picked_33 : decode cX7_picked 33 = .ok (.lstore_n 2, 1) := by decide +kernel
theorem dX7_picked_34 : decode cX7_picked 34 = .ok (.lload_n 2, 1) := by decide +kernel
theorem dX7_picked_35 : decode cX7_picked 35 = .ok (.iload_n 1, 1) := by decide +kernel
theorem dX7_picked_36 : decode cX7_picked 36 = .ok (.invokestatic 143, 3) := by decide +kernel
theorem dX7_picked_39 : decode cX7_picked 39 = .ok (.ifCond .ne 6, 3) := by decide +kernel
theorem dX7_picked_42 : decode cX7_picked 42 = .ok (.bipush (-5), 2) := by decide +kernel
theorem dX7_picked_44 : decode cX7_picked 44 = .ok (.ireturn, 1) := by decide +kernel
theorem dX7_picked_45 : decode cX7_picked 45 = .ok (.aload_n 0, 1) := by decide +kernel
theorem dX7_picked_46 : decode cX7_picked 46 = .ok (.getfield 87, 3) := by decide +kernel
theorem dX7_picked_49 : decode cX7_picked 49 = .ok (.bipush 6, 2) := by decide +kernel
theorem dX7_picked_51 : decode cX7_picked 51 = .ok (.if_icmp .ne 6, 3) := by decide +kernel
theorem dX7_picked_54 : decode cX7_picked 54 = .ok (.bipush (-4), 2) := by decide +kernel
theorem dX7_picked_56 : decode cX7_picked 56 = .ok (.ireturn, 1) := by decide +kernel
theorem dX7_picked_57 : decode cX7_picked 57 = .ok (.aload_n 0, 1) := by decide +kernel
theorem dX7_picked_58 : decode cX7_picked 58 = .ok (.getfield 26, 3) := by decide +kernel
theorem dX7_picked_61 : decode cX7_picked 61 = .ok (.aload_n 0, 1) := by decide +kernel
theorem dX7_picked_62 : decode cX7_picked 62 = .ok (.getfield 87, 3) := by decide +kernel
theorem dX7_picked_65 : decode cX7_picked 65 = .ok (.lload_n 2, 1) := by decide +kernel
theorem dX7_picked_66 : decode cX7_picked 66 = .ok (.lastore, 1) := by decide +kernel
theorem dX7_picked_67 : decode cX7_picked 67 = .ok (.aload_n 0, 1) := by decide +kernel
theorem dX7_picked_68 : decode cX7_picked 68 = .ok (.getfield 30, 3) := by decide +kernel
theorem dX7_picked_71 : decode cX7_picked 71 = .ok (.aload_n 0, 1) := by decide +kernel
theorem dX7_picked_72 : decode cX7_picked 72 = .ok (.getfield 87, 3) := by decide +kernel
theorem dX7_picked_75 : decode cX7_picked 75 = .ok (.iload_n 1, 1) := by decide +kernel
theorem dX7_picked_76 : decode cX7_picked 76 = .ok (.iastore, 1) := by decide +kernel
theorem dX7_picked_77 : decode cX7_picked 77 = .ok (.aload_n 0, 1) := by decide +kernel
theorem dX7_picked_78 : decode cX7_picked 78 = .ok (.dup, 1) := by decide +kernel
theorem dX7_picked_79 : decode cX7_picked 79 = .ok (.getfield 87, 3) := by decide +kernel
theorem dX7_picked_82 : decode cX7_picked 82 = .ok (.iconst 1, 1) := by decide +kernel
theorem dX7_picked_83 : decode cX7_picked 83 = .ok (.iadd, 1) := by decide +kernel
theorem dX7_picked_84 : decode cX7_picked 84 = .ok (.putfield 87, 3) := by decide +kernel
theorem dX7_picked_87 : decode cX7_picked 87 = .ok (.aload_n 0, 1) := by decide +kernel
theorem dX7_picked_88 : decode cX7_picked 88 = .ok (.getfield 87, 3) := by decide +kernel
theorem dX7_picked_91 : decode cX7_picked 91 = .ok (.ireturn, 1) := by decide +kernel
def PadOK (I S : Nat → Nat → Int32) (sg : Nat) : Prop := S 33 18 = nI sg ∧ ∀ k, k < sg → S 42 k = I 41 k
/-- the set that keeps the pad's wish -/
def kpL (I : Nat → Nat → Int32) (J : Nat → Nat → Int64) (t sl sg a : Nat) : Int64 := mk64 (kpM (J 33 8) t sl (I 41) sg a) (2 ^ t)
def mdO (I : Nat → Nat → Int32) (J : Nat → Nat → Int64) (t sl wy wi he sg : Nat) : Option Nat := upto (mkF (lkF I t wy wi he) (kpL I J t sl sg he)) (2 ^ t) none
def ffP (I : Nat → Nat → Int32) (t sg : Nat) : Int32 := ffM t (I 41) sg sg 0 1 false
def mdF (I : Nat → Nat → Int32) (J : Nat → Nat → Int64) (t sl wy wi he sg : Nat) : Int32 := if ffP I t sg = -6 then e3 (mdO I J t sl wy wi he sg) else -5
theorem mdO_lt {I : Nat → Nat → Int32} {J : Nat → Nat → Int64} {t sl wy wi he sg v : Nat} (h : mdO I J t sl wy wi he sg = some v) : v < 2 ^ t := mkF_lt _ _ h
theorem ffP_or (I : Nat → Nat → Int32) (t sg : Nat) : ffP I t sg = -6 ∨ ∃ m, m ≤ sg ∧ ffP I t sg = nI m := ffM_or sg 0 1 false (by omega)
/-- how a wish comes out: refused, or a world -/
theorem mdF_or {I : Nat → Nat → Int32} {J : Nat → Nat → Int64} {t sl wy wi he sg : Nat} : (mdF I J t sl wy wi he sg = -5 ∧ ¬ ffP I t sg = -6) ∨ (mdF I J t sl wy wi he sg = -3 ∧ ffP I t sg = -6 ∧ mdO I J t sl wy wi he sg = none) ∨ ∃ w, w < 2 ^ t ∧ mdF I J t sl wy wi he sg = nI w ∧ ffP I t sg = -6 ∧ mdO I J t sl wy wi he sg = some w := by
  unfold mdF
  by_cases h : ffP I t sg = -6
  · rw [if_pos h]
    cases ho : mdO I J t sl wy wi he sg with
    | none => exact Or.inr (Or.inl ⟨rfl, h, rfl⟩)
    | some w => exact Or.inr (Or.inr ⟨w, mdO_lt ho, rfl, h, rfl⟩)
  · rw [if_neg h]
    exact Or.inl ⟨rfl, h⟩
section MODEL16
variable {xl : Nat} {xs : Nat → Int32} {n : Nat} {h : Nat → PC} {I S : Nat → Nat → Int32} {J T : Nat → Nat → Int64} {X : Nat → Option Nat} {t sl wy wi he sg : Nat}
theorem rnP_mono {F L : Nat} {M : Mt} {vs : List Value} {r : Option Value} {P P' : (Nat → Nat → Int32) → (Nat → Nat → Int64) → Prop} (h : RnP xl xs F L M vs n I S J T X r P) (hp : ∀ S T, P S T → P' S T) : RnP xl xs F L M vs n I S J T X r P' := fun Q hQ => h Q (fun S' T' h1 => hQ S' T' (hp S' T' h1))
theorem s_keepP {a : Nat} (hn : 49 ≤ n) (hm : MI I t sl wy wi he) (hv : VT t (I 41) sg) (hp : PadOK I S sg) (ha : a < 64) : RnP xl xs 3 69 mX7_keeping [.ref 33, .int (nI a)] n I S J T X (some (.long (kpL I J t sl sg a))) (fun S' _ => PadOK I S' sg) := by
  have e := s_X7_keeping (xl := xl) (xs := xs) (n := n) (J := J) (T := T) (X := X) (sz := sg) (a := a) hn hm hp.1 (VT_congr (fun i hi => (hp.2 i hi).symm) hv) ha
  rw [kpM_congr hp.2] at e
  exact rnP_mono e (fun S' T' h1 => ⟨by rw [h1.2.2]; exact hp.1, fun k hk => by rw [h1.2.1]; exact hp.2 k hk⟩)
theorem pad_lpS : PadOK I (lpS S sg (I 41)) sg := ⟨rfl, fun k hk => fillA_at hk⟩
theorem s_X7_made (hn : 49 ≤ n) (hm : MI I t sl wy wi he) (hsg : I 33 16 = nI sg) (h40 : sg ≤ 40) : RnP xl xs 4 95 mX7_made [.ref 33] n I S J T X (some (.int (mdF I J t sl wy wi he sg))) (fun S' _ => ffP I t sg = -6 → PadOK I S' sg) := by
  intro Q hQ
  have hm' := hm
  obtain ⟨ht, ht2, h6, hs, hs6, hwy, h3, hwi, h4, hhe, hhl⟩ := hm'
  have h64 := p2_le h6
  show Ev xl xs 4 95 0 0 mX7_made 0 [some (.ref 33), none] [] n (sysH (ov I S) (ovJ J T) X) Q
  rcases ffP_or I t sg with hf | ⟨m, hm40, hf⟩
  · have hvt := ffM_VT h6 ht2 h40 hf
    have hff : ffM t (I 41) sg sg 0 1 false = -6 := hf
    have hpad := pad_lpS (I := I) (S := S) (sg := sg)
    have hQ2 : ∀ S' T', PadOK I S' sg → Q (some (.int (e3 (mdO I J t sl wy wi he sg)))) n (sysH (ov I S') (ovJ J T') X) := fun S' T' hp => by
      have := hQ S' T' (fun _ => hp)
      rw [mdF, if_pos hf] at this
      exact this
    refine ev_aload_n (q := 1) dX7_made_0 rfl rfl ?_
    refine ev_callV0i (q := 4) dX7_made_1 ca_X7_130 (s_X7_faultOf hn hm hsg h40) rfl (lt_n hn (by decide)) rfl rfl (Nat.le_of_ble_eq_true rfl) (Nat.le_of_ble_eq_true rfl) (by decide) (by decide) rfl ?_
    rw [hff]
    refine ev_if_lt (q := 7) 10 dX7_made_4 (by decide) rfl (fun c_4 => ?_) (fun c_4 => ?_)
    · refine ev_aload_n (q := 11) dX7_made_10 rfl rfl ?_
      refine ev_callV0v (q := 14) dX7_made_11 ca_X7_154 (s_X7_layPad hn hm hsg h40) rfl (lt_n hn (by decide)) rfl rfl (Nat.le_of_ble_eq_true rfl) (Nat.le_of_ble_eq_true rfl) (by decide) (by decide) rfl ?_
      refine ev_aload_n (q := 15) dX7_made_14 rfl rfl ?_
      refine ev_aload_n (q := 16) dX7_made_15 rfl rfl ?_
      refine ev_aload_n (q := 17) dX7_made_16 rfl rfl ?_
      refine ev_get (q := 20) dX7_made_17 fr_X7_73 rfl (lt_n hn (by decide)) rfl rfl ?_
      rw [show ov I (lpS S sg (I 41)) 33 7 = nI he from hhe]
      refine ev_callV1lP (q := 23) dX7_made_20 ca_X7_157 (s_keepP hn hm hvt hpad (by omega)) rfl (lt_n hn (by decide)) rfl rfl (Nat.le_of_ble_eq_true rfl) (Nat.le_of_ble_eq_true rfl) (by decide) (by decide) rfl (fun S T hp_20 => ?_)
      refine ev_aload_n (q := 24) dX7_made_23 rfl rfl ?_
      refine ev_get (q := 27) dX7_made_24 fr_X7_73 rfl (lt_n hn (by decide)) rfl rfl ?_
      rw [show ov I S 33 7 = nI he from hhe]
      refine ev_callV2i (q := 30) dX7_made_27 ca_X7_171 (s_X7_madeOf hn hm (by omega)) rfl (lt_n hn (by decide)) rfl rfl (Nat.le_of_ble_eq_true rfl) (Nat.le_of_ble_eq_true rfl) (by decide) (by decide) rfl ?_
      refine ev_ist_1 (q := 31) dX7_made_30 rfl rfl ?_
      refine ev_iload_n (q := 32) dX7_made_31 rfl rfl ?_
      refine ev_if_ge (q := 35) 40 dX7_made_32 (by decide) rfl (fun c_32 => ?_) (fun c_32 => ?_)
      · have c_32 : ∃ w, mdO I J t sl wy wi he sg = some w := by cases hx : mdO I J t sl wy wi he sg with | none => unfold mdO at hx; rw [hx] at c_32; exact absurd c_32 (by decide) | some w => exact ⟨w, rfl⟩
        refine ev_iload_n (q := 41) dX7_made_40 rfl rfl ?_
        first | (obtain ⟨w, hw⟩ := c_32; refine ev_iretE dX7_made_41 rfl rfl (w := e3 (mdO I J t sl wy wi he sg)) ?_ rfl rfl (hQ2 _ _ hp_20); rw [hw]; unfold mdO at hw; rw [hw]; rfl) | (refine ev_iretE dX7_made_41 rfl rfl (w := e3 (mdO I J t sl wy wi he sg)) ?_ rfl rfl (hQ2 _ _ hp_20); rw [c_32]; rfl)
      · have c_32 : mdO I J t sl wy wi he sg = none := by cases hx : mdO I J t sl wy wi he sg with | none => rfl | some w => have h9 := mdO_lt hx; unfold mdO at hx; rw [hx] at c_32; exact absurd (nI_pos' (by omega)) c_32
        refine ev_bipush (q := 37) (-3) dX7_made_35 (by decide) rfl ?_
        refine ev_goto 41 dX7_made_37 (by decide) ?_
        first | (obtain ⟨w, hw⟩ := c_32; refine ev_iretE dX7_made_41 rfl rfl (w := e3 (mdO I J t sl wy wi he sg)) ?_ rfl rfl (hQ2 _ _ hp_20); rw [hw]; unfold mdO at hw; rw [hw]; rfl) | (refine ev_iretE dX7_made_41 rfl rfl (w := e3 (mdO I J t sl wy wi he sg)) ?_ rfl rfl (hQ2 _ _ hp_20); rw [c_32]; rfl)
    · exact absurd neg6 c_4
  · have hff : ffM t (I 41) sg sg 0 1 false = nI m := hf
    have hn6 : ¬ ffP I t sg = -6 := by rw [hf]; exact nI_n6 (by omega)
    refine ev_aload_n (q := 1) dX7_made_0 rfl rfl ?_
    refine ev_callV0i (q := 4) dX7_made_1 ca_X7_130 (s_X7_faultOf hn hm hsg h40) rfl (lt_n hn (by decide)) rfl rfl (Nat.le_of_ble_eq_true rfl) (Nat.le_of_ble_eq_true rfl) (by decide) (by decide) rfl ?_
    rw [hff]
    refine ev_if_lt (q := 7) 10 dX7_made_4 (by decide) rfl (fun c_4 => ?_) (fun c_4 => ?_)
    · exact absurd c_4 (nI_pos (by omega))
    · refine ev_bipush (q := 9) (-5) dX7_made_7 (by decide) rfl ?_
      exact ev_iretE dX7_made_9 rfl rfl (by rw [mdF, if_neg hn6]) rfl rfl (hQ _ _ (fun h => absurd h hn6))
theorem s_X7_makes (hn : 49 ≤ n) (hm : MI I t sl wy wi he) (hsg : I 33 16 = nI sg) (h40 : sg ≤ 40) : RnS xl xs 5 116 0 0 mX7_makes [.ref 33] n I J X (some (.int (mdF I J t sl wy wi he sg))) n I J X := by
  intro S T Q hQ
  show Ev xl xs 5 116 0 0 mX7_makes 0 [some (.ref 33)] [] n (sysH (ov I S) (ovJ J T) X) Q
  refine ev_aload_n (q := 1) dX7_makes_0 rfl rfl ?_
  refine ev_callV0iP (q := 4) dX7_makes_1 ca_X7_175 (s_X7_made hn hm hsg h40) rfl (lt_n hn (by decide)) rfl rfl (Nat.le_of_ble_eq_true rfl) (Nat.le_of_ble_eq_true rfl) (by decide) (by decide) rfl (fun S T hp_1 => ?_)
  exact ev_iretE dX7_makes_4 rfl rfl rfl rfl rfl (hQ _ _)
def haF (I : Nat → Nat → Int32) (t he w : Nat) : Int32 := upto (fun c s => s ||| if wtF I t c w < wtF I t c he then nI (2 ^ c) else 0) 4 0
theorem s_X7_harmed (hn : 49 ≤ n) (hm : MI I t sl wy wi he) (hsg : I 33 16 = nI sg) (h40 : sg ≤ 40) : RnS xl xs 5 116 0 0 mX7_harmed [.ref 33] n I J X (some (.int (if ffP I t sg = -6 then (match mdO I J t sl wy wi he sg with | none => -3 | some w => haF I t he w) else -5))) n I J X := by
  intro S T Q hQ
  have hm' := hm
  obtain ⟨ht, ht2, h6, hs, hs6, hwy, h3, hwi, h4, hhe, hhl⟩ := hm'
  have h64 := p2_le h6
  show Ev xl xs 5 116 0 0 mX7_harmed 0 [some (.ref 33), none, none, none] [] n (sysH (ov I S) (ovJ J T) X) Q
  rcases mdF_or (I := I) (J := J) (t := t) (sl := sl) (wy := wy) (wi := wi) (he := he) (sg := sg) with ⟨hd, hf⟩ | ⟨hd, hf, ho⟩ | ⟨w, hw, hd, hf, ho⟩
  · refine ev_aload_n (q := 1) dX7_harmed_0 rfl rfl ?_
    refine ev_callV0iP (q := 4) dX7_harmed_1 ca_X7_175 (s_X7_made hn hm hsg h40) rfl (lt_n hn (by decide)) rfl rfl (Nat.le_of_ble_eq_true rfl) (Nat.le_of_ble_eq_true rfl) (by decide) (by decide) rfl (fun S T hp_1 => ?_)
    rw [hd]
    refine ev_ist_1 (q := 5) dX7_harmed_4 rfl rfl ?_
    refine ev_iload_n (q := 6) dX7_harmed_5 rfl rfl ?_
    refine ev_if_ge (q := 9) 11 dX7_harmed_6 (by decide) rfl (fun c_6 => ?_) (fun c_6 => ?_)
    · exact absurd c_6 (by decide)
    · refine ev_iload_n (q := 10) dX7_harmed_9 rfl rfl ?_
      exact ev_iretE dX7_harmed_10 rfl rfl (by rw [if_neg hf]) rfl rfl (hQ _ _)
  · refine ev_aload_n (q := 1) dX7_harmed_0 rfl rfl ?_
    refine ev_callV0iP (q := 4) dX7_harmed_1 ca_X7_175 (s_X7_made hn hm hsg h40) rfl (lt_n hn (by decide)) rfl rfl (Nat.le_of_ble_eq_true rfl) (Nat.le_of_ble_eq_true rfl) (by decide) (by decide) rfl (fun S T hp_1 => ?_)
    rw [hd]
    refine ev_ist_1 (q := 5) dX7_harmed_4 rfl rfl ?_
    refine ev_iload_n (q := 6) dX7_harmed_5 rfl rfl ?_
    refine ev_if_ge (q := 9) 11 dX7_harmed_6 (by decide) rfl (fun c_6 => ?_) (fun c_6 => ?_)
    · exact absurd c_6 (by decide)
    · refine ev_iload_n (q := 10) dX7_harmed_9 rfl rfl ?_
      exact ev_iretE dX7_harmed_10 rfl rfl (by rw [if_pos hf, ho]) rfl rfl (hQ _ _)
  · have lp : ∀ j k, k + j = 4 → ∀ S T, Ev xl xs 5 116 0 0 mX7_harmed 15 [some (.ref 33), some (.int (nI w)), some (.int (upto (fun c s => s ||| if wtF I t c w < wtF I t c he then nI (2 ^ c) else 0) k 0)), some (.int (nI k))] [] n (sysH (ov I S) (ovJ J T) X) Q := by
      intro j
      induction j using Nat.strongRecOn with
      | _ j ih =>
        intro k hk S T
        have e := ih (j - 1)
        refine ev_iload_n (q := 16) dX7_harmed_15 rfl rfl ?_
        refine ev_iconst (q := 17) (4) dX7_harmed_16 (by decide) rfl ?_
        refine ev_icmp_ge (q := 20) 54 dX7_harmed_17 (by decide) rfl (fun c_17 => ?_) (fun c_17 => ?_)
        · have c_17 : 4 ≤ k := (nI_leI (a := 4) (by omega) (by omega)).mp c_17
          refine ev_iload_n (q := 55) dX7_harmed_54 rfl rfl ?_
          exact ev_iretE dX7_harmed_55 rfl rfl (by rw [if_pos hf, ho, show k = 4 by omega]; rfl) rfl rfl (hQ _ _)
        · have c_17 : ¬ 4 ≤ k := fun h => c_17 ((nI_leI (a := 4) (by omega) (by omega)).mpr h)
          have e := e (by omega) (k + 1) (by omega)
          refine ev_iload_n (q := 21) dX7_harmed_20 rfl rfl ?_
          refine ev_aload_n (q := 22) dX7_harmed_21 rfl rfl ?_
          refine ev_iload_n (q := 23) dX7_harmed_22 rfl rfl ?_
          refine ev_iload_n (q := 24) dX7_harmed_23 rfl rfl ?_
          refine ev_callV2i (q := 27) dX7_harmed_24 ca_X7_117 (s_X7_worthTo hn hm (by omega) (by omega)) rfl (lt_n hn (by decide)) rfl rfl (Nat.le_of_ble_eq_true rfl) (Nat.le_of_ble_eq_true rfl) (by decide) (by decide) rfl ?_
          refine ev_aload_n (q := 28) dX7_harmed_27 rfl rfl ?_
          refine ev_iload_n (q := 29) dX7_harmed_28 rfl rfl ?_
          refine ev_aload_n (q := 30) dX7_harmed_29 rfl rfl ?_
          refine ev_get (q := 33) dX7_harmed_30 fr_X7_73 rfl (lt_n hn (by decide)) rfl rfl ?_
          rw [show ov I S 33 7 = nI he from hhe]
          refine ev_callV2i (q := 36) dX7_harmed_33 ca_X7_117 (s_X7_worthTo hn hm (by omega) (by omega)) rfl (lt_n hn (by decide)) rfl rfl (Nat.le_of_ble_eq_true rfl) (Nat.le_of_ble_eq_true rfl) (by decide) (by decide) rfl ?_
          refine ev_icmp_ge (q := 39) 45 dX7_harmed_36 (by decide) rfl (fun c_36 => ?_) (fun c_36 => ?_)
          · have c_36 : ¬ wtF I t k w < wtF I t k he := fun h => absurd c_36 (by simp only [i_le, i_lt] at *; omega)
            refine ev_iconst (q := 46) (0) dX7_harmed_45 (by decide) rfl ?_
            refine ev_ior (q := 47) dX7_harmed_46 rfl ?_
            refine ev_ist_2 (q := 48) dX7_harmed_47 rfl rfl ?_
            refine ev_inc_3 (q := 51) (nI (k + 1)) dX7_harmed_48 (nI_1 k) rfl rfl ?_
            refine ev_goto 15 dX7_harmed_51 (by decide) ?_
            simp only [upto, c_36, if_true, if_false] at e
            first | exact e _ _ | (rw [nI_sh1 (by omega)]; exact e _ _)
          · have c_36 : wtF I t k w < wtF I t k he := by simp only [i_le, i_lt] at *; omega
            refine ev_iconst (q := 40) (1) dX7_harmed_39 (by decide) rfl ?_
            refine ev_iload_n (q := 41) dX7_harmed_40 rfl rfl ?_
            refine ev_ishl (q := 42) dX7_harmed_41 rfl ?_
            refine ev_goto 46 dX7_harmed_42 (by decide) ?_
            refine ev_ior (q := 47) dX7_harmed_46 rfl ?_
            refine ev_ist_2 (q := 48) dX7_harmed_47 rfl rfl ?_
            refine ev_inc_3 (q := 51) (nI (k + 1)) dX7_harmed_48 (nI_1 k) rfl rfl ?_
            refine ev_goto 15 dX7_harmed_51 (by decide) ?_
            simp only [upto, c_36, if_true, if_false] at e
            first | exact e _ _ | (rw [nI_sh1 (by omega)]; exact e _ _)
    refine ev_aload_n (q := 1) dX7_harmed_0 rfl rfl ?_
    refine ev_callV0iP (q := 4) dX7_harmed_1 ca_X7_175 (s_X7_made hn hm hsg h40) rfl (lt_n hn (by decide)) rfl rfl (Nat.le_of_ble_eq_true rfl) (Nat.le_of_ble_eq_true rfl) (by decide) (by decide) rfl (fun S T hp_1 => ?_)
    rw [hd]
    refine ev_ist_1 (q := 5) dX7_harmed_4 rfl rfl ?_
    refine ev_iload_n (q := 6) dX7_harmed_5 rfl rfl ?_
    refine ev_if_ge (q := 9) 11 dX7_harmed_6 (by decide) rfl (fun c_6 => ?_) (fun c_6 => ?_)
    · refine ev_iconst (q := 12) (0) dX7_harmed_11 (by decide) rfl ?_
      refine ev_ist_2 (q := 13) dX7_harmed_12 rfl rfl ?_
      refine ev_iconst (q := 14) (0) dX7_harmed_13 (by decide) rfl ?_
      refine ev_ist_3 (q := 15) dX7_harmed_14 rfl rfl ?_
      exact lp 4 0 (by omega) _ _
    · exact absurd (nI_pos' (by omega)) c_6
theorem s_X7_votes (hn : 49 ≤ n) (hm : MI I t sl wy wi he) (hsg : I 33 16 = nI sg) (h40 : sg ≤ 40) : RnS xl xs 5 116 0 0 mX7_votes [.ref 33] n I J X (some (.int (if ffP I t sg = -6 then (match mdO I J t sl wy wi he sg with | none => -3 | some w => voF I t he w) else -5))) n I J X := by
  intro S T Q hQ
  have h64 := p2_le hm.2.2.1
  show Ev xl xs 5 116 0 0 mX7_votes 0 [some (.ref 33), none] [] n (sysH (ov I S) (ovJ J T) X) Q
  rcases mdF_or (I := I) (J := J) (t := t) (sl := sl) (wy := wy) (wi := wi) (he := he) (sg := sg) with ⟨hd, hf⟩ | ⟨hd, hf, ho⟩ | ⟨w, hw, hd, hf, ho⟩
  · refine ev_aload_n (q := 1) dX7_votes_0 rfl rfl ?_
    refine ev_callV0iP (q := 4) dX7_votes_1 ca_X7_175 (s_X7_made hn hm hsg h40) rfl (lt_n hn (by decide)) rfl rfl (Nat.le_of_ble_eq_true rfl) (Nat.le_of_ble_eq_true rfl) (by decide) (by decide) rfl (fun S T hp_1 => ?_)
    rw [hd]
    refine ev_ist_1 (q := 5) dX7_votes_4 rfl rfl ?_
    refine ev_iload_n (q := 6) dX7_votes_5 rfl rfl ?_
    refine ev_if_ge (q := 9) 13 dX7_votes_6 (by decide) rfl (fun c_6 => ?_) (fun c_6 => ?_)
    · exact absurd c_6 (by decide)
    · refine ev_iload_n (q := 10) dX7_votes_9 rfl rfl ?_
      refine ev_goto 18 dX7_votes_10 (by decide) ?_
      exact ev_iretE dX7_votes_18 rfl rfl (by rw [if_neg hf]) rfl rfl (hQ _ _)
  · refine ev_aload_n (q := 1) dX7_votes_0 rfl rfl ?_
    refine ev_callV0iP (q := 4) dX7_votes_1 ca_X7_175 (s_X7_made hn hm hsg h40) rfl (lt_n hn (by decide)) rfl rfl (Nat.le_of_ble_eq_true rfl) (Nat.le_of_ble_eq_true rfl) (by decide) (by decide) rfl (fun S T hp_1 => ?_)
    rw [hd]
    refine ev_ist_1 (q := 5) dX7_votes_4 rfl rfl ?_
    refine ev_iload_n (q := 6) dX7_votes_5 rfl rfl ?_
    refine ev_if_ge (q := 9) 13 dX7_votes_6 (by decide) rfl (fun c_6 => ?_) (fun c_6 => ?_)
    · exact absurd c_6 (by decide)
    · refine ev_iload_n (q := 10) dX7_votes_9 rfl rfl ?_
      refine ev_goto 18 dX7_votes_10 (by decide) ?_
      exact ev_iretE dX7_votes_18 rfl rfl (by rw [if_pos hf, ho]) rfl rfl (hQ _ _)
  · refine ev_aload_n (q := 1) dX7_votes_0 rfl rfl ?_
    refine ev_callV0iP (q := 4) dX7_votes_1 ca_X7_175 (s_X7_made hn hm hsg h40) rfl (lt_n hn (by decide)) rfl rfl (Nat.le_of_ble_eq_true rfl) (Nat.le_of_ble_eq_true rfl) (by decide) (by decide) rfl (fun S T hp_1 => ?_)
    rw [hd]
    refine ev_ist_1 (q := 5) dX7_votes_4 rfl rfl ?_
    refine ev_iload_n (q := 6) dX7_votes_5 rfl rfl ?_
    refine ev_if_ge (q := 9) 13 dX7_votes_6 (by decide) rfl (fun c_6 => ?_) (fun c_6 => ?_)
    · refine ev_aload_n (q := 14) dX7_votes_13 rfl rfl ?_
      refine ev_iload_n (q := 15) dX7_votes_14 rfl rfl ?_
      refine ev_callV1i (q := 18) dX7_votes_15 ca_X7_220 (s_X7_votesFor hn hm (by omega)) rfl (lt_n hn (by decide)) rfl rfl (Nat.le_of_ble_eq_true rfl) (Nat.le_of_ble_eq_true rfl) (by decide) (by decide) rfl ?_
      exact ev_iretE dX7_votes_18 rfl rfl (by rw [if_pos hf, ho]) rfl rfl (hQ _ _)
    · exact absurd (nI_pos' (by omega)) c_6
def ogF (I : Nat → Nat → Int32) (t he w c : Nat) : Int32 := if 0 < I 36 c then wtF I t c w - wtF I t c he else 0
def gaF (I : Nat → Nat → Int32) (t he w : Nat) : Nat → Int32 := fun k => upto (fun c s => s + if 0 < ogF I t he w c then ogF I t he w c else 0) k 0
def loF (I : Nat → Nat → Int32) (t he w : Nat) : Nat → Int32 := fun k => upto (fun c s => s + if ogF I t he w c < 0 then -ogF I t he w c else 0) k 0
theorem s_X7_paid (hn : 49 ≤ n) (hm : MI I t sl wy wi he) (hsg : I 33 16 = nI sg) (h40 : sg ≤ 40) : RnS xl xs 5 116 0 0 mX7_paid [.ref 33] n I J X (some (.int (if ffP I t sg = -6 then (match mdO I J t sl wy wi he sg with | none => -3 | some w => if loF I t he w 4 ≤ gaF I t he w 4 then loF I t he w 4 else -6) else -5))) n I J X := by
  intro S T Q hQ
  have hm' := hm
  obtain ⟨ht, ht2, h6, hs, hs6, hwy, h3, hwi, h4, hhe, hhl⟩ := hm'
  have h64 := p2_le h6
  show Ev xl xs 5 116 0 0 mX7_paid 0 [some (.ref 33), none, none, none, none, none] [] n (sysH (ov I S) (ovJ J T) X) Q
  rcases mdF_or (I := I) (J := J) (t := t) (sl := sl) (wy := wy) (wi := wi) (he := he) (sg := sg) with ⟨hd, hf⟩ | ⟨hd, hf, ho⟩ | ⟨w, hw, hd, hf, ho⟩
  · refine ev_aload_n (q := 1) dX7_paid_0 rfl rfl ?_
    refine ev_callV0iP (q := 4) dX7_paid_1 ca_X7_175 (s_X7_made hn hm hsg h40) rfl (lt_n hn (by decide)) rfl rfl (Nat.le_of_ble_eq_true rfl) (Nat.le_of_ble_eq_true rfl) (by decide) (by decide) rfl (fun S T hp_1 => ?_)
    rw [hd]
    refine ev_ist_1 (q := 5) dX7_paid_4 rfl rfl ?_
    refine ev_iload_n (q := 6) dX7_paid_5 rfl rfl ?_
    refine ev_if_ge (q := 9) 11 dX7_paid_6 (by decide) rfl (fun c_6 => ?_) (fun c_6 => ?_)
    · exact absurd c_6 (by decide)
    · refine ev_iload_n (q := 10) dX7_paid_9 rfl rfl ?_
      exact ev_iretE dX7_paid_10 rfl rfl (by rw [if_neg hf]) rfl rfl (hQ _ _)
  · refine ev_aload_n (q := 1) dX7_paid_0 rfl rfl ?_
    refine ev_callV0iP (q := 4) dX7_paid_1 ca_X7_175 (s_X7_made hn hm hsg h40) rfl (lt_n hn (by decide)) rfl rfl (Nat.le_of_ble_eq_true rfl) (Nat.le_of_ble_eq_true rfl) (by decide) (by decide) rfl (fun S T hp_1 => ?_)
    rw [hd]
    refine ev_ist_1 (q := 5) dX7_paid_4 rfl rfl ?_
    refine ev_iload_n (q := 6) dX7_paid_5 rfl rfl ?_
    refine ev_if_ge (q := 9) 11 dX7_paid_6 (by decide) rfl (fun c_6 => ?_) (fun c_6 => ?_)
    · exact absurd c_6 (by decide)
    · refine ev_iload_n (q := 10) dX7_paid_9 rfl rfl ?_
      exact ev_iretE dX7_paid_10 rfl rfl (by rw [if_pos hf, ho]) rfl rfl (hQ _ _)
  · have lp : ∀ j k, k + j = 4 → ∀ S T a5, Ev xl xs 5 116 0 0 mX7_paid 18 [some (.ref 33), some (.int (nI w)), some (.int (gaF I t he w k)), some (.int (loF I t he w k)), some (.int (nI k)), a5] [] n (sysH (ov I S) (ovJ J T) X) Q := by
      intro j
      induction j using Nat.strongRecOn with
      | _ j ih =>
        intro k hk S T a5
        have J56 : ¬ 4 ≤ k → ∀ S T v, v = ogF I t he w k → Ev xl xs 5 116 0 0 mX7_paid 56 [some (.ref 33), some (.int (nI w)), some (.int (gaF I t he w k)), some (.int (loF I t he w k)), some (.int (nI k)), a5] [.int v] n (sysH (ov I S) (ovJ J T) X) Q := by
          intro hk4 S T v hv
          subst hv
          have e := ih (j - 1) (by omega) (k + 1) (by omega)
          simp only [gaF, loF, upto] at e
          refine ev_ist_5 (q := 58) dX7_paid_56 rfl rfl ?_
          refine ev_iload_n (q := 59) dX7_paid_58 rfl rfl ?_
          refine ev_iload (q := 61) dX7_paid_59 rfl rfl ?_
          refine ev_if_le (q := 64) 69 dX7_paid_61 (by decide) rfl (fun c_61 => ?_) (fun c_61 => ?_)
          · have c_61 : ¬ 0 < ogF I t he w k := fun h => absurd c_61 (by simp only [i_le, i_lt] at *; omega)
            refine ev_iconst (q := 70) (0) dX7_paid_69 (by decide) rfl ?_
            refine ev_iadd (q := 71) dX7_paid_70 rfl ?_
            refine ev_ist_2 (q := 72) dX7_paid_71 rfl rfl ?_
            refine ev_iload_n (q := 73) dX7_paid_72 rfl rfl ?_
            refine ev_iload (q := 75) dX7_paid_73 rfl rfl ?_
            refine ev_if_ge (q := 78) 84 dX7_paid_75 (by decide) rfl (fun c_75 => ?_) (fun c_75 => ?_)
            · have c_75 : ¬ ogF I t he w k < 0 := fun h => absurd c_75 (by simp only [i_le, i_lt] at *; omega)
              refine ev_iconst (q := 85) (0) dX7_paid_84 (by decide) rfl ?_
              refine ev_iadd (q := 86) dX7_paid_85 rfl ?_
              refine ev_ist_3 (q := 87) dX7_paid_86 rfl rfl ?_
              refine ev_inc_4 (q := 90) (nI (k + 1)) dX7_paid_87 (nI_1 k) rfl rfl ?_
              refine ev_goto 18 dX7_paid_90 (by decide) ?_
              simp only [c_61, c_75, if_true, if_false] at e
              exact e _ _ _
            · have c_75 : ogF I t he w k < 0 := by simp only [i_le, i_lt] at *; omega
              refine ev_iload (q := 80) dX7_paid_78 rfl rfl ?_
              refine ev_ineg (q := 81) dX7_paid_80 rfl ?_
              refine ev_goto 85 dX7_paid_81 (by decide) ?_
              refine ev_iadd (q := 86) dX7_paid_85 rfl ?_
              refine ev_ist_3 (q := 87) dX7_paid_86 rfl rfl ?_
              refine ev_inc_4 (q := 90) (nI (k + 1)) dX7_paid_87 (nI_1 k) rfl rfl ?_
              refine ev_goto 18 dX7_paid_90 (by decide) ?_
              simp only [c_61, c_75, if_true, if_false] at e
              exact e _ _ _
          · have c_61 : 0 < ogF I t he w k := by simp only [i_le, i_lt] at *; omega
            refine ev_iload (q := 66) dX7_paid_64 rfl rfl ?_
            refine ev_goto 70 dX7_paid_66 (by decide) ?_
            refine ev_iadd (q := 71) dX7_paid_70 rfl ?_
            refine ev_ist_2 (q := 72) dX7_paid_71 rfl rfl ?_
            refine ev_iload_n (q := 73) dX7_paid_72 rfl rfl ?_
            refine ev_iload (q := 75) dX7_paid_73 rfl rfl ?_
            refine ev_if_ge (q := 78) 84 dX7_paid_75 (by decide) rfl (fun c_75 => ?_) (fun c_75 => ?_)
            · have c_75 : ¬ ogF I t he w k < 0 := fun h => absurd c_75 (by simp only [i_le, i_lt] at *; omega)
              refine ev_iconst (q := 85) (0) dX7_paid_84 (by decide) rfl ?_
              refine ev_iadd (q := 86) dX7_paid_85 rfl ?_
              refine ev_ist_3 (q := 87) dX7_paid_86 rfl rfl ?_
              refine ev_inc_4 (q := 90) (nI (k + 1)) dX7_paid_87 (nI_1 k) rfl rfl ?_
              refine ev_goto 18 dX7_paid_90 (by decide) ?_
              simp only [c_61, c_75, if_true, if_false] at e
              exact e _ _ _
            · have c_75 : ogF I t he w k < 0 := by simp only [i_le, i_lt] at *; omega
              refine ev_iload (q := 80) dX7_paid_78 rfl rfl ?_
              refine ev_ineg (q := 81) dX7_paid_80 rfl ?_
              refine ev_goto 85 dX7_paid_81 (by decide) ?_
              refine ev_iadd (q := 86) dX7_paid_85 rfl ?_
              refine ev_ist_3 (q := 87) dX7_paid_86 rfl rfl ?_
              refine ev_inc_4 (q := 90) (nI (k + 1)) dX7_paid_87 (nI_1 k) rfl rfl ?_
              refine ev_goto 18 dX7_paid_90 (by decide) ?_
              simp only [c_61, c_75, if_true, if_false] at e
              exact e _ _ _
        refine ev_iload (q := 20) dX7_paid_18 rfl rfl ?_
        refine ev_iconst (q := 21) (4) dX7_paid_20 (by decide) rfl ?_
        refine ev_icmp_ge (q := 24) 93 dX7_paid_21 (by decide) rfl (fun c_21 => ?_) (fun c_21 => ?_)
        · have c_21 : 4 ≤ k := (nI_leI (a := 4) (by omega) (by omega)).mp c_21
          refine ev_iload_n (q := 94) dX7_paid_93 rfl rfl ?_
          refine ev_iload_n (q := 95) dX7_paid_94 rfl rfl ?_
          refine ev_icmp_gt (q := 98) 102 dX7_paid_95 (by decide) rfl (fun c_95 => ?_) (fun c_95 => ?_)
          · have c_95 : ¬ loF I t he w k ≤ gaF I t he w k := fun h => absurd c_95 (by simp only [i_le, i_lt] at *; omega)
            refine ev_bipush (q := 104) (-6) dX7_paid_102 (by decide) rfl ?_
            have hk4 : k = 4 := by omega
            subst hk4
            exact ev_iretE dX7_paid_104 rfl rfl (by rw [if_pos hf, ho]; simp only [c_95, if_true, if_false]) rfl rfl (hQ _ _)
          · have c_95 : loF I t he w k ≤ gaF I t he w k := by simp only [i_le, i_lt] at *; omega
            refine ev_iload_n (q := 99) dX7_paid_98 rfl rfl ?_
            refine ev_goto 104 dX7_paid_99 (by decide) ?_
            have hk4 : k = 4 := by omega
            subst hk4
            exact ev_iretE dX7_paid_104 rfl rfl (by rw [if_pos hf, ho]; simp only [c_95, if_true, if_false]) rfl rfl (hQ _ _)
        · have c_21 : ¬ 4 ≤ k := fun h => c_21 ((nI_leI (a := 4) (by omega) (by omega)).mpr h)
          refine ev_aload_n (q := 25) dX7_paid_24 rfl rfl ?_
          refine ev_get (q := 28) dX7_paid_25 fr_X7_20 rfl (lt_n hn (by decide)) rfl rfl ?_
          refine ev_iload (q := 30) dX7_paid_28 rfl rfl ?_
          refine ev_iaS (q := 31) _ dX7_paid_30 rfl rfl (by omega) (lt_n hn (by decide)) rfl ?_
          refine ev_if_le (q := 34) 55 dX7_paid_31 (by decide) rfl (fun c_31 => ?_) (fun c_31 => ?_)
          · have c_31 : ¬ 0 < I 36 k := fun h => absurd (show I 36 k ≤ 0 from c_31) (by simp only [i_le, i_lt] at *; omega)
            refine ev_iconst (q := 56) (0) dX7_paid_55 (by decide) rfl ?_
            exact J56 c_21 _ _ _ (by simp only [ogF, c_31, if_true, if_false])
          · have c_31 : 0 < I 36 k := by have c_31 : ¬ I 36 k ≤ 0 := c_31; simp only [i_le, i_lt] at *; omega
            refine ev_aload_n (q := 35) dX7_paid_34 rfl rfl ?_
            refine ev_iload (q := 37) dX7_paid_35 rfl rfl ?_
            refine ev_iload_n (q := 38) dX7_paid_37 rfl rfl ?_
            refine ev_callV2i (q := 41) dX7_paid_38 ca_X7_117 (s_X7_worthTo hn hm (by omega) (by omega)) rfl (lt_n hn (by decide)) rfl rfl (Nat.le_of_ble_eq_true rfl) (Nat.le_of_ble_eq_true rfl) (by decide) (by decide) rfl ?_
            refine ev_aload_n (q := 42) dX7_paid_41 rfl rfl ?_
            refine ev_iload (q := 44) dX7_paid_42 rfl rfl ?_
            refine ev_aload_n (q := 45) dX7_paid_44 rfl rfl ?_
            refine ev_get (q := 48) dX7_paid_45 fr_X7_73 rfl (lt_n hn (by decide)) rfl rfl ?_
            rw [show ov I S 33 7 = nI he from hhe]
            refine ev_callV2i (q := 51) dX7_paid_48 ca_X7_117 (s_X7_worthTo hn hm (by omega) (by omega)) rfl (lt_n hn (by decide)) rfl rfl (Nat.le_of_ble_eq_true rfl) (Nat.le_of_ble_eq_true rfl) (by decide) (by decide) rfl ?_
            refine ev_isub (q := 52) dX7_paid_51 rfl ?_
            refine ev_goto 56 dX7_paid_52 (by decide) ?_
            exact J56 c_21 _ _ _ (by simp only [ogF, c_31, if_true, if_false])
    refine ev_aload_n (q := 1) dX7_paid_0 rfl rfl ?_
    refine ev_callV0iP (q := 4) dX7_paid_1 ca_X7_175 (s_X7_made hn hm hsg h40) rfl (lt_n hn (by decide)) rfl rfl (Nat.le_of_ble_eq_true rfl) (Nat.le_of_ble_eq_true rfl) (by decide) (by decide) rfl (fun S T hp_1 => ?_)
    rw [hd]
    refine ev_ist_1 (q := 5) dX7_paid_4 rfl rfl ?_
    refine ev_iload_n (q := 6) dX7_paid_5 rfl rfl ?_
    refine ev_if_ge (q := 9) 11 dX7_paid_6 (by decide) rfl (fun c_6 => ?_) (fun c_6 => ?_)
    · refine ev_iconst (q := 12) (0) dX7_paid_11 (by decide) rfl ?_
      refine ev_ist_2 (q := 13) dX7_paid_12 rfl rfl ?_
      refine ev_iconst (q := 14) (0) dX7_paid_13 (by decide) rfl ?_
      refine ev_ist_3 (q := 15) dX7_paid_14 rfl rfl ?_
      refine ev_iconst (q := 16) (0) dX7_paid_15 (by decide) rfl ?_
      refine ev_ist_4 (q := 18) dX7_paid_16 rfl rfl ?_
      exact lp 4 0 (by omega) _ _ _
    · exact absurd (nI_pos' (by omega)) c_6
end MODEL16
