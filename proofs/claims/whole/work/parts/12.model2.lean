theorem dX7_tasteBy_0 : decode cX7_tasteBy 0 = .ok (.iconst 0, 1) := by decide +kernel
theorem dX7_tasteBy_1 : decode cX7_tasteBy 1 = .ok (.istore_n 3, 1) := by decide +kernel
theorem dX7_tasteBy_2 : decode cX7_tasteBy 2 = .ok (.iconst 0, 1) := by decide +kernel
theorem dX7_tasteBy_3 : decode cX7_tasteBy 3 = .ok (.istore 4, 2) := by decide +kernel
theorem dX7_tasteBy_5 : decode cX7_tasteBy 5 = .ok (.iload 4, 2) := by decide +kernel
theorem dX7_tasteBy_7 : decode cX7_tasteBy 7 = .ok (.aload_n 0, 1) := by decide +kernel
theorem dX7_tasteBy_8 : decode cX7_tasteBy 8 = .ok (.getfield 7, 3) := by decide +kernel
theorem dX7_tasteBy_11 : decode cX7_tasteBy 11 = .ok (.if_icmp .ge 34, 3) := by decide +kernel
theorem dX7_tasteBy_14 : decode cX7_tasteBy 14 = .ok (.iload_n 3, 1) := by decide +kernel
theorem dX7_tasteBy_15 : decode cX7_tasteBy 15 = .ok (.iload_n 2, 1) := by decide +kernel
theorem dX7_tasteBy_16 : decode cX7_tasteBy 16 = .ok (.iload 4, 2) := by decide +kernel
theorem dX7_tasteBy_18 : decode cX7_tasteBy 18 = .ok (.invokestatic 113, 3) := by decide +kernel
theorem dX7_tasteBy_21 : decode cX7_tasteBy 21 = .ok (.ifCond .eq 15, 3) := by decide +kernel
theorem dX7_tasteBy_24 : decode cX7_tasteBy 24 = .ok (.aload_n 0, 1) := by decide +kernel
theorem dX7_tasteBy_25 : decode cX7_tasteBy 25 = .ok (.iload_n 1, 1) := by decide +kernel
theorem dX7_tasteBy_26 : decode cX7_tasteBy 26 = .ok (.iload 4, 2) := by decide +kernel
theorem dX7_tasteBy_28 : decode cX7_tasteBy 28 = .ok (.invokevirtual 181, 3) := by decide +kernel
theorem dX7_tasteBy_31 : decode cX7_tasteBy 31 = .ok (.iconst 1, 1) := by decide +kernel
theorem dX7_tasteBy_32 : decode cX7_tasteBy 32 = .ok (.isub, 1) := by decide +kernel
theorem dX7_tasteBy_33 : decode cX7_tasteBy 33 = .ok (.goto 4, 3) := by decide +kernel
theorem dX7_tasteBy_36 : decode cX7_tasteBy 36 = .ok (.iconst 0, 1) := by decide +kernel
theorem dX7_tasteBy_37 : decode cX7_tasteBy 37 = .ok (.iadd, 1) := by decide +kernel
theorem dX7_tasteBy_38 : decode cX7_tasteBy 38 = .ok (.istore_n 3, 1) := by decide +kernel
theorem dX7_tasteBy_39 : decode cX7_tasteBy 39 = .ok (.iinc 4 1, 3) := by decide +kernel
theorem dX7_tasteBy_42 : decode cX7_tasteBy 42 = .ok (.goto (-37), 3) := by decide +kernel
theorem dX7_tasteBy_45 : decode cX7_tasteBy 45 = .ok (.iload_n 3, 1) := by decide +kernel
theorem dX7_tasteBy_46 : decode cX7_tasteBy 46 = .ok (.ireturn, 1) := by decide +kernel
theorem dX7_digitOf_0 : decode cX7_digitOf 0 = .ok (.iload_n 1, 1) := by decide +kernel
theorem dX7_digitOf_1 : decode cX7_digitOf 1 = .ok (.istore_n 3, 1) := by decide +kernel
theorem dX7_digitOf_2 : decode cX7_digitOf 2 = .ok (.aload_n 0, 1) := by decide +kernel
theorem dX7_digitOf_3 : decode cX7_digitOf 3 = .ok (.getfield 7, 3) := by decide +kernel
theorem dX7_digitOf_6 : decode cX7_digitOf 6 = .ok (.iconst 1, 1) := by decide +kernel
theorem dX7_digitOf_7 : decode cX7_digitOf 7 = .ok (.isub, 1) := by decide +kernel
theorem dX7_digitOf_8 : decode cX7_digitOf 8 = .ok (.istore 4, 2) := by decide +kernel
theorem dX7_digitOf_10 : decode cX7_digitOf 10 = .ok (.iload 4, 2) := by decide +kernel
theorem dX7_digitOf_12 : decode cX7_digitOf 12 = .ok (.iload_n 2, 1) := by decide +kernel
theorem dX7_digitOf_13 : decode cX7_digitOf 13 = .ok (.if_icmp .le 13, 3) := by decide +kernel
theorem dX7_digitOf_16 : decode cX7_digitOf 16 = .ok (.iload_n 3, 1) := by decide +kernel
theorem dX7_digitOf_17 : decode cX7_digitOf 17 = .ok (.iconst 3, 1) := by decide +kernel
theorem dX7_digitOf_18 : decode cX7_digitOf 18 = .ok (.idiv, 1) := by decide +kernel
theorem dX7_digitOf_19 : decode cX7_digitOf 19 = .ok (.istore_n 3, 1) := by decide +kernel
theorem dX7_digitOf_20 : decode cX7_digitOf 20 = .ok (.iinc 4 (-1), 3) := by decide +kernel
theorem dX7_digitOf_23 : decode cX7_digitOf 23 = .ok (.goto (-13), 3) := by decide +kernel
theorem dX7_digitOf_26 : decode cX7_digitOf 26 = .ok (.iload_n 3, 1) := by decide +kernel
theorem dX7_digitOf_27 : decode cX7_digitOf 27 = .ok (.iconst 3, 1) := by decide +kernel
theorem dX7_digitOf_28 : decode cX7_digitOf 28 = .ok (.irem, 1) := by decide +kernel
theorem dX7_digitOf_29 : decode cX7_digitOf 29 = .ok (.ireturn, 1) := by decide +kernel
theorem dX7_terms_0 : decode cX7_terms 0 = .ok (.iconst 1, 1) := by decide +kernel
theorem dX7_terms_1 : decode cX7_terms 1 = .ok (.istore_n 1, 1) := by decide +kernel
theorem dX7_terms_2 : decode cX7_terms 2 = .ok (.iconst 0, 1) := by decide +kernel
theorem dX7_terms_3 : decode cX7_terms 3 = .ok (.istore_n 2, 1) := by decide +kernel
theorem dX7_terms_4 : decode cX7_terms 4 = .ok (.iload_n 2, 1) := by decide +kernel
theorem dX7_terms_5 : decode cX7_terms 5 = .ok (.aload_n 0, 1) := by decide +kernel
theorem dX7_terms_6 : decode cX7_terms 6 = .ok (.getfield 7, 3) := by decide +kernel
theorem dX7_terms_9 : decode cX7_terms 9 = .ok (.if_icmp .ge 13, 3) := by decide +kernel
theorem dX7_terms_12 : decode cX7_terms 12 = .ok (.iload_n 1, 1) := by decide +kernel
theorem dX7_terms_13 : decode cX7_terms 13 = .ok (.iconst 3, 1) := by decide +kernel
theorem dX7_terms_14 : decode cX7_terms 14 = .ok (.imul, 1) := by decide +kernel
theorem dX7_terms_15 : decode cX7_terms 15 = .ok (.istore_n 1, 1) := by decide +kernel
theorem dX7_terms_16 : decode cX7_terms 16 = .ok (.iinc 2 1, 3) := by decide +kernel
theorem dX7_terms_19 : decode cX7_terms 19 = .ok (.goto (-15), 3) := by decide +kernel
theorem dX7_terms_22 : decode cX7_terms 22 = .ok (.iload_n 1, 1) := by decide +kernel
theorem dX7_terms_23 : decode cX7_terms 23 = .ok (.ireturn, 1) := by decide +kernel
theorem dX7_words_0 : decode cX7_words 0 = .ok (.iconst 0, 1) := by decide +kernel
theorem dX7_words_1 : decode cX7_words 1 = .ok (.istore_n 2, 1) := by decide +kernel
theorem dX7_words_2 : decode cX7_words 2 = .ok (.iconst 0, 1) := by decide +kernel
theorem dX7_words_3 : decode cX7_words 3 = .ok (.istore_n 3, 1) := by decide +kernel
theorem dX7_words_4 : decode cX7_words 4 = .ok (.iload_n 3, 1) := by decide +kernel
theorem dX7_words_5 : decode cX7_words 5 = .ok (.aload_n 0, 1) := by decide +kernel
theorem dX7_words_6 : decode cX7_words 6 = .ok (.getfield 7, 3) := by decide +kernel
theorem dX7_words_9 : decode cX7_words 9 = .ok (.if_icmp .ge 26, 3) := by decide +kernel
theorem dX7_words_12 : decode cX7_words 12 = .ok (.iload_n 2, 1) := by decide +kernel
theorem dX7_words_13 : decode cX7_words 13 = .ok (.aload_n 0, 1) := by decide +kernel
theorem dX7_words_14 : decode cX7_words 14 = .ok (.iload_n 1, 1) := by decide +kernel
theorem dX7_words_15 : decode cX7_words 15 = .ok (.iload_n 3, 1) := by decide +kernel
theorem dX7_words_16 : decode cX7_words 16 = .ok (.invokevirtual 181, 3) := by decide +kernel
theorem dX7_words_19 : decode cX7_words 19 = .ok (.ifCond .le 7, 3) := by decide +kernel
theorem dX7_words_22 : decode cX7_words 22 = .ok (.iconst 1, 1) := by decide +kernel
theorem dX7_words_23 : decode cX7_words 23 = .ok (.goto 4, 3) := by decide +kernel
theorem dX7_words_26 : decode cX7_words 26 = .ok (.iconst 0, 1) := by decide +kernel
theorem dX7_words_27 : decode cX7_words 27 = .ok (.iadd, 1) := by decide +kernel
theorem dX7_words_28 : decode cX7_words 28 = .ok (.istore_n 2, 1) := by decide +kernel
theorem dX7_words_29 : decode cX7_words 29 = .ok (.iinc 3 1, 3) := by decide +kernel
theorem dX7_words_32 : decode cX7_words 32 = .ok (.goto (-28), 3) := by decide +kernel
theorem dX7_words_35 : decode cX7_words 35 = .ok (.iload_n 2, 1) := by decide +kernel
theorem dX7_words_36 : decode cX7_words 36 = .ok (.ireturn, 1) := by decide +kernel
theorem dX7_count_0 : decode cX7_count 0 = .ok (.iconst 0, 1) := by decide +kernel
theorem dX7_count_1 : decode cX7_count 1 = .ok (.istore_n 3, 1) := by decide +kernel
theorem dX7_count_2 : decode cX7_count 2 = .ok (.iconst 0, 1) := by decide +kernel
theorem dX7_count_3 : decode cX7_count 3 = .ok (.istore 4, 2) := by decide +kernel
theorem dX7_count_5 : decode cX7_count 5 = .ok (.iload 4, 2) := by decide +kernel
theorem dX7_count_7 : decode cX7_count 7 = .ok (.aload_n 0, 1) := by decide +kernel
theorem dX7_count_8 : decode cX7_count 8 = .ok (.invokevirtual 95, 3) := by decide +kernel
theorem dX7_count_11 : decode cX7_count 11 = .ok (.if_icmp .ge 26, 3) := by decide +kernel
theorem dX7_count_14 : decode cX7_count 14 = .ok (.iload_n 3, 1) := by decide +kernel
theorem dX7_count_15 : decode cX7_count 15 = .ok (.lload_n 1, 1) := by decide +kernel
theorem dX7_count_16 : decode cX7_count 16 = .ok (.iload 4, 2) := by decide +kernel
theorem dX7_count_18 : decode cX7_count 18 = .ok (.invokestatic 143, 3) := by decide +kernel
theorem dX7_count_21 : decode cX7_count 21 = .ok (.ifCond .eq 7, 3) := by decide +kernel
theorem dX7_count_24 : decode cX7_count 24 = .ok (.iconst 1, 1) := by decide +kernel
theorem dX7_count_25 : decode cX7_count 25 = .ok (.goto 4, 3) := by decide +kernel
theorem dX7_count_28 : decode cX7_count 28 = .ok (.iconst 0, 1) := by decide +kernel
theorem dX7_count_29 : decode cX7_count 29 = .ok (.iadd, 1) := by decide +kernel
theorem dX7_count_30 : decode cX7_count 30 = .ok (.istore_n 3, 1) := by decide +kernel
theorem dX7_count_31 : decode cX7_count 31 = .ok (.iinc 4 1, 3) := by decide +kernel
theorem dX7_count_34 : decode cX7_count 34 = .ok (.goto (-29), 3) := by decide +kernel
theorem dX7_count_37 : decode cX7_count 37 = .ok (.iload_n 3, 1) := by decide +kernel
theorem dX7_count_38 : decode cX7_count 38 = .ok (.ireturn, 1) := by decide +kernel
theorem dX7_likes_0 : decode cX7_likes 0 = .ok (.aload_n 0, 1) := by decide +kernel
theorem dX7_likes_1 : decode cX7_likes 1 = .ok (.getfield 64, 3) := by decide +kernel
theorem dX7_likes_4 : decode cX7_likes 4 = .ok (.iconst 1, 1) := by decide +kernel
theorem dX7_likes_5 : decode cX7_likes 5 = .ok (.if_icmp .ne 11, 3) := by decide +kernel
theorem dX7_likes_8 : decode cX7_likes 8 = .ok (.aload_n 0, 1) := by decide +kernel
theorem dX7_likes_9 : decode cX7_likes 9 = .ok (.iload_n 1, 1) := by decide +kernel
theorem dX7_likes_10 : decode cX7_likes 10 = .ok (.invokevirtual 165, 3) := by decide +kernel
theorem dX7_likes_13 : decode cX7_likes 13 = .ok (.goto 43, 3) := by decide +kernel
theorem dX7_likes_16 : decode cX7_likes 16 = .ok (.aload_n 0, 1) := by decide +kernel
theorem dX7_likes_17 : decode cX7_likes 17 = .ok (.getfield 64, 3) := by decide +kernel
theorem dX7_likes_20 : decode cX7_likes 20 = .ok (.ifCond .ne 16, 3) := by decide +kernel
theorem dX7_likes_23 : decode cX7_likes 23 = .ok (.aload_n 0, 1) := by decide +kernel
theorem dX7_likes_24 : decode cX7_likes 24 = .ok (.aload_n 0, 1) := by decide +kernel
theorem dX7_likes_25 : decode cX7_likes 25 = .ok (.getfield 67, 3) := by decide +kernel
theorem dX7_likes_28 : decode cX7_likes 28 = .ok (.iload_n 1, 1) := by decide +kernel
theorem dX7_likes_29 : decode cX7_likes 29 = .ok (.invokevirtual 117, 3) := by decide +kernel
theorem dX7_likes_32 : decode cX7_likes 32 = .ok (.ineg, 1) := by decide +kernel
theorem dX7_likes_33 : decode cX7_likes 33 = .ok (.goto 23, 3) := by decide +kernel
theorem dX7_likes_36 : decode cX7_likes 36 = .ok (.sipush (-1000), 3) := by decide +kernel
theorem dX7_likes_39 : decode cX7_likes 39 = .ok (.iload_n 1, 1) := by decide +kernel
theorem dX7_likes_40 : decode cX7_likes 40 = .ok (.iload_n 2, 1) := by decide +kernel
theorem dX7_likes_41 : decode cX7_likes 41 = .ok (.ixor, 1) := by decide +kernel
theorem dX7_likes_42 : decode cX7_likes 42 = .ok (.invokestatic 147, 3) := by decide +kernel
theorem dX7_likes_45 : decode cX7_likes 45 = .ok (.imul, 1) := by decide +kernel
theorem dX7_likes_46 : decode cX7_likes 46 = .ok (.aload_n 0, 1) := by decide +kernel
theorem dX7_likes_47 : decode cX7_likes 47 = .ok (.aload_n 0, 1) := by decide +kernel
theorem dX7_likes_48 : decode cX7_likes 48 = .ok (.getfield 67, 3) := by decide +kernel
theorem dX7_likes_51 : decode cX7_likes 51 = .ok (.iload_n 1, 1) := by decide +kernel
theorem dX7_likes_52 : decode cX7_likes 52 = .ok (.invokevirtual 117, 3) := by decide +kernel
theorem dX7_likes_55 : decode cX7_likes 55 = .ok (.isub, 1) := by decide +kernel
theorem dX7_likes_56 : decode cX7_likes 56 = .ok (.ireturn, 1) := by decide +kernel
theorem dX7_madeOf_0 : decode cX7_madeOf 0 = .ok (.bipush (-6), 2) := by decide +kernel
theorem dX7_madeOf_2 : decode cX7_madeOf 2 = .ok (.istore 4, 2) := by decide +kernel
theorem dX7_madeOf_4 : decode cX7_madeOf 4 = .ok (.iconst 0, 1) := by decide +kernel
theorem dX7_madeOf_5 : decode cX7_madeOf 5 = .ok (.istore 5, 2) := by decide +kernel
theorem dX7_madeOf_7 : decode cX7_madeOf 7 = .ok (.iload 5, 2) := by decide +kernel
theorem dX7_madeOf_9 : decode cX7_madeOf 9 = .ok (.aload_n 0, 1) := by decide +kernel
theorem dX7_madeOf_10 : decode cX7_madeOf 10 = .ok (.invokevirtual 95, 3) := by decide +kernel
theorem dX7_madeOf_13 : decode cX7_madeOf 13 = .ok (.if_icmp .ge 49, 3) := by decide +kernel
theorem dX7_madeOf_16 : decode cX7_madeOf 16 = .ok (.lload_n 1, 1) := by decide +kernel
theorem dX7_madeOf_17 : decode cX7_madeOf 17 = .ok (.iload 5, 2) := by decide +kernel
theorem dX7_madeOf_19 : decode cX7_madeOf 19 = .ok (.invokestatic 143, 3) := by decide +kernel
theorem dX7_madeOf_22 : decode cX7_madeOf 22 = .ok (.ifCond .eq 30, 3) := by decide +kernel
theorem dX7_madeOf_25 : decode cX7_madeOf 25 = .ok (.iload 4, 2) := by decide +kernel
theorem dX7_madeOf_27 : decode cX7_madeOf 27 = .ok (.ifCond .lt 20, 3) := by decide +kernel
theorem dX7_madeOf_30 : decode cX7_madeOf 30 = .ok (.aload_n 0, 1) := by decide +kernel
theorem dX7_madeOf_31 : decode cX7_madeOf 31 = .ok (.iload 5, 2) := by decide +kernel
theorem dX7_madeOf_33 : decode cX7_madeOf 33 = .ok (.iload_n 3, 1) := by decide +kernel
theorem dX7_madeOf_34 : decode cX7_madeOf 34 = .ok (.invokevirtual 168, 3) := by decide +kernel
theorem dX7_madeOf_37 : decode cX7_madeOf 37 = .ok (.aload_n 0, 1) := by decide +kernel
theorem dX7_madeOf_38 : decode cX7_madeOf 38 = .ok (.iload 4, 2) := by decide +kernel
theorem dX7_madeOf_40 : decode cX7_madeOf 40 = .ok (.iload_n 3, 1) := by decide +kernel
theorem dX7_madeOf_41 : decode cX7_madeOf 41 = .ok (.invokevirtual 168, 3) := by decide +kernel
theorem dX7_madeOf_44 : decode cX7_madeOf 44 = .ok (.if_icmp .le 8, 3) := by decide +kernel
theorem dX7_madeOf_47 : decode cX7_madeOf 47 = .ok (.iload 5, 2) := by decide +kernel
theorem dX7_madeOf_49 : decode cX7_madeOf 49 = .ok (.goto 5, 3) := by decide +kernel
theorem dX7_madeOf_52 : decode cX7_madeOf 52 = .ok (.iload 4, 2) := by decide +kernel
theorem dX7_madeOf_54 : decode cX7_madeOf 54 = .ok (.istore 4, 2) := by decide +kernel
theorem dX7_madeOf_56 : decode cX7_madeOf 56 = .ok (.iinc 5 1, 3) := by decide +kernel
theorem dX7_madeOf_59 : decode cX7_madeOf 59 = .ok (.goto (-52), 3) := by decide +kernel
theorem dX7_madeOf_62 : decode cX7_madeOf 62 = .ok (.iload 4, 2) := by decide +kernel
theorem dX7_madeOf_64 : decode cX7_madeOf 64 = .ok (.ireturn, 1) := by decide +kernel
theorem dX7_layTerm_0 : decode cX7_layTerm 0 = .ok (.aload_n 0, 1) := by decide +kernel
theorem dX7_layTerm_1 : decode cX7_layTerm 1 = .ok (.iconst 0, 1) := by decide +kernel
theorem dX7_layTerm_2 : decode cX7_layTerm 2 = .ok (.putfield 184, 3) := by decide +kernel
theorem dX7_layTerm_5 : decode cX7_layTerm 5 = .ok (.aload_n 0, 1) := by decide +kernel
theorem dX7_layTerm_6 : decode cX7_layTerm 6 = .ok (.iconst 0, 1) := by decide +kernel
theorem dX7_layTerm_7 : decode cX7_layTerm 7 = .ok (.putfield 187, 3) := by decide +kernel
theorem dX7_layTerm_10 : decode cX7_layTerm 10 = .ok (.iload_n 1, 1) := by decide +kernel
theorem dX7_layTerm_11 : decode cX7_layTerm 11 = .ok (.istore_n 2, 1) := by decide +kernel
theorem dX7_layTerm_12 : decode cX7_layTerm 12 = .ok (.aload_n 0, 1) := by decide +kernel
theorem dX7_layTerm_13 : decode cX7_layTerm 13 = .ok (.getfield 7, 3) := by decide +kernel
theorem dX7_layTerm_16 : decode cX7_layTerm 16 = .ok (.iconst 1, 1) := by decide +kernel
theorem dX7_layTerm_17 : decode cX7_layTerm 17 = .ok (.isub, 1) := by decide +kernel
theorem dX7_layTerm_18 : decode cX7_layTerm 18 = .ok (.istore_n 3, 1) := by decide +kernel
theorem dX7_layTerm_19 : decode cX7_layTerm 19 = .ok (.iload_n 3, 1) := by decide +kernel
theorem dX7_layTerm_20 : decode cX7_layTerm 20 = .ok (.ifCond .lt 59, 3) := by decide +kernel
theorem dX7_layTerm_23 : decode cX7_layTerm 23 = .ok (.aload_n 0, 1) := by decide +kernel
theorem dX7_layTerm_24 : decode cX7_layTerm 24 = .ok (.dup, 1) := by decide +kernel
theorem dX7_layTerm_25 : decode cX7_layTerm 25 = .ok (.getfield 184, 3) := by decide +kernel
theorem dX7_layTerm_28 : decode cX7_layTerm 28 = .ok (.iload_n 2, 1) := by decide +kernel
theorem dX7_layTerm_29 : decode cX7_layTerm 29 = .ok (.iconst 3, 1) := by decide +kernel
theorem dX7_layTerm_30 : decode cX7_layTerm 30 = .ok (.irem, 1) := by decide +kernel
theorem dX7_layTerm_31 : decode cX7_layTerm 31 = .ok (.iconst 1, 1) := by decide +kernel
theorem dX7_layTerm_32 : decode cX7_layTerm 32 = .ok (.if_icmp .ne 9, 3) := by decide +kernel
theorem dX7_layTerm_35 : decode cX7_layTerm 35 = .ok (.iconst 1, 1) := by decide +kernel
theorem dX7_layTerm_36 : decode cX7_layTerm 36 = .ok (.iload_n 3, 1) := by decide +kernel
theorem dX7_layTerm_37 : decode cX7_layTerm 37 = .ok (.ishl, 1) := by decide +kernel
theorem dX7_layTerm_38 : decode cX7_layTerm 38 = .ok (.goto 4, 3) := by decide +kernel
theorem dX7_layTerm_41 : decode cX7_layTerm 41 = .ok (.iconst 0, 1) := by decide +kernel
theorem dX7_layTerm_42 : decode cX7_layTerm 42 = .ok (.ior, 1) := by decide +kernel
theorem dX7_layTerm_43 : decode cX7_layTerm 43 = .ok (.putfield 184, 3) := by decide +kernel
theorem dX7_layTerm_46 : decode cX7_layTerm 46 = .ok (.aload_n 0, 1) := by decide +kernel
theorem dX7_layTerm_47 : decode cX7_layTerm 47 = .ok (.dup, 1) := by decide +kernel
theorem dX7_layTerm_48 : decode cX7_layTerm 48 = .ok (.getfield 187, 3) := by decide +kernel
theorem dX7_layTerm_51 : decode cX7_layTerm 51 = .ok (.iload_n 2, 1) := by decide +kernel
theorem dX7_layTerm_52 : decode cX7_layTerm 52 = .ok (.iconst 3, 1) := by decide +kernel
theorem dX7_layTerm_53 : decode cX7_layTerm 53 = .ok (.irem, 1) := by decide +kernel
theorem dX7_layTerm_54 : decode cX7_layTerm 54 = .ok (.iconst 2, 1) := by decide +kernel
theorem dX7_layTerm_55 : decode cX7_layTerm 55 = .ok (.if_icmp .ne 9, 3) := by decide +kernel
theorem dX7_layTerm_58 : decode cX7_layTerm 58 = .ok (.iconst 1, 1) := by decide +kernel
theorem dX7_layTerm_59 : decode cX7_layTerm 59 = .ok (.iload_n 3, 1) := by decide +kernel
theorem dX7_layTerm_60 : decode cX7_layTerm 60 = .ok (.ishl, 1) := by decide +kernel
theorem dX7_layTerm_61 : decode cX7_layTerm 61 = .ok (.goto 4, 3) := by decide +kernel
theorem dX7_layTerm_64 : decode cX7_layTerm 64 = .ok (.iconst 0, 1) := by decide +kernel
theorem dX7_layTerm_65 : decode cX7_layTerm 65 = .ok (.ior, 1) := by decide +kernel
theorem dX7_layTerm_66 : decode cX7_layTerm 66 = .ok (.putfield 187, 3) := by decide +kernel
theorem dX7_layTerm_69 : decode cX7_layTerm 69 = .ok (.iload_n 2, 1) := by decide +kernel
theorem dX7_layTerm_70 : decode cX7_layTerm 70 = .ok (.iconst 3, 1) := by decide +kernel
theorem dX7_layTerm_71 : decode cX7_layTerm 71 = .ok (.idiv, 1) := by decide +kernel
theorem dX7_layTerm_72 : decode cX7_layTerm 72 = .ok (.istore_n 2, 1) := by decide +kernel
theorem dX7_layTerm_73 : decode cX7_layTerm 73 = .ok (.iinc 3 (-1), 3) := by decide +kernel
theorem dX7_layTerm_76 : decode cX7_layTerm 76 = .ok (.goto (-57), 3) := by decide +kernel
theorem dX7_layTerm_79 : decode cX7_layTerm 79 = .ok (.return_, 1) := by decide +kernel
def lbit (S : Int64) (w : Nat) : Bool := S.toBitVec.getLsbD w
theorem lb_sh {S : Int64} {w : Nat} (hw : w < 64) : (S.toUInt64 >>> ((nI w).toInt64.toUInt64 &&& Int64.toUInt64 63)).toInt64 &&& 1 = if lbit S w then 1 else 0 := by
  have hs : ∀ w, w < 64 → (((nI w).toInt64.toUInt64 &&& Int64.toUInt64 63).toBitVec % 64).toNat = w := by decide +kernel
  apply Int64.toBitVec_inj.mp
  apply BitVec.eq_of_getLsbD_eq
  intro i hi
  have e1 : ((S.toUInt64 >>> ((nI w).toInt64.toUInt64 &&& Int64.toUInt64 63)).toInt64).toBitVec = S.toBitVec >>> w := by
    show (S.toUInt64 >>> ((nI w).toInt64.toUInt64 &&& Int64.toUInt64 63)).toBitVec = _
    rw [UInt64.toBitVec_shiftRight]
    show S.toBitVec >>> (((nI w).toInt64.toUInt64 &&& Int64.toUInt64 63).toBitVec % 64) = _
    rw [BitVec.ushiftRight_eq', hs w hw]
  rw [Int64.toBitVec_and, e1, BitVec.getLsbD_and, BitVec.getLsbD_ushiftRight]
  unfold lbit
  by_cases h0 : i = 0
  · subst h0
    cases hb : S.toBitVec.getLsbD w <;> simp [hb]
  · have : (1 : Int64).toBitVec.getLsbD i = false := by
      have : ∀ i, i < 64 → i ≠ 0 → (1 : Int64).toBitVec.getLsbD i = false := by decide +kernel
      exact this i hi h0
    rw [this, Bool.and_false]
    cases hb : S.toBitVec.getLsbD w
    · simp
    · simp [this, h0]
section MODEL2
variable {xl : Nat} {xs : Nat → Int32} {n : Nat} {h : Nat → PC} {I : Nat → Nat → Int32} {J : Nat → Nat → Int64} {X : Nat → Option Nat}
theorem c_X7_holds {S : Int64} {w : Nat} (hw : w < 64) : Rn xl xs 0 0 0 0 mX7_holds [.long S, .int (nI w)] n h (some (.int (b2i (lbit S w)))) n h := by
  intro Q hQ
  show Ev xl xs 0 0 0 0 mX7_holds 0 [some (.long S), none, some (.int (nI w))] [] n h Q
  have e := lb_sh (S := S) hw
  refine ev_lload_n (q := 1) dX7_holds_0 rfl rfl ?_
  refine ev_iload_n (q := 2) dX7_holds_1 rfl rfl ?_
  refine ev_lushr (q := 3) dX7_holds_2 rfl ?_
  refine ev_lconst (q := 4) (1) dX7_holds_3 (by decide) rfl ?_
  refine ev_land (q := 5) dX7_holds_4 rfl ?_
  refine ev_lconst (q := 6) (1) dX7_holds_5 (by decide) rfl ?_
  refine ev_lcmp (q := 7) dX7_holds_6 rfl ?_
  refine ev_if_ne (q := 10) 14 dX7_holds_7 (by decide) rfl (fun c_7 => ?_) (fun c_7 => ?_)
  · have c_7 : lbit S w = false := by rw [e] at c_7; cases hb : lbit S w <;> first | rfl | (rw [hb] at c_7; exact absurd rfl c_7)
    refine ev_iconst (q := 15) (0) dX7_holds_14 (by decide) rfl ?_
    exact ev_iretE dX7_holds_15 rfl (nar_b2i _) (by rw [c_7]; rfl) rfl rfl hQ
  · have c_7 : lbit S w = true := by rw [e] at c_7; cases hb : lbit S w <;> first | rfl | (rw [hb] at c_7; exact absurd c_7 (by decide))
    refine ev_iconst (q := 11) (1) dX7_holds_10 (by decide) rfl ?_
    refine ev_goto 15 dX7_holds_11 (by decide) ?_
    exact ev_iretE dX7_holds_15 rfl (nar_b2i _) (by rw [c_7]; rfl) rfl rfl hQ
theorem c_X7_bits {w : Nat} (hw : w < 2 ^ 31) : Rn xl xs 0 0 0 0 mX7_bits [.int (nI w)] n h (some (.int (nI (pop 6 w)))) n h := by
  intro Q hQ
  show Ev xl xs 0 0 0 0 mX7_bits 0 [some (.int (nI w)), none, none] [] n h Q
  have lp : ∀ j k, k + j = 6 → Ev xl xs 0 0 0 0 mX7_bits 4 [some (.int (nI w)), some (.int (nI (pop k w))), some (.int (nI k))] [] n h Q := by
    intro j
    induction j using Nat.strongRecOn with
    | _ j ih =>
      intro k hk
      refine ev_iload_n (q := 5) dX7_bits_4 rfl rfl ?_
      refine ev_bipush (q := 7) (6) dX7_bits_5 (by decide) rfl ?_
      refine ev_icmp_ge (q := 10) 24 dX7_bits_7 (by decide) rfl (fun c_7 => ?_) (fun c_7 => ?_)
      · have c_7 : 6 ≤ k := (nI_leI (a := 6) (by omega) (by omega)).mp c_7
        refine ev_iload_n (q := 25) dX7_bits_24 rfl rfl ?_
        exact ev_iretE dX7_bits_25 rfl rfl (by rw [show k = 6 by omega]) rfl rfl hQ
      · have c_7 : ¬ 6 ≤ k := fun h => c_7 ((nI_leI (a := 6) (by omega) (by omega)).mpr h)
        refine ev_iload_n (q := 11) dX7_bits_10 rfl rfl ?_
        refine ev_iload_n (q := 12) dX7_bits_11 rfl rfl ?_
        refine ev_iload_n (q := 13) dX7_bits_12 rfl rfl ?_
        refine ev_ishr (q := 14) dX7_bits_13 rfl ?_
        refine ev_iconst (q := 15) (1) dX7_bits_14 (by decide) rfl ?_
        refine ev_iand (q := 16) dX7_bits_15 rfl ?_
        refine ev_iadd (q := 17) dX7_bits_16 rfl ?_
        refine ev_ist_1 (q := 18) dX7_bits_17 rfl rfl ?_
        refine ev_inc_2 (q := 21) (nI (k + 1)) dX7_bits_18 (nI_1 k) rfl rfl ?_
        refine ev_goto 4 dX7_bits_21 (by decide) ?_
        have e : nI (pop k w) + (nI w >>> (nI k &&& 31) &&& 1) = nI (pop (k + 1) w) := by rw [nI_bit hw (by omega), nI_add]; rfl
        rw [e]
        exact ih (j - 1) (by omega) (k + 1) (by omega)
  refine ev_iconst (q := 1) (0) dX7_bits_0 (by decide) rfl ?_
  refine ev_ist_1 (q := 2) dX7_bits_1 rfl rfl ?_
  refine ev_iconst (q := 3) (0) dX7_bits_2 (by decide) rfl ?_
  refine ev_ist_2 (q := 4) dX7_bits_3 rfl rfl ?_
  exact lp 6 0 rfl
theorem c_X7_worthTo {t c w : Nat} (hn : 49 ≤ n) (ht : I 33 0 = nI t) (h6 : t ≤ 6) (hc : c < 4) (hw : w < 2 ^ 31) : Rn xl xs 1 21 0 0 mX7_worthTo [.ref 33, .int (nI c), .int (nI w)] n (sysH I J X) (some (.int (wsum (fun k => I 34 (6 * c + k)) t w))) n (sysH I J X) := by
  intro Q hQ
  show Ev xl xs 1 21 0 0 mX7_worthTo 0 [some (.ref 33), some (.int (nI c)), some (.int (nI w)), none, none] [] n (sysH I J X) Q
  have lp : ∀ j k, k + j = t → Ev xl xs 1 21 0 0 mX7_worthTo 5 [some (.ref 33), some (.int (nI c)), some (.int (nI w)), some (.int (wsum (fun k => I 34 (6 * c + k)) k w)), some (.int (nI k))] [] n (sysH I J X) Q := by
    intro j
    induction j using Nat.strongRecOn with
    | _ j ih =>
      intro k hk
      refine ev_iload (q := 7) dX7_worthTo_5 rfl rfl ?_
      refine ev_aload_n (q := 8) dX7_worthTo_7 rfl rfl ?_
      refine ev_get (q := 11) dX7_worthTo_8 fr_X7_7 rfl (lt_n hn (by decide)) rfl rfl ?_
      rw [ht]
      refine ev_icmp_ge (q := 14) 48 dX7_worthTo_11 (by decide) rfl (fun c_11 => ?_) (fun c_11 => ?_)
      · have c_11 : t ≤ k := (nI_leI (by omega) (by omega)).mp c_11
        refine ev_iload_n (q := 49) dX7_worthTo_48 rfl rfl ?_
        exact ev_iretE dX7_worthTo_49 rfl rfl (by rw [show k = t by omega]) rfl rfl hQ
      · have c_11 : ¬ t ≤ k := fun h => c_11 ((nI_leI (by omega) (by omega)).mpr h)
        refine ev_iload_n (q := 15) dX7_worthTo_14 rfl rfl ?_
        refine ev_iload_n (q := 16) dX7_worthTo_15 rfl rfl ?_
        refine ev_iload (q := 18) dX7_worthTo_16 rfl rfl ?_
        refine ev_callS2i (q := 21) dX7_worthTo_18 ca_X7_113 (c_X7_has (by omega) (by omega)) (Nat.le_of_ble_eq_true rfl) (Nat.le_of_ble_eq_true rfl) (by decide) (by decide) rfl ?_
        refine ev_if_eq (q := 24) 39 dX7_worthTo_21 (by decide) rfl (fun c_21 => ?_) (fun c_21 => ?_)
        · have c_21 := b2i_0.mp c_21
          refine ev_iconst (q := 40) (0) dX7_worthTo_39 (by decide) rfl ?_
          refine ev_iadd (q := 41) dX7_worthTo_40 rfl ?_
          refine ev_ist_3 (q := 42) dX7_worthTo_41 rfl rfl ?_
          refine ev_inc_4 (q := 45) (nI (k + 1)) dX7_worthTo_42 (nI_1 k) rfl rfl ?_
          refine ev_goto 5 dX7_worthTo_45 (by decide) ?_
          have e := ih (j - 1) (by omega) (k + 1) (by omega)
          simp only [wsum, c_21] at e
          exact e
        · have c_21 := b2i_n0.mp c_21
          refine ev_aload_n (q := 25) dX7_worthTo_24 rfl rfl ?_
          refine ev_get (q := 28) dX7_worthTo_25 fr_X7_13 rfl (lt_n hn (by decide)) rfl rfl ?_
          refine ev_bipush (q := 30) (6) dX7_worthTo_28 (by decide) rfl ?_
          refine ev_iload_n (q := 31) dX7_worthTo_30 rfl rfl ?_
          refine ev_imul (q := 32) dX7_worthTo_31 rfl ?_
          refine ev_iload (q := 34) dX7_worthTo_32 rfl rfl ?_
          refine ev_iadd (q := 35) dX7_worthTo_34 rfl ?_
          refine ev_iaS (q := 36) (6 * c + k) dX7_worthTo_35 (by rw [show (6 : Int32) = nI 6 from rfl, pk_mul, nI_add]) rfl (by omega) (lt_n hn (by decide)) rfl ?_
          refine ev_goto 40 dX7_worthTo_36 (by decide) ?_
          refine ev_iadd (q := 41) dX7_worthTo_40 rfl ?_
          refine ev_ist_3 (q := 42) dX7_worthTo_41 rfl rfl ?_
          refine ev_inc_4 (q := 45) (nI (k + 1)) dX7_worthTo_42 (nI_1 k) rfl rfl ?_
          refine ev_goto 5 dX7_worthTo_45 (by decide) ?_
          have e := ih (j - 1) (by omega) (k + 1) (by omega)
          simp only [wsum, c_21] at e
          exact e
  refine ev_iconst (q := 1) (0) dX7_worthTo_0 (by decide) rfl ?_
  refine ev_ist_3 (q := 2) dX7_worthTo_1 rfl rfl ?_
  refine ev_iconst (q := 3) (0) dX7_worthTo_2 (by decide) rfl ?_
  refine ev_ist_4 (q := 5) dX7_worthTo_3 rfl rfl ?_
  exact lp t 0 (by omega)
theorem c_X7_tasteOf {t w : Nat} (hn : 49 ≤ n) (ht : I 33 0 = nI t) (h6 : t ≤ 6) (hw : w < 2 ^ 31) : Rn xl xs 1 21 0 0 mX7_tasteOf [.ref 33, .int (nI w)] n (sysH I J X) (some (.int (wsum (I 35) t w))) n (sysH I J X) := by
  intro Q hQ
  show Ev xl xs 1 21 0 0 mX7_tasteOf 0 [some (.ref 33), some (.int (nI w)), none, none] [] n (sysH I J X) Q
  have lp : ∀ j k, k + j = t → Ev xl xs 1 21 0 0 mX7_tasteOf 4 [some (.ref 33), some (.int (nI w)), some (.int (wsum (I 35) k w)), some (.int (nI k))] [] n (sysH I J X) Q := by
    intro j
    induction j using Nat.strongRecOn with
    | _ j ih =>
      intro k hk
      refine ev_iload_n (q := 5) dX7_tasteOf_4 rfl rfl ?_
      refine ev_aload_n (q := 6) dX7_tasteOf_5 rfl rfl ?_
      refine ev_get (q := 9) dX7_tasteOf_6 fr_X7_7 rfl (lt_n hn (by decide)) rfl rfl ?_
      rw [ht]
      refine ev_icmp_ge (q := 12) 39 dX7_tasteOf_9 (by decide) rfl (fun c_9 => ?_) (fun c_9 => ?_)
      · have c_9 : t ≤ k := (nI_leI (by omega) (by omega)).mp c_9
        refine ev_iload_n (q := 40) dX7_tasteOf_39 rfl rfl ?_
        exact ev_iretE dX7_tasteOf_40 rfl rfl (by rw [show k = t by omega]) rfl rfl hQ
      · have c_9 : ¬ t ≤ k := fun h => c_9 ((nI_leI (by omega) (by omega)).mpr h)
        refine ev_iload_n (q := 13) dX7_tasteOf_12 rfl rfl ?_
        refine ev_iload_n (q := 14) dX7_tasteOf_13 rfl rfl ?_
        refine ev_iload_n (q := 15) dX7_tasteOf_14 rfl rfl ?_
        refine ev_callS2i (q := 18) dX7_tasteOf_15 ca_X7_113 (c_X7_has (by omega) (by omega)) (Nat.le_of_ble_eq_true rfl) (Nat.le_of_ble_eq_true rfl) (by decide) (by decide) rfl ?_
        refine ev_if_eq (q := 21) 30 dX7_tasteOf_18 (by decide) rfl (fun c_18 => ?_) (fun c_18 => ?_)
        · have c_18 := b2i_0.mp c_18
          refine ev_iconst (q := 31) (0) dX7_tasteOf_30 (by decide) rfl ?_
          refine ev_iadd (q := 32) dX7_tasteOf_31 rfl ?_
          refine ev_ist_2 (q := 33) dX7_tasteOf_32 rfl rfl ?_
          refine ev_inc_3 (q := 36) (nI (k + 1)) dX7_tasteOf_33 (nI_1 k) rfl rfl ?_
          refine ev_goto 4 dX7_tasteOf_36 (by decide) ?_
          have e := ih (j - 1) (by omega) (k + 1) (by omega)
          simp only [wsum, c_18] at e
          exact e
        · have c_18 := b2i_n0.mp c_18
          refine ev_aload_n (q := 22) dX7_tasteOf_21 rfl rfl ?_
          refine ev_get (q := 25) dX7_tasteOf_22 fr_X7_17 rfl (lt_n hn (by decide)) rfl rfl ?_
          refine ev_iload_n (q := 26) dX7_tasteOf_25 rfl rfl ?_
          refine ev_iaS (q := 27) _ dX7_tasteOf_26 rfl rfl (by omega) (lt_n hn (by decide)) rfl ?_
          refine ev_goto 31 dX7_tasteOf_27 (by decide) ?_
          refine ev_iadd (q := 32) dX7_tasteOf_31 rfl ?_
          refine ev_ist_2 (q := 33) dX7_tasteOf_32 rfl rfl ?_
          refine ev_inc_3 (q := 36) (nI (k + 1)) dX7_tasteOf_33 (nI_1 k) rfl rfl ?_
          refine ev_goto 4 dX7_tasteOf_36 (by decide) ?_
          have e := ih (j - 1) (by omega) (k + 1) (by omega)
          simp only [wsum, c_18] at e
          exact e
  refine ev_iconst (q := 1) (0) dX7_tasteOf_0 (by decide) rfl ?_
  refine ev_ist_2 (q := 2) dX7_tasteOf_1 rfl rfl ?_
  refine ev_iconst (q := 3) (0) dX7_tasteOf_2 (by decide) rfl ?_
  refine ev_ist_3 (q := 4) dX7_tasteOf_3 rfl rfl ?_
  exact lp t 0 (by omega)
theorem c_X7_isThing {t : Nat} (v : Int32) (hn : 49 ≤ n) (ht : I 33 0 = nI t) : Rn xl xs 1 22 0 0 mX7_isThing [.ref 33, .int v] n (sysH I J X) (some (.int (b2i (inb v 0 (nI t - 1))))) n (sysH I J X) := by
  intro Q hQ
  show Ev xl xs 1 22 0 0 mX7_isThing 0 [some (.ref 33), some (.int v)] [] n (sysH I J X) Q
  refine ev_iload_n (q := 1) dX7_isThing_0 rfl rfl ?_
  refine ev_iconst (q := 2) (0) dX7_isThing_1 (by decide) rfl ?_
  refine ev_aload_n (q := 3) dX7_isThing_2 rfl rfl ?_
  refine ev_get (q := 6) dX7_isThing_3 fr_X7_7 rfl (lt_n hn (by decide)) rfl rfl ?_
  refine ev_iconst (q := 7) (1) dX7_isThing_6 (by decide) rfl ?_
  refine ev_isub (q := 8) dX7_isThing_7 rfl ?_
  refine ev_callS3i (q := 11) dX7_isThing_8 ca_X7_99 (c_X7_in _ _ _) (Nat.le_of_ble_eq_true rfl) (Nat.le_of_ble_eq_true rfl) (by decide) (by decide) rfl ?_
  exact ev_iretE dX7_isThing_11 rfl (nar_b2i _) (by rw [ht]) rfl rfl hQ
theorem c_X7_isWorld {t : Nat} (v : Int32) (hn : 49 ≤ n) (ht : I 33 0 = nI t) (h6 : t ≤ 6) : Rn xl xs 1 22 0 0 mX7_isWorld [.ref 33, .int v] n (sysH I J X) (some (.int (b2i (inb v 0 (nI (2 ^ t) - 1))))) n (sysH I J X) := by
  intro Q hQ
  show Ev xl xs 1 22 0 0 mX7_isWorld 0 [some (.ref 33), some (.int v)] [] n (sysH I J X) Q
  refine ev_iload_n (q := 1) dX7_isWorld_0 rfl rfl ?_
  refine ev_iconst (q := 2) (0) dX7_isWorld_1 (by decide) rfl ?_
  refine ev_aload_n (q := 3) dX7_isWorld_2 rfl rfl ?_
  refine ev_callV0i (q := 6) dX7_isWorld_3 ca_X7_95 (c_X7_worlds hn ht h6) rfl (lt_n hn (by decide)) rfl rfl (Nat.le_of_ble_eq_true rfl) (Nat.le_of_ble_eq_true rfl) (by decide) (by decide) rfl ?_
  refine ev_iconst (q := 7) (1) dX7_isWorld_6 (by decide) rfl ?_
  refine ev_isub (q := 8) dX7_isWorld_7 rfl ?_
  refine ev_callS3i (q := 11) dX7_isWorld_8 ca_X7_99 (c_X7_in _ _ _) (Nat.le_of_ble_eq_true rfl) (Nat.le_of_ble_eq_true rfl) (by decide) (by decide) rfl ?_
  exact ev_iretE dX7_isWorld_11 rfl (nar_b2i _) rfl rfl rfl hQ
end MODEL2
