theorem dX6_isCousin_0 : decode cX6_isCousin 0 = .ok (.iload_n 0, 1) := by decide +kernel
theorem dX6_isCousin_1 : decode cX6_isCousin 1 = .ok (.ifCond .lt 12, 3) := by decide +kernel
theorem dX6_isCousin_4 : decode cX6_isCousin 4 = .ok (.iload_n 0, 1) := by decide +kernel
theorem dX6_isCousin_5 : decode cX6_isCousin 5 = .ok (.iconst 4, 1) := by decide +kernel
theorem dX6_isCousin_6 : decode cX6_isCousin 6 = .ok (.if_icmp .ge 7, 3) := by decide +kernel
theorem dX6_isCousin_9 : decode cX6_isCousin 9 = .ok (.iconst 1, 1) := by decide +kernel
theorem dX6_isCousin_10 : decode cX6_isCousin 10 = .ok (.goto 4, 3) := by decide +kernel
theorem dX6_isCousin_13 : decode cX6_isCousin 13 = .ok (.iconst 0, 1) := by decide +kernel
theorem dX6_isCousin_14 : decode cX6_isCousin 14 = .ok (.ireturn, 1) := by decide +kernel
theorem dX6_isThing_0 : decode cX6_isThing 0 = .ok (.iload_n 1, 1) := by decide +kernel
theorem dX6_isThing_1 : decode cX6_isThing 1 = .ok (.ifCond .lt 18, 3) := by decide +kernel
theorem dX6_isThing_4 : decode cX6_isThing 4 = .ok (.iload_n 1, 1) := by decide +kernel
theorem dX6_isThing_5 : decode cX6_isThing 5 = .ok (.aload_n 0, 1) := by decide +kernel
theorem dX6_isThing_6 : decode cX6_isThing 6 = .ok (.getfield 10, 3) := by decide +kernel
theorem dX6_isThing_9 : decode cX6_isThing 9 = .ok (.getfield 74, 3) := by decide +kernel
theorem dX6_isThing_12 : decode cX6_isThing 12 = .ok (.if_icmp .ge 7, 3) := by decide +kernel
theorem dX6_isThing_15 : decode cX6_isThing 15 = .ok (.iconst 1, 1) := by decide +kernel
theorem dX6_isThing_16 : decode cX6_isThing 16 = .ok (.goto 4, 3) := by decide +kernel
theorem dX6_isThing_19 : decode cX6_isThing 19 = .ok (.iconst 0, 1) := by decide +kernel
theorem dX6_isThing_20 : decode cX6_isThing 20 = .ok (.ireturn, 1) := by decide +kernel
theorem dX6_isWorld_0 : decode cX6_isWorld 0 = .ok (.iload_n 1, 1) := by decide +kernel
theorem dX6_isWorld_1 : decode cX6_isWorld 1 = .ok (.ifCond .lt 18, 3) := by decide +kernel
theorem dX6_isWorld_4 : decode cX6_isWorld 4 = .ok (.iload_n 1, 1) := by decide +kernel
theorem dX6_isWorld_5 : decode cX6_isWorld 5 = .ok (.aload_n 0, 1) := by decide +kernel
theorem dX6_isWorld_6 : decode cX6_isWorld 6 = .ok (.getfield 10, 3) := by decide +kernel
theorem dX6_isWorld_9 : decode cX6_isWorld 9 = .ok (.invokevirtual 307, 3) := by decide +kernel
theorem dX6_isWorld_12 : decode cX6_isWorld 12 = .ok (.if_icmp .ge 7, 3) := by decide +kernel
theorem dX6_isWorld_15 : decode cX6_isWorld 15 = .ok (.iconst 1, 1) := by decide +kernel
theorem dX6_isWorld_16 : decode cX6_isWorld 16 = .ok (.goto 4, 3) := by decide +kernel
theorem dX6_isWorld_19 : decode cX6_isWorld 19 = .ok (.iconst 0, 1) := by decide +kernel
theorem dX6_isWorld_20 : decode cX6_isWorld 20 = .ok (.ireturn, 1) := by decide +kernel
theorem dX6_isBit_0 : decode cX6_isBit 0 = .ok (.iload_n 0, 1) := by decide +kernel
theorem dX6_isBit_1 : decode cX6_isBit 1 = .ok (.ifCond .eq 8, 3) := by decide +kernel
theorem dX6_isBit_4 : decode cX6_isBit 4 = .ok (.iload_n 0, 1) := by decide +kernel
theorem dX6_isBit_5 : decode cX6_isBit 5 = .ok (.iconst 1, 1) := by decide +kernel
theorem dX6_isBit_6 : decode cX6_isBit 6 = .ok (.if_icmp .ne 7, 3) := by decide +kernel
theorem dX6_isBit_9 : decode cX6_isBit 9 = .ok (.iconst 1, 1) := by decide +kernel
theorem dX6_isBit_10 : decode cX6_isBit 10 = .ok (.goto 4, 3) := by decide +kernel
theorem dX6_isBit_13 : decode cX6_isBit 13 = .ok (.iconst 0, 1) := by decide +kernel
theorem dX6_isBit_14 : decode cX6_isBit 14 = .ok (.ireturn, 1) := by decide +kernel
theorem dX6_isWords_0 : decode cX6_isWords 0 = .ok (.iload_n 0, 1) := by decide +kernel
theorem dX6_isWords_1 : decode cX6_isWords 1 = .ok (.ifCond .lt 13, 3) := by decide +kernel
theorem dX6_isWords_4 : decode cX6_isWords 4 = .ok (.iload_n 0, 1) := by decide +kernel
theorem dX6_isWords_5 : decode cX6_isWords 5 = .ok (.bipush 6, 2) := by decide +kernel
theorem dX6_isWords_7 : decode cX6_isWords 7 = .ok (.if_icmp .gt 7, 3) := by decide +kernel
theorem dX6_isWords_10 : decode cX6_isWords 10 = .ok (.iconst 1, 1) := by decide +kernel
theorem dX6_isWords_11 : decode cX6_isWords 11 = .ok (.goto 4, 3) := by decide +kernel
theorem dX6_isWords_14 : decode cX6_isWords 14 = .ok (.iconst 0, 1) := by decide +kernel
theorem dX6_isWords_15 : decode cX6_isWords 15 = .ok (.ireturn, 1) := by decide +kernel
theorem dX6_isShare_0 : decode cX6_isShare 0 = .ok (.iload_n 0, 1) := by decide +kernel
theorem dX6_isShare_1 : decode cX6_isShare 1 = .ok (.ifCond .lt 13, 3) := by decide +kernel
theorem dX6_isShare_4 : decode cX6_isShare 4 = .ok (.iload_n 0, 1) := by decide +kernel
theorem dX6_isShare_5 : decode cX6_isShare 5 = .ok (.bipush 6, 2) := by decide +kernel
theorem dX6_isShare_7 : decode cX6_isShare 7 = .ok (.if_icmp .gt 7, 3) := by decide +kernel
theorem dX6_isShare_10 : decode cX6_isShare 10 = .ok (.iconst 1, 1) := by decide +kernel
theorem dX6_isShare_11 : decode cX6_isShare 11 = .ok (.goto 4, 3) := by decide +kernel
theorem dX6_isShare_14 : decode cX6_isShare 14 = .ok (.iconst 0, 1) := by decide +kernel
theorem dX6_isShare_15 : decode cX6_isShare 15 = .ok (.ireturn, 1) := by decide +kernel
theorem dX6_orderOf_0 : decode cX6_orderOf 0 = .ok (.iconst 0, 1) := by decide +kernel
theorem dX6_orderOf_1 : decode cX6_orderOf 1 = .ok (.istore_n 1, 1) := by decide +kernel
theorem dX6_orderOf_2 : decode cX6_orderOf 2 = .ok (.iload_n 1, 1) := by decide +kernel
theorem dX6_orderOf_3 : decode cX6_orderOf 3 = .ok (.getstatic 324, 3) := by decide +kernel
theorem dX6_orderOf_6 : decode cX6_orderOf 6 = .ok (.arraylength, 1) := by decide +kernel
theorem dX6_orderOf_7 : decode cX6_orderOf 7 = .ok (.if_icmp .ge 20, 3) := by decide +kernel
theorem dX6_orderOf_10 : decode cX6_orderOf 10 = .ok (.getstatic 324, 3) := by decide +kernel
theorem dX6_orderOf_13 : decode cX6_orderOf 13 = .ok (.iload_n 1, 1) := by decide +kernel
theorem dX6_orderOf_14 : decode cX6_orderOf 14 = .ok (.iaload, 1) := by decide +kernel
theorem dX6_orderOf_15 : decode cX6_orderOf 15 = .ok (.iload_n 0, 1) := by decide +kernel
theorem dX6_orderOf_16 : decode cX6_orderOf 16 = .ok (.if_icmp .ne 5, 3) := by decide +kernel
theorem dX6_orderOf_19 : decode cX6_orderOf 19 = .ok (.iload_n 1, 1) := by decide +kernel
theorem dX6_orderOf_20 : decode cX6_orderOf 20 = .ok (.ireturn, 1) := by decide +kernel
theorem dX6_orderOf_21 : decode cX6_orderOf 21 = .ok (.iinc 1 1, 3) := by decide +kernel
theorem dX6_orderOf_24 : decode cX6_orderOf 24 = .ok (.goto (-22), 3) := by decide +kernel
theorem dX6_orderOf_27 : decode cX6_orderOf 27 = .ok (.iconst (-1), 1) := by decide +kernel
theorem dX6_orderOf_28 : decode cX6_orderOf 28 = .ok (.ireturn, 1) := by decide +kernel
theorem dX6_lowestOf_0 : decode cX6_lowestOf 0 = .ok (.lload_n 0, 1) := by decide +kernel
theorem dX6_lowestOf_1 : decode cX6_lowestOf 1 = .ok (.lload_n 0, 1) := by decide +kernel
theorem dX6_lowestOf_2 : decode cX6_lowestOf 2 = .ok (.lneg, 1) := by decide +kernel
theorem dX6_lowestOf_3 : decode cX6_lowestOf 3 = .ok (.land, 1) := by decide +kernel
theorem dX6_lowestOf_4 : decode cX6_lowestOf 4 = .ok (.lconst 1, 1) := by decide +kernel
theorem dX6_lowestOf_5 : decode cX6_lowestOf 5 = .ok (.lsub, 1) := by decide +kernel
theorem dX6_lowestOf_6 : decode cX6_lowestOf 6 = .ok (.invokestatic 146, 3) := by decide +kernel
theorem dX6_lowestOf_9 : decode cX6_lowestOf 9 = .ok (.bipush 63, 2) := by decide +kernel
theorem dX6_lowestOf_11 : decode cX6_lowestOf 11 = .ok (.iand, 1) := by decide +kernel
theorem dX6_lowestOf_12 : decode cX6_lowestOf 12 = .ok (.ireturn, 1) := by decide +kernel
theorem dX4_worldCount_0 : decode cX4_worldCount 0 = .ok (.iconst 1, 1) := by decide +kernel
theorem dX4_worldCount_1 : decode cX4_worldCount 1 = .ok (.aload_n 0, 1) := by decide +kernel
theorem dX4_worldCount_2 : decode cX4_worldCount 2 = .ok (.getfield 34, 3) := by decide +kernel
theorem dX4_worldCount_5 : decode cX4_worldCount 5 = .ok (.ishl, 1) := by decide +kernel
theorem dX4_worldCount_6 : decode cX4_worldCount 6 = .ok (.ireturn, 1) := by decide +kernel
theorem dX4_allWorlds_0 : decode cX4_allWorlds 0 = .ok (.aload_n 0, 1) := by decide +kernel
theorem dX4_allWorlds_1 : decode cX4_allWorlds 1 = .ok (.getfield 34, 3) := by decide +kernel
theorem dX4_allWorlds_4 : decode cX4_allWorlds 4 = .ok (.bipush 6, 2) := by decide +kernel
theorem dX4_allWorlds_6 : decode cX4_allWorlds 6 = .ok (.if_icmp .lt 9, 3) := by decide +kernel
theorem dX4_allWorlds_9 : decode cX4_allWorlds 9 = .ok (.ldc2_w 70, 3) := by decide +kernel
theorem dX4_allWorlds_12 : decode cX4_allWorlds 12 = .ok (.goto 11, 3) := by decide +kernel
theorem dX4_allWorlds_15 : decode cX4_allWorlds 15 = .ok (.lconst 1, 1) := by decide +kernel
theorem dX4_allWorlds_16 : decode cX4_allWorlds 16 = .ok (.aload_n 0, 1) := by decide +kernel
theorem dX4_allWorlds_17 : decode cX4_allWorlds 17 = .ok (.invokevirtual 78, 3) := by decide +kernel
theorem dX4_allWorlds_20 : decode cX4_allWorlds 20 = .ok (.lshl, 1) := by decide +kernel
theorem dX4_allWorlds_21 : decode cX4_allWorlds 21 = .ok (.lconst 1, 1) := by decide +kernel
theorem dX4_allWorlds_22 : decode cX4_allWorlds 22 = .ok (.lsub, 1) := by decide +kernel
theorem dX4_allWorlds_23 : decode cX4_allWorlds 23 = .ok (.lreturn, 1) := by decide +kernel
theorem dX4_worthTo_0 : decode cX4_worthTo 0 = .ok (.iconst 0, 1) := by decide +kernel
theorem dX4_worthTo_1 : decode cX4_worthTo 1 = .ok (.istore_n 3, 1) := by decide +kernel
theorem dX4_worthTo_2 : decode cX4_worthTo 2 = .ok (.iconst 0, 1) := by decide +kernel
theorem dX4_worthTo_3 : decode cX4_worthTo 3 = .ok (.istore 4, 2) := by decide +kernel
theorem dX4_worthTo_5 : decode cX4_worthTo 5 = .ok (.iload 4, 2) := by decide +kernel
theorem dX4_worthTo_7 : decode cX4_worthTo 7 = .ok (.bipush 6, 2) := by decide +kernel
theorem dX4_worthTo_9 : decode cX4_worthTo 9 = .ok (.if_icmp .ge 31, 3) := by decide +kernel
theorem dX4_worthTo_12 : decode cX4_worthTo 12 = .ok (.iload_n 3, 1) := by decide +kernel
theorem dX4_worthTo_13 : decode cX4_worthTo 13 = .ok (.iload_n 2, 1) := by decide +kernel
theorem dX4_worthTo_14 : decode cX4_worthTo 14 = .ok (.iload 4, 2) := by decide +kernel
theorem dX4_worthTo_16 : decode cX4_worthTo 16 = .ok (.ishr, 1) := by decide +kernel
theorem dX4_worthTo_17 : decode cX4_worthTo 17 = .ok (.iconst 1, 1) := by decide +kernel
theorem dX4_worthTo_18 : decode cX4_worthTo 18 = .ok (.iand, 1) := by decide +kernel
theorem dX4_worthTo_19 : decode cX4_worthTo 19 = .ok (.aload_n 0, 1) := by decide +kernel
theorem dX4_worthTo_20 : decode cX4_worthTo 20 = .ok (.getfield 9, 3) := by decide +kernel
theorem dX4_worthTo_23 : decode cX4_worthTo 23 = .ok (.iload_n 1, 1) := by decide +kernel
theorem dX4_worthTo_24 : decode cX4_worthTo 24 = .ok (.bipush 6, 2) := by decide +kernel
theorem dX4_worthTo_26 : decode cX4_worthTo 26 = .ok (.imul, 1) := by decide +kernel
theorem dX4_worthTo_27 : decode cX4_worthTo 27 = .ok (.iload 4, 2) := by decide +kernel
theorem dX4_worthTo_29 : decode cX4_worthTo 29 = .ok (.iadd, 1) := by decide +kernel
theorem dX4_worthTo_30 : decode cX4_worthTo 30 = .ok (.iaload, 1) := by decide +kernel
theorem dX4_worthTo_31 : decode cX4_worthTo 31 = .ok (.imul, 1) := by decide +kernel
theorem dX4_worthTo_32 : decode cX4_worthTo 32 = .ok (.iadd, 1) := by decide +kernel
theorem dX4_worthTo_33 : decode cX4_worthTo 33 = .ok (.istore_n 3, 1) := by decide +kernel
theorem dX4_worthTo_34 : decode cX4_worthTo 34 = .ok (.iinc 4 1, 3) := by decide +kernel
theorem dX4_worthTo_37 : decode cX4_worthTo 37 = .ok (.goto (-32), 3) := by decide +kernel
theorem dX4_worthTo_40 : decode cX4_worthTo 40 = .ok (.iload_n 3, 1) := by decide +kernel
theorem dX4_worthTo_41 : decode cX4_worthTo 41 = .ok (.ireturn, 1) := by decide +kernel
theorem dX4_stillWorlds_0 : decode cX4_stillWorlds 0 = .ok (.lconst 0, 1) := by decide +kernel
theorem dX4_stillWorlds_1 : decode cX4_stillWorlds 1 = .ok (.lstore_n 3, 1) := by decide +kernel
theorem dX4_stillWorlds_2 : decode cX4_stillWorlds 2 = .ok (.iconst 0, 1) := by decide +kernel
theorem dX4_stillWorlds_3 : decode cX4_stillWorlds 3 = .ok (.istore 5, 2) := by decide +kernel
theorem dX4_stillWorlds_5 : decode cX4_stillWorlds 5 = .ok (.iload 5, 2) := by decide +kernel
theorem dX4_stillWorlds_7 : decode cX4_stillWorlds 7 = .ok (.aload_n 0, 1) := by decide +kernel
theorem dX4_stillWorlds_8 : decode cX4_stillWorlds 8 = .ok (.invokevirtual 78, 3) := by decide +kernel
theorem dX4_stillWorlds_11 : decode cX4_stillWorlds 11 = .ok (.if_icmp .ge 34, 3) := by decide +kernel
theorem dX4_stillWorlds_14 : decode cX4_stillWorlds 14 = .ok (.iload 5, 2) := by decide +kernel
theorem dX4_stillWorlds_16 : decode cX4_stillWorlds 16 = .ok (.iload_n 2, 1) := by decide +kernel
theorem dX4_stillWorlds_17 : decode cX4_stillWorlds 17 = .ok (.ixor, 1) := by decide +kernel
theorem dX4_stillWorlds_18 : decode cX4_stillWorlds 18 = .ok (.iload_n 1, 1) := by decide +kernel
theorem dX4_stillWorlds_19 : decode cX4_stillWorlds 19 = .ok (.iconst (-1), 1) := by decide +kernel
theorem dX4_stillWorlds_20 : decode cX4_stillWorlds 20 = .ok (.ixor, 1) := by decide +kernel
theorem dX4_stillWorlds_21 : decode cX4_stillWorlds 21 = .ok (.iand, 1) := by decide +kernel
theorem dX4_stillWorlds_22 : decode cX4_stillWorlds 22 = .ok (.invokestatic 82, 3) := by decide +kernel
theorem dX4_stillWorlds_25 : decode cX4_stillWorlds 25 = .ok (.aload_n 0, 1) := by decide +kernel
theorem dX4_stillWorlds_26 : decode cX4_stillWorlds 26 = .ok (.getfield 47, 3) := by decide +kernel
theorem dX4_stillWorlds_29 : decode cX4_stillWorlds 29 = .ok (.if_icmp .gt 10, 3) := by decide +kernel
theorem dX4_stillWorlds_32 : decode cX4_stillWorlds 32 = .ok (.lload_n 3, 1) := by decide +kernel
theorem dX4_stillWorlds_33 : decode cX4_stillWorlds 33 = .ok (.lconst 1, 1) := by decide +kernel
theorem dX4_stillWorlds_34 : decode cX4_stillWorlds 34 = .ok (.iload 5, 2) := by decide +kernel
theorem dX4_stillWorlds_36 : decode cX4_stillWorlds 36 = .ok (.lshl, 1) := by decide +kernel
theorem dX4_stillWorlds_37 : decode cX4_stillWorlds 37 = .ok (.lor, 1) := by decide +kernel
theorem dX4_stillWorlds_38 : decode cX4_stillWorlds 38 = .ok (.lstore_n 3, 1) := by decide +kernel
theorem dX4_stillWorlds_39 : decode cX4_stillWorlds 39 = .ok (.iinc 5 1, 3) := by decide +kernel
theorem dX4_stillWorlds_42 : decode cX4_stillWorlds 42 = .ok (.goto (-37), 3) := by decide +kernel
theorem dX4_stillWorlds_45 : decode cX4_stillWorlds 45 = .ok (.lload_n 3, 1) := by decide +kernel
theorem dX4_stillWorlds_46 : decode cX4_stillWorlds 46 = .ok (.lreturn, 1) := by decide +kernel
theorem dX6_gainOf_0 : decode cX6_gainOf 0 = .ok (.aload_n 0, 1) := by decide +kernel
theorem dX6_gainOf_1 : decode cX6_gainOf 1 = .ok (.getfield 10, 3) := by decide +kernel
theorem dX6_gainOf_4 : decode cX6_gainOf 4 = .ok (.iload_n 1, 1) := by decide +kernel
theorem dX6_gainOf_5 : decode cX6_gainOf 5 = .ok (.iload_n 2, 1) := by decide +kernel
theorem dX6_gainOf_6 : decode cX6_gainOf 6 = .ok (.invokevirtual 109, 3) := by decide +kernel
theorem dX6_gainOf_9 : decode cX6_gainOf 9 = .ok (.aload_n 0, 1) := by decide +kernel
theorem dX6_gainOf_10 : decode cX6_gainOf 10 = .ok (.getfield 10, 3) := by decide +kernel
theorem dX6_gainOf_13 : decode cX6_gainOf 13 = .ok (.iload_n 1, 1) := by decide +kernel
theorem dX6_gainOf_14 : decode cX6_gainOf 14 = .ok (.aload_n 0, 1) := by decide +kernel
theorem dX6_gainOf_15 : decode cX6_gainOf 15 = .ok (.getfield 10, 3) := by decide +kernel
theorem dX6_gainOf_18 : decode cX6_gainOf 18 = .ok (.getfield 103, 3) := by decide +kernel
theorem dX6_gainOf_21 : decode cX6_gainOf 21 = .ok (.invokevirtual 109, 3) := by decide +kernel
theorem dX6_gainOf_24 : decode cX6_gainOf 24 = .ok (.isub, 1) := by decide +kernel
theorem dX6_gainOf_25 : decode cX6_gainOf 25 = .ok (.ireturn, 1) := by decide +kernel
theorem vin {k N : Nat} (h : k < N) (hN : N ≤ 1000) : vp_in (nI k) N := pk_in k N h (hN := by omega)
def soB (k : Nat) : Int64 := soL.getD k 0
def fewB (k : Nat) : Int64 := fewL.getD k 0
theorem soB_b : ∀ k, k < 6 → ∀ w, w < 64 → lbit (soB k) w = w.testBit k := by decide +kernel
theorem fewB_b : ∀ k, k < 7 → ∀ w, w < 64 → lbit (fewB k) w = decide (pop 6 w ≤ k) := by decide +kernel
theorem fz_pow {k : Nat} (h : k < 7) : powV (nI k).toNatClampNeg = .int (nI (3 ^ k)) := by
  rw [nI_clamp (by omega)]
  have : ∀ k, k < 7 → ([1, 3, 9, 27, 81, 243, 729] : List Int32).getD k 0 = nI (3 ^ k) := by decide +kernel
  exact congrArg Value.int (this k h)
theorem fz_joi {k : Nat} (h : k < 5) : joiV (nI k).toNatClampNeg = .int (prS k) := by
  rw [nI_clamp (by omega)]
  have : ∀ k, k < 5 → ([38, 124, 62, 61, 94] : List Int32).getD k 0 = prS k := by decide +kernel
  exact congrArg Value.int (this k h)
theorem fz_so {k : Nat} (h : k < 6) : soV (nI k).toNatClampNeg = .long (soB k) := by rw [nI_clamp (by omega)]; rfl
theorem fz_few {k : Nat} (h : k < 7) : fewV (nI k).toNatClampNeg = .long (fewB k) := by rw [nI_clamp (by omega)]; rfl
def orF (s : Int32) : Int32 := if s = 38 then 0 else if s = 124 then 1 else if s = 62 then 2 else if s = 61 then 3 else if s = 94 then 4 else -1
theorem orF_pr : ∀ k, k < 5 → orF (prS k) = nI k := by decide +kernel
theorem orF_no {s : Int32} (h : ∀ i, i < 5 → ¬ prS i = s) : orF s = -1 := by
  have h0 : ¬ s = 38 := fun e => h 0 (by decide) e.symm
  have h1 : ¬ s = 124 := fun e => h 1 (by decide) e.symm
  have h2 : ¬ s = 62 := fun e => h 2 (by decide) e.symm
  have h3 : ¬ s = 61 := fun e => h 3 (by decide) e.symm
  have h4 : ¬ s = 94 := fun e => h 4 (by decide) e.symm
  simp [orF, h0, h1, h2, h3, h4]
theorem isPr_k {s : Int32} (h : isPr s = true) : ∃ k, k < 5 ∧ s = prS k := by
  unfold isPr at h
  simp only [Bool.or_eq_true, decide_eq_true_eq] at h
  rcases h with h | h | h | h | h
  · exact ⟨0, by decide, h⟩
  · exact ⟨1, by decide, h⟩
  · exact ⟨2, by decide, h⟩
  · exact ⟨3, by decide, h⟩
  · exact ⟨4, by decide, h⟩
theorem isPr_n {s : Int32} (h : isPr s = false) : orF s = -1 := by
  apply orF_no
  intro i _ e
  rw [← e, prS_pr] at h
  cases h
-- the lowest bit
theorem low_form {a k : Nat} (h1 : a.testBit k = true) (h2 : ∀ j, j < k → a.testBit j = false) : ∃ q, a = 2 ^ k * (2 * q + 1) := by
  have e1 : a % 2 ^ k = 0 := by
    apply Nat.eq_of_testBit_eq
    intro i
    rw [Nat.testBit_mod_two_pow, Nat.zero_testBit]
    by_cases hi : i < k
    · rw [h2 i hi, Bool.and_false]
    · simp [hi]
  rw [Nat.testBit_eq_decide_div_mod_eq, decide_eq_true_eq] at h1
  have e2 := Nat.mod_add_div a (2 ^ k)
  refine ⟨a / 2 ^ k / 2, ?_⟩
  rw [e1, Nat.zero_add] at e2
  conv => lhs; rw [← e2]
  congr 1
  omega
theorem pred_bits {a k q : Nat} (e : a = 2 ^ k * (2 * q + 1)) (i : Nat) : (a - 1).testBit i = if i < k then true else if i = k then false else a.testBit i := by
  have hp : 0 < 2 ^ k := Nat.pow_pos (by decide)
  have e1 : a - 1 = 2 ^ k * (2 * q) + (2 ^ k - 1) := by rw [e, Nat.mul_add]; omega
  have e2 : a = 2 ^ k * (2 * q + 1) + 0 := e
  rw [e1, Nat.testBit_two_pow_mul_add _ (by omega)]
  by_cases h : i < k
  · rw [if_pos h, if_pos h, Nat.testBit_two_pow_sub_one]; simp [h]
  · rw [if_neg h, if_neg h]
    by_cases h2 : i = k
    · rw [if_pos h2, h2, Nat.sub_self, Nat.testBit_zero]; simp
    · rw [if_neg h2, e2, Nat.testBit_two_pow_mul_add _ hp, if_neg h]
      obtain ⟨j, hj⟩ : ∃ j, i - k = j + 1 := ⟨i - k - 1, by omega⟩
      rw [hj, Nat.testBit_succ, Nat.testBit_succ, show 2 * q / 2 = (2 * q + 1) / 2 by omega]
theorem and_neg {a k q : Nat} (ha : a < 2 ^ 64) (e : a = 2 ^ k * (2 * q + 1)) : a &&& (2 ^ 64 - a) = 2 ^ k := by
  have hp : 0 < 2 ^ k := Nat.pow_pos (by decide)
  have h0 : 0 < a := by rw [e]; exact Nat.mul_pos hp (by omega)
  apply Nat.eq_of_testBit_eq
  intro i
  have e1 : 2 ^ 64 - a = 2 ^ 64 - ((a - 1) + 1) := by omega
  rw [Nat.testBit_and, e1, Nat.testBit_two_pow_sub_succ (by omega), pred_bits e, Nat.testBit_two_pow]
  have e2 : a = 2 ^ k * (2 * q + 1) + 0 := e
  by_cases h : i < k
  · rw [if_pos h, e2, Nat.testBit_two_pow_mul_add _ hp, if_pos h, Nat.zero_testBit]
    simp [show ¬ k = i by omega]
  · rw [if_neg h]
    by_cases h2 : i = k
    · subst h2
      have hk : i < 64 := by
        by_cases hk : i < 64
        · exact hk
        · have : 2 ^ 64 ≤ 2 ^ i := Nat.pow_le_pow_right (by decide) (by omega)
          have : 2 ^ i * 1 ≤ 2 ^ i * (2 * q + 1) := Nat.mul_le_mul_left _ (by omega)
          omega
      rw [if_pos rfl, e2, Nat.testBit_two_pow_mul_add _ hp, if_neg h, Nat.sub_self, Nat.testBit_zero]
      simp [hk]
    · rw [if_neg h2]
      have : ¬ k = i := fun e => h2 e.symm
      cases a.testBit i <;> simp [this]
theorem cN_lt (k : Nat) : ∀ m, cN (fun i => decide (i < k)) m = min k m
  | 0 => by simp [cN]
  | m + 1 => by
    unfold cN
    rw [cN_lt k m]
    by_cases h : m < k
    · simp only [h, decide_true, if_true]; omega
    · simp only [h, decide_false, Bool.false_eq_true, if_false]; omega
theorem lN_neg {a : Nat} (h0 : 0 < a) (ha : a < 2 ^ 64) : -(lN a) = lN (2 ^ 64 - a) := by
  apply Int64.toBitVec_inj.mp
  rw [Int64.toBitVec_neg]
  show -(BitVec.ofNat 64 a) = BitVec.ofNat 64 (2 ^ 64 - a)
  apply BitVec.eq_of_toNat_eq
  rw [BitVec.toNat_neg, BitVec.toNat_ofNat, BitVec.toNat_ofNat, Nat.mod_eq_of_lt ha]
theorem lN_bit {a j : Nat} (ha : a < 2 ^ 64) : lbit (lN a) j = a.testBit j := by
  unfold lbit
  show (BitVec.ofNat 64 a).getLsbD j = _
  rw [BitVec.getLsbD_ofNat]
  by_cases h : j < 64
  · simp [h]
  · rw [Nat.testBit_lt_two_pow (Nat.lt_of_lt_of_le ha (Nat.pow_le_pow_right (by decide) (by omega)))]
    simp
theorem low_l {x : Int64} {k : Nat} (hk : k < 64) (h1 : lbit x k = true) (h2 : ∀ j, j < k → lbit x j = false) : nI (cN (lbit ((x &&& -x) - 1)) 64) &&& 63 = nI k := by
  obtain ⟨a, ha, rfl, hb⟩ := lN_of x
  obtain ⟨q, hq⟩ := low_form ((hb k).symm.trans h1) (fun j hj => (hb j).symm.trans (h2 j hj))
  have hp : 0 < 2 ^ k := Nat.pow_pos (by decide)
  have h0 : 0 < a := by rw [hq]; exact Nat.mul_pos hp (by omega)
  have hk2 : 2 ^ k < 2 ^ 64 := Nat.pow_lt_pow_right (by decide) hk
  rw [lN_neg h0 ha, lN_and, and_neg ha hq, show (1 : Int64) = lN 1 from rfl, lN_sub hp]
  have : cN (lbit (lN (2 ^ k - 1))) 64 = k := by
    rw [cN_congr (q := fun i => decide (i < k)) (fun i _ => by rw [lN_bit (by omega), Nat.testBit_two_pow_sub_one]), cN_lt]
    omega
  rw [this]
  have : ∀ k, k < 64 → nI k &&& 63 = nI k := by decide +kernel
  exact this k hk
theorem clr_l {x : Int64} {k : Nat} (h1 : lbit x k = true) (h2 : ∀ j, j < k → lbit x j = false) (j : Nat) : lbit (x &&& (x - 1)) j = (lbit x j && decide (j ≠ k)) := by
  obtain ⟨a, ha, rfl, hb⟩ := lN_of x
  obtain ⟨q, hq⟩ := low_form ((hb k).symm.trans h1) (fun j hj => (hb j).symm.trans (h2 j hj))
  have hp : 0 < 2 ^ k := Nat.pow_pos (by decide)
  have h0 : 0 < a := by rw [hq]; exact Nat.mul_pos hp (by omega)
  rw [show (1 : Int64) = lN 1 from rfl, lN_sub h0, lN_and, lN_bit (Nat.lt_of_le_of_lt Nat.and_le_left ha), lN_bit ha, Nat.testBit_and, pred_bits hq]
  by_cases h : j < k
  · rw [if_pos h]; simp; omega
  · rw [if_neg h]
    by_cases e : j = k
    · rw [if_pos e]; simp [e]
    · rw [if_neg e]; simp [e]
-- sums
theorem wsum_congr {f g : Nat → Int32} : ∀ {k w : Nat}, (∀ i, i < k → f i = g i) → wsum f k w = wsum g k w
  | 0, _, _ => rfl
  | k + 1, w, h => by unfold wsum; rw [wsum_congr (fun i hi => h i (by omega)), h k (by omega)]
theorem i_add0 (x : Int32) : x + 0 = x := Int32.add_zero x
theorem wsum_hi {f : Nat → Int32} {t w : Nat} (hw : w < 2 ^ t) : ∀ j, wsum f (t + j) w = wsum f t w
  | 0 => rfl
  | j + 1 => by
    show wsum f (t + j) w + (if w.testBit (t + j) then f (t + j) else 0) = _
    rw [wsum_hi hw j, Nat.testBit_lt_two_pow (Nat.lt_of_lt_of_le hw (Nat.pow_le_pow_right (by decide) (by omega)))]
    exact i_add0 _
theorem wsum_6 {f : Nat → Int32} {t w : Nat} (h6 : t ≤ 6) (hw : w < 2 ^ t) : wsum f 6 w = wsum f t w := by
  have := wsum_hi (f := f) hw (6 - t)
  rw [show t + (6 - t) = 6 by omega] at this
  exact this
def wb9 (x : Int32) : Prop := -9 ≤ x.toInt ∧ x.toInt ≤ 9
/-- class and reference hold the same -/
def KI (I : Nat → Nat → Int32) (J : Nat → Nat → Int64) (t sl wy wi he : Nat) : Prop := MI I t sl wy wi he ∧ (I 1 0 = nI t ∧ I 1 1 = nI he ∧ I 1 2 = nI wy ∧ I 1 3 = nI wi ∧ I 1 4 = nI sl) ∧ (J 1 5 = J 33 8 ∧ ∀ w, 2 ^ t ≤ w → lbit (J 33 8) w = false) ∧ (∀ j, j < 24 → I 2 j = I 34 j ∧ wb9 (I 34 j)) ∧ (∀ j, j < 6 → I 3 j = I 35 j ∧ wb9 (I 35 j)) ∧ (∀ j, j < 4 → I 4 j = I 36 j ∧ ∃ v, v ≤ 6 ∧ I 36 j = nI v)
theorem wtK {I : Nat → Nat → Int32} {J : Nat → Nat → Int64} {t sl wy wi he c w : Nat} (hk : KI I J t sl wy wi he) (hc : c < 4) (hw : w < 2 ^ t) : wsum (fun k => I 2 (6 * c + k)) 6 w = wtF I t c w := by
  have h6 := hk.1.2.2.1
  rw [wsum_6 h6 hw]
  exact wsum_congr (fun i hi => (hk.2.2.2.1 (6 * c + i) (by omega)).1)
section CLS1
variable {xl : Nat} {xs : Nat → Int32} {n : Nat} {h : Nat → PC} {I S : Nat → Nat → Int32} {J T : Nat → Nat → Int64} {X : Nat → Option Nat} {t sl wy wi he : Nat}
theorem e_3i : (3 : Int32).toInt = 3 := rfl
theorem e_4i : (4 : Int32).toInt = 4 := rfl
theorem e_0i : (0 : Int32).toInt = 0 := rfl
theorem e_1i : (1 : Int32).toInt = 1 := rfl
theorem e_6i : (6 : Int32).toInt = 6 := rfl
theorem c_X6_isCousin (v : Int32) : Rn xl xs 0 0 0 0 mX6_isCousin [.int v] n h (some (.int (b2i (inb v 0 3)))) n h := by
  intro Q hQ
  show Ev xl xs 0 0 0 0 mX6_isCousin 0 [some (.int v)] [] n h Q
  refine ev_iload_n (q := 1) dX6_isCousin_0 rfl rfl ?_
  refine ev_if_lt (q := 4) 13 dX6_isCousin_1 (by decide) rfl (fun c_1 => ?_) (fun c_1 => ?_)
  · refine ev_iconst (q := 14) (0) dX6_isCousin_13 (by decide) rfl ?_
    exact ev_iretE dX6_isCousin_14 rfl (nar_b2i _) (by first | (rw [b2i_t (inb_t (by simp only [i_le, i_lt, e_3i, e_4i, e_0i] at *; omega) (by simp only [i_le, i_lt, e_3i, e_4i, e_0i] at *; omega))]; done) | (rw [b2i_f (inb_f (by simp only [i_le, i_lt, e_3i, e_4i, e_0i] at *; omega))]; done)) rfl rfl hQ
  · refine ev_iload_n (q := 5) dX6_isCousin_4 rfl rfl ?_
    refine ev_iconst (q := 6) (4) dX6_isCousin_5 (by decide) rfl ?_
    refine ev_icmp_ge (q := 9) 13 dX6_isCousin_6 (by decide) rfl (fun c_6 => ?_) (fun c_6 => ?_)
    · refine ev_iconst (q := 14) (0) dX6_isCousin_13 (by decide) rfl ?_
      exact ev_iretE dX6_isCousin_14 rfl (nar_b2i _) (by first | (rw [b2i_t (inb_t (by simp only [i_le, i_lt, e_3i, e_4i, e_0i] at *; omega) (by simp only [i_le, i_lt, e_3i, e_4i, e_0i] at *; omega))]; done) | (rw [b2i_f (inb_f (by simp only [i_le, i_lt, e_3i, e_4i, e_0i] at *; omega))]; done)) rfl rfl hQ
    · refine ev_iconst (q := 10) (1) dX6_isCousin_9 (by decide) rfl ?_
      refine ev_goto 14 dX6_isCousin_10 (by decide) ?_
      exact ev_iretE dX6_isCousin_14 rfl (nar_b2i _) (by first | (rw [b2i_t (inb_t (by simp only [i_le, i_lt, e_3i, e_4i, e_0i] at *; omega) (by simp only [i_le, i_lt, e_3i, e_4i, e_0i] at *; omega))]; done) | (rw [b2i_f (inb_f (by simp only [i_le, i_lt, e_3i, e_4i, e_0i] at *; omega))]; done)) rfl rfl hQ
theorem c_X6_isWords (v : Int32) : Rn xl xs 0 0 0 0 mX6_isWords [.int v] n h (some (.int (b2i (inb v 0 6)))) n h := by
  intro Q hQ
  show Ev xl xs 0 0 0 0 mX6_isWords 0 [some (.int v)] [] n h Q
  refine ev_iload_n (q := 1) dX6_isWords_0 rfl rfl ?_
  refine ev_if_lt (q := 4) 14 dX6_isWords_1 (by decide) rfl (fun c_1 => ?_) (fun c_1 => ?_)
  · refine ev_iconst (q := 15) (0) dX6_isWords_14 (by decide) rfl ?_
    exact ev_iretE dX6_isWords_15 rfl (nar_b2i _) (by first | (rw [b2i_t (inb_t (by simp only [i_le, i_lt, e_6i, e_0i] at *; omega) (by simp only [i_le, i_lt, e_6i, e_0i] at *; omega))]; done) | (rw [b2i_f (inb_f (by simp only [i_le, i_lt, e_6i, e_0i] at *; omega))]; done)) rfl rfl hQ
  · refine ev_iload_n (q := 5) dX6_isWords_4 rfl rfl ?_
    refine ev_bipush (q := 7) (6) dX6_isWords_5 (by decide) rfl ?_
    refine ev_icmp_gt (q := 10) 14 dX6_isWords_7 (by decide) rfl (fun c_7 => ?_) (fun c_7 => ?_)
    · refine ev_iconst (q := 15) (0) dX6_isWords_14 (by decide) rfl ?_
      exact ev_iretE dX6_isWords_15 rfl (nar_b2i _) (by first | (rw [b2i_t (inb_t (by simp only [i_le, i_lt, e_6i, e_0i] at *; omega) (by simp only [i_le, i_lt, e_6i, e_0i] at *; omega))]; done) | (rw [b2i_f (inb_f (by simp only [i_le, i_lt, e_6i, e_0i] at *; omega))]; done)) rfl rfl hQ
    · refine ev_iconst (q := 11) (1) dX6_isWords_10 (by decide) rfl ?_
      refine ev_goto 15 dX6_isWords_11 (by decide) ?_
      exact ev_iretE dX6_isWords_15 rfl (nar_b2i _) (by first | (rw [b2i_t (inb_t (by simp only [i_le, i_lt, e_6i, e_0i] at *; omega) (by simp only [i_le, i_lt, e_6i, e_0i] at *; omega))]; done) | (rw [b2i_f (inb_f (by simp only [i_le, i_lt, e_6i, e_0i] at *; omega))]; done)) rfl rfl hQ
theorem c_X6_isShare (v : Int32) : Rn xl xs 0 0 0 0 mX6_isShare [.int v] n h (some (.int (b2i (inb v 0 6)))) n h := by
  intro Q hQ
  show Ev xl xs 0 0 0 0 mX6_isShare 0 [some (.int v)] [] n h Q
  refine ev_iload_n (q := 1) dX6_isShare_0 rfl rfl ?_
  refine ev_if_lt (q := 4) 14 dX6_isShare_1 (by decide) rfl (fun c_1 => ?_) (fun c_1 => ?_)
  · refine ev_iconst (q := 15) (0) dX6_isShare_14 (by decide) rfl ?_
    exact ev_iretE dX6_isShare_15 rfl (nar_b2i _) (by first | (rw [b2i_t (inb_t (by simp only [i_le, i_lt, e_6i, e_0i] at *; omega) (by simp only [i_le, i_lt, e_6i, e_0i] at *; omega))]; done) | (rw [b2i_f (inb_f (by simp only [i_le, i_lt, e_6i, e_0i] at *; omega))]; done)) rfl rfl hQ
  · refine ev_iload_n (q := 5) dX6_isShare_4 rfl rfl ?_
    refine ev_bipush (q := 7) (6) dX6_isShare_5 (by decide) rfl ?_
    refine ev_icmp_gt (q := 10) 14 dX6_isShare_7 (by decide) rfl (fun c_7 => ?_) (fun c_7 => ?_)
    · refine ev_iconst (q := 15) (0) dX6_isShare_14 (by decide) rfl ?_
      exact ev_iretE dX6_isShare_15 rfl (nar_b2i _) (by first | (rw [b2i_t (inb_t (by simp only [i_le, i_lt, e_6i, e_0i] at *; omega) (by simp only [i_le, i_lt, e_6i, e_0i] at *; omega))]; done) | (rw [b2i_f (inb_f (by simp only [i_le, i_lt, e_6i, e_0i] at *; omega))]; done)) rfl rfl hQ
    · refine ev_iconst (q := 11) (1) dX6_isShare_10 (by decide) rfl ?_
      refine ev_goto 15 dX6_isShare_11 (by decide) ?_
      exact ev_iretE dX6_isShare_15 rfl (nar_b2i _) (by first | (rw [b2i_t (inb_t (by simp only [i_le, i_lt, e_6i, e_0i] at *; omega) (by simp only [i_le, i_lt, e_6i, e_0i] at *; omega))]; done) | (rw [b2i_f (inb_f (by simp only [i_le, i_lt, e_6i, e_0i] at *; omega))]; done)) rfl rfl hQ
theorem inb_01 (v : Int32) : inb v 0 1 = (decide (v = 0) || decide (v = 1)) := by
  by_cases h0 : v = 0
  · subst h0; rfl
  · by_cases h1 : v = 1
    · subst h1; rfl
    · have e0 : v.toInt ≠ 0 := fun e => h0 (Int32.toInt_inj.mp e)
      have e1 : v.toInt ≠ 1 := fun e => h1 (Int32.toInt_inj.mp e)
      rw [inb_f (by simp only [i_le, e_0i, e_1i]; omega)]
      simp [h0, h1]
theorem c_X6_isBit (v : Int32) : Rn xl xs 0 0 0 0 mX6_isBit [.int v] n h (some (.int (b2i (inb v 0 1)))) n h := by
  intro Q hQ
  show Ev xl xs 0 0 0 0 mX6_isBit 0 [some (.int v)] [] n h Q
  rw [inb_01] at hQ
  refine ev_iload_n (q := 1) dX6_isBit_0 rfl rfl ?_
  refine ev_if_eq (q := 4) 9 dX6_isBit_1 (by decide) rfl (fun c_1 => ?_) (fun c_1 => ?_)
  · have c_1 : v = 0 := c_1
    refine ev_iconst (q := 10) (1) dX6_isBit_9 (by decide) rfl ?_
    refine ev_goto 14 dX6_isBit_10 (by decide) ?_
    exact ev_iretE dX6_isBit_14 rfl (nar_b2i _) (by first | (rw [decide_eq_true c_1]; rfl) | (rw [decide_eq_false c_1, decide_eq_true c_6]; rfl) | (rw [decide_eq_false c_1, decide_eq_false c_6]; rfl)) rfl rfl hQ
  · have c_1 : ¬ v = 0 := c_1
    refine ev_iload_n (q := 5) dX6_isBit_4 rfl rfl ?_
    refine ev_iconst (q := 6) (1) dX6_isBit_5 (by decide) rfl ?_
    refine ev_icmp_ne (q := 9) 13 dX6_isBit_6 (by decide) rfl (fun c_6 => ?_) (fun c_6 => ?_)
    · have c_6 : ¬ v = 1 := c_6
      refine ev_iconst (q := 14) (0) dX6_isBit_13 (by decide) rfl ?_
      exact ev_iretE dX6_isBit_14 rfl (nar_b2i _) (by first | (rw [decide_eq_true c_1]; rfl) | (rw [decide_eq_false c_1, decide_eq_true c_6]; rfl) | (rw [decide_eq_false c_1, decide_eq_false c_6]; rfl)) rfl rfl hQ
    · have c_6 : v = 1 := c_6
      refine ev_iconst (q := 10) (1) dX6_isBit_9 (by decide) rfl ?_
      refine ev_goto 14 dX6_isBit_10 (by decide) ?_
      exact ev_iretE dX6_isBit_14 rfl (nar_b2i _) (by first | (rw [decide_eq_true c_1]; rfl) | (rw [decide_eq_false c_1, decide_eq_true c_6]; rfl) | (rw [decide_eq_false c_1, decide_eq_false c_6]; rfl)) rfl rfl hQ
theorem c_X6_orderOf (s : Int32) : Rn xl xs 0 0 0 0 mX6_orderOf [.int s] n h (some (.int (orF s))) n h := by
  intro Q hQ
  show Ev xl xs 0 0 0 0 mX6_orderOf 0 [some (.int s), none] [] n h Q
  have lp : ∀ j k, k + j = 5 → (∀ i, i < k → ¬ prS i = s) → Ev xl xs 0 0 0 0 mX6_orderOf 2 [some (.int s), some (.int (nI k))] [] n h Q := by
    intro j
    induction j using Nat.strongRecOn with
    | _ j ih =>
      intro k hk hno
      have e : ∀ h1, _ := fun (h1 : j - 1 < j) => ih (j - 1) h1 (k + 1)
      refine ev_iload_n (q := 3) dX6_orderOf_2 rfl rfl ?_
      refine ev_gets (q := 6) (k := 1) dX6_orderOf_3 rfl (tb_in (tt_2 105 rfl) rfl) rfl ?_
      refine ev_flen (q := 7) 5 dX6_orderOf_6 rfl (by decide) rfl ?_
      refine ev_icmp_ge (q := 10) 27 dX6_orderOf_7 (by decide) rfl (fun c_7 => ?_) (fun c_7 => ?_)
      · have c_7 : 5 ≤ k := (nI_leI (a := 5) (by omega) (by omega)).mp c_7
        refine ev_iconst (q := 28) (-1) dX6_orderOf_27 (by decide) rfl ?_
        exact ev_iretE dX6_orderOf_28 rfl rfl (orF_no (fun i hi => hno i (by omega))).symm rfl rfl hQ
      · have c_7 : ¬ 5 ≤ k := fun h => c_7 ((nI_leI (a := 5) (by omega) (by omega)).mpr h)
        refine ev_gets (q := 13) (k := 1) dX6_orderOf_10 rfl (tb_in (tt_2 105 rfl) rfl) rfl ?_
        refine ev_iload_n (q := 14) dX6_orderOf_13 rfl rfl ?_
        refine ev_fiald (q := 15) dX6_orderOf_14 rfl (vin (by omega) (by decide)) (fz_joi (by omega)) rfl ?_
        refine ev_iload_n (q := 16) dX6_orderOf_15 rfl rfl ?_
        refine ev_icmp_ne (q := 19) 21 dX6_orderOf_16 (by decide) rfl (fun c_16 => ?_) (fun c_16 => ?_)
        · have c_16 : ¬ prS k = s := c_16
          refine ev_inc_1 (q := 24) (nI (k + 1)) dX6_orderOf_21 (nI_1 k) rfl rfl ?_
          refine ev_goto 2 dX6_orderOf_24 (by decide) ?_
          exact e (by omega) (by omega) (fun i hi => by by_cases hik : i = k; (rw [hik]; exact c_16); exact hno i (by omega))
        · have c_16 : prS k = s := c_16
          refine ev_iload_n (q := 20) dX6_orderOf_19 rfl rfl ?_
          exact ev_iretE dX6_orderOf_20 rfl rfl (by rw [← c_16, orF_pr k (by omega)]) rfl rfl hQ
  refine ev_iconst (q := 1) (0) dX6_orderOf_0 (by decide) rfl ?_
  refine ev_ist_1 (q := 2) dX6_orderOf_1 rfl rfl ?_
  exact lp 5 0 rfl (fun i hi => absurd hi (by omega))
theorem c_X6_lowestOf {x : Int64} {k : Nat} (hk : k < 64) (h1 : lbit x k = true) (h2 : ∀ j, j < k → lbit x j = false) : Rn xl xs 1 21 0 0 mX6_lowestOf [.long x] n h (some (.int (nI k))) n h := by
  intro Q hQ
  show Ev xl xs 1 21 0 0 mX6_lowestOf 0 [some (.long x), none] [] n h Q
  refine ev_lload_n (q := 1) dX6_lowestOf_0 rfl rfl ?_
  refine ev_lload_n (q := 2) dX6_lowestOf_1 rfl rfl ?_
  refine ev_lneg (q := 3) dX6_lowestOf_2 rfl ?_
  refine ev_land (q := 4) dX6_lowestOf_3 rfl ?_
  refine ev_lconst (q := 5) (1) dX6_lowestOf_4 (by decide) rfl ?_
  refine ev_lsub (q := 6) dX6_lowestOf_5 rfl ?_
  refine ev_callS1i (q := 9) dX6_lowestOf_6 ca_X6_146 (c_bitL _) (Nat.le_of_ble_eq_true rfl) (Nat.le_of_ble_eq_true rfl) (by decide) (by decide) rfl ?_
  refine ev_bipush (q := 11) (63) dX6_lowestOf_9 (by decide) rfl ?_
  refine ev_iand (q := 12) dX6_lowestOf_11 rfl ?_
  exact ev_iretE dX6_lowestOf_12 rfl rfl (low_l hk h1 h2) rfl rfl hQ
theorem c_X4_worldCount (hn : 49 ≤ n) (ht : I 1 0 = nI t) (h6 : t ≤ 6) : Rn xl xs 0 0 0 0 mX4_worldCount [.ref 1] n (sysH I J X) (some (.int (nI (2 ^ t)))) n (sysH I J X) := by
  intro Q hQ
  show Ev xl xs 0 0 0 0 mX4_worldCount 0 [some (.ref 1)] [] n (sysH I J X) Q
  refine ev_iconst (q := 1) (1) dX4_worldCount_0 (by decide) rfl ?_
  refine ev_aload_n (q := 2) dX4_worldCount_1 rfl rfl ?_
  refine ev_get (q := 5) dX4_worldCount_2 fr_X4_34 rfl (lt_n hn (by decide)) rfl rfl ?_
  refine ev_ishl (q := 6) dX4_worldCount_5 rfl ?_
  exact ev_iretE dX4_worldCount_6 rfl rfl (by rw [ht, nI_sh1 (by omega)]) rfl rfl hQ
theorem c_X4_allWorlds (hn : 49 ≤ n) (ht : I 1 0 = nI t) (h6 : t ≤ 6) : Rn xl xs 1 20 0 0 mX4_allWorlds [.ref 1] n (sysH I J X) (some (.long (allL t))) n (sysH I J X) := by
  intro Q hQ
  show Ev xl xs 1 20 0 0 mX4_allWorlds 0 [some (.ref 1)] [] n (sysH I J X) Q
  refine ev_aload_n (q := 1) dX4_allWorlds_0 rfl rfl ?_
  refine ev_get (q := 4) dX4_allWorlds_1 fr_X4_34 rfl (lt_n hn (by decide)) rfl rfl ?_
  refine ev_bipush (q := 6) (6) dX4_allWorlds_4 (by decide) rfl ?_
  rw [ht]
  refine ev_icmp_lt (q := 9) 15 dX4_allWorlds_6 (by decide) rfl (fun c_6 => ?_) (fun c_6 => ?_)
  · have c_6 : ¬ t = 6 := fun h => absurd ((nI_ltI (b := 6) (by omega) (by omega)).mp c_6) (by omega)
    refine ev_lconst (q := 16) (1) dX4_allWorlds_15 (by decide) rfl ?_
    refine ev_aload_n (q := 17) dX4_allWorlds_16 rfl rfl ?_
    refine ev_callV0i (q := 20) dX4_allWorlds_17 ca_X4_78 (c_X4_worldCount hn ht h6) rfl (lt_n hn (by decide)) rfl rfl (Nat.le_of_ble_eq_true rfl) (Nat.le_of_ble_eq_true rfl) (by decide) (by decide) rfl ?_
    refine ev_lshl (q := 21) dX4_allWorlds_20 rfl ?_
    refine ev_lconst (q := 22) (1) dX4_allWorlds_21 (by decide) rfl ?_
    refine ev_lsub (q := 23) dX4_allWorlds_22 rfl ?_
    exact ev_lretE dX4_allWorlds_23 rfl (by first | (rw [c_6, allL_6]; done) | exact allL_lt t (by omega)) rfl rfl hQ
  · have c_6 : t = 6 := by have : ¬ t < 6 := fun h => c_6 ((nI_ltI (b := 6) (by omega) (by omega)).mpr h); omega
    refine ev_ldc2 (q := 12) co_X4_70 dX4_allWorlds_9 rfl ?_
    refine ev_goto 23 dX4_allWorlds_12 (by decide) ?_
    exact ev_lretE dX4_allWorlds_23 rfl (by first | (rw [c_6, allL_6]; done) | exact allL_lt t (by omega)) rfl rfl hQ
theorem k_X4_worldCount (hn : 49 ≤ n) (hk : KI I J t sl wy wi he) : Rn xl xs 0 0 0 0 mX4_worldCount [.ref 1] n (sysH (ov I S) (ovJ J T) X) (some (.int (nI (2 ^ t)))) n (sysH (ov I S) (ovJ J T) X) := c_X4_worldCount (I := ov I S) hn hk.2.1.1 hk.1.2.2.1
theorem k_X4_allWorlds (hn : 49 ≤ n) (hk : KI I J t sl wy wi he) : Rn xl xs 1 20 0 0 mX4_allWorlds [.ref 1] n (sysH (ov I S) (ovJ J T) X) (some (.long (allL t))) n (sysH (ov I S) (ovJ J T) X) := c_X4_allWorlds (I := ov I S) hn hk.2.1.1 hk.1.2.2.1
theorem k_X6_isThing (hn : 49 ≤ n) (hk : KI I J t sl wy wi he) (v : Int32) : Rn xl xs 0 0 0 0 mX6_isThing [.ref 0, .int v] n (sysH (ov I S) (ovJ J T) X) (some (.int (b2i (inb v 0 (nI t - 1))))) n (sysH (ov I S) (ovJ J T) X) := by
  intro Q hQ
  have h6 := hk.1.2.2.1
  have h2 := hk.1.2.1
  have e1 : (nI t).toInt = t := nI_toInt (by omega)
  have e2 : (nI t - 1).toInt = (t : Int) - 1 := by rw [show nI t - 1 = nI (t - 1) from pk_sub (b := 1) (by omega), nI_toInt (by omega)]; omega
  show Ev xl xs 0 0 0 0 mX6_isThing 0 [some (.ref 0), some (.int v)] [] n (sysH (ov I S) (ovJ J T) X) Q
  refine ev_iload_n (q := 1) dX6_isThing_0 rfl rfl ?_
  refine ev_if_lt (q := 4) 19 dX6_isThing_1 (by decide) rfl (fun c_1 => ?_) (fun c_1 => ?_)
  · refine ev_iconst (q := 20) (0) dX6_isThing_19 (by decide) rfl ?_
    exact ev_iretE dX6_isThing_20 rfl (nar_b2i _) (by first | (rw [b2i_t (inb_t (by simp only [i_le, i_lt, e_0i] at *; omega) (by simp only [i_le, i_lt, e_0i] at *; omega))]; done) | (rw [b2i_f (inb_f (by simp only [i_le, i_lt, e_0i] at *; omega))]; done)) rfl rfl hQ
  · refine ev_iload_n (q := 5) dX6_isThing_4 rfl rfl ?_
    refine ev_aload_n (q := 6) dX6_isThing_5 rfl rfl ?_
    refine ev_get (q := 9) dX6_isThing_6 fr_X6_10 rfl (lt_n hn (by decide)) rfl rfl ?_
    refine ev_get (q := 12) dX6_isThing_9 fr_X6_74 rfl (lt_n hn (by decide)) rfl rfl ?_
    rw [show ov I S 1 0 = nI t from hk.2.1.1]
    refine ev_icmp_ge (q := 15) 19 dX6_isThing_12 (by decide) rfl (fun c_12 => ?_) (fun c_12 => ?_)
    · refine ev_iconst (q := 20) (0) dX6_isThing_19 (by decide) rfl ?_
      exact ev_iretE dX6_isThing_20 rfl (nar_b2i _) (by first | (rw [b2i_t (inb_t (by simp only [i_le, i_lt, e_0i] at *; omega) (by simp only [i_le, i_lt, e_0i] at *; omega))]; done) | (rw [b2i_f (inb_f (by simp only [i_le, i_lt, e_0i] at *; omega))]; done)) rfl rfl hQ
    · refine ev_iconst (q := 16) (1) dX6_isThing_15 (by decide) rfl ?_
      refine ev_goto 20 dX6_isThing_16 (by decide) ?_
      exact ev_iretE dX6_isThing_20 rfl (nar_b2i _) (by first | (rw [b2i_t (inb_t (by simp only [i_le, i_lt, e_0i] at *; omega) (by simp only [i_le, i_lt, e_0i] at *; omega))]; done) | (rw [b2i_f (inb_f (by simp only [i_le, i_lt, e_0i] at *; omega))]; done)) rfl rfl hQ
theorem k_X6_isWorld (hn : 49 ≤ n) (hk : KI I J t sl wy wi he) (v : Int32) : Rn xl xs 1 20 0 0 mX6_isWorld [.ref 0, .int v] n (sysH (ov I S) (ovJ J T) X) (some (.int (b2i (inb v 0 (nI (2 ^ t) - 1))))) n (sysH (ov I S) (ovJ J T) X) := by
  intro Q hQ
  have h64 := p2_le hk.1.2.2.1
  have h0 : 0 < 2 ^ t := Nat.pow_pos (by decide)
  have e1 : (nI (2 ^ t)).toInt = ((2 ^ t : Nat) : Int) := nI_toInt (by omega)
  have e2 : (nI (2 ^ t) - 1).toInt = ((2 ^ t : Nat) : Int) - 1 := by rw [show nI (2 ^ t) - 1 = nI (2 ^ t - 1) from pk_sub (b := 1) (by omega), nI_toInt (by omega)]; omega
  show Ev xl xs 1 20 0 0 mX6_isWorld 0 [some (.ref 0), some (.int v)] [] n (sysH (ov I S) (ovJ J T) X) Q
  generalize hN : 2 ^ t = N at *
  refine ev_iload_n (q := 1) dX6_isWorld_0 rfl rfl ?_
  refine ev_if_lt (q := 4) 19 dX6_isWorld_1 (by decide) rfl (fun c_1 => ?_) (fun c_1 => ?_)
  · refine ev_iconst (q := 20) (0) dX6_isWorld_19 (by decide) rfl ?_
    exact ev_iretE dX6_isWorld_20 rfl (nar_b2i _) (by first | (rw [b2i_t (inb_t (by simp only [i_le, i_lt, e_0i] at *; omega) (by simp only [i_le, i_lt, e_0i] at *; omega))]; done) | (rw [b2i_f (inb_f (by simp only [i_le, i_lt, e_0i] at *; omega))]; done)) rfl rfl hQ
  · refine ev_iload_n (q := 5) dX6_isWorld_4 rfl rfl ?_
    refine ev_aload_n (q := 6) dX6_isWorld_5 rfl rfl ?_
    refine ev_get (q := 9) dX6_isWorld_6 fr_X6_10 rfl (lt_n hn (by decide)) rfl rfl ?_
    refine ev_callV0i (q := 12) dX6_isWorld_9 ca_X6_307 (hN ▸ k_X4_worldCount hn hk) rfl (lt_n hn (by decide)) rfl rfl (Nat.le_of_ble_eq_true rfl) (Nat.le_of_ble_eq_true rfl) (by decide) (by decide) rfl ?_
    refine ev_icmp_ge (q := 15) 19 dX6_isWorld_12 (by decide) rfl (fun c_12 => ?_) (fun c_12 => ?_)
    · refine ev_iconst (q := 20) (0) dX6_isWorld_19 (by decide) rfl ?_
      exact ev_iretE dX6_isWorld_20 rfl (nar_b2i _) (by first | (rw [b2i_t (inb_t (by simp only [i_le, i_lt, e_0i] at *; omega) (by simp only [i_le, i_lt, e_0i] at *; omega))]; done) | (rw [b2i_f (inb_f (by simp only [i_le, i_lt, e_0i] at *; omega))]; done)) rfl rfl hQ
    · refine ev_iconst (q := 16) (1) dX6_isWorld_15 (by decide) rfl ?_
      refine ev_goto 20 dX6_isWorld_16 (by decide) ?_
      exact ev_iretE dX6_isWorld_20 rfl (nar_b2i _) (by first | (rw [b2i_t (inb_t (by simp only [i_le, i_lt, e_0i] at *; omega) (by simp only [i_le, i_lt, e_0i] at *; omega))]; done) | (rw [b2i_f (inb_f (by simp only [i_le, i_lt, e_0i] at *; omega))]; done)) rfl rfl hQ
theorem bit_mul {w k : Nat} {x : Int32} (hw : w < 2 ^ 31) (hk : k < 31) : (nI w >>> (nI k &&& 31) &&& 1) * x = if w.testBit k then x else 0 := by
  rw [nI_bit hw hk]
  cases w.testBit k
  · show (0 : Int32) * x = 0; exact Int32.zero_mul
  · show (1 : Int32) * x = x; exact Int32.one_mul x
theorem k_X4_worthTo {c w : Nat} (hn : 49 ≤ n) (hc : c < 4) (hw : w < 64) : Rn xl xs 0 0 0 0 mX4_worthTo [.ref 1, .int (nI c), .int (nI w)] n (sysH (ov I S) (ovJ J T) X) (some (.int (wsum (fun k => I 2 (6 * c + k)) 6 w))) n (sysH (ov I S) (ovJ J T) X) := by
  intro Q hQ
  show Ev xl xs 0 0 0 0 mX4_worthTo 0 [some (.ref 1), some (.int (nI c)), some (.int (nI w)), none, none] [] n (sysH (ov I S) (ovJ J T) X) Q
  have lp : ∀ j k, k + j = 6 → Ev xl xs 0 0 0 0 mX4_worthTo 5 [some (.ref 1), some (.int (nI c)), some (.int (nI w)), some (.int (wsum (fun k => I 2 (6 * c + k)) k w)), some (.int (nI k))] [] n (sysH (ov I S) (ovJ J T) X) Q := by
    intro j
    induction j using Nat.strongRecOn with
    | _ j ih =>
      intro k hk
      have e : ∀ h1, _ := fun (h1 : j - 1 < j) => ih (j - 1) h1 (k + 1)
      refine ev_iload (q := 7) dX4_worthTo_5 rfl rfl ?_
      refine ev_bipush (q := 9) (6) dX4_worthTo_7 (by decide) rfl ?_
      refine ev_icmp_ge (q := 12) 40 dX4_worthTo_9 (by decide) rfl (fun c_9 => ?_) (fun c_9 => ?_)
      · have c_9 : 6 ≤ k := (nI_leI (a := 6) (by omega) (by omega)).mp c_9
        refine ev_iload_n (q := 41) dX4_worthTo_40 rfl rfl ?_
        exact ev_iretE dX4_worthTo_41 rfl rfl (by rw [show k = 6 by omega]) rfl rfl hQ
      · have c_9 : ¬ 6 ≤ k := fun h => c_9 ((nI_leI (a := 6) (by omega) (by omega)).mpr h)
        refine ev_iload_n (q := 13) dX4_worthTo_12 rfl rfl ?_
        refine ev_iload_n (q := 14) dX4_worthTo_13 rfl rfl ?_
        refine ev_iload (q := 16) dX4_worthTo_14 rfl rfl ?_
        refine ev_ishr (q := 17) dX4_worthTo_16 rfl ?_
        refine ev_iconst (q := 18) (1) dX4_worthTo_17 (by decide) rfl ?_
        refine ev_iand (q := 19) dX4_worthTo_18 rfl ?_
        refine ev_aload_n (q := 20) dX4_worthTo_19 rfl rfl ?_
        refine ev_get (q := 23) dX4_worthTo_20 fr_X4_9 rfl (lt_n hn (by decide)) rfl rfl ?_
        refine ev_iload_n (q := 24) dX4_worthTo_23 rfl rfl ?_
        refine ev_bipush (q := 26) (6) dX4_worthTo_24 (by decide) rfl ?_
        refine ev_imul (q := 27) dX4_worthTo_26 rfl ?_
        refine ev_iload (q := 29) dX4_worthTo_27 rfl rfl ?_
        refine ev_iadd (q := 30) dX4_worthTo_29 rfl ?_
        refine ev_iaS (q := 31) (6 * c + k) dX4_worthTo_30 (by rw [show (6 : Int32) = nI 6 from rfl, pk_mul, nI_add, Nat.mul_comm]) rfl (by omega) (lt_n hn (by decide)) rfl ?_
        refine ev_imul (q := 32) dX4_worthTo_31 rfl ?_
        refine ev_iadd (q := 33) dX4_worthTo_32 rfl ?_
        rw [bit_mul (by omega) (by omega)]
        refine ev_ist_3 (q := 34) dX4_worthTo_33 rfl rfl ?_
        refine ev_inc_4 (q := 37) (nI (k + 1)) dX4_worthTo_34 (nI_1 k) rfl rfl ?_
        refine ev_goto 5 dX4_worthTo_37 (by decide) ?_
        exact e (by omega) (by omega)
  refine ev_iconst (q := 1) (0) dX4_worthTo_0 (by decide) rfl ?_
  refine ev_ist_3 (q := 2) dX4_worthTo_1 rfl rfl ?_
  refine ev_iconst (q := 3) (0) dX4_worthTo_2 (by decide) rfl ?_
  refine ev_ist_4 (q := 5) dX4_worthTo_3 rfl rfl ?_
  exact lp 6 0 (by omega)
theorem kw_X4_worthTo {c w : Nat} (hn : 49 ≤ n) (hk : KI I J t sl wy wi he) (hc : c < 4) (hw : w < 2 ^ t) : Rn xl xs 0 0 0 0 mX4_worthTo [.ref 1, .int (nI c), .int (nI w)] n (sysH (ov I S) (ovJ J T) X) (some (.int (wtF I t c w))) n (sysH (ov I S) (ovJ J T) X) := by
  have h64 := p2_le hk.1.2.2.1
  rw [← wtK hk hc hw]
  exact k_X4_worthTo hn hc (by omega)
theorem k_X6_gainOf {c w : Nat} (hn : 49 ≤ n) (hk : KI I J t sl wy wi he) (hc : c < 4) (hw : w < 2 ^ t) : Rn xl xs 1 24 0 0 mX6_gainOf [.ref 0, .int (nI c), .int (nI w)] n (sysH (ov I S) (ovJ J T) X) (some (.int (wtF I t c w - wtF I t c he))) n (sysH (ov I S) (ovJ J T) X) := by
  intro Q hQ
  have hhl := hk.1.2.2.2.2.2.2.2.2.2.2
  show Ev xl xs 1 24 0 0 mX6_gainOf 0 [some (.ref 0), some (.int (nI c)), some (.int (nI w))] [] n (sysH (ov I S) (ovJ J T) X) Q
  refine ev_aload_n (q := 1) dX6_gainOf_0 rfl rfl ?_
  refine ev_get (q := 4) dX6_gainOf_1 fr_X6_10 rfl (lt_n hn (by decide)) rfl rfl ?_
  refine ev_iload_n (q := 5) dX6_gainOf_4 rfl rfl ?_
  refine ev_iload_n (q := 6) dX6_gainOf_5 rfl rfl ?_
  refine ev_callV2i (q := 9) dX6_gainOf_6 ca_X6_109 (kw_X4_worthTo hn hk (by omega) (by omega)) rfl (lt_n hn (by decide)) rfl rfl (Nat.le_of_ble_eq_true rfl) (Nat.le_of_ble_eq_true rfl) (by decide) (by decide) rfl ?_
  refine ev_aload_n (q := 10) dX6_gainOf_9 rfl rfl ?_
  refine ev_get (q := 13) dX6_gainOf_10 fr_X6_10 rfl (lt_n hn (by decide)) rfl rfl ?_
  refine ev_iload_n (q := 14) dX6_gainOf_13 rfl rfl ?_
  refine ev_aload_n (q := 15) dX6_gainOf_14 rfl rfl ?_
  refine ev_get (q := 18) dX6_gainOf_15 fr_X6_10 rfl (lt_n hn (by decide)) rfl rfl ?_
  refine ev_get (q := 21) dX6_gainOf_18 fr_X6_103 rfl (lt_n hn (by decide)) rfl rfl ?_
  rw [show ov I S 1 1 = nI he from hk.2.1.2.1]
  refine ev_callV2i (q := 24) dX6_gainOf_21 ca_X6_109 (kw_X4_worthTo hn hk (by omega) (by omega)) rfl (lt_n hn (by decide)) rfl rfl (Nat.le_of_ble_eq_true rfl) (Nat.le_of_ble_eq_true rfl) (by decide) (by decide) rfl ?_
  refine ev_isub (q := 25) dX6_gainOf_24 rfl ?_
  exact ev_iretE dX6_gainOf_25 rfl rfl rfl rfl rfl hQ
def slW (t sl sd a : Nat) : Int64 := mk64 (fun w => decide (pop 6 ((w ^^^ a) &&& (63 ^^^ sd)) ≤ sl)) (2 ^ t)
theorem k_X4_stillWorlds {sd a : Nat} (hn : 49 ≤ n) (hk : KI I J t sl wy wi he) (hsd : sd < 64) (ha : a < 64) : Rn xl xs 1 20 0 0 mX4_stillWorlds [.ref 1, .int (nI sd), .int (nI a)] n (sysH (ov I S) (ovJ J T) X) (some (.long (slW t sl sd a))) n (sysH (ov I S) (ovJ J T) X) := by
  intro Q hQ
  have h64 := p2_le hk.1.2.2.1
  have hs6 := hk.1.2.2.2.2.1
  show Ev xl xs 1 20 0 0 mX4_stillWorlds 0 [some (.ref 1), some (.int (nI sd)), some (.int (nI a)), none, none, none] [] n (sysH (ov I S) (ovJ J T) X) Q
  have lp : ∀ j k, k + j = 2 ^ t → Ev xl xs 1 20 0 0 mX4_stillWorlds 5 [some (.ref 1), some (.int (nI sd)), some (.int (nI a)), some (.long (mk64 (fun w => decide (pop 6 ((w ^^^ a) &&& (63 ^^^ sd)) ≤ sl)) k)), none, some (.int (nI k))] [] n (sysH (ov I S) (ovJ J T) X) Q := by
    intro j
    induction j using Nat.strongRecOn with
    | _ j ih =>
      intro k hk2
      have e : ∀ h1, _ := fun (h1 : j - 1 < j) => ih (j - 1) h1 (k + 1)
      have hpl := pop_le 6 ((k ^^^ a) &&& (63 ^^^ sd))
      refine ev_iload (q := 7) dX4_stillWorlds_5 rfl rfl ?_
      refine ev_aload_n (q := 8) dX4_stillWorlds_7 rfl rfl ?_
      refine ev_callV0i (q := 11) dX4_stillWorlds_8 ca_X4_78 (k_X4_worldCount hn hk) rfl (lt_n hn (by decide)) rfl rfl (Nat.le_of_ble_eq_true rfl) (Nat.le_of_ble_eq_true rfl) (by decide) (by decide) rfl ?_
      refine ev_icmp_ge (q := 14) 45 dX4_stillWorlds_11 (by decide) rfl (fun c_11 => ?_) (fun c_11 => ?_)
      · have c_11 : 2 ^ t ≤ k := (nI_leI (by omega) (by omega)).mp c_11
        refine ev_lload_n (q := 46) dX4_stillWorlds_45 rfl rfl ?_
        exact ev_lretE dX4_stillWorlds_46 rfl (by rw [show k = 2 ^ t by omega]; rfl) rfl rfl hQ
      · have c_11 : ¬ 2 ^ t ≤ k := fun h => c_11 ((nI_leI (by omega) (by omega)).mpr h)
        have hx : k ^^^ a < 64 := Nat.xor_lt_two_pow (n := 6) (by omega) ha
        have hb : (k ^^^ a) &&& (63 ^^^ sd) < 64 := Nat.lt_of_le_of_lt Nat.and_le_left hx
        have e := e (by omega) (by omega)
        refine ev_iload (q := 16) dX4_stillWorlds_14 rfl rfl ?_
        refine ev_iload_n (q := 17) dX4_stillWorlds_16 rfl rfl ?_
        refine ev_ixor (q := 18) dX4_stillWorlds_17 rfl ?_
        refine ev_iload_n (q := 19) dX4_stillWorlds_18 rfl rfl ?_
        refine ev_iconst (q := 20) (-1) dX4_stillWorlds_19 (by decide) rfl ?_
        refine ev_ixor (q := 21) dX4_stillWorlds_20 rfl ?_
        refine ev_iand (q := 22) dX4_stillWorlds_21 rfl ?_
        rw [nI_xor, nI_not hx hsd]
        refine ev_callS1i (q := 25) dX4_stillWorlds_22 ca_X4_82 (c_bitI (by omega)) (Nat.le_of_ble_eq_true rfl) (Nat.le_of_ble_eq_true rfl) (by decide) (by decide) rfl ?_
        refine ev_aload_n (q := 26) dX4_stillWorlds_25 rfl rfl ?_
        refine ev_get (q := 29) dX4_stillWorlds_26 fr_X4_47 rfl (lt_n hn (by decide)) rfl rfl ?_
        rw [show ov I S 1 4 = nI sl from hk.2.1.2.2.2.2]
        refine ev_icmp_gt (q := 32) 39 dX4_stillWorlds_29 (by decide) rfl (fun c_29 => ?_) (fun c_29 => ?_)
        · have c_29 : ¬ pop 6 ((k ^^^ a) &&& (63 ^^^ sd)) ≤ sl := Nat.not_le.mpr ((nI_ltI (by omega) (by omega)).mp c_29)
          refine ev_inc_5 (q := 42) (nI (k + 1)) dX4_stillWorlds_39 (nI_1 k) rfl rfl ?_
          refine ev_goto 5 dX4_stillWorlds_42 (by decide) ?_
          simp only [mk64, c_29, decide_true, decide_false, if_true, Bool.false_eq_true, if_false] at e
          first | exact e | (rw [show ∀ z : Int64, z ||| 0 = z from fun z => Int64.or_zero] at e; exact e)
        · have c_29 : pop 6 ((k ^^^ a) &&& (63 ^^^ sd)) ≤ sl := Nat.not_lt.mp fun h => c_29 ((nI_ltI (by omega) (by omega)).mpr h)
          refine ev_lload_n (q := 33) dX4_stillWorlds_32 rfl rfl ?_
          refine ev_lconst (q := 34) (1) dX4_stillWorlds_33 (by decide) rfl ?_
          refine ev_iload (q := 36) dX4_stillWorlds_34 rfl rfl ?_
          refine ev_lshl (q := 37) dX4_stillWorlds_36 rfl ?_
          refine ev_lor (q := 38) dX4_stillWorlds_37 rfl ?_
          refine ev_lst_3 (q := 39) dX4_stillWorlds_38 rfl rfl ?_
          refine ev_inc_5 (q := 42) (nI (k + 1)) dX4_stillWorlds_39 (nI_1 k) rfl rfl ?_
          refine ev_goto 5 dX4_stillWorlds_42 (by decide) ?_
          simp only [mk64, c_29, decide_true, decide_false, if_true, Bool.false_eq_true, if_false] at e
          first | exact e | (rw [show ∀ z : Int64, z ||| 0 = z from fun z => Int64.or_zero] at e; exact e)
  refine ev_lconst (q := 1) (0) dX4_stillWorlds_0 (by decide) rfl ?_
  refine ev_lst_3 (q := 2) dX4_stillWorlds_1 rfl rfl ?_
  refine ev_iconst (q := 3) (0) dX4_stillWorlds_2 (by decide) rfl ?_
  refine ev_ist_5 (q := 5) dX4_stillWorlds_3 rfl rfl ?_
  exact lp (2 ^ t) 0 (by omega)
end CLS1
