theorem dX1_worldsFrom_0 : decode cX1_worldsFrom 0 = .ok (.iconst 0, 1) := by decide +kernel
theorem dX1_worldsFrom_1 : decode cX1_worldsFrom 1 = .ok (.istore_n 2, 1) := by decide +kernel
theorem dX1_worldsFrom_2 : decode cX1_worldsFrom 2 = .ok (.aload_n 0, 1) := by decide +kernel
theorem dX1_worldsFrom_3 : decode cX1_worldsFrom 3 = .ok (.getfield 19, 3) := by decide +kernel
theorem dX1_worldsFrom_6 : decode cX1_worldsFrom 6 = .ok (.iconst 1, 1) := by decide +kernel
theorem dX1_worldsFrom_7 : decode cX1_worldsFrom 7 = .ok (.isub, 1) := by decide +kernel
theorem dX1_worldsFrom_8 : decode cX1_worldsFrom 8 = .ok (.istore_n 3, 1) := by decide +kernel
theorem dX1_worldsFrom_9 : decode cX1_worldsFrom 9 = .ok (.iload_n 3, 1) := by decide +kernel
theorem dX1_worldsFrom_10 : decode cX1_worldsFrom 10 = .ok (.ifCond .lt 147, 3) := by decide +kernel
theorem dX1_worldsFrom_13 : decode cX1_worldsFrom 13 = .ok (.aload_n 0, 1) := by decide +kernel
theorem dX1_worldsFrom_14 : decode cX1_worldsFrom 14 = .ok (.getfield 9, 3) := by decide +kernel
theorem dX1_worldsFrom_17 : decode cX1_worldsFrom 17 = .ok (.iload_n 3, 1) := by decide +kernel
theorem dX1_worldsFrom_18 : decode cX1_worldsFrom 18 = .ok (.iaload, 1) := by decide +kernel
theorem dX1_worldsFrom_19 : decode cX1_worldsFrom 19 = .ok (.istore 4, 2) := by decide +kernel
theorem dX1_worldsFrom_21 : decode cX1_worldsFrom 21 = .ok (.iload 4, 2) := by decide +kernel
theorem dX1_worldsFrom_23 : decode cX1_worldsFrom 23 = .ok (.invokestatic 27, 3) := by decide +kernel
theorem dX1_worldsFrom_26 : decode cX1_worldsFrom 26 = .ok (.istore 5, 2) := by decide +kernel
theorem dX1_worldsFrom_28 : decode cX1_worldsFrom 28 = .ok (.iload 5, 2) := by decide +kernel
theorem dX1_worldsFrom_30 : decode cX1_worldsFrom 30 = .ok (.ifCond .lt 41, 3) := by decide +kernel
theorem dX1_worldsFrom_33 : decode cX1_worldsFrom 33 = .ok (.iload_n 2, 1) := by decide +kernel
theorem dX1_worldsFrom_34 : decode cX1_worldsFrom 34 = .ok (.iconst 2, 1) := by decide +kernel
theorem dX1_worldsFrom_35 : decode cX1_worldsFrom 35 = .ok (.if_icmp .lt 116, 3) := by decide +kernel
theorem dX1_worldsFrom_38 : decode cX1_worldsFrom 38 = .ok (.iinc 2 (-1), 3) := by decide +kernel
theorem dX1_worldsFrom_41 : decode cX1_worldsFrom 41 = .ok (.aload_n 0, 1) := by decide +kernel
theorem dX1_worldsFrom_42 : decode cX1_worldsFrom 42 = .ok (.getfield 15, 3) := by decide +kernel
theorem dX1_worldsFrom_45 : decode cX1_worldsFrom 45 = .ok (.iload_n 2, 1) := by decide +kernel
theorem dX1_worldsFrom_46 : decode cX1_worldsFrom 46 = .ok (.iconst 1, 1) := by decide +kernel
theorem dX1_worldsFrom_47 : decode cX1_worldsFrom 47 = .ok (.isub, 1) := by decide +kernel
theorem dX1_worldsFrom_48 : decode cX1_worldsFrom 48 = .ok (.iload 5, 2) := by decide +kernel
theorem dX1_worldsFrom_50 : decode cX1_worldsFrom 50 = .ok (.aload_n 0, 1) := by decide +kernel
theorem dX1_worldsFrom_51 : decode cX1_worldsFrom 51 = .ok (.getfield 15, 3) := by decide +kernel
theorem dX1_worldsFrom_54 : decode cX1_worldsFrom 54 = .ok (.iload_n 2, 1) := by decide +kernel
theorem dX1_worldsFrom_55 : decode cX1_worldsFrom 55 = .ok (.laload, 1) := by decide +kernel
theorem dX1_worldsFrom_56 : decode cX1_worldsFrom 56 = .ok (.aload_n 0, 1) := by decide +kernel
theorem dX1_worldsFrom_57 : decode cX1_worldsFrom 57 = .ok (.getfield 15, 3) := by decide +kernel
theorem dX1_worldsFrom_60 : decode cX1_worldsFrom 60 = .ok (.iload_n 2, 1) := by decide +kernel
theorem dX1_worldsFrom_61 : decode cX1_worldsFrom 61 = .ok (.iconst 1, 1) := by decide +kernel
theorem dX1_worldsFrom_62 : decode cX1_worldsFrom 62 = .ok (.isub, 1) := by decide +kernel
theorem dX1_worldsFrom_63 : decode cX1_worldsFrom 63 = .ok (.laload, 1) := by decide +kernel
theorem dX1_worldsFrom_64 : decode cX1_worldsFrom 64 = .ok (.invokestatic 31, 3) := by decide +kernel
theorem dX1_worldsFrom_67 : decode cX1_worldsFrom 67 = .ok (.lastore, 1) := by decide +kernel
theorem dX1_worldsFrom_68 : decode cX1_worldsFrom 68 = .ok (.goto 83, 3) := by decide +kernel
theorem dX1_worldsFrom_71 : decode cX1_worldsFrom 71 = .ok (.iload 4, 2) := by decide +kernel
theorem dX1_worldsFrom_73 : decode cX1_worldsFrom 73 = .ok (.bipush 45, 2) := by decide +kernel
theorem dX1_worldsFrom_75 : decode cX1_worldsFrom 75 = .ok (.if_icmp .eq 10, 3) := by decide +kernel
theorem dX1_worldsFrom_78 : decode cX1_worldsFrom 78 = .ok (.iload 4, 2) := by decide +kernel
theorem dX1_worldsFrom_80 : decode cX1_worldsFrom 80 = .ok (.bipush 126, 2) := by decide +kernel
theorem dX1_worldsFrom_82 : decode cX1_worldsFrom 82 = .ok (.if_icmp .ne 49, 3) := by decide +kernel
theorem dX1_worldsFrom_85 : decode cX1_worldsFrom 85 = .ok (.iload_n 2, 1) := by decide +kernel
theorem dX1_worldsFrom_86 : decode cX1_worldsFrom 86 = .ok (.iconst 1, 1) := by decide +kernel
theorem dX1_worldsFrom_87 : decode cX1_worldsFrom 87 = .ok (.if_icmp .lt 64, 3) := by decide +kernel
theorem dX1_worldsFrom_90 : decode cX1_worldsFrom 90 = .ok (.iload 4, 2) := by decide +kernel
theorem dX1_worldsFrom_92 : decode cX1_worldsFrom 92 = .ok (.bipush 45, 2) := by decide +kernel
theorem dX1_worldsFrom_94 : decode cX1_worldsFrom 94 = .ok (.if_icmp .eq 14, 3) := by decide +kernel
theorem dX1_worldsFrom_97 : decode cX1_worldsFrom 97 = .ok (.aload_n 0, 1) := by decide +kernel
theorem dX1_worldsFrom_98 : decode cX1_worldsFrom 98 = .ok (.iload_n 3, 1) := by decide +kernel
theorem dX1_worldsFrom_99 : decode cX1_worldsFrom 99 = .ok (.iconst 1, 1) := by decide +kernel
theorem dX1_worldsFrom_100 : decode cX1_worldsFrom 100 = .ok (.iadd, 1) := by decide +kernel
theorem dX1_worldsFrom_101 : decode cX1_worldsFrom 101 = .ok (.iload_n 1, 1) := by decide +kernel
theorem dX1_worldsFrom_102 : decode cX1_worldsFrom 102 = .ok (.invokevirtual 35, 3) := by decide +kernel
theorem dX1_worldsFrom_105 : decode cX1_worldsFrom 105 = .ok (.ifCond .ne 46, 3) := by decide +kernel
theorem dX1_worldsFrom_108 : decode cX1_worldsFrom 108 = .ok (.aload_n 0, 1) := by decide +kernel
theorem dX1_worldsFrom_109 : decode cX1_worldsFrom 109 = .ok (.getfield 15, 3) := by decide +kernel
theorem dX1_worldsFrom_112 : decode cX1_worldsFrom 112 = .ok (.iload_n 2, 1) := by decide +kernel
theorem dX1_worldsFrom_113 : decode cX1_worldsFrom 113 = .ok (.iconst 1, 1) := by decide +kernel
theorem dX1_worldsFrom_114 : decode cX1_worldsFrom 114 = .ok (.isub, 1) := by decide +kernel
theorem dX1_worldsFrom_115 : decode cX1_worldsFrom 115 = .ok (.aload_n 0, 1) := by decide +kernel
theorem dX1_worldsFrom_116 : decode cX1_worldsFrom 116 = .ok (.getfield 15, 3) := by decide +kernel
theorem dX1_worldsFrom_119 : decode cX1_worldsFrom 119 = .ok (.iload_n 2, 1) := by decide +kernel
theorem dX1_worldsFrom_120 : decode cX1_worldsFrom 120 = .ok (.iconst 1, 1) := by decide +kernel
theorem dX1_worldsFrom_121 : decode cX1_worldsFrom 121 = .ok (.isub, 1) := by decide +kernel
theorem dX1_worldsFrom_122 : decode cX1_worldsFrom 122 = .ok (.laload, 1) := by decide +kernel
theorem dX1_worldsFrom_123 : decode cX1_worldsFrom 123 = .ok (.ldc2_w 39, 3) := by decide +kernel
theorem dX1_worldsFrom_126 : decode cX1_worldsFrom 126 = .ok (.lxor, 1) := by decide +kernel
theorem dX1_worldsFrom_127 : decode cX1_worldsFrom 127 = .ok (.lastore, 1) := by decide +kernel
theorem dX1_worldsFrom_128 : decode cX1_worldsFrom 128 = .ok (.goto 23, 3) := by decide +kernel
theorem dX1_worldsFrom_131 : decode cX1_worldsFrom 131 = .ok (.iload_n 2, 1) := by decide +kernel
theorem dX1_worldsFrom_132 : decode cX1_worldsFrom 132 = .ok (.bipush 24, 2) := by decide +kernel
theorem dX1_worldsFrom_134 : decode cX1_worldsFrom 134 = .ok (.if_icmp .ge 17, 3) := by decide +kernel
theorem dX1_worldsFrom_137 : decode cX1_worldsFrom 137 = .ok (.aload_n 0, 1) := by decide +kernel
theorem dX1_worldsFrom_138 : decode cX1_worldsFrom 138 = .ok (.getfield 15, 3) := by decide +kernel
theorem dX1_worldsFrom_141 : decode cX1_worldsFrom 141 = .ok (.iload_n 2, 1) := by decide +kernel
theorem dX1_worldsFrom_142 : decode cX1_worldsFrom 142 = .ok (.iload 4, 2) := by decide +kernel
theorem dX1_worldsFrom_144 : decode cX1_worldsFrom 144 = .ok (.invokestatic 41, 3) := by decide +kernel
theorem dX1_worldsFrom_147 : decode cX1_worldsFrom 147 = .ok (.lastore, 1) := by decide +kernel
theorem dX1_worldsFrom_148 : decode cX1_worldsFrom 148 = .ok (.iinc 2 1, 3) := by decide +kernel
theorem dX1_worldsFrom_151 : decode cX1_worldsFrom 151 = .ok (.iinc 3 (-1), 3) := by decide +kernel
theorem dX1_worldsFrom_154 : decode cX1_worldsFrom 154 = .ok (.goto (-145), 3) := by decide +kernel
theorem dX1_worldsFrom_157 : decode cX1_worldsFrom 157 = .ok (.iload_n 2, 1) := by decide +kernel
theorem dX1_worldsFrom_158 : decode cX1_worldsFrom 158 = .ok (.iconst 1, 1) := by decide +kernel
theorem dX1_worldsFrom_159 : decode cX1_worldsFrom 159 = .ok (.if_icmp .ne 12, 3) := by decide +kernel
theorem dX1_worldsFrom_162 : decode cX1_worldsFrom 162 = .ok (.aload_n 0, 1) := by decide +kernel
theorem dX1_worldsFrom_163 : decode cX1_worldsFrom 163 = .ok (.getfield 15, 3) := by decide +kernel
theorem dX1_worldsFrom_166 : decode cX1_worldsFrom 166 = .ok (.iconst 0, 1) := by decide +kernel
theorem dX1_worldsFrom_167 : decode cX1_worldsFrom 167 = .ok (.laload, 1) := by decide +kernel
theorem dX1_worldsFrom_168 : decode cX1_worldsFrom 168 = .ok (.goto 4, 3) := by decide +kernel
theorem dX1_worldsFrom_171 : decode cX1_worldsFrom 171 = .ok (.lconst 0, 1) := by decide +kernel
theorem dX1_worldsFrom_172 : decode cX1_worldsFrom 172 = .ok (.lreturn, 1) := by decide +kernel
theorem dX6_wishWorlds_0 : decode cX6_wishWorlds 0 = .ok (.aload_n 0, 1) := by decide +kernel
theorem dX6_wishWorlds_1 : decode cX6_wishWorlds 1 = .ok (.getfield 23, 3) := by decide +kernel
theorem dX6_wishWorlds_4 : decode cX6_wishWorlds 4 = .ok (.aload_n 0, 1) := by decide +kernel
theorem dX6_wishWorlds_5 : decode cX6_wishWorlds 5 = .ok (.getfield 10, 3) := by decide +kernel
theorem dX6_wishWorlds_8 : decode cX6_wishWorlds 8 = .ok (.getfield 103, 3) := by decide +kernel
theorem dX6_wishWorlds_11 : decode cX6_wishWorlds 11 = .ok (.invokevirtual 131, 3) := by decide +kernel
theorem dX6_wishWorlds_14 : decode cX6_wishWorlds 14 = .ok (.aload_n 0, 1) := by decide +kernel
theorem dX6_wishWorlds_15 : decode cX6_wishWorlds 15 = .ok (.getfield 10, 3) := by decide +kernel
theorem dX6_wishWorlds_18 : decode cX6_wishWorlds 18 = .ok (.getfield 139, 3) := by decide +kernel
theorem dX6_wishWorlds_21 : decode cX6_wishWorlds 21 = .ok (.land, 1) := by decide +kernel
theorem dX6_wishWorlds_22 : decode cX6_wishWorlds 22 = .ok (.aload_n 0, 1) := by decide +kernel
theorem dX6_wishWorlds_23 : decode cX6_wishWorlds 23 = .ok (.getfield 10, 3) := by decide +kernel
theorem dX6_wishWorlds_26 : decode cX6_wishWorlds 26 = .ok (.aload_n 0, 1) := by decide +kernel
theorem dX6_wishWorlds_27 : decode cX6_wishWorlds 27 = .ok (.getfield 23, 3) := by decide +kernel
theorem dX6_wishWorlds_30 : decode cX6_wishWorlds 30 = .ok (.invokevirtual 187, 3) := by decide +kernel
theorem dX6_wishWorlds_33 : decode cX6_wishWorlds 33 = .ok (.aload_n 0, 1) := by decide +kernel
theorem dX6_wishWorlds_34 : decode cX6_wishWorlds 34 = .ok (.getfield 10, 3) := by decide +kernel
theorem dX6_wishWorlds_37 : decode cX6_wishWorlds 37 = .ok (.getfield 103, 3) := by decide +kernel
theorem dX6_wishWorlds_40 : decode cX6_wishWorlds 40 = .ok (.invokevirtual 190, 3) := by decide +kernel
theorem dX6_wishWorlds_43 : decode cX6_wishWorlds 43 = .ok (.land, 1) := by decide +kernel
theorem dX6_wishWorlds_44 : decode cX6_wishWorlds 44 = .ok (.lreturn, 1) := by decide +kernel
theorem dX6_wishOutcome_0 : decode cX6_wishOutcome 0 = .ok (.aload_n 0, 1) := by decide +kernel
theorem dX6_wishOutcome_1 : decode cX6_wishOutcome 1 = .ok (.invokevirtual 127, 3) := by decide +kernel
theorem dX6_wishOutcome_4 : decode cX6_wishOutcome 4 = .ok (.ifCond .eq 6, 3) := by decide +kernel
theorem dX6_wishOutcome_7 : decode cX6_wishOutcome 7 = .ok (.bipush (-5), 2) := by decide +kernel
theorem dX6_wishOutcome_9 : decode cX6_wishOutcome 9 = .ok (.ireturn, 1) := by decide +kernel
theorem dX6_wishOutcome_10 : decode cX6_wishOutcome 10 = .ok (.aload_n 0, 1) := by decide +kernel
theorem dX6_wishOutcome_11 : decode cX6_wishOutcome 11 = .ok (.getfield 42, 3) := by decide +kernel
theorem dX6_wishOutcome_14 : decode cX6_wishOutcome 14 = .ok (.invokevirtual 182, 3) := by decide +kernel
theorem dX6_wishOutcome_17 : decode cX6_wishOutcome 17 = .ok (.aload_n 0, 1) := by decide +kernel
theorem dX6_wishOutcome_18 : decode cX6_wishOutcome 18 = .ok (.getfield 42, 3) := by decide +kernel
theorem dX6_wishOutcome_21 : decode cX6_wishOutcome 21 = .ok (.aload_n 0, 1) := by decide +kernel
theorem dX6_wishOutcome_22 : decode cX6_wishOutcome 22 = .ok (.invokevirtual 143, 3) := by decide +kernel
theorem dX6_wishOutcome_25 : decode cX6_wishOutcome 25 = .ok (.aload_n 0, 1) := by decide +kernel
theorem dX6_wishOutcome_26 : decode cX6_wishOutcome 26 = .ok (.getfield 10, 3) := by decide +kernel
theorem dX6_wishOutcome_29 : decode cX6_wishOutcome 29 = .ok (.getfield 103, 3) := by decide +kernel
theorem dX6_wishOutcome_32 : decode cX6_wishOutcome 32 = .ok (.invokevirtual 310, 3) := by decide +kernel
theorem dX6_wishOutcome_35 : decode cX6_wishOutcome 35 = .ok (.ireturn, 1) := by decide +kernel
theorem dX6_refusalOf_0 : decode cX6_refusalOf 0 = .ok (.iload_n 1, 1) := by decide +kernel
theorem dX6_refusalOf_1 : decode cX6_refusalOf 1 = .ok (.ifCond .ne 5, 3) := by decide +kernel
theorem dX6_refusalOf_4 : decode cX6_refusalOf 4 = .ok (.iconst (-1), 1) := by decide +kernel
theorem dX6_refusalOf_5 : decode cX6_refusalOf 5 = .ok (.ireturn, 1) := by decide +kernel
theorem dX6_refusalOf_6 : decode cX6_refusalOf 6 = .ok (.iload_n 2, 1) := by decide +kernel
theorem dX6_refusalOf_7 : decode cX6_refusalOf 7 = .ok (.ifCond .ne 6, 3) := by decide +kernel
theorem dX6_refusalOf_10 : decode cX6_refusalOf 10 = .ok (.bipush (-2), 2) := by decide +kernel
theorem dX6_refusalOf_12 : decode cX6_refusalOf 12 = .ok (.ireturn, 1) := by decide +kernel
theorem dX6_refusalOf_13 : decode cX6_refusalOf 13 = .ok (.aload_n 0, 1) := by decide +kernel
theorem dX6_refusalOf_14 : decode cX6_refusalOf 14 = .ok (.invokevirtual 127, 3) := by decide +kernel
theorem dX6_refusalOf_17 : decode cX6_refusalOf 17 = .ok (.ifCond .eq 6, 3) := by decide +kernel
theorem dX6_refusalOf_20 : decode cX6_refusalOf 20 = .ok (.bipush (-5), 2) := by decide +kernel
theorem dX6_refusalOf_22 : decode cX6_refusalOf 22 = .ok (.ireturn, 1) := by decide +kernel
theorem dX6_refusalOf_23 : decode cX6_refusalOf 23 = .ok (.aload_n 0, 1) := by decide +kernel
theorem dX6_refusalOf_24 : decode cX6_refusalOf 24 = .ok (.invokevirtual 143, 3) := by decide +kernel
theorem dX6_refusalOf_27 : decode cX6_refusalOf 27 = .ok (.lconst 0, 1) := by decide +kernel
theorem dX6_refusalOf_28 : decode cX6_refusalOf 28 = .ok (.lcmp, 1) := by decide +kernel
theorem dX6_refusalOf_29 : decode cX6_refusalOf 29 = .ok (.ifCond .ne 8, 3) := by decide +kernel
theorem dX6_refusalOf_32 : decode cX6_refusalOf 32 = .ok (.bipush (-3), 2) := by decide +kernel
theorem dX6_refusalOf_34 : decode cX6_refusalOf 34 = .ok (.goto 4, 3) := by decide +kernel
theorem dX6_refusalOf_37 : decode cX6_refusalOf 37 = .ok (.iconst 0, 1) := by decide +kernel
theorem dX6_refusalOf_38 : decode cX6_refusalOf 38 = .ok (.ireturn, 1) := by decide +kernel
theorem dX1_copyChanged_0 : decode cX1_copyChanged 0 = .ok (.aload_n 0, 1) := by decide +kernel
theorem dX1_copyChanged_1 : decode cX1_copyChanged 1 = .ok (.iconst 0, 1) := by decide +kernel
theorem dX1_copyChanged_2 : decode cX1_copyChanged 2 = .ok (.putfield 19, 3) := by decide +kernel
theorem dX1_copyChanged_5 : decode cX1_copyChanged 5 = .ok (.iconst 0, 1) := by decide +kernel
theorem dX1_copyChanged_6 : decode cX1_copyChanged 6 = .ok (.istore 4, 2) := by decide +kernel
theorem dX1_copyChanged_8 : decode cX1_copyChanged 8 = .ok (.iload 4, 2) := by decide +kernel
theorem dX1_copyChanged_10 : decode cX1_copyChanged 10 = .ok (.aload_n 1, 1) := by decide +kernel
theorem dX1_copyChanged_11 : decode cX1_copyChanged 11 = .ok (.getfield 19, 3) := by decide +kernel
theorem dX1_copyChanged_14 : decode cX1_copyChanged 14 = .ok (.if_icmp .ge 40, 3) := by decide +kernel
theorem dX1_copyChanged_17 : decode cX1_copyChanged 17 = .ok (.iload 4, 2) := by decide +kernel
theorem dX1_copyChanged_19 : decode cX1_copyChanged 19 = .ok (.iload_n 2, 1) := by decide +kernel
theorem dX1_copyChanged_20 : decode cX1_copyChanged 20 = .ok (.if_icmp .eq 18, 3) := by decide +kernel
theorem dX1_copyChanged_23 : decode cX1_copyChanged 23 = .ok (.aload_n 0, 1) := by decide +kernel
theorem dX1_copyChanged_24 : decode cX1_copyChanged 24 = .ok (.aload_n 1, 1) := by decide +kernel
theorem dX1_copyChanged_25 : decode cX1_copyChanged 25 = .ok (.getfield 9, 3) := by decide +kernel
theorem dX1_copyChanged_28 : decode cX1_copyChanged 28 = .ok (.iload 4, 2) := by decide +kernel
theorem dX1_copyChanged_30 : decode cX1_copyChanged 30 = .ok (.iaload, 1) := by decide +kernel
theorem dX1_copyChanged_31 : decode cX1_copyChanged 31 = .ok (.invokevirtual 23, 3) := by decide +kernel
theorem dX1_copyChanged_34 : decode cX1_copyChanged 34 = .ok (.pop, 1) := by decide +kernel
theorem dX1_copyChanged_35 : decode cX1_copyChanged 35 = .ok (.goto 13, 3) := by decide +kernel
theorem dX1_copyChanged_38 : decode cX1_copyChanged 38 = .ok (.iload_n 3, 1) := by decide +kernel
theorem dX1_copyChanged_39 : decode cX1_copyChanged 39 = .ok (.ifCond .eq 9, 3) := by decide +kernel
theorem dX1_copyChanged_42 : decode cX1_copyChanged 42 = .ok (.aload_n 0, 1) := by decide +kernel
theorem dX1_copyChanged_43 : decode cX1_copyChanged 43 = .ok (.iload_n 3, 1) := by decide +kernel
theorem dX1_copyChanged_44 : decode cX1_copyChanged 44 = .ok (.invokevirtual 23, 3) := by decide +kernel
theorem dX1_copyChanged_47 : decode cX1_copyChanged 47 = .ok (.pop, 1) := by decide +kernel
theorem dX1_copyChanged_48 : decode cX1_copyChanged 48 = .ok (.iinc 4 1, 3) := by decide +kernel
theorem dX1_copyChanged_51 : decode cX1_copyChanged 51 = .ok (.goto (-43), 3) := by decide +kernel
theorem dX1_copyChanged_54 : decode cX1_copyChanged 54 = .ok (.return_, 1) := by decide +kernel
def jnL (k : Nat) (x y : Int64) : Int64 := if k = 0 then x &&& y else if k = 1 then x ||| y else if k = 2 then (x ^^^ (-1)) ||| y else if k = 3 then (x ^^^ y) ^^^ (-1) else x ^^^ y
theorem jnL_b {k w : Nat} {x y : Int64} (hk : k < 5) (hw : w < 64) : lbit (jnL k x y) w = prF (prS k) (lbit x w) (lbit y w) := by
  unfold jnL
  by_cases h0 : k = 0
  · subst h0; rw [if_pos rfl, lb_and]; rfl
  · rw [if_neg h0]
    by_cases h1 : k = 1
    · subst h1; rw [if_pos rfl, lb_or]; rfl
    · rw [if_neg h1]
      by_cases h2 : k = 2
      · subst h2; rw [if_pos rfl, lb_or, lb_not hw]; rfl
      · rw [if_neg h2]
        by_cases h3 : k = 3
        · subst h3; rw [if_pos rfl, lb_not hw, lb_xor]; cases lbit x w <;> cases lbit y w <;> rfl
        · have h4 : k = 4 := by omega
          subst h4; rw [if_neg (by decide), lb_xor]; cases lbit x w <;> cases lbit y w <;> rfl
/-- the class's stack: below a ~ the letter is not yet turned -/
def clS (t : Nat) (tx : Nat → Int32) (sz a i w : Nat) : List Bool := if i < sz ∧ tx (sz - 1 - i) = 126 then w.testBit (ltN (tx (sz - i))) :: (mst t tx sz a w i).tail else mst t tx sz a w i
theorem clS_n {t : Nat} {tx : Nat → Int32} {sz a i w : Nat} (h : i < sz → ¬ tx (sz - 1 - i) = 126) : clS t tx sz a i w = mst t tx sz a w i := if_neg (fun e => h e.1 e.2)
theorem mst_s {t : Nat} {tx : Nat → Int32} {sz a w i j : Nat} (h : i + (j + 1) = sz) : mst t tx sz a w (i + 1) = stM t tx a w j (mst t tx sz a w i) := by
  show stM t tx a w (sz - 1 - i) _ = _
  rw [show sz - 1 - i = j by omega]
theorem clS_l {t : Nat} {tx : Nat → Int32} {sz a w i j q : Nat} (h6 : t ≤ 6) (ht2 : 2 ≤ t) (h : i + (j + 1) = sz) (hl : isLt t (tx j) = true) (hq : ltN (tx j) = q) : clS t tx sz a (i + 1) w = w.testBit q :: clS t tx sz a i w := by
  have e0 : clS t tx sz a i w = mst t tx sz a w i := clS_n (fun _ => by rw [show sz - 1 - i = j by omega]; exact (isLt_not h6 ht2 hl).1)
  rw [e0]
  unfold clS
  rw [mst_s h]
  by_cases c : i + 1 < sz ∧ tx (sz - 1 - (i + 1)) = 126
  · rw [if_pos c, show sz - (i + 1) = j by omega, hq, stM_l2 hl hq (by omega) (by rw [show j - 1 = sz - 1 - (i + 1) by omega]; exact c.2) rfl]
    rfl
  · rw [if_neg c]
    by_cases hj : 0 < j
    · exact stM_l1 hl hq (fun e => c ⟨by omega, by rw [show sz - 1 - (i + 1) = j - 1 by omega]; exact e⟩)
    · exact stM_l0 hl hq hj
theorem clS_o {t : Nat} {tx : Nat → Int32} {sz a w i j : Nat} (hw : WT t tx sz) (h : i + (j + 1) = sz) (hl : isLt t (tx j) = false) : clS t tx sz a (i + 1) w = stM t tx a w j (mst t tx sz a w i) := by
  rw [clS_n, mst_s h]
  intro h1 e
  have := (hw.2.2.2 (sz - 1 - (i + 1)) (by omega) e).2
  rw [show sz - 1 - (i + 1) + 1 = j by omega, hl] at this
  cases this
theorem clS_w {t : Nat} {tx : Nat → Int32} {sz a w i j q : Nat} (hw : WT t tx sz) (h : i + (j + 1) = sz) (h126 : tx j = 126) (hq : ltN (tx (j + 1)) = q) : clS t tx sz a i w = w.testBit q :: (mst t tx sz a w i).tail ∧ mst t tx sz a w i = (w.testBit q == a.testBit q) :: (mst t tx sz a w i).tail := by
  obtain ⟨h1, h2⟩ := hw.2.2.2 j (by omega) h126
  obtain ⟨i', rfl⟩ : ∃ i', i = i' + 1 := ⟨i - 1, by omega⟩
  constructor
  · unfold clS
    rw [if_pos ⟨by omega, by rw [show sz - 1 - (i' + 1) = j by omega]; exact h126⟩, show sz - (i' + 1) = j + 1 by omega, hq]
  · rw [mst_s (j := j + 1) (by omega), stM_l2 h2 hq (by omega) (by exact h126) rfl]
    rfl
def PLs (Tp : Nat → Int64) (m : Nat) (f : Nat → List Bool) : Prop := ∀ w, w < 64 → (f w).length = m ∧ ∀ d, d < m → lbit (Tp (m - 1 - d)) w = (f w).getD d false
theorem pls_push {Tp : Nat → Int64} {m : Nat} {f g : Nat → List Bool} {b : Nat → Bool} {x : Int64} (h : PLs Tp m f) (hx : ∀ w, w < 64 → lbit x w = b w) (hg : ∀ w, w < 64 → g w = b w :: f w) : PLs (vp_updL Tp m x) (m + 1) g := by
  intro w hw
  obtain ⟨h1, h2⟩ := h w hw
  rw [hg w hw]
  refine ⟨by simp [h1], fun d hd => ?_⟩
  cases d with
  | zero => rw [show m + 1 - 1 - 0 = m by omega, pk_uLs, hx w hw]; rfl
  | succ d => rw [show m + 1 - 1 - (d + 1) = m - 1 - d by omega, pk_uLn (by omega), h2 d (by omega)]; rfl
theorem pls_rep {Tp : Nat → Int64} {m : Nat} {f g : Nat → List Bool} {c : Nat → Bool} {x : Int64} (h : PLs Tp (m + 1) f) (hx : ∀ w, w < 64 → lbit x w = c w) (hg : ∀ w, w < 64 → g w = c w :: (f w).tail) : PLs (vp_updL Tp m x) (m + 1) g := by
  intro w hw
  obtain ⟨h1, h2⟩ := h w hw
  rw [hg w hw]
  refine ⟨by simp [h1], fun d hd => ?_⟩
  cases d with
  | zero => rw [show m + 1 - 1 - 0 = m by omega, pk_uLs, hx w hw]; rfl
  | succ d =>
    rw [show m + 1 - 1 - (d + 1) = m - 1 - d by omega, pk_uLn (by omega)]
    have := h2 (d + 1) (by omega)
    rw [show m + 1 - 1 - (d + 1) = m - 1 - d by omega] at this
    rw [this]
    cases f w <;> rfl
theorem pls_pop {Tp : Nat → Int64} {m : Nat} {f g : Nat → List Bool} {c : Nat → Bool} {x : Int64} (h : PLs Tp (m + 2) f) (hx : ∀ w, w < 64 → lbit x w = c w) (hg : ∀ w, w < 64 → g w = c w :: (f w).tail.tail) : PLs (vp_updL Tp m x) (m + 1) g := by
  intro w hw
  obtain ⟨h1, h2⟩ := h w hw
  rw [hg w hw]
  refine ⟨by simp [h1], fun d hd => ?_⟩
  cases d with
  | zero => rw [show m + 1 - 1 - 0 = m by omega, pk_uLs, hx w hw]; rfl
  | succ d =>
    rw [show m + 1 - 1 - (d + 1) = m - 1 - d by omega, pk_uLn (by omega)]
    have := h2 (d + 2) (by omega)
    rw [show m + 2 - 1 - (d + 2) = m - 1 - d by omega] at this
    rw [this]
    cases hf : f w with
    | nil => rfl
    | cons b r => cases r <;> rfl
theorem pls_top {Tp : Nat → Int64} {m : Nat} {f : Nat → List Bool} (h : PLs Tp (m + 1) f) {w : Nat} (hw : w < 64) : ∃ b r, f w = b :: r ∧ lbit (Tp m) w = b := by
  obtain ⟨h1, h2⟩ := h w hw
  have := h2 0 (by omega)
  cases hf : f w with
  | nil => rw [hf] at h1; simp at h1
  | cons b r => rw [hf, show m + 1 - 1 - 0 = m by omega] at this; exact ⟨b, r, rfl, this⟩
theorem pls_2nd {Tp : Nat → Int64} {m : Nat} {f : Nat → List Bool} (h : PLs Tp (m + 2) f) {w : Nat} (hw : w < 64) : ∃ b c r, f w = b :: c :: r ∧ lbit (Tp (m + 1)) w = b ∧ lbit (Tp m) w = c := by
  obtain ⟨h1, h2⟩ := h w hw
  have e0 := h2 0 (by omega)
  have e1 := h2 1 (by omega)
  cases hf : f w with
  | nil => rw [hf] at h1; simp at h1
  | cons b r =>
    cases r with
    | nil => rw [hf] at h1; simp at h1
    | cons c r =>
      rw [hf, show m + 2 - 1 - 0 = m + 1 by omega] at e0
      rw [hf, show m + 2 - 1 - 1 = m by omega] at e1
      exact ⟨b, c, r, rfl, e0, e1⟩
theorem WT_ch {t : Nat} {pd : Nat → Int32} {sg p : Nat} (kd : Nat) (h6 : t ≤ 6) (ht2 : 2 ≤ t) (hp : p < sg) (hk : isPr (pd p) = true ∨ pd p = 45) (hw : WT t pd sg) : WT t (chT pd p kd) (chZ pd sg p) := by
  obtain ⟨hv, h24, hc, hl⟩ := hw
  have hn126 : ¬ pd p = 126 := by
    rcases hk with h | h
    · exact (pr_not h6 ht2 h).2.2.2
    · rw [h]; decide
  have hnl : isLt t (pd p) = false := by
    rcases hk with h | h
    · exact (pr_not h6 ht2 h).1
    · cases hx : isLt t (pd p) with
      | false => rfl
      | true => exact absurd h (isLt_not h6 ht2 hx).2.1
  refine ⟨VT_ch kd h6 ht2 hp hk hv, ?_, ?_, ?_⟩
  · unfold chZ; split <;> omega
  · intro k hk2
    unfold chT chZ at *
    cases hpr : isPr (pd p) with
    | true =>
      rw [hpr, if_pos rfl] at hk2
      rw [if_pos rfl]
      by_cases e : k = p
      · rw [e, pk_us]; exact Or.inr (Or.inr (Or.inr (Or.inr (Or.inr (prS_pr kd)))))
      · rw [pk_un e]; exact hc k hk2
    | false =>
      rw [hpr, if_neg (by decide)] at hk2
      rw [if_neg (by decide)]
      split
      · exact hc k (by omega)
      · exact hc (k + 1) (by omega)
  · intro k hk2 h126
    unfold chT chZ at *
    cases hpr : isPr (pd p) with
    | true =>
      rw [hpr, if_pos rfl] at hk2 h126
      rw [if_pos rfl, if_pos rfl]
      have e : k ≠ p := fun e => by
        rw [e, pk_us] at h126
        have := prS_pr kd
        rw [h126] at this
        exact absurd this (by decide)
      rw [pk_un e] at h126
      obtain ⟨g1, g2⟩ := hl k hk2 h126
      refine ⟨g1, ?_⟩
      rw [pk_un]
      · exact g2
      · intro e2; rw [e2, hnl] at g2; cases g2
    | false =>
      rw [hpr, if_neg (by decide)] at hk2 h126
      rw [if_neg (by decide), if_neg (by decide)]
      by_cases c : k < p
      · rw [if_pos c] at h126
        obtain ⟨g1, g2⟩ := hl k (by omega) h126
        have hkp : k + 1 ≠ p := fun e => by rw [e, hnl] at g2; cases g2
        rw [if_pos (by omega)]
        exact ⟨by omega, g2⟩
      · rw [if_neg c] at h126
        obtain ⟨g1, g2⟩ := hl (k + 1) (by omega) h126
        rw [if_neg (by omega)]
        exact ⟨by omega, g2⟩
theorem lb_0 (w : Nat) : lbit 0 w = false := by unfold lbit; simp
theorem cl_0 {t : Nat} {tx : Nat → Int32} {sz a w : Nat} (hw : WT t tx sz) : (clS t tx sz a 0 w).length = 0 := by
  rw [clS_n]
  · rfl
  · intro h e
    have := (hw.2.2.2 (sz - 1 - 0) (by omega) e).1
    omega
section CLS5
variable {xl : Nat} {xs : Nat → Int32} {n : Nat} {h : Nat → PC} {I S : Nat → Nat → Int32} {J T : Nat → Nat → Int64} {X : Nat → Option Nat} {t sl wy wi he sg : Nat}
theorem c_leaf_l {q : Nat} (hq : q < 6) : Rn xl xs 0 0 0 0 mX1_leafWorlds [.int (nI (97 + q))] n h (some (.long (soB q))) n h := by
  intro Q hQ
  show Ev xl xs 0 0 0 0 mX1_leafWorlds 0 [some (.int (nI (97 + q))), none] [] n h Q
  refine ev_iload_n (q := 1) dX1_leafWorlds_0 rfl rfl ?_
  refine ev_bipush (q := 3) (97) dX1_leafWorlds_1 (by decide) rfl ?_
  refine ev_isub (q := 4) dX1_leafWorlds_3 rfl ?_
  rw [show nI (97 + q) - 97 = nI q from (pk_sub (a := 97 + q) (b := 97) (by omega)).trans (by rw [Nat.add_sub_cancel_left])]
  refine ev_ist_1 (q := 5) dX1_leafWorlds_4 rfl rfl ?_
  refine ev_iload_n (q := 6) dX1_leafWorlds_5 rfl rfl ?_
  refine ev_if_lt (q := 9) 21 dX1_leafWorlds_6 (by decide) rfl (fun c_6 => ?_) (fun c_6 => ?_)
  · exact absurd c_6 (nI_pos (by omega))
  · refine ev_iload_n (q := 10) dX1_leafWorlds_9 rfl rfl ?_
    refine ev_bipush (q := 12) (6) dX1_leafWorlds_10 (by decide) rfl ?_
    refine ev_icmp_ge (q := 15) 21 dX1_leafWorlds_12 (by decide) rfl (fun c_12 => ?_) (fun c_12 => ?_)
    · exact absurd ((nI_leI (a := 6) (by omega) (by omega)).mp c_12) (by omega)
    · refine ev_getsN (q := 18) (k := 2) dX1_leafWorlds_15 rfl (List.mem_filter.mpr ⟨tt_2 130 rfl, rfl⟩) rfl ?_
      refine ev_iload_n (q := 19) dX1_leafWorlds_18 rfl rfl ?_
      refine ev_flald (q := 20) dX1_leafWorlds_19 rfl (vin (by omega) (by decide)) (fz_so (by omega)) rfl ?_
      exact ev_lretE dX1_leafWorlds_20 rfl rfl rfl rfl hQ
theorem c_leaf_d {s : Int32} (hs : s = 48 ∨ s = 49) : Rn xl xs 0 0 0 0 mX1_leafWorlds [.int s] n h (some (.long (if s = 49 then -1 else 0))) n h := by
  intro Q hQ
  show Ev xl xs 0 0 0 0 mX1_leafWorlds 0 [some (.int s), none] [] n h Q
  rcases hs with hs | hs
  · subst hs
    refine ev_iload_n (q := 1) dX1_leafWorlds_0 rfl rfl ?_
    refine ev_bipush (q := 3) (97) dX1_leafWorlds_1 (by decide) rfl ?_
    refine ev_isub (q := 4) dX1_leafWorlds_3 rfl ?_
    refine ev_ist_1 (q := 5) dX1_leafWorlds_4 rfl rfl ?_
    refine ev_iload_n (q := 6) dX1_leafWorlds_5 rfl rfl ?_
    refine ev_if_lt (q := 9) 21 dX1_leafWorlds_6 (by decide) rfl (fun c_6 => ?_) (fun c_6 => ?_)
    · refine ev_iload_n (q := 22) dX1_leafWorlds_21 rfl rfl ?_
      refine ev_bipush (q := 24) (49) dX1_leafWorlds_22 (by decide) rfl ?_
      refine ev_icmp_ne (q := 27) 33 dX1_leafWorlds_24 (by decide) rfl (fun c_24 => ?_) (fun c_24 => ?_)
      · refine ev_lconst (q := 34) (0) dX1_leafWorlds_33 (by decide) rfl ?_
        exact ev_lretE dX1_leafWorlds_34 rfl rfl rfl rfl hQ
      · exact absurd c_24 (by decide)
    · exact absurd (show (48 : Int32) - 97 < 0 by decide) c_6
  · subst hs
    refine ev_iload_n (q := 1) dX1_leafWorlds_0 rfl rfl ?_
    refine ev_bipush (q := 3) (97) dX1_leafWorlds_1 (by decide) rfl ?_
    refine ev_isub (q := 4) dX1_leafWorlds_3 rfl ?_
    refine ev_ist_1 (q := 5) dX1_leafWorlds_4 rfl rfl ?_
    refine ev_iload_n (q := 6) dX1_leafWorlds_5 rfl rfl ?_
    refine ev_if_lt (q := 9) 21 dX1_leafWorlds_6 (by decide) rfl (fun c_6 => ?_) (fun c_6 => ?_)
    · refine ev_iload_n (q := 22) dX1_leafWorlds_21 rfl rfl ?_
      refine ev_bipush (q := 24) (49) dX1_leafWorlds_22 (by decide) rfl ?_
      refine ev_icmp_ne (q := 27) 33 dX1_leafWorlds_24 (by decide) rfl (fun c_24 => ?_) (fun c_24 => ?_)
      · exact absurd rfl c_24
      · refine ev_ldc2 (q := 30) co_X1_39 dX1_leafWorlds_27 rfl ?_
        refine ev_goto 34 dX1_leafWorlds_30 (by decide) ?_
        exact ev_lretE dX1_leafWorlds_34 rfl rfl rfl rfl hQ
    · exact absurd (show (49 : Int32) - 97 < 0 by decide) c_6
theorem c_joined {k : Nat} {x y : Int64} (hk : k < 5) : Rn xl xs 0 0 0 0 mX1_joined [.int (nI k), .long x, .long y] n h (some (.long (jnL k x y))) n h := by
  intro Q hQ
  show Ev xl xs 0 0 0 0 mX1_joined 0 [some (.int (nI k)), some (.long x), none, some (.long y), none] [] n h Q
  have T1 : Ev xl xs 0 0 0 0 mX1_joined 1 [some (.int (nI k)), some (.long x), none, some (.long y), none] [.int (nI k)] n h Q := by
    by_cases h0 : k = 0
    · subst h0
      refine ev_tabIn (off := 31) 32 dX1_joined_1 (by decide) (by decide) (by decide) (by decide) ?_
      refine ev_lload_n (q := 33) dX1_joined_32 rfl rfl ?_
      refine ev_lload_n (q := 34) dX1_joined_33 rfl rfl ?_
      refine ev_land (q := 35) dX1_joined_34 rfl ?_
      exact ev_lretE dX1_joined_35 rfl rfl rfl rfl hQ
    by_cases h1 : k = 1
    · subst h1
      refine ev_tabIn (off := 35) 36 dX1_joined_1 (by decide) (by decide) (by decide) (by decide) ?_
      refine ev_lload_n (q := 37) dX1_joined_36 rfl rfl ?_
      refine ev_lload_n (q := 38) dX1_joined_37 rfl rfl ?_
      refine ev_lor (q := 39) dX1_joined_38 rfl ?_
      exact ev_lretE dX1_joined_39 rfl rfl rfl rfl hQ
    by_cases h2 : k = 2
    · subst h2
      refine ev_tabIn (off := 39) 40 dX1_joined_1 (by decide) (by decide) (by decide) (by decide) ?_
      refine ev_lload_n (q := 41) dX1_joined_40 rfl rfl ?_
      refine ev_ldc2 (q := 44) co_X1_39 dX1_joined_41 rfl ?_
      refine ev_lxor (q := 45) dX1_joined_44 rfl ?_
      refine ev_lload_n (q := 46) dX1_joined_45 rfl rfl ?_
      refine ev_lor (q := 47) dX1_joined_46 rfl ?_
      exact ev_lretE dX1_joined_47 rfl rfl rfl rfl hQ
    by_cases h3 : k = 3
    · subst h3
      refine ev_tabIn (off := 47) 48 dX1_joined_1 (by decide) (by decide) (by decide) (by decide) ?_
      refine ev_lload_n (q := 49) dX1_joined_48 rfl rfl ?_
      refine ev_lload_n (q := 50) dX1_joined_49 rfl rfl ?_
      refine ev_lxor (q := 51) dX1_joined_50 rfl ?_
      refine ev_ldc2 (q := 54) co_X1_39 dX1_joined_51 rfl ?_
      refine ev_lxor (q := 55) dX1_joined_54 rfl ?_
      exact ev_lretE dX1_joined_55 rfl rfl rfl rfl hQ
    have h4 : k = 4 := by omega
    subst h4
    refine ev_tabOut 56 dX1_joined_1 (by decide) (by decide) ?_
    refine ev_lload_n (q := 57) dX1_joined_56 rfl rfl ?_
    refine ev_lload_n (q := 58) dX1_joined_57 rfl rfl ?_
    refine ev_lxor (q := 59) dX1_joined_58 rfl ?_
    exact ev_lretE dX1_joined_59 rfl rfl rfl rfl hQ
  refine ev_iload_n (q := 1) dX1_joined_0 rfl rfl ?_
  exact T1
theorem k_isSoAt_10 {tx : Nat → Int32} {sz a k q : Nat} (hn : 49 ≤ n) (hsz : ov I S 10 1 = nI sz) (htx : ∀ k, k < sz → ov I S 11 k = tx k) (h40 : sz ≤ 40) (hk : k < sz) (hq : tx k - 97 = nI q) (hq6 : q < 6) (ha : a < 64) : Rn xl xs 0 0 0 0 mX1_isSoAt [.ref 10, .int (nI k), .int (nI a)] n (sysH (ov I S) (ovJ J T) X) (some (.int (b2i (a.testBit q)))) n (sysH (ov I S) (ovJ J T) X) := by
  intro Q hQ
  show Ev xl xs 0 0 0 0 mX1_isSoAt 0 [some (.ref 10), some (.int (nI k)), some (.int (nI a)), none] [] n (sysH (ov I S) (ovJ J T) X) Q
  refine ev_iload_n (q := 1) dX1_isSoAt_0 rfl rfl ?_
  refine ev_aload_n (q := 2) dX1_isSoAt_1 rfl rfl ?_
  refine ev_get (q := 5) dX1_isSoAt_2 fr_X1_19 rfl (lt_n hn (by decide)) rfl rfl ?_
  rw [hsz]
  refine ev_icmp_ge (q := 8) 20 dX1_isSoAt_5 (by decide) rfl (fun c_5 => ?_) (fun c_5 => ?_)
  · exact absurd ((nI_leI (by omega) (by omega)).mp c_5) (by omega)
  · refine ev_aload_n (q := 9) dX1_isSoAt_8 rfl rfl ?_
    refine ev_get (q := 12) dX1_isSoAt_9 fr_X1_9 rfl (lt_n hn (by decide)) rfl rfl ?_
    refine ev_iload_n (q := 13) dX1_isSoAt_12 rfl rfl ?_
    refine ev_iaS (q := 14) k dX1_isSoAt_13 rfl rfl (by omega) (lt_n hn (by decide)) rfl ?_
    refine ev_bipush (q := 16) (97) dX1_isSoAt_14 (by decide) rfl ?_
    refine ev_isub (q := 17) dX1_isSoAt_16 rfl ?_
    rw [htx k hk, hq]
    refine ev_goto 21 dX1_isSoAt_17 (by decide) ?_
    refine ev_ist_3 (q := 22) dX1_isSoAt_21 rfl rfl ?_
    refine ev_iload_n (q := 23) dX1_isSoAt_22 rfl rfl ?_
    refine ev_if_lt (q := 26) 44 dX1_isSoAt_23 (by decide) rfl (fun c_23 => ?_) (fun c_23 => ?_)
    · exact absurd c_23 (nI_pos (by omega))
    · refine ev_iload_n (q := 27) dX1_isSoAt_26 rfl rfl ?_
      refine ev_bipush (q := 29) (6) dX1_isSoAt_27 (by decide) rfl ?_
      refine ev_icmp_ge (q := 32) 44 dX1_isSoAt_29 (by decide) rfl (fun c_29 => ?_) (fun c_29 => ?_)
      · exact absurd ((nI_leI (a := 6) (by omega) (by omega)).mp c_29) (by omega)
      · refine ev_iload_n (q := 33) dX1_isSoAt_32 rfl rfl ?_
        refine ev_iload_n (q := 34) dX1_isSoAt_33 rfl rfl ?_
        refine ev_ishr (q := 35) dX1_isSoAt_34 rfl ?_
        refine ev_iconst (q := 36) (1) dX1_isSoAt_35 (by decide) rfl ?_
        refine ev_iand (q := 37) dX1_isSoAt_36 rfl ?_
        rw [nI_bit (by omega) (by omega)]
        refine ev_if_eq (q := 40) 44 dX1_isSoAt_37 (by decide) rfl (fun c_37 => ?_) (fun c_37 => ?_)
        · have c_37 : a.testBit q = false := by cases hx : a.testBit q with | false => rfl | true => rw [hx] at c_37; exact absurd c_37 (by decide)
          refine ev_iconst (q := 45) (0) dX1_isSoAt_44 (by decide) rfl ?_
          exact ev_iretE dX1_isSoAt_45 rfl (nar_b2i _) (by rw [c_37]; rfl) rfl rfl hQ
        · have c_37 : a.testBit q = true := by cases hx : a.testBit q with | true => rfl | false => rw [hx] at c_37; exact absurd rfl c_37
          refine ev_iconst (q := 41) (1) dX1_isSoAt_40 (by decide) rfl ?_
          refine ev_goto 45 dX1_isSoAt_41 (by decide) ?_
          exact ev_iretE dX1_isSoAt_45 rfl (nar_b2i _) (by rw [c_37]; rfl) rfl rfl hQ
theorem k_worldsFrom_10 {tx : Nat → Int32} {sz a : Nat} (hn : 49 ≤ n) (h6 : t ≤ 6) (ht2 : 2 ≤ t) (hsz : ov I S 10 1 = nI sz) (htx : ∀ k, k < sz → ov I S 11 k = tx k) (hw : WT t tx sz) (ha : a < 64) : RnP xl xs 1 24 mX1_worldsFrom [.ref 10, .int (nI a)] n I S J T X (some (.long (mk64 (soM t tx sz a) 64))) (fun S' _ => S' = S) := by
  intro Q hQ
  have hv := hw.1
  have h24 := hw.2.1
  show Ev xl xs 1 24 0 0 mX1_worldsFrom 0 [some (.ref 10), some (.int (nI a)), none, none, none, none] [] n (sysH (ov I S) (ovJ J T) X) Q
  have lp : ∀ j i, i + j = sz → ∀ T a4 a5, PLs (T 12) (dpM t tx sz i) (clS t tx sz a i) → Ev xl xs 1 24 0 0 mX1_worldsFrom 9 [some (.ref 10), some (.int (nI a)), some (.int (nI (dpM t tx sz i))), some (.int (nI j - 1)), a4, a5] [] n (sysH (ov I S) (ovJ J T) X) Q := by
    intro j
    induction j with
    | zero =>
      intro i hi T a4 a5 hpl
      have hi2 : i = sz := by omega
      subst hi2
      rw [hv.2.2] at hpl ⊢
      have hr : T 12 0 = mk64 (soM t tx i a) 64 := by
        apply l_ext
        intro w hw
        obtain ⟨b, r, e1, e2⟩ := pls_top hpl hw
        rw [clS_n (fun h => absurd h (by omega))] at e1
        rw [mk64_bit _ 64 (Nat.le_refl _), decide_eq_true hw, Bool.true_and, e2]
        unfold soM
        rw [e1]
        rfl
      refine ev_iload_n (q := 10) dX1_worldsFrom_9 rfl rfl ?_
      refine ev_if_lt (q := 13) 157 dX1_worldsFrom_10 (by decide) rfl (fun c_10 => ?_) (fun c_10 => ?_)
      · refine ev_iload_n (q := 158) dX1_worldsFrom_157 rfl rfl ?_
        refine ev_iconst (q := 159) (1) dX1_worldsFrom_158 (by decide) rfl ?_
        refine ev_icmp_ne (q := 162) 171 dX1_worldsFrom_159 (by decide) rfl (fun c_159 => ?_) (fun c_159 => ?_)
        · exact absurd rfl c_159
        · refine ev_aload_n (q := 163) dX1_worldsFrom_162 rfl rfl ?_
          refine ev_get (q := 166) dX1_worldsFrom_163 fr_X1_15 rfl (lt_n hn (by decide)) rfl rfl ?_
          refine ev_iconst (q := 167) (0) dX1_worldsFrom_166 (by decide) rfl ?_
          refine ev_laS (q := 168) 0 dX1_worldsFrom_167 rfl rfl (by omega) (lt_n hn (by decide)) rfl ?_
          refine ev_goto 172 dX1_worldsFrom_168 (by decide) ?_
          exact ev_lretE dX1_worldsFrom_172 rfl hr rfl rfl (hQ _ _ rfl)
      · exact absurd (show nI 0 - 1 < 0 by decide) c_10
    | succ j ih =>
      intro i hi T a4 a5 hpl
      have hdp := dpM_le (t := t) (tx := tx) (sz := sz) i
      have hvi := hv.2.1 i (by omega)
      have hcl := hw.2.2.1 j (by omega)
      have hpos : sz - 1 - i = j := by omega
      rw [hpos] at hvi
      have es : ov I S 11 j = tx j := htx j (by omega)
      have hds := dpM_s t tx sz i
      rw [hpos] at hds
      have ih := ih (i + 1) (by omega)
      have J151 : ∀ T x a4 a5, x = nI (dpM t tx sz (i + 1)) → PLs (T 12) (dpM t tx sz (i + 1)) (clS t tx sz a (i + 1)) → Ev xl xs 1 24 0 0 mX1_worldsFrom 151 [some (.ref 10), some (.int (nI a)), some (.int x), some (.int (nI j)), a4, a5] [] n (sysH (ov I S) (ovJ J T) X) Q := by
        intro T x a4 a5 hx hpl
        subst hx
        refine ev_inc_3 (q := 154) (nI j - 1) dX1_worldsFrom_151 (inc_m1 _) rfl rfl ?_
        refine ev_goto 9 dX1_worldsFrom_154 (by decide) ?_
        exact ih T _ _ hpl
      rw [show nI (j + 1) - 1 = nI j from nI_pred j]
      generalize hd : dpM t tx sz i = d at hpl hdp hvi hds ⊢
      cases hlt : isLt t (tx j) with
      | true =>
        obtain ⟨q, hq1, hq2, hq3, hq4⟩ := isLt_n h6 ht2 hlt
        have hnt := isLt_not h6 ht2 hlt
        rw [hlt, if_pos rfl] at hds
        rw [hds] at J151
        have hpl2 := pls_push (x := soB q) (b := fun w => w.testBit q) (g := clS t tx sz a (i + 1)) hpl (fun w hw => soB_b q (by omega) w hw) (fun w hw => clS_l h6 ht2 hi hlt hq4)
        refine ev_iload_n (q := 10) dX1_worldsFrom_9 rfl rfl ?_
        refine ev_if_lt (q := 13) 157 dX1_worldsFrom_10 (by decide) rfl (fun c_10 => ?_) (fun c_10 => ?_)
        · exact absurd c_10 (nI_pos (by omega))
        · refine ev_aload_n (q := 14) dX1_worldsFrom_13 rfl rfl ?_
          refine ev_get (q := 17) dX1_worldsFrom_14 fr_X1_9 rfl (lt_n hn (by decide)) rfl rfl ?_
          refine ev_iload_n (q := 18) dX1_worldsFrom_17 rfl rfl ?_
          refine ev_iaS (q := 19) j dX1_worldsFrom_18 rfl rfl (by omega) (lt_n hn (by decide)) rfl ?_
          rw [es]
          refine ev_ist_4 (q := 21) dX1_worldsFrom_19 rfl rfl ?_
          refine ev_iload (q := 23) dX1_worldsFrom_21 rfl rfl ?_
          refine ev_callSn1i (q := 26) dX1_worldsFrom_23 ca_X1_27 (c_X6_orderOf _) (Nat.le_of_ble_eq_true rfl) (Nat.le_of_ble_eq_true rfl) (by decide) (by decide) rfl ?_
          rw [isPr_n hnt.2.2.2.2]
          refine ev_ist_5 (q := 28) dX1_worldsFrom_26 rfl rfl ?_
          refine ev_iload (q := 30) dX1_worldsFrom_28 rfl rfl ?_
          refine ev_if_lt (q := 33) 71 dX1_worldsFrom_30 (by decide) rfl (fun c_30 => ?_) (fun c_30 => ?_)
          · refine ev_iload (q := 73) dX1_worldsFrom_71 rfl rfl ?_
            refine ev_bipush (q := 75) (45) dX1_worldsFrom_73 (by decide) rfl ?_
            refine ev_icmp_eq (q := 78) 85 dX1_worldsFrom_75 (by decide) rfl (fun c_75 => ?_) (fun c_75 => ?_)
            · exact absurd c_75 hnt.2.1
            · refine ev_iload (q := 80) dX1_worldsFrom_78 rfl rfl ?_
              refine ev_bipush (q := 82) (126) dX1_worldsFrom_80 (by decide) rfl ?_
              refine ev_icmp_ne (q := 85) 131 dX1_worldsFrom_82 (by decide) rfl (fun c_82 => ?_) (fun c_82 => ?_)
              · refine ev_iload_n (q := 132) dX1_worldsFrom_131 rfl rfl ?_
                refine ev_bipush (q := 134) (24) dX1_worldsFrom_132 (by decide) rfl ?_
                refine ev_icmp_ge (q := 137) 151 dX1_worldsFrom_134 (by decide) rfl (fun c_134 => ?_) (fun c_134 => ?_)
                · exact absurd ((nI_leI (a := 24) (by omega) (by omega)).mp c_134) (by omega)
                · refine ev_aload_n (q := 138) dX1_worldsFrom_137 rfl rfl ?_
                  refine ev_get (q := 141) dX1_worldsFrom_138 fr_X1_15 rfl (lt_n hn (by decide)) rfl rfl ?_
                  refine ev_iload_n (q := 142) dX1_worldsFrom_141 rfl rfl ?_
                  refine ev_iload (q := 144) dX1_worldsFrom_142 rfl rfl ?_
                  refine ev_callS1l (q := 147) dX1_worldsFrom_144 ca_X1_41 (hq2 ▸ c_leaf_l (by omega)) (Nat.le_of_ble_eq_true rfl) (Nat.le_of_ble_eq_true rfl) (by decide) (by decide) rfl ?_
                  first | refine ev_lsK (q := 148) d dX1_worldsFrom_147 rfl rfl (by omega) (lt_n hn (by decide)) rfl rfl ?_ | refine ev_lsR (q := 148) d dX1_worldsFrom_147 rfl rfl (by omega) (lt_n hn (by decide)) rfl rfl ?_
                  refine ev_inc_2 (q := 151) (nI (d + 1)) dX1_worldsFrom_148 (nI_1 d) rfl rfl ?_
                  exact J151 _ _ _ _ rfl hpl2
              · exact absurd c_82 hnt.1
          · exact absurd (show (-1 : Int32) < 0 by decide) c_30
      | false =>
        rw [hlt, if_neg (by decide)] at hds
        have hco : ∀ w, clS t tx sz a (i + 1) w = stM t tx a w j (mst t tx sz a w i) := fun w => clS_o hw hi hlt
        by_cases h126 : tx j = 126
        · have hn48 : ¬ (tx j = 48 ∨ tx j = 49) := by rw [h126]; decide
          rw [if_neg hn48, if_neg (by rw [h126]; decide), if_pos h126] at hds
          obtain ⟨hj1, hlt1⟩ := hw.2.2.2 j (by omega) h126
          obtain ⟨q, hq1, hq2, hq3, hq4⟩ := isLt_n h6 ht2 hlt1
          have hcw := fun w => clS_w (a := a) (w := w) hw hi h126 hq4
          have hmst : ∀ w, clS t tx sz a (i + 1) w = (w.testBit q == a.testBit q) :: (clS t tx sz a i w).tail := fun w => by
            rw [hco w, (hcw w).1]
            unfold stM
            rw [if_neg (by rw [hlt]; decide), if_neg hn48, if_neg (by rw [h126]; decide), if_pos h126]
            exact (hcw w).2
          obtain ⟨d', rfl⟩ : ∃ d', d = d' + 1 := by
            obtain ⟨b, r, e1, -⟩ : ∃ b r, clS t tx sz a i 0 = b :: r ∧ True := ⟨_, _, (hcw 0).1, trivial⟩
            have := (hpl 0 (by decide)).1
            rw [e1] at this
            exact ⟨d - 1, by simp at this; omega⟩
          rw [hds] at J151
          have hpr : isPr (tx j) = false := by rw [h126]; rfl
          have htop : ∀ w, w < 64 → lbit (T 12 d') w = w.testBit q := fun w hw => by
            obtain ⟨b, r, e1, e2⟩ := pls_top hpl hw
            rw [(hcw w).1] at e1
            cases e1
            exact e2
          cases haq : a.testBit q with
          | true =>
            have hpl2 : PLs (T 12) (d' + 1) (clS t tx sz a (i + 1)) := by
              intro w hw
              rw [show clS t tx sz a (i + 1) w = clS t tx sz a i w from by rw [hmst w, haq, (hcw w).1]; cases w.testBit q <;> rfl]
              exact hpl w hw
            refine ev_iload_n (q := 10) dX1_worldsFrom_9 rfl rfl ?_
            refine ev_if_lt (q := 13) 157 dX1_worldsFrom_10 (by decide) rfl (fun c_10 => ?_) (fun c_10 => ?_)
            · exact absurd c_10 (nI_pos (by omega))
            · refine ev_aload_n (q := 14) dX1_worldsFrom_13 rfl rfl ?_
              refine ev_get (q := 17) dX1_worldsFrom_14 fr_X1_9 rfl (lt_n hn (by decide)) rfl rfl ?_
              refine ev_iload_n (q := 18) dX1_worldsFrom_17 rfl rfl ?_
              refine ev_iaS (q := 19) j dX1_worldsFrom_18 rfl rfl (by omega) (lt_n hn (by decide)) rfl ?_
              rw [es]
              refine ev_ist_4 (q := 21) dX1_worldsFrom_19 rfl rfl ?_
              refine ev_iload (q := 23) dX1_worldsFrom_21 rfl rfl ?_
              refine ev_callSn1i (q := 26) dX1_worldsFrom_23 ca_X1_27 (c_X6_orderOf _) (Nat.le_of_ble_eq_true rfl) (Nat.le_of_ble_eq_true rfl) (by decide) (by decide) rfl ?_
              rw [isPr_n hpr]
              refine ev_ist_5 (q := 28) dX1_worldsFrom_26 rfl rfl ?_
              refine ev_iload (q := 30) dX1_worldsFrom_28 rfl rfl ?_
              refine ev_if_lt (q := 33) 71 dX1_worldsFrom_30 (by decide) rfl (fun c_30 => ?_) (fun c_30 => ?_)
              · refine ev_iload (q := 73) dX1_worldsFrom_71 rfl rfl ?_
                refine ev_bipush (q := 75) (45) dX1_worldsFrom_73 (by decide) rfl ?_
                refine ev_icmp_eq (q := 78) 85 dX1_worldsFrom_75 (by decide) rfl (fun c_75 => ?_) (fun c_75 => ?_)
                · exact absurd (show tx j = 45 from c_75) (by rw [h126]; decide)
                · refine ev_iload (q := 80) dX1_worldsFrom_78 rfl rfl ?_
                  refine ev_bipush (q := 82) (126) dX1_worldsFrom_80 (by decide) rfl ?_
                  refine ev_icmp_ne (q := 85) 131 dX1_worldsFrom_82 (by decide) rfl (fun c_82 => ?_) (fun c_82 => ?_)
                  · exact absurd h126 c_82
                  · refine ev_iload_n (q := 86) dX1_worldsFrom_85 rfl rfl ?_
                    refine ev_iconst (q := 87) (1) dX1_worldsFrom_86 (by decide) rfl ?_
                    refine ev_icmp_lt (q := 90) 151 dX1_worldsFrom_87 (by decide) rfl (fun c_87 => ?_) (fun c_87 => ?_)
                    · exact absurd ((nI_ltI (b := 1) (by omega) (by omega)).mp c_87) (by omega)
                    · refine ev_iload (q := 92) dX1_worldsFrom_90 rfl rfl ?_
                      refine ev_bipush (q := 94) (45) dX1_worldsFrom_92 (by decide) rfl ?_
                      refine ev_icmp_eq (q := 97) 108 dX1_worldsFrom_94 (by decide) rfl (fun c_94 => ?_) (fun c_94 => ?_)
                      · exact absurd (show tx j = 45 from c_94) (by rw [h126]; decide)
                      · refine ev_aload_n (q := 98) dX1_worldsFrom_97 rfl rfl ?_
                        refine ev_iload_n (q := 99) dX1_worldsFrom_98 rfl rfl ?_
                        refine ev_iconst (q := 100) (1) dX1_worldsFrom_99 (by decide) rfl ?_
                        refine ev_iadd (q := 101) dX1_worldsFrom_100 rfl ?_
                        refine ev_iload_n (q := 102) dX1_worldsFrom_101 rfl rfl ?_
                        rw [nI_1 j]
                        refine ev_callV2i (q := 105) dX1_worldsFrom_102 ca_X1_35 (k_isSoAt_10 hn hsz htx (by omega) hj1 hq3 (by omega) ha) rfl (lt_n hn (by decide)) rfl rfl (Nat.le_of_ble_eq_true rfl) (Nat.le_of_ble_eq_true rfl) (by decide) (by decide) rfl ?_
                        refine ev_if_ne (q := 108) 151 dX1_worldsFrom_105 (by decide) rfl (fun c_105 => ?_) (fun c_105 => ?_)
                        · exact J151 _ _ _ _ rfl hpl2
                        · exact absurd c_105 (b2i_n0.mpr haq)
              · exact absurd (show (-1 : Int32) < 0 by decide) c_30
          | false =>
            have hpl2 := pls_rep (x := T 12 d' ^^^ (-1)) (c := fun w => w.testBit q == a.testBit q) (g := clS t tx sz a (i + 1)) hpl (fun w hw => by rw [lb_not hw, htop w hw, haq]; cases w.testBit q <;> rfl) (fun w _ => hmst w)
            refine ev_iload_n (q := 10) dX1_worldsFrom_9 rfl rfl ?_
            refine ev_if_lt (q := 13) 157 dX1_worldsFrom_10 (by decide) rfl (fun c_10 => ?_) (fun c_10 => ?_)
            · exact absurd c_10 (nI_pos (by omega))
            · refine ev_aload_n (q := 14) dX1_worldsFrom_13 rfl rfl ?_
              refine ev_get (q := 17) dX1_worldsFrom_14 fr_X1_9 rfl (lt_n hn (by decide)) rfl rfl ?_
              refine ev_iload_n (q := 18) dX1_worldsFrom_17 rfl rfl ?_
              refine ev_iaS (q := 19) j dX1_worldsFrom_18 rfl rfl (by omega) (lt_n hn (by decide)) rfl ?_
              rw [es]
              refine ev_ist_4 (q := 21) dX1_worldsFrom_19 rfl rfl ?_
              refine ev_iload (q := 23) dX1_worldsFrom_21 rfl rfl ?_
              refine ev_callSn1i (q := 26) dX1_worldsFrom_23 ca_X1_27 (c_X6_orderOf _) (Nat.le_of_ble_eq_true rfl) (Nat.le_of_ble_eq_true rfl) (by decide) (by decide) rfl ?_
              rw [isPr_n hpr]
              refine ev_ist_5 (q := 28) dX1_worldsFrom_26 rfl rfl ?_
              refine ev_iload (q := 30) dX1_worldsFrom_28 rfl rfl ?_
              refine ev_if_lt (q := 33) 71 dX1_worldsFrom_30 (by decide) rfl (fun c_30 => ?_) (fun c_30 => ?_)
              · refine ev_iload (q := 73) dX1_worldsFrom_71 rfl rfl ?_
                refine ev_bipush (q := 75) (45) dX1_worldsFrom_73 (by decide) rfl ?_
                refine ev_icmp_eq (q := 78) 85 dX1_worldsFrom_75 (by decide) rfl (fun c_75 => ?_) (fun c_75 => ?_)
                · exact absurd (show tx j = 45 from c_75) (by rw [h126]; decide)
                · refine ev_iload (q := 80) dX1_worldsFrom_78 rfl rfl ?_
                  refine ev_bipush (q := 82) (126) dX1_worldsFrom_80 (by decide) rfl ?_
                  refine ev_icmp_ne (q := 85) 131 dX1_worldsFrom_82 (by decide) rfl (fun c_82 => ?_) (fun c_82 => ?_)
                  · exact absurd h126 c_82
                  · refine ev_iload_n (q := 86) dX1_worldsFrom_85 rfl rfl ?_
                    refine ev_iconst (q := 87) (1) dX1_worldsFrom_86 (by decide) rfl ?_
                    refine ev_icmp_lt (q := 90) 151 dX1_worldsFrom_87 (by decide) rfl (fun c_87 => ?_) (fun c_87 => ?_)
                    · exact absurd ((nI_ltI (b := 1) (by omega) (by omega)).mp c_87) (by omega)
                    · refine ev_iload (q := 92) dX1_worldsFrom_90 rfl rfl ?_
                      refine ev_bipush (q := 94) (45) dX1_worldsFrom_92 (by decide) rfl ?_
                      refine ev_icmp_eq (q := 97) 108 dX1_worldsFrom_94 (by decide) rfl (fun c_94 => ?_) (fun c_94 => ?_)
                      · exact absurd (show tx j = 45 from c_94) (by rw [h126]; decide)
                      · refine ev_aload_n (q := 98) dX1_worldsFrom_97 rfl rfl ?_
                        refine ev_iload_n (q := 99) dX1_worldsFrom_98 rfl rfl ?_
                        refine ev_iconst (q := 100) (1) dX1_worldsFrom_99 (by decide) rfl ?_
                        refine ev_iadd (q := 101) dX1_worldsFrom_100 rfl ?_
                        refine ev_iload_n (q := 102) dX1_worldsFrom_101 rfl rfl ?_
                        rw [nI_1 j]
                        refine ev_callV2i (q := 105) dX1_worldsFrom_102 ca_X1_35 (k_isSoAt_10 hn hsz htx (by omega) hj1 hq3 (by omega) ha) rfl (lt_n hn (by decide)) rfl rfl (Nat.le_of_ble_eq_true rfl) (Nat.le_of_ble_eq_true rfl) (by decide) (by decide) rfl ?_
                        refine ev_if_ne (q := 108) 151 dX1_worldsFrom_105 (by decide) rfl (fun c_105 => ?_) (fun c_105 => ?_)
                        · exact absurd (b2i_ne.mp c_105) (by rw [haq]; decide)
                        · refine ev_aload_n (q := 109) dX1_worldsFrom_108 rfl rfl ?_
                          refine ev_get (q := 112) dX1_worldsFrom_109 fr_X1_15 rfl (lt_n hn (by decide)) rfl rfl ?_
                          refine ev_iload_n (q := 113) dX1_worldsFrom_112 rfl rfl ?_
                          refine ev_iconst (q := 114) (1) dX1_worldsFrom_113 (by decide) rfl ?_
                          refine ev_isub (q := 115) dX1_worldsFrom_114 rfl ?_
                          refine ev_aload_n (q := 116) dX1_worldsFrom_115 rfl rfl ?_
                          refine ev_get (q := 119) dX1_worldsFrom_116 fr_X1_15 rfl (lt_n hn (by decide)) rfl rfl ?_
                          refine ev_iload_n (q := 120) dX1_worldsFrom_119 rfl rfl ?_
                          refine ev_iconst (q := 121) (1) dX1_worldsFrom_120 (by decide) rfl ?_
                          refine ev_isub (q := 122) dX1_worldsFrom_121 rfl ?_
                          refine ev_laS (q := 123) d' dX1_worldsFrom_122 (nI_pred _) rfl (by omega) (lt_n hn (by decide)) rfl ?_
                          refine ev_ldc2 (q := 126) co_X1_39 dX1_worldsFrom_123 rfl ?_
                          refine ev_lxor (q := 127) dX1_worldsFrom_126 rfl ?_
                          first | refine ev_lsK (q := 128) d' dX1_worldsFrom_127 (nI_pred _) rfl (by omega) (lt_n hn (by decide)) rfl rfl ?_ | refine ev_lsR (q := 128) d' dX1_worldsFrom_127 (nI_pred _) rfl (by omega) (lt_n hn (by decide)) rfl rfl ?_
                          refine ev_goto 151 dX1_worldsFrom_128 (by decide) ?_
                          exact J151 _ _ _ _ rfl hpl2
              · exact absurd (show (-1 : Int32) < 0 by decide) c_30
        · have hci : ∀ w, clS t tx sz a i w = mst t tx sz a w i := fun w => clS_n (fun _ => by rw [hpos]; exact h126)
          by_cases h48 : tx j = 48 ∨ tx j = 49
          · rw [if_pos h48] at hds
            rw [hds] at J151
            have hpr : isPr (tx j) = false := by rcases h48 with h | h <;> rw [h] <;> rfl
            have hn45 : ¬ tx j = 45 := by rcases h48 with h | h <;> rw [h] <;> decide
            have hpl2 := pls_push (x := if tx j = 49 then -1 else 0) (b := fun _ => decide (tx j = 49)) (g := clS t tx sz a (i + 1)) hpl (fun w hw => by rcases h48 with h | h <;> rw [h]; (exact lb_0 w); exact lb_m1 w hw) (fun w hw => by rw [hco w, hci w]; unfold stM; rw [if_neg (by rw [hlt]; decide), if_pos h48])
            refine ev_iload_n (q := 10) dX1_worldsFrom_9 rfl rfl ?_
            refine ev_if_lt (q := 13) 157 dX1_worldsFrom_10 (by decide) rfl (fun c_10 => ?_) (fun c_10 => ?_)
            · exact absurd c_10 (nI_pos (by omega))
            · refine ev_aload_n (q := 14) dX1_worldsFrom_13 rfl rfl ?_
              refine ev_get (q := 17) dX1_worldsFrom_14 fr_X1_9 rfl (lt_n hn (by decide)) rfl rfl ?_
              refine ev_iload_n (q := 18) dX1_worldsFrom_17 rfl rfl ?_
              refine ev_iaS (q := 19) j dX1_worldsFrom_18 rfl rfl (by omega) (lt_n hn (by decide)) rfl ?_
              rw [es]
              refine ev_ist_4 (q := 21) dX1_worldsFrom_19 rfl rfl ?_
              refine ev_iload (q := 23) dX1_worldsFrom_21 rfl rfl ?_
              refine ev_callSn1i (q := 26) dX1_worldsFrom_23 ca_X1_27 (c_X6_orderOf _) (Nat.le_of_ble_eq_true rfl) (Nat.le_of_ble_eq_true rfl) (by decide) (by decide) rfl ?_
              rw [isPr_n hpr]
              refine ev_ist_5 (q := 28) dX1_worldsFrom_26 rfl rfl ?_
              refine ev_iload (q := 30) dX1_worldsFrom_28 rfl rfl ?_
              refine ev_if_lt (q := 33) 71 dX1_worldsFrom_30 (by decide) rfl (fun c_30 => ?_) (fun c_30 => ?_)
              · refine ev_iload (q := 73) dX1_worldsFrom_71 rfl rfl ?_
                refine ev_bipush (q := 75) (45) dX1_worldsFrom_73 (by decide) rfl ?_
                refine ev_icmp_eq (q := 78) 85 dX1_worldsFrom_75 (by decide) rfl (fun c_75 => ?_) (fun c_75 => ?_)
                · exact absurd c_75 hn45
                · refine ev_iload (q := 80) dX1_worldsFrom_78 rfl rfl ?_
                  refine ev_bipush (q := 82) (126) dX1_worldsFrom_80 (by decide) rfl ?_
                  refine ev_icmp_ne (q := 85) 131 dX1_worldsFrom_82 (by decide) rfl (fun c_82 => ?_) (fun c_82 => ?_)
                  · refine ev_iload_n (q := 132) dX1_worldsFrom_131 rfl rfl ?_
                    refine ev_bipush (q := 134) (24) dX1_worldsFrom_132 (by decide) rfl ?_
                    refine ev_icmp_ge (q := 137) 151 dX1_worldsFrom_134 (by decide) rfl (fun c_134 => ?_) (fun c_134 => ?_)
                    · exact absurd ((nI_leI (a := 24) (by omega) (by omega)).mp c_134) (by omega)
                    · refine ev_aload_n (q := 138) dX1_worldsFrom_137 rfl rfl ?_
                      refine ev_get (q := 141) dX1_worldsFrom_138 fr_X1_15 rfl (lt_n hn (by decide)) rfl rfl ?_
                      refine ev_iload_n (q := 142) dX1_worldsFrom_141 rfl rfl ?_
                      refine ev_iload (q := 144) dX1_worldsFrom_142 rfl rfl ?_
                      refine ev_callS1l (q := 147) dX1_worldsFrom_144 ca_X1_41 (c_leaf_d h48) (Nat.le_of_ble_eq_true rfl) (Nat.le_of_ble_eq_true rfl) (by decide) (by decide) rfl ?_
                      first | refine ev_lsK (q := 148) d dX1_worldsFrom_147 rfl rfl (by omega) (lt_n hn (by decide)) rfl rfl ?_ | refine ev_lsR (q := 148) d dX1_worldsFrom_147 rfl rfl (by omega) (lt_n hn (by decide)) rfl rfl ?_
                      refine ev_inc_2 (q := 151) (nI (d + 1)) dX1_worldsFrom_148 (nI_1 d) rfl rfl ?_
                      exact J151 _ _ _ _ rfl hpl2
                  · exact absurd c_82 h126
              · exact absurd (show (-1 : Int32) < 0 by decide) c_30
          · have hvi := hvi hlt h48
            rw [if_neg h48] at hds
            by_cases h45 : tx j = 45
            · rw [if_pos h45] at hds
              rw [hds] at J151
              have h9 := hvi.1 h45
              obtain ⟨d', rfl⟩ : ∃ d', d = d' + 1 := ⟨d - 1, by omega⟩
              have hpr : isPr (tx j) = false := by rw [h45]; rfl
              have hst : ∀ w, w < 64 → clS t tx sz a (i + 1) w = (!(lbit (T 12 d') w)) :: (clS t tx sz a i w).tail := fun w hw => by
                obtain ⟨b, r, e1, e2⟩ := pls_top hpl hw
                rw [hco w, e1, e2, ← hci w, e1]
                unfold stM
                rw [if_neg (by rw [hlt]; decide), if_neg h48, if_pos h45]
                rfl
              have hpl2 := pls_rep (x := T 12 d' ^^^ (-1)) (c := fun w => !(lbit (T 12 d') w)) (g := clS t tx sz a (i + 1)) hpl (fun w hw => lb_not hw) hst
              refine ev_iload_n (q := 10) dX1_worldsFrom_9 rfl rfl ?_
              refine ev_if_lt (q := 13) 157 dX1_worldsFrom_10 (by decide) rfl (fun c_10 => ?_) (fun c_10 => ?_)
              · exact absurd c_10 (nI_pos (by omega))
              · refine ev_aload_n (q := 14) dX1_worldsFrom_13 rfl rfl ?_
                refine ev_get (q := 17) dX1_worldsFrom_14 fr_X1_9 rfl (lt_n hn (by decide)) rfl rfl ?_
                refine ev_iload_n (q := 18) dX1_worldsFrom_17 rfl rfl ?_
                refine ev_iaS (q := 19) j dX1_worldsFrom_18 rfl rfl (by omega) (lt_n hn (by decide)) rfl ?_
                rw [es]
                refine ev_ist_4 (q := 21) dX1_worldsFrom_19 rfl rfl ?_
                refine ev_iload (q := 23) dX1_worldsFrom_21 rfl rfl ?_
                refine ev_callSn1i (q := 26) dX1_worldsFrom_23 ca_X1_27 (c_X6_orderOf _) (Nat.le_of_ble_eq_true rfl) (Nat.le_of_ble_eq_true rfl) (by decide) (by decide) rfl ?_
                rw [isPr_n hpr]
                refine ev_ist_5 (q := 28) dX1_worldsFrom_26 rfl rfl ?_
                refine ev_iload (q := 30) dX1_worldsFrom_28 rfl rfl ?_
                refine ev_if_lt (q := 33) 71 dX1_worldsFrom_30 (by decide) rfl (fun c_30 => ?_) (fun c_30 => ?_)
                · refine ev_iload (q := 73) dX1_worldsFrom_71 rfl rfl ?_
                  refine ev_bipush (q := 75) (45) dX1_worldsFrom_73 (by decide) rfl ?_
                  refine ev_icmp_eq (q := 78) 85 dX1_worldsFrom_75 (by decide) rfl (fun c_75 => ?_) (fun c_75 => ?_)
                  · refine ev_iload_n (q := 86) dX1_worldsFrom_85 rfl rfl ?_
                    refine ev_iconst (q := 87) (1) dX1_worldsFrom_86 (by decide) rfl ?_
                    refine ev_icmp_lt (q := 90) 151 dX1_worldsFrom_87 (by decide) rfl (fun c_87 => ?_) (fun c_87 => ?_)
                    · exact absurd ((nI_ltI (b := 1) (by omega) (by omega)).mp c_87) (by omega)
                    · refine ev_iload (q := 92) dX1_worldsFrom_90 rfl rfl ?_
                      refine ev_bipush (q := 94) (45) dX1_worldsFrom_92 (by decide) rfl ?_
                      refine ev_icmp_eq (q := 97) 108 dX1_worldsFrom_94 (by decide) rfl (fun c_94 => ?_) (fun c_94 => ?_)
                      · refine ev_aload_n (q := 109) dX1_worldsFrom_108 rfl rfl ?_
                        refine ev_get (q := 112) dX1_worldsFrom_109 fr_X1_15 rfl (lt_n hn (by decide)) rfl rfl ?_
                        refine ev_iload_n (q := 113) dX1_worldsFrom_112 rfl rfl ?_
                        refine ev_iconst (q := 114) (1) dX1_worldsFrom_113 (by decide) rfl ?_
                        refine ev_isub (q := 115) dX1_worldsFrom_114 rfl ?_
                        refine ev_aload_n (q := 116) dX1_worldsFrom_115 rfl rfl ?_
                        refine ev_get (q := 119) dX1_worldsFrom_116 fr_X1_15 rfl (lt_n hn (by decide)) rfl rfl ?_
                        refine ev_iload_n (q := 120) dX1_worldsFrom_119 rfl rfl ?_
                        refine ev_iconst (q := 121) (1) dX1_worldsFrom_120 (by decide) rfl ?_
                        refine ev_isub (q := 122) dX1_worldsFrom_121 rfl ?_
                        refine ev_laS (q := 123) d' dX1_worldsFrom_122 (nI_pred _) rfl (by omega) (lt_n hn (by decide)) rfl ?_
                        refine ev_ldc2 (q := 126) co_X1_39 dX1_worldsFrom_123 rfl ?_
                        refine ev_lxor (q := 127) dX1_worldsFrom_126 rfl ?_
                        first | refine ev_lsK (q := 128) d' dX1_worldsFrom_127 (nI_pred _) rfl (by omega) (lt_n hn (by decide)) rfl rfl ?_ | refine ev_lsR (q := 128) d' dX1_worldsFrom_127 (nI_pred _) rfl (by omega) (lt_n hn (by decide)) rfl rfl ?_
                        refine ev_goto 151 dX1_worldsFrom_128 (by decide) ?_
                        exact J151 _ _ _ _ rfl hpl2
                      · exact absurd h45 c_94
                  · exact absurd h45 c_75
                · exact absurd (show (-1 : Int32) < 0 by decide) c_30
            · rw [if_neg h45, if_neg h126] at hds
              have h9 := hvi.2 h45 h126
              obtain ⟨d', rfl⟩ : ∃ d', d = d' + 2 := ⟨d - 2, by omega⟩
              rw [show d' + 2 - 1 = d' + 1 by omega] at hds
              rw [hds] at J151
              have hpr : isPr (tx j) = true := by
                rcases hcl with h | h | h | h | h | h
                · rw [h] at hlt; cases hlt
                · exact absurd (Or.inl h) h48
                · exact absurd (Or.inr h) h48
                · exact absurd h h45
                · exact absurd h h126
                · exact h
              obtain ⟨q, hq, hqe⟩ := isPr_k hpr
              have hor : orF (tx j) = nI q := by rw [hqe, orF_pr q hq]
              have hst : ∀ w, w < 64 → clS t tx sz a (i + 1) w = prF (prS q) (lbit (T 12 (d' + 1)) w) (lbit (T 12 d') w) :: (clS t tx sz a i w).tail.tail := fun w hw => by
                obtain ⟨b, c, r, e1, e2, e3⟩ := pls_2nd hpl hw
                rw [hco w, e1, e2, e3, ← hci w, e1, ← hqe]
                unfold stM
                rw [if_neg (by rw [hlt]; decide), if_neg h48, if_neg h45, if_neg h126]
                rfl
              have hpl2 := pls_pop (x := jnL q (T 12 (d' + 1)) (T 12 d')) (c := fun w => prF (prS q) (lbit (T 12 (d' + 1)) w) (lbit (T 12 d') w)) (g := clS t tx sz a (i + 1)) hpl (fun w hw => jnL_b hq hw) hst
              refine ev_iload_n (q := 10) dX1_worldsFrom_9 rfl rfl ?_
              refine ev_if_lt (q := 13) 157 dX1_worldsFrom_10 (by decide) rfl (fun c_10 => ?_) (fun c_10 => ?_)
              · exact absurd c_10 (nI_pos (by omega))
              · refine ev_aload_n (q := 14) dX1_worldsFrom_13 rfl rfl ?_
                refine ev_get (q := 17) dX1_worldsFrom_14 fr_X1_9 rfl (lt_n hn (by decide)) rfl rfl ?_
                refine ev_iload_n (q := 18) dX1_worldsFrom_17 rfl rfl ?_
                refine ev_iaS (q := 19) j dX1_worldsFrom_18 rfl rfl (by omega) (lt_n hn (by decide)) rfl ?_
                rw [es]
                refine ev_ist_4 (q := 21) dX1_worldsFrom_19 rfl rfl ?_
                refine ev_iload (q := 23) dX1_worldsFrom_21 rfl rfl ?_
                refine ev_callSn1i (q := 26) dX1_worldsFrom_23 ca_X1_27 (c_X6_orderOf _) (Nat.le_of_ble_eq_true rfl) (Nat.le_of_ble_eq_true rfl) (by decide) (by decide) rfl ?_
                rw [hor]
                refine ev_ist_5 (q := 28) dX1_worldsFrom_26 rfl rfl ?_
                refine ev_iload (q := 30) dX1_worldsFrom_28 rfl rfl ?_
                refine ev_if_lt (q := 33) 71 dX1_worldsFrom_30 (by decide) rfl (fun c_30 => ?_) (fun c_30 => ?_)
                · exact absurd c_30 (nI_pos (by omega))
                · refine ev_iload_n (q := 34) dX1_worldsFrom_33 rfl rfl ?_
                  refine ev_iconst (q := 35) (2) dX1_worldsFrom_34 (by decide) rfl ?_
                  refine ev_icmp_lt (q := 38) 151 dX1_worldsFrom_35 (by decide) rfl (fun c_35 => ?_) (fun c_35 => ?_)
                  · exact absurd ((nI_ltI (b := 2) (by omega) (by omega)).mp c_35) (by omega)
                  · refine ev_inc_2 (q := 41) (nI (d' + 1)) dX1_worldsFrom_38 (pk_m1 _) rfl rfl ?_
                    refine ev_aload_n (q := 42) dX1_worldsFrom_41 rfl rfl ?_
                    refine ev_get (q := 45) dX1_worldsFrom_42 fr_X1_15 rfl (lt_n hn (by decide)) rfl rfl ?_
                    refine ev_iload_n (q := 46) dX1_worldsFrom_45 rfl rfl ?_
                    refine ev_iconst (q := 47) (1) dX1_worldsFrom_46 (by decide) rfl ?_
                    refine ev_isub (q := 48) dX1_worldsFrom_47 rfl ?_
                    refine ev_iload (q := 50) dX1_worldsFrom_48 rfl rfl ?_
                    refine ev_aload_n (q := 51) dX1_worldsFrom_50 rfl rfl ?_
                    refine ev_get (q := 54) dX1_worldsFrom_51 fr_X1_15 rfl (lt_n hn (by decide)) rfl rfl ?_
                    refine ev_iload_n (q := 55) dX1_worldsFrom_54 rfl rfl ?_
                    refine ev_laS (q := 56) (d' + 1) dX1_worldsFrom_55 rfl rfl (by omega) (lt_n hn (by decide)) rfl ?_
                    refine ev_aload_n (q := 57) dX1_worldsFrom_56 rfl rfl ?_
                    refine ev_get (q := 60) dX1_worldsFrom_57 fr_X1_15 rfl (lt_n hn (by decide)) rfl rfl ?_
                    refine ev_iload_n (q := 61) dX1_worldsFrom_60 rfl rfl ?_
                    refine ev_iconst (q := 62) (1) dX1_worldsFrom_61 (by decide) rfl ?_
                    refine ev_isub (q := 63) dX1_worldsFrom_62 rfl ?_
                    refine ev_laS (q := 64) d' dX1_worldsFrom_63 (nI_pred _) rfl (by omega) (lt_n hn (by decide)) rfl ?_
                    refine ev_callS3l (q := 67) dX1_worldsFrom_64 ca_X1_31 (c_joined hq) (Nat.le_of_ble_eq_true rfl) (Nat.le_of_ble_eq_true rfl) (by decide) (by decide) rfl ?_
                    first | refine ev_lsK (q := 68) d' dX1_worldsFrom_67 (nI_pred _) rfl (by omega) (lt_n hn (by decide)) rfl rfl ?_ | refine ev_lsR (q := 68) d' dX1_worldsFrom_67 (nI_pred _) rfl (by omega) (lt_n hn (by decide)) rfl rfl ?_
                    refine ev_goto 151 dX1_worldsFrom_68 (by decide) ?_
                    exact J151 _ _ _ _ rfl hpl2
  refine ev_iconst (q := 1) (0) dX1_worldsFrom_0 (by decide) rfl ?_
  refine ev_ist_2 (q := 2) dX1_worldsFrom_1 rfl rfl ?_
  refine ev_aload_n (q := 3) dX1_worldsFrom_2 rfl rfl ?_
  refine ev_get (q := 6) dX1_worldsFrom_3 fr_X1_19 rfl (lt_n hn (by decide)) rfl rfl ?_
  rw [hsz]
  refine ev_iconst (q := 7) (1) dX1_worldsFrom_6 (by decide) rfl ?_
  refine ev_isub (q := 8) dX1_worldsFrom_7 rfl ?_
  refine ev_ist_3 (q := 9) dX1_worldsFrom_8 rfl rfl ?_
  exact lp sz 0 (by omega) T _ _ (fun w _ => ⟨cl_0 hw, fun d hd => absurd hd (Nat.not_lt_zero _)⟩)
theorem k_isSoAt_13 {tx : Nat → Int32} {sz a k q : Nat} (hn : 49 ≤ n) (hsz : ov I S 13 1 = nI sz) (htx : ∀ k, k < sz → ov I S 14 k = tx k) (h40 : sz ≤ 40) (hk : k < sz) (hq : tx k - 97 = nI q) (hq6 : q < 6) (ha : a < 64) : Rn xl xs 0 0 0 0 mX1_isSoAt [.ref 13, .int (nI k), .int (nI a)] n (sysH (ov I S) (ovJ J T) X) (some (.int (b2i (a.testBit q)))) n (sysH (ov I S) (ovJ J T) X) := by
  intro Q hQ
  show Ev xl xs 0 0 0 0 mX1_isSoAt 0 [some (.ref 13), some (.int (nI k)), some (.int (nI a)), none] [] n (sysH (ov I S) (ovJ J T) X) Q
  refine ev_iload_n (q := 1) dX1_isSoAt_0 rfl rfl ?_
  refine ev_aload_n (q := 2) dX1_isSoAt_1 rfl rfl ?_
  refine ev_get (q := 5) dX1_isSoAt_2 fr_X1_19 rfl (lt_n hn (by decide)) rfl rfl ?_
  rw [hsz]
  refine ev_icmp_ge (q := 8) 20 dX1_isSoAt_5 (by decide) rfl (fun c_5 => ?_) (fun c_5 => ?_)
  · exact absurd ((nI_leI (by omega) (by omega)).mp c_5) (by omega)
  · refine ev_aload_n (q := 9) dX1_isSoAt_8 rfl rfl ?_
    refine ev_get (q := 12) dX1_isSoAt_9 fr_X1_9 rfl (lt_n hn (by decide)) rfl rfl ?_
    refine ev_iload_n (q := 13) dX1_isSoAt_12 rfl rfl ?_
    refine ev_iaS (q := 14) k dX1_isSoAt_13 rfl rfl (by omega) (lt_n hn (by decide)) rfl ?_
    refine ev_bipush (q := 16) (97) dX1_isSoAt_14 (by decide) rfl ?_
    refine ev_isub (q := 17) dX1_isSoAt_16 rfl ?_
    rw [htx k hk, hq]
    refine ev_goto 21 dX1_isSoAt_17 (by decide) ?_
    refine ev_ist_3 (q := 22) dX1_isSoAt_21 rfl rfl ?_
    refine ev_iload_n (q := 23) dX1_isSoAt_22 rfl rfl ?_
    refine ev_if_lt (q := 26) 44 dX1_isSoAt_23 (by decide) rfl (fun c_23 => ?_) (fun c_23 => ?_)
    · exact absurd c_23 (nI_pos (by omega))
    · refine ev_iload_n (q := 27) dX1_isSoAt_26 rfl rfl ?_
      refine ev_bipush (q := 29) (6) dX1_isSoAt_27 (by decide) rfl ?_
      refine ev_icmp_ge (q := 32) 44 dX1_isSoAt_29 (by decide) rfl (fun c_29 => ?_) (fun c_29 => ?_)
      · exact absurd ((nI_leI (a := 6) (by omega) (by omega)).mp c_29) (by omega)
      · refine ev_iload_n (q := 33) dX1_isSoAt_32 rfl rfl ?_
        refine ev_iload_n (q := 34) dX1_isSoAt_33 rfl rfl ?_
        refine ev_ishr (q := 35) dX1_isSoAt_34 rfl ?_
        refine ev_iconst (q := 36) (1) dX1_isSoAt_35 (by decide) rfl ?_
        refine ev_iand (q := 37) dX1_isSoAt_36 rfl ?_
        rw [nI_bit (by omega) (by omega)]
        refine ev_if_eq (q := 40) 44 dX1_isSoAt_37 (by decide) rfl (fun c_37 => ?_) (fun c_37 => ?_)
        · have c_37 : a.testBit q = false := by cases hx : a.testBit q with | false => rfl | true => rw [hx] at c_37; exact absurd c_37 (by decide)
          refine ev_iconst (q := 45) (0) dX1_isSoAt_44 (by decide) rfl ?_
          exact ev_iretE dX1_isSoAt_45 rfl (nar_b2i _) (by rw [c_37]; rfl) rfl rfl hQ
        · have c_37 : a.testBit q = true := by cases hx : a.testBit q with | true => rfl | false => rw [hx] at c_37; exact absurd rfl c_37
          refine ev_iconst (q := 41) (1) dX1_isSoAt_40 (by decide) rfl ?_
          refine ev_goto 45 dX1_isSoAt_41 (by decide) ?_
          exact ev_iretE dX1_isSoAt_45 rfl (nar_b2i _) (by rw [c_37]; rfl) rfl rfl hQ
theorem k_worldsFrom_13 {tx : Nat → Int32} {sz a : Nat} (hn : 49 ≤ n) (h6 : t ≤ 6) (ht2 : 2 ≤ t) (hsz : ov I S 13 1 = nI sz) (htx : ∀ k, k < sz → ov I S 14 k = tx k) (hw : WT t tx sz) (ha : a < 64) : RnP xl xs 1 24 mX1_worldsFrom [.ref 13, .int (nI a)] n I S J T X (some (.long (mk64 (soM t tx sz a) 64))) (fun S' _ => S' = S) := by
  intro Q hQ
  have hv := hw.1
  have h24 := hw.2.1
  show Ev xl xs 1 24 0 0 mX1_worldsFrom 0 [some (.ref 13), some (.int (nI a)), none, none, none, none] [] n (sysH (ov I S) (ovJ J T) X) Q
  have lp : ∀ j i, i + j = sz → ∀ T a4 a5, PLs (T 15) (dpM t tx sz i) (clS t tx sz a i) → Ev xl xs 1 24 0 0 mX1_worldsFrom 9 [some (.ref 13), some (.int (nI a)), some (.int (nI (dpM t tx sz i))), some (.int (nI j - 1)), a4, a5] [] n (sysH (ov I S) (ovJ J T) X) Q := by
    intro j
    induction j with
    | zero =>
      intro i hi T a4 a5 hpl
      have hi2 : i = sz := by omega
      subst hi2
      rw [hv.2.2] at hpl ⊢
      have hr : T 15 0 = mk64 (soM t tx i a) 64 := by
        apply l_ext
        intro w hw
        obtain ⟨b, r, e1, e2⟩ := pls_top hpl hw
        rw [clS_n (fun h => absurd h (by omega))] at e1
        rw [mk64_bit _ 64 (Nat.le_refl _), decide_eq_true hw, Bool.true_and, e2]
        unfold soM
        rw [e1]
        rfl
      refine ev_iload_n (q := 10) dX1_worldsFrom_9 rfl rfl ?_
      refine ev_if_lt (q := 13) 157 dX1_worldsFrom_10 (by decide) rfl (fun c_10 => ?_) (fun c_10 => ?_)
      · refine ev_iload_n (q := 158) dX1_worldsFrom_157 rfl rfl ?_
        refine ev_iconst (q := 159) (1) dX1_worldsFrom_158 (by decide) rfl ?_
        refine ev_icmp_ne (q := 162) 171 dX1_worldsFrom_159 (by decide) rfl (fun c_159 => ?_) (fun c_159 => ?_)
        · exact absurd rfl c_159
        · refine ev_aload_n (q := 163) dX1_worldsFrom_162 rfl rfl ?_
          refine ev_get (q := 166) dX1_worldsFrom_163 fr_X1_15 rfl (lt_n hn (by decide)) rfl rfl ?_
          refine ev_iconst (q := 167) (0) dX1_worldsFrom_166 (by decide) rfl ?_
          refine ev_laS (q := 168) 0 dX1_worldsFrom_167 rfl rfl (by omega) (lt_n hn (by decide)) rfl ?_
          refine ev_goto 172 dX1_worldsFrom_168 (by decide) ?_
          exact ev_lretE dX1_worldsFrom_172 rfl hr rfl rfl (hQ _ _ rfl)
      · exact absurd (show nI 0 - 1 < 0 by decide) c_10
    | succ j ih =>
      intro i hi T a4 a5 hpl
      have hdp := dpM_le (t := t) (tx := tx) (sz := sz) i
      have hvi := hv.2.1 i (by omega)
      have hcl := hw.2.2.1 j (by omega)
      have hpos : sz - 1 - i = j := by omega
      rw [hpos] at hvi
      have es : ov I S 14 j = tx j := htx j (by omega)
      have hds := dpM_s t tx sz i
      rw [hpos] at hds
      have ih := ih (i + 1) (by omega)
      have J151 : ∀ T x a4 a5, x = nI (dpM t tx sz (i + 1)) → PLs (T 15) (dpM t tx sz (i + 1)) (clS t tx sz a (i + 1)) → Ev xl xs 1 24 0 0 mX1_worldsFrom 151 [some (.ref 13), some (.int (nI a)), some (.int x), some (.int (nI j)), a4, a5] [] n (sysH (ov I S) (ovJ J T) X) Q := by
        intro T x a4 a5 hx hpl
        subst hx
        refine ev_inc_3 (q := 154) (nI j - 1) dX1_worldsFrom_151 (inc_m1 _) rfl rfl ?_
        refine ev_goto 9 dX1_worldsFrom_154 (by decide) ?_
        exact ih T _ _ hpl
      rw [show nI (j + 1) - 1 = nI j from nI_pred j]
      generalize hd : dpM t tx sz i = d at hpl hdp hvi hds ⊢
      cases hlt : isLt t (tx j) with
      | true =>
        obtain ⟨q, hq1, hq2, hq3, hq4⟩ := isLt_n h6 ht2 hlt
        have hnt := isLt_not h6 ht2 hlt
        rw [hlt, if_pos rfl] at hds
        rw [hds] at J151
        have hpl2 := pls_push (x := soB q) (b := fun w => w.testBit q) (g := clS t tx sz a (i + 1)) hpl (fun w hw => soB_b q (by omega) w hw) (fun w hw => clS_l h6 ht2 hi hlt hq4)
        refine ev_iload_n (q := 10) dX1_worldsFrom_9 rfl rfl ?_
        refine ev_if_lt (q := 13) 157 dX1_worldsFrom_10 (by decide) rfl (fun c_10 => ?_) (fun c_10 => ?_)
        · exact absurd c_10 (nI_pos (by omega))
        · refine ev_aload_n (q := 14) dX1_worldsFrom_13 rfl rfl ?_
          refine ev_get (q := 17) dX1_worldsFrom_14 fr_X1_9 rfl (lt_n hn (by decide)) rfl rfl ?_
          refine ev_iload_n (q := 18) dX1_worldsFrom_17 rfl rfl ?_
          refine ev_iaS (q := 19) j dX1_worldsFrom_18 rfl rfl (by omega) (lt_n hn (by decide)) rfl ?_
          rw [es]
          refine ev_ist_4 (q := 21) dX1_worldsFrom_19 rfl rfl ?_
          refine ev_iload (q := 23) dX1_worldsFrom_21 rfl rfl ?_
          refine ev_callSn1i (q := 26) dX1_worldsFrom_23 ca_X1_27 (c_X6_orderOf _) (Nat.le_of_ble_eq_true rfl) (Nat.le_of_ble_eq_true rfl) (by decide) (by decide) rfl ?_
          rw [isPr_n hnt.2.2.2.2]
          refine ev_ist_5 (q := 28) dX1_worldsFrom_26 rfl rfl ?_
          refine ev_iload (q := 30) dX1_worldsFrom_28 rfl rfl ?_
          refine ev_if_lt (q := 33) 71 dX1_worldsFrom_30 (by decide) rfl (fun c_30 => ?_) (fun c_30 => ?_)
          · refine ev_iload (q := 73) dX1_worldsFrom_71 rfl rfl ?_
            refine ev_bipush (q := 75) (45) dX1_worldsFrom_73 (by decide) rfl ?_
            refine ev_icmp_eq (q := 78) 85 dX1_worldsFrom_75 (by decide) rfl (fun c_75 => ?_) (fun c_75 => ?_)
            · exact absurd c_75 hnt.2.1
            · refine ev_iload (q := 80) dX1_worldsFrom_78 rfl rfl ?_
              refine ev_bipush (q := 82) (126) dX1_worldsFrom_80 (by decide) rfl ?_
              refine ev_icmp_ne (q := 85) 131 dX1_worldsFrom_82 (by decide) rfl (fun c_82 => ?_) (fun c_82 => ?_)
              · refine ev_iload_n (q := 132) dX1_worldsFrom_131 rfl rfl ?_
                refine ev_bipush (q := 134) (24) dX1_worldsFrom_132 (by decide) rfl ?_
                refine ev_icmp_ge (q := 137) 151 dX1_worldsFrom_134 (by decide) rfl (fun c_134 => ?_) (fun c_134 => ?_)
                · exact absurd ((nI_leI (a := 24) (by omega) (by omega)).mp c_134) (by omega)
                · refine ev_aload_n (q := 138) dX1_worldsFrom_137 rfl rfl ?_
                  refine ev_get (q := 141) dX1_worldsFrom_138 fr_X1_15 rfl (lt_n hn (by decide)) rfl rfl ?_
                  refine ev_iload_n (q := 142) dX1_worldsFrom_141 rfl rfl ?_
                  refine ev_iload (q := 144) dX1_worldsFrom_142 rfl rfl ?_
                  refine ev_callS1l (q := 147) dX1_worldsFrom_144 ca_X1_41 (hq2 ▸ c_leaf_l (by omega)) (Nat.le_of_ble_eq_true rfl) (Nat.le_of_ble_eq_true rfl) (by decide) (by decide) rfl ?_
                  first | refine ev_lsK (q := 148) d dX1_worldsFrom_147 rfl rfl (by omega) (lt_n hn (by decide)) rfl rfl ?_ | refine ev_lsR (q := 148) d dX1_worldsFrom_147 rfl rfl (by omega) (lt_n hn (by decide)) rfl rfl ?_
                  refine ev_inc_2 (q := 151) (nI (d + 1)) dX1_worldsFrom_148 (nI_1 d) rfl rfl ?_
                  exact J151 _ _ _ _ rfl hpl2
              · exact absurd c_82 hnt.1
          · exact absurd (show (-1 : Int32) < 0 by decide) c_30
      | false =>
        rw [hlt, if_neg (by decide)] at hds
        have hco : ∀ w, clS t tx sz a (i + 1) w = stM t tx a w j (mst t tx sz a w i) := fun w => clS_o hw hi hlt
        by_cases h126 : tx j = 126
        · have hn48 : ¬ (tx j = 48 ∨ tx j = 49) := by rw [h126]; decide
          rw [if_neg hn48, if_neg (by rw [h126]; decide), if_pos h126] at hds
          obtain ⟨hj1, hlt1⟩ := hw.2.2.2 j (by omega) h126
          obtain ⟨q, hq1, hq2, hq3, hq4⟩ := isLt_n h6 ht2 hlt1
          have hcw := fun w => clS_w (a := a) (w := w) hw hi h126 hq4
          have hmst : ∀ w, clS t tx sz a (i + 1) w = (w.testBit q == a.testBit q) :: (clS t tx sz a i w).tail := fun w => by
            rw [hco w, (hcw w).1]
            unfold stM
            rw [if_neg (by rw [hlt]; decide), if_neg hn48, if_neg (by rw [h126]; decide), if_pos h126]
            exact (hcw w).2
          obtain ⟨d', rfl⟩ : ∃ d', d = d' + 1 := by
            obtain ⟨b, r, e1, -⟩ : ∃ b r, clS t tx sz a i 0 = b :: r ∧ True := ⟨_, _, (hcw 0).1, trivial⟩
            have := (hpl 0 (by decide)).1
            rw [e1] at this
            exact ⟨d - 1, by simp at this; omega⟩
          rw [hds] at J151
          have hpr : isPr (tx j) = false := by rw [h126]; rfl
          have htop : ∀ w, w < 64 → lbit (T 15 d') w = w.testBit q := fun w hw => by
            obtain ⟨b, r, e1, e2⟩ := pls_top hpl hw
            rw [(hcw w).1] at e1
            cases e1
            exact e2
          cases haq : a.testBit q with
          | true =>
            have hpl2 : PLs (T 15) (d' + 1) (clS t tx sz a (i + 1)) := by
              intro w hw
              rw [show clS t tx sz a (i + 1) w = clS t tx sz a i w from by rw [hmst w, haq, (hcw w).1]; cases w.testBit q <;> rfl]
              exact hpl w hw
            refine ev_iload_n (q := 10) dX1_worldsFrom_9 rfl rfl ?_
            refine ev_if_lt (q := 13) 157 dX1_worldsFrom_10 (by decide) rfl (fun c_10 => ?_) (fun c_10 => ?_)
            · exact absurd c_10 (nI_pos (by omega))
            · refine ev_aload_n (q := 14) dX1_worldsFrom_13 rfl rfl ?_
              refine ev_get (q := 17) dX1_worldsFrom_14 fr_X1_9 rfl (lt_n hn (by decide)) rfl rfl ?_
              refine ev_iload_n (q := 18) dX1_worldsFrom_17 rfl rfl ?_
              refine ev_iaS (q := 19) j dX1_worldsFrom_18 rfl rfl (by omega) (lt_n hn (by decide)) rfl ?_
              rw [es]
              refine ev_ist_4 (q := 21) dX1_worldsFrom_19 rfl rfl ?_
              refine ev_iload (q := 23) dX1_worldsFrom_21 rfl rfl ?_
              refine ev_callSn1i (q := 26) dX1_worldsFrom_23 ca_X1_27 (c_X6_orderOf _) (Nat.le_of_ble_eq_true rfl) (Nat.le_of_ble_eq_true rfl) (by decide) (by decide) rfl ?_
              rw [isPr_n hpr]
              refine ev_ist_5 (q := 28) dX1_worldsFrom_26 rfl rfl ?_
              refine ev_iload (q := 30) dX1_worldsFrom_28 rfl rfl ?_
              refine ev_if_lt (q := 33) 71 dX1_worldsFrom_30 (by decide) rfl (fun c_30 => ?_) (fun c_30 => ?_)
              · refine ev_iload (q := 73) dX1_worldsFrom_71 rfl rfl ?_
                refine ev_bipush (q := 75) (45) dX1_worldsFrom_73 (by decide) rfl ?_
                refine ev_icmp_eq (q := 78) 85 dX1_worldsFrom_75 (by decide) rfl (fun c_75 => ?_) (fun c_75 => ?_)
                · exact absurd (show tx j = 45 from c_75) (by rw [h126]; decide)
                · refine ev_iload (q := 80) dX1_worldsFrom_78 rfl rfl ?_
                  refine ev_bipush (q := 82) (126) dX1_worldsFrom_80 (by decide) rfl ?_
                  refine ev_icmp_ne (q := 85) 131 dX1_worldsFrom_82 (by decide) rfl (fun c_82 => ?_) (fun c_82 => ?_)
                  · exact absurd h126 c_82
                  · refine ev_iload_n (q := 86) dX1_worldsFrom_85 rfl rfl ?_
                    refine ev_iconst (q := 87) (1) dX1_worldsFrom_86 (by decide) rfl ?_
                    refine ev_icmp_lt (q := 90) 151 dX1_worldsFrom_87 (by decide) rfl (fun c_87 => ?_) (fun c_87 => ?_)
                    · exact absurd ((nI_ltI (b := 1) (by omega) (by omega)).mp c_87) (by omega)
                    · refine ev_iload (q := 92) dX1_worldsFrom_90 rfl rfl ?_
                      refine ev_bipush (q := 94) (45) dX1_worldsFrom_92 (by decide) rfl ?_
                      refine ev_icmp_eq (q := 97) 108 dX1_worldsFrom_94 (by decide) rfl (fun c_94 => ?_) (fun c_94 => ?_)
                      · exact absurd (show tx j = 45 from c_94) (by rw [h126]; decide)
                      · refine ev_aload_n (q := 98) dX1_worldsFrom_97 rfl rfl ?_
                        refine ev_iload_n (q := 99) dX1_worldsFrom_98 rfl rfl ?_
                        refine ev_iconst (q := 100) (1) dX1_worldsFrom_99 (by decide) rfl ?_
                        refine ev_iadd (q := 101) dX1_worldsFrom_100 rfl ?_
                        refine ev_iload_n (q := 102) dX1_worldsFrom_101 rfl rfl ?_
                        rw [nI_1 j]
                        refine ev_callV2i (q := 105) dX1_worldsFrom_102 ca_X1_35 (k_isSoAt_13 hn hsz htx (by omega) hj1 hq3 (by omega) ha) rfl (lt_n hn (by decide)) rfl rfl (Nat.le_of_ble_eq_true rfl) (Nat.le_of_ble_eq_true rfl) (by decide) (by decide) rfl ?_
                        refine ev_if_ne (q := 108) 151 dX1_worldsFrom_105 (by decide) rfl (fun c_105 => ?_) (fun c_105 => ?_)
                        · exact J151 _ _ _ _ rfl hpl2
                        · exact absurd c_105 (b2i_n0.mpr haq)
              · exact absurd (show (-1 : Int32) < 0 by decide) c_30
          | false =>
            have hpl2 := pls_rep (x := T 15 d' ^^^ (-1)) (c := fun w => w.testBit q == a.testBit q) (g := clS t tx sz a (i + 1)) hpl (fun w hw => by rw [lb_not hw, htop w hw, haq]; cases w.testBit q <;> rfl) (fun w _ => hmst w)
            refine ev_iload_n (q := 10) dX1_worldsFrom_9 rfl rfl ?_
            refine ev_if_lt (q := 13) 157 dX1_worldsFrom_10 (by decide) rfl (fun c_10 => ?_) (fun c_10 => ?_)
            · exact absurd c_10 (nI_pos (by omega))
            · refine ev_aload_n (q := 14) dX1_worldsFrom_13 rfl rfl ?_
              refine ev_get (q := 17) dX1_worldsFrom_14 fr_X1_9 rfl (lt_n hn (by decide)) rfl rfl ?_
              refine ev_iload_n (q := 18) dX1_worldsFrom_17 rfl rfl ?_
              refine ev_iaS (q := 19) j dX1_worldsFrom_18 rfl rfl (by omega) (lt_n hn (by decide)) rfl ?_
              rw [es]
              refine ev_ist_4 (q := 21) dX1_worldsFrom_19 rfl rfl ?_
              refine ev_iload (q := 23) dX1_worldsFrom_21 rfl rfl ?_
              refine ev_callSn1i (q := 26) dX1_worldsFrom_23 ca_X1_27 (c_X6_orderOf _) (Nat.le_of_ble_eq_true rfl) (Nat.le_of_ble_eq_true rfl) (by decide) (by decide) rfl ?_
              rw [isPr_n hpr]
              refine ev_ist_5 (q := 28) dX1_worldsFrom_26 rfl rfl ?_
              refine ev_iload (q := 30) dX1_worldsFrom_28 rfl rfl ?_
              refine ev_if_lt (q := 33) 71 dX1_worldsFrom_30 (by decide) rfl (fun c_30 => ?_) (fun c_30 => ?_)
              · refine ev_iload (q := 73) dX1_worldsFrom_71 rfl rfl ?_
                refine ev_bipush (q := 75) (45) dX1_worldsFrom_73 (by decide) rfl ?_
                refine ev_icmp_eq (q := 78) 85 dX1_worldsFrom_75 (by decide) rfl (fun c_75 => ?_) (fun c_75 => ?_)
                · exact absurd (show tx j = 45 from c_75) (by rw [h126]; decide)
                · refine ev_iload (q := 80) dX1_worldsFrom_78 rfl rfl ?_
                  refine ev_bipush (q := 82) (126) dX1_worldsFrom_80 (by decide) rfl ?_
                  refine ev_icmp_ne (q := 85) 131 dX1_worldsFrom_82 (by decide) rfl (fun c_82 => ?_) (fun c_82 => ?_)
                  · exact absurd h126 c_82
                  · refine ev_iload_n (q := 86) dX1_worldsFrom_85 rfl rfl ?_
                    refine ev_iconst (q := 87) (1) dX1_worldsFrom_86 (by decide) rfl ?_
                    refine ev_icmp_lt (q := 90) 151 dX1_worldsFrom_87 (by decide) rfl (fun c_87 => ?_) (fun c_87 => ?_)
                    · exact absurd ((nI_ltI (b := 1) (by omega) (by omega)).mp c_87) (by omega)
                    · refine ev_iload (q := 92) dX1_worldsFrom_90 rfl rfl ?_
                      refine ev_bipush (q := 94) (45) dX1_worldsFrom_92 (by decide) rfl ?_
                      refine ev_icmp_eq (q := 97) 108 dX1_worldsFrom_94 (by decide) rfl (fun c_94 => ?_) (fun c_94 => ?_)
                      · exact absurd (show tx j = 45 from c_94) (by rw [h126]; decide)
                      · refine ev_aload_n (q := 98) dX1_worldsFrom_97 rfl rfl ?_
                        refine ev_iload_n (q := 99) dX1_worldsFrom_98 rfl rfl ?_
                        refine ev_iconst (q := 100) (1) dX1_worldsFrom_99 (by decide) rfl ?_
                        refine ev_iadd (q := 101) dX1_worldsFrom_100 rfl ?_
                        refine ev_iload_n (q := 102) dX1_worldsFrom_101 rfl rfl ?_
                        rw [nI_1 j]
                        refine ev_callV2i (q := 105) dX1_worldsFrom_102 ca_X1_35 (k_isSoAt_13 hn hsz htx (by omega) hj1 hq3 (by omega) ha) rfl (lt_n hn (by decide)) rfl rfl (Nat.le_of_ble_eq_true rfl) (Nat.le_of_ble_eq_true rfl) (by decide) (by decide) rfl ?_
                        refine ev_if_ne (q := 108) 151 dX1_worldsFrom_105 (by decide) rfl (fun c_105 => ?_) (fun c_105 => ?_)
                        · exact absurd (b2i_ne.mp c_105) (by rw [haq]; decide)
                        · refine ev_aload_n (q := 109) dX1_worldsFrom_108 rfl rfl ?_
                          refine ev_get (q := 112) dX1_worldsFrom_109 fr_X1_15 rfl (lt_n hn (by decide)) rfl rfl ?_
                          refine ev_iload_n (q := 113) dX1_worldsFrom_112 rfl rfl ?_
                          refine ev_iconst (q := 114) (1) dX1_worldsFrom_113 (by decide) rfl ?_
                          refine ev_isub (q := 115) dX1_worldsFrom_114 rfl ?_
                          refine ev_aload_n (q := 116) dX1_worldsFrom_115 rfl rfl ?_
                          refine ev_get (q := 119) dX1_worldsFrom_116 fr_X1_15 rfl (lt_n hn (by decide)) rfl rfl ?_
                          refine ev_iload_n (q := 120) dX1_worldsFrom_119 rfl rfl ?_
                          refine ev_iconst (q := 121) (1) dX1_worldsFrom_120 (by decide) rfl ?_
                          refine ev_isub (q := 122) dX1_worldsFrom_121 rfl ?_
                          refine ev_laS (q := 123) d' dX1_worldsFrom_122 (nI_pred _) rfl (by omega) (lt_n hn (by decide)) rfl ?_
                          refine ev_ldc2 (q := 126) co_X1_39 dX1_worldsFrom_123 rfl ?_
                          refine ev_lxor (q := 127) dX1_worldsFrom_126 rfl ?_
                          first | refine ev_lsK (q := 128) d' dX1_worldsFrom_127 (nI_pred _) rfl (by omega) (lt_n hn (by decide)) rfl rfl ?_ | refine ev_lsR (q := 128) d' dX1_worldsFrom_127 (nI_pred _) rfl (by omega) (lt_n hn (by decide)) rfl rfl ?_
                          refine ev_goto 151 dX1_worldsFrom_128 (by decide) ?_
                          exact J151 _ _ _ _ rfl hpl2
              · exact absurd (show (-1 : Int32) < 0 by decide) c_30
        · have hci : ∀ w, clS t tx sz a i w = mst t tx sz a w i := fun w => clS_n (fun _ => by rw [hpos]; exact h126)
          by_cases h48 : tx j = 48 ∨ tx j = 49
          · rw [if_pos h48] at hds
            rw [hds] at J151
            have hpr : isPr (tx j) = false := by rcases h48 with h | h <;> rw [h] <;> rfl
            have hn45 : ¬ tx j = 45 := by rcases h48 with h | h <;> rw [h] <;> decide
            have hpl2 := pls_push (x := if tx j = 49 then -1 else 0) (b := fun _ => decide (tx j = 49)) (g := clS t tx sz a (i + 1)) hpl (fun w hw => by rcases h48 with h | h <;> rw [h]; (exact lb_0 w); exact lb_m1 w hw) (fun w hw => by rw [hco w, hci w]; unfold stM; rw [if_neg (by rw [hlt]; decide), if_pos h48])
            refine ev_iload_n (q := 10) dX1_worldsFrom_9 rfl rfl ?_
            refine ev_if_lt (q := 13) 157 dX1_worldsFrom_10 (by decide) rfl (fun c_10 => ?_) (fun c_10 => ?_)
            · exact absurd c_10 (nI_pos (by omega))
            · refine ev_aload_n (q := 14) dX1_worldsFrom_13 rfl rfl ?_
              refine ev_get (q := 17) dX1_worldsFrom_14 fr_X1_9 rfl (lt_n hn (by decide)) rfl rfl ?_
              refine ev_iload_n (q := 18) dX1_worldsFrom_17 rfl rfl ?_
              refine ev_iaS (q := 19) j dX1_worldsFrom_18 rfl rfl (by omega) (lt_n hn (by decide)) rfl ?_
              rw [es]
              refine ev_ist_4 (q := 21) dX1_worldsFrom_19 rfl rfl ?_
              refine ev_iload (q := 23) dX1_worldsFrom_21 rfl rfl ?_
              refine ev_callSn1i (q := 26) dX1_worldsFrom_23 ca_X1_27 (c_X6_orderOf _) (Nat.le_of_ble_eq_true rfl) (Nat.le_of_ble_eq_true rfl) (by decide) (by decide) rfl ?_
              rw [isPr_n hpr]
              refine ev_ist_5 (q := 28) dX1_worldsFrom_26 rfl rfl ?_
              refine ev_iload (q := 30) dX1_worldsFrom_28 rfl rfl ?_
              refine ev_if_lt (q := 33) 71 dX1_worldsFrom_30 (by decide) rfl (fun c_30 => ?_) (fun c_30 => ?_)
              · refine ev_iload (q := 73) dX1_worldsFrom_71 rfl rfl ?_
                refine ev_bipush (q := 75) (45) dX1_worldsFrom_73 (by decide) rfl ?_
                refine ev_icmp_eq (q := 78) 85 dX1_worldsFrom_75 (by decide) rfl (fun c_75 => ?_) (fun c_75 => ?_)
                · exact absurd c_75 hn45
                · refine ev_iload (q := 80) dX1_worldsFrom_78 rfl rfl ?_
                  refine ev_bipush (q := 82) (126) dX1_worldsFrom_80 (by decide) rfl ?_
                  refine ev_icmp_ne (q := 85) 131 dX1_worldsFrom_82 (by decide) rfl (fun c_82 => ?_) (fun c_82 => ?_)
                  · refine ev_iload_n (q := 132) dX1_worldsFrom_131 rfl rfl ?_
                    refine ev_bipush (q := 134) (24) dX1_worldsFrom_132 (by decide) rfl ?_
                    refine ev_icmp_ge (q := 137) 151 dX1_worldsFrom_134 (by decide) rfl (fun c_134 => ?_) (fun c_134 => ?_)
                    · exact absurd ((nI_leI (a := 24) (by omega) (by omega)).mp c_134) (by omega)
                    · refine ev_aload_n (q := 138) dX1_worldsFrom_137 rfl rfl ?_
                      refine ev_get (q := 141) dX1_worldsFrom_138 fr_X1_15 rfl (lt_n hn (by decide)) rfl rfl ?_
                      refine ev_iload_n (q := 142) dX1_worldsFrom_141 rfl rfl ?_
                      refine ev_iload (q := 144) dX1_worldsFrom_142 rfl rfl ?_
                      refine ev_callS1l (q := 147) dX1_worldsFrom_144 ca_X1_41 (c_leaf_d h48) (Nat.le_of_ble_eq_true rfl) (Nat.le_of_ble_eq_true rfl) (by decide) (by decide) rfl ?_
                      first | refine ev_lsK (q := 148) d dX1_worldsFrom_147 rfl rfl (by omega) (lt_n hn (by decide)) rfl rfl ?_ | refine ev_lsR (q := 148) d dX1_worldsFrom_147 rfl rfl (by omega) (lt_n hn (by decide)) rfl rfl ?_
                      refine ev_inc_2 (q := 151) (nI (d + 1)) dX1_worldsFrom_148 (nI_1 d) rfl rfl ?_
                      exact J151 _ _ _ _ rfl hpl2
                  · exact absurd c_82 h126
              · exact absurd (show (-1 : Int32) < 0 by decide) c_30
          · have hvi := hvi hlt h48
            rw [if_neg h48] at hds
            by_cases h45 : tx j = 45
            · rw [if_pos h45] at hds
              rw [hds] at J151
              have h9 := hvi.1 h45
              obtain ⟨d', rfl⟩ : ∃ d', d = d' + 1 := ⟨d - 1, by omega⟩
              have hpr : isPr (tx j) = false := by rw [h45]; rfl
              have hst : ∀ w, w < 64 → clS t tx sz a (i + 1) w = (!(lbit (T 15 d') w)) :: (clS t tx sz a i w).tail := fun w hw => by
                obtain ⟨b, r, e1, e2⟩ := pls_top hpl hw
                rw [hco w, e1, e2, ← hci w, e1]
                unfold stM
                rw [if_neg (by rw [hlt]; decide), if_neg h48, if_pos h45]
                rfl
              have hpl2 := pls_rep (x := T 15 d' ^^^ (-1)) (c := fun w => !(lbit (T 15 d') w)) (g := clS t tx sz a (i + 1)) hpl (fun w hw => lb_not hw) hst
              refine ev_iload_n (q := 10) dX1_worldsFrom_9 rfl rfl ?_
              refine ev_if_lt (q := 13) 157 dX1_worldsFrom_10 (by decide) rfl (fun c_10 => ?_) (fun c_10 => ?_)
              · exact absurd c_10 (nI_pos (by omega))
              · refine ev_aload_n (q := 14) dX1_worldsFrom_13 rfl rfl ?_
                refine ev_get (q := 17) dX1_worldsFrom_14 fr_X1_9 rfl (lt_n hn (by decide)) rfl rfl ?_
                refine ev_iload_n (q := 18) dX1_worldsFrom_17 rfl rfl ?_
                refine ev_iaS (q := 19) j dX1_worldsFrom_18 rfl rfl (by omega) (lt_n hn (by decide)) rfl ?_
                rw [es]
                refine ev_ist_4 (q := 21) dX1_worldsFrom_19 rfl rfl ?_
                refine ev_iload (q := 23) dX1_worldsFrom_21 rfl rfl ?_
                refine ev_callSn1i (q := 26) dX1_worldsFrom_23 ca_X1_27 (c_X6_orderOf _) (Nat.le_of_ble_eq_true rfl) (Nat.le_of_ble_eq_true rfl) (by decide) (by decide) rfl ?_
                rw [isPr_n hpr]
                refine ev_ist_5 (q := 28) dX1_worldsFrom_26 rfl rfl ?_
                refine ev_iload (q := 30) dX1_worldsFrom_28 rfl rfl ?_
                refine ev_if_lt (q := 33) 71 dX1_worldsFrom_30 (by decide) rfl (fun c_30 => ?_) (fun c_30 => ?_)
                · refine ev_iload (q := 73) dX1_worldsFrom_71 rfl rfl ?_
                  refine ev_bipush (q := 75) (45) dX1_worldsFrom_73 (by decide) rfl ?_
                  refine ev_icmp_eq (q := 78) 85 dX1_worldsFrom_75 (by decide) rfl (fun c_75 => ?_) (fun c_75 => ?_)
                  · refine ev_iload_n (q := 86) dX1_worldsFrom_85 rfl rfl ?_
                    refine ev_iconst (q := 87) (1) dX1_worldsFrom_86 (by decide) rfl ?_
                    refine ev_icmp_lt (q := 90) 151 dX1_worldsFrom_87 (by decide) rfl (fun c_87 => ?_) (fun c_87 => ?_)
                    · exact absurd ((nI_ltI (b := 1) (by omega) (by omega)).mp c_87) (by omega)
                    · refine ev_iload (q := 92) dX1_worldsFrom_90 rfl rfl ?_
                      refine ev_bipush (q := 94) (45) dX1_worldsFrom_92 (by decide) rfl ?_
                      refine ev_icmp_eq (q := 97) 108 dX1_worldsFrom_94 (by decide) rfl (fun c_94 => ?_) (fun c_94 => ?_)
                      · refine ev_aload_n (q := 109) dX1_worldsFrom_108 rfl rfl ?_
                        refine ev_get (q := 112) dX1_worldsFrom_109 fr_X1_15 rfl (lt_n hn (by decide)) rfl rfl ?_
                        refine ev_iload_n (q := 113) dX1_worldsFrom_112 rfl rfl ?_
                        refine ev_iconst (q := 114) (1) dX1_worldsFrom_113 (by decide) rfl ?_
                        refine ev_isub (q := 115) dX1_worldsFrom_114 rfl ?_
                        refine ev_aload_n (q := 116) dX1_worldsFrom_115 rfl rfl ?_
                        refine ev_get (q := 119) dX1_worldsFrom_116 fr_X1_15 rfl (lt_n hn (by decide)) rfl rfl ?_
                        refine ev_iload_n (q := 120) dX1_worldsFrom_119 rfl rfl ?_
                        refine ev_iconst (q := 121) (1) dX1_worldsFrom_120 (by decide) rfl ?_
                        refine ev_isub (q := 122) dX1_worldsFrom_121 rfl ?_
                        refine ev_laS (q := 123) d' dX1_worldsFrom_122 (nI_pred _) rfl (by omega) (lt_n hn (by decide)) rfl ?_
                        refine ev_ldc2 (q := 126) co_X1_39 dX1_worldsFrom_123 rfl ?_
                        refine ev_lxor (q := 127) dX1_worldsFrom_126 rfl ?_
                        first | refine ev_lsK (q := 128) d' dX1_worldsFrom_127 (nI_pred _) rfl (by omega) (lt_n hn (by decide)) rfl rfl ?_ | refine ev_lsR (q := 128) d' dX1_worldsFrom_127 (nI_pred _) rfl (by omega) (lt_n hn (by decide)) rfl rfl ?_
                        refine ev_goto 151 dX1_worldsFrom_128 (by decide) ?_
                        exact J151 _ _ _ _ rfl hpl2
                      · exact absurd h45 c_94
                  · exact absurd h45 c_75
                · exact absurd (show (-1 : Int32) < 0 by decide) c_30
            · rw [if_neg h45, if_neg h126] at hds
              have h9 := hvi.2 h45 h126
              obtain ⟨d', rfl⟩ : ∃ d', d = d' + 2 := ⟨d - 2, by omega⟩
              rw [show d' + 2 - 1 = d' + 1 by omega] at hds
              rw [hds] at J151
              have hpr : isPr (tx j) = true := by
                rcases hcl with h | h | h | h | h | h
                · rw [h] at hlt; cases hlt
                · exact absurd (Or.inl h) h48
                · exact absurd (Or.inr h) h48
                · exact absurd h h45
                · exact absurd h h126
                · exact h
              obtain ⟨q, hq, hqe⟩ := isPr_k hpr
              have hor : orF (tx j) = nI q := by rw [hqe, orF_pr q hq]
              have hst : ∀ w, w < 64 → clS t tx sz a (i + 1) w = prF (prS q) (lbit (T 15 (d' + 1)) w) (lbit (T 15 d') w) :: (clS t tx sz a i w).tail.tail := fun w hw => by
                obtain ⟨b, c, r, e1, e2, e3⟩ := pls_2nd hpl hw
                rw [hco w, e1, e2, e3, ← hci w, e1, ← hqe]
                unfold stM
                rw [if_neg (by rw [hlt]; decide), if_neg h48, if_neg h45, if_neg h126]
                rfl
              have hpl2 := pls_pop (x := jnL q (T 15 (d' + 1)) (T 15 d')) (c := fun w => prF (prS q) (lbit (T 15 (d' + 1)) w) (lbit (T 15 d') w)) (g := clS t tx sz a (i + 1)) hpl (fun w hw => jnL_b hq hw) hst
              refine ev_iload_n (q := 10) dX1_worldsFrom_9 rfl rfl ?_
              refine ev_if_lt (q := 13) 157 dX1_worldsFrom_10 (by decide) rfl (fun c_10 => ?_) (fun c_10 => ?_)
              · exact absurd c_10 (nI_pos (by omega))
              · refine ev_aload_n (q := 14) dX1_worldsFrom_13 rfl rfl ?_
                refine ev_get (q := 17) dX1_worldsFrom_14 fr_X1_9 rfl (lt_n hn (by decide)) rfl rfl ?_
                refine ev_iload_n (q := 18) dX1_worldsFrom_17 rfl rfl ?_
                refine ev_iaS (q := 19) j dX1_worldsFrom_18 rfl rfl (by omega) (lt_n hn (by decide)) rfl ?_
                rw [es]
                refine ev_ist_4 (q := 21) dX1_worldsFrom_19 rfl rfl ?_
                refine ev_iload (q := 23) dX1_worldsFrom_21 rfl rfl ?_
                refine ev_callSn1i (q := 26) dX1_worldsFrom_23 ca_X1_27 (c_X6_orderOf _) (Nat.le_of_ble_eq_true rfl) (Nat.le_of_ble_eq_true rfl) (by decide) (by decide) rfl ?_
                rw [hor]
                refine ev_ist_5 (q := 28) dX1_worldsFrom_26 rfl rfl ?_
                refine ev_iload (q := 30) dX1_worldsFrom_28 rfl rfl ?_
                refine ev_if_lt (q := 33) 71 dX1_worldsFrom_30 (by decide) rfl (fun c_30 => ?_) (fun c_30 => ?_)
                · exact absurd c_30 (nI_pos (by omega))
                · refine ev_iload_n (q := 34) dX1_worldsFrom_33 rfl rfl ?_
                  refine ev_iconst (q := 35) (2) dX1_worldsFrom_34 (by decide) rfl ?_
                  refine ev_icmp_lt (q := 38) 151 dX1_worldsFrom_35 (by decide) rfl (fun c_35 => ?_) (fun c_35 => ?_)
                  · exact absurd ((nI_ltI (b := 2) (by omega) (by omega)).mp c_35) (by omega)
                  · refine ev_inc_2 (q := 41) (nI (d' + 1)) dX1_worldsFrom_38 (pk_m1 _) rfl rfl ?_
                    refine ev_aload_n (q := 42) dX1_worldsFrom_41 rfl rfl ?_
                    refine ev_get (q := 45) dX1_worldsFrom_42 fr_X1_15 rfl (lt_n hn (by decide)) rfl rfl ?_
                    refine ev_iload_n (q := 46) dX1_worldsFrom_45 rfl rfl ?_
                    refine ev_iconst (q := 47) (1) dX1_worldsFrom_46 (by decide) rfl ?_
                    refine ev_isub (q := 48) dX1_worldsFrom_47 rfl ?_
                    refine ev_iload (q := 50) dX1_worldsFrom_48 rfl rfl ?_
                    refine ev_aload_n (q := 51) dX1_worldsFrom_50 rfl rfl ?_
                    refine ev_get (q := 54) dX1_worldsFrom_51 fr_X1_15 rfl (lt_n hn (by decide)) rfl rfl ?_
                    refine ev_iload_n (q := 55) dX1_worldsFrom_54 rfl rfl ?_
                    refine ev_laS (q := 56) (d' + 1) dX1_worldsFrom_55 rfl rfl (by omega) (lt_n hn (by decide)) rfl ?_
                    refine ev_aload_n (q := 57) dX1_worldsFrom_56 rfl rfl ?_
                    refine ev_get (q := 60) dX1_worldsFrom_57 fr_X1_15 rfl (lt_n hn (by decide)) rfl rfl ?_
                    refine ev_iload_n (q := 61) dX1_worldsFrom_60 rfl rfl ?_
                    refine ev_iconst (q := 62) (1) dX1_worldsFrom_61 (by decide) rfl ?_
                    refine ev_isub (q := 63) dX1_worldsFrom_62 rfl ?_
                    refine ev_laS (q := 64) d' dX1_worldsFrom_63 (nI_pred _) rfl (by omega) (lt_n hn (by decide)) rfl ?_
                    refine ev_callS3l (q := 67) dX1_worldsFrom_64 ca_X1_31 (c_joined hq) (Nat.le_of_ble_eq_true rfl) (Nat.le_of_ble_eq_true rfl) (by decide) (by decide) rfl ?_
                    first | refine ev_lsK (q := 68) d' dX1_worldsFrom_67 (nI_pred _) rfl (by omega) (lt_n hn (by decide)) rfl rfl ?_ | refine ev_lsR (q := 68) d' dX1_worldsFrom_67 (nI_pred _) rfl (by omega) (lt_n hn (by decide)) rfl rfl ?_
                    refine ev_goto 151 dX1_worldsFrom_68 (by decide) ?_
                    exact J151 _ _ _ _ rfl hpl2
  refine ev_iconst (q := 1) (0) dX1_worldsFrom_0 (by decide) rfl ?_
  refine ev_ist_2 (q := 2) dX1_worldsFrom_1 rfl rfl ?_
  refine ev_aload_n (q := 3) dX1_worldsFrom_2 rfl rfl ?_
  refine ev_get (q := 6) dX1_worldsFrom_3 fr_X1_19 rfl (lt_n hn (by decide)) rfl rfl ?_
  rw [hsz]
  refine ev_iconst (q := 7) (1) dX1_worldsFrom_6 (by decide) rfl ?_
  refine ev_isub (q := 8) dX1_worldsFrom_7 rfl ?_
  refine ev_ist_3 (q := 9) dX1_worldsFrom_8 rfl rfl ?_
  exact lp sz 0 (by omega) T _ _ (fun w _ => ⟨cl_0 hw, fun d hd => absurd hd (Nat.not_lt_zero _)⟩)
end CLS5
