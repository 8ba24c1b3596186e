theorem dX6_signPut_0 : decode cX6_signPut 0 = .ok (.iload_n 1, 1) := by decide +kernel
theorem dX6_signPut_1 : decode cX6_signPut 1 = .ok (.ifCond .lt 21, 3) := by decide +kernel
theorem dX6_signPut_4 : decode cX6_signPut 4 = .ok (.iload_n 1, 1) := by decide +kernel
theorem dX6_signPut_5 : decode cX6_signPut 5 = .ok (.bipush 40, 2) := by decide +kernel
theorem dX6_signPut_7 : decode cX6_signPut 7 = .ok (.if_icmp .ge 15, 3) := by decide +kernel
theorem dX6_signPut_10 : decode cX6_signPut 10 = .ok (.iload_n 2, 1) := by decide +kernel
theorem dX6_signPut_11 : decode cX6_signPut 11 = .ok (.ifCond .lt 11, 3) := by decide +kernel
theorem dX6_signPut_14 : decode cX6_signPut 14 = .ok (.iload_n 2, 1) := by decide +kernel
theorem dX6_signPut_15 : decode cX6_signPut 15 = .ok (.getstatic 324, 3) := by decide +kernel
theorem dX6_signPut_18 : decode cX6_signPut 18 = .ok (.arraylength, 1) := by decide +kernel
theorem dX6_signPut_19 : decode cX6_signPut 19 = .ok (.if_icmp .lt 5, 3) := by decide +kernel
theorem dX6_signPut_22 : decode cX6_signPut 22 = .ok (.iconst 0, 1) := by decide +kernel
theorem dX6_signPut_23 : decode cX6_signPut 23 = .ok (.ireturn, 1) := by decide +kernel
theorem dX6_signPut_24 : decode cX6_signPut 24 = .ok (.aload_n 0, 1) := by decide +kernel
theorem dX6_signPut_25 : decode cX6_signPut 25 = .ok (.getfield 23, 3) := by decide +kernel
theorem dX6_signPut_28 : decode cX6_signPut 28 = .ok (.getfield 314, 3) := by decide +kernel
theorem dX6_signPut_31 : decode cX6_signPut 31 = .ok (.iload_n 1, 1) := by decide +kernel
theorem dX6_signPut_32 : decode cX6_signPut 32 = .ok (.iaload, 1) := by decide +kernel
theorem dX6_signPut_33 : decode cX6_signPut 33 = .ok (.bipush 45, 2) := by decide +kernel
theorem dX6_signPut_35 : decode cX6_signPut 35 = .ok (.if_icmp .ne 7, 3) := by decide +kernel
theorem dX6_signPut_38 : decode cX6_signPut 38 = .ok (.iconst 0, 1) := by decide +kernel
theorem dX6_signPut_39 : decode cX6_signPut 39 = .ok (.goto 8, 3) := by decide +kernel
theorem dX6_signPut_42 : decode cX6_signPut 42 = .ok (.getstatic 324, 3) := by decide +kernel
theorem dX6_signPut_45 : decode cX6_signPut 45 = .ok (.iload_n 2, 1) := by decide +kernel
theorem dX6_signPut_46 : decode cX6_signPut 46 = .ok (.iaload, 1) := by decide +kernel
theorem dX6_signPut_47 : decode cX6_signPut 47 = .ok (.ireturn, 1) := by decide +kernel
theorem dX6_tryChange_0 : decode cX6_tryChange 0 = .ok (.aload_n 0, 1) := by decide +kernel
theorem dX6_tryChange_1 : decode cX6_tryChange 1 = .ok (.getfield 27, 3) := by decide +kernel
theorem dX6_tryChange_4 : decode cX6_tryChange 4 = .ok (.aload_n 0, 1) := by decide +kernel
theorem dX6_tryChange_5 : decode cX6_tryChange 5 = .ok (.getfield 23, 3) := by decide +kernel
theorem dX6_tryChange_8 : decode cX6_tryChange 8 = .ok (.iload_n 1, 1) := by decide +kernel
theorem dX6_tryChange_9 : decode cX6_tryChange 9 = .ok (.aload_n 0, 1) := by decide +kernel
theorem dX6_tryChange_10 : decode cX6_tryChange 10 = .ok (.iload_n 1, 1) := by decide +kernel
theorem dX6_tryChange_11 : decode cX6_tryChange 11 = .ok (.iload_n 2, 1) := by decide +kernel
theorem dX6_tryChange_12 : decode cX6_tryChange 12 = .ok (.invokevirtual 205, 3) := by decide +kernel
theorem dX6_tryChange_15 : decode cX6_tryChange 15 = .ok (.invokevirtual 327, 3) := by decide +kernel
theorem dX6_tryChange_18 : decode cX6_tryChange 18 = .ok (.aload_n 0, 1) := by decide +kernel
theorem dX6_tryChange_19 : decode cX6_tryChange 19 = .ok (.getfield 42, 3) := by decide +kernel
theorem dX6_tryChange_22 : decode cX6_tryChange 22 = .ok (.aload_n 0, 1) := by decide +kernel
theorem dX6_tryChange_23 : decode cX6_tryChange 23 = .ok (.getfield 27, 3) := by decide +kernel
theorem dX6_tryChange_26 : decode cX6_tryChange 26 = .ok (.aload_n 0, 1) := by decide +kernel
theorem dX6_tryChange_27 : decode cX6_tryChange 27 = .ok (.getfield 10, 3) := by decide +kernel
theorem dX6_tryChange_30 : decode cX6_tryChange 30 = .ok (.getfield 103, 3) := by decide +kernel
theorem dX6_tryChange_33 : decode cX6_tryChange 33 = .ok (.invokevirtual 131, 3) := by decide +kernel
theorem dX6_tryChange_36 : decode cX6_tryChange 36 = .ok (.lload_n 3, 1) := by decide +kernel
theorem dX6_tryChange_37 : decode cX6_tryChange 37 = .ok (.land, 1) := by decide +kernel
theorem dX6_tryChange_38 : decode cX6_tryChange 38 = .ok (.aload_n 0, 1) := by decide +kernel
theorem dX6_tryChange_39 : decode cX6_tryChange 39 = .ok (.getfield 10, 3) := by decide +kernel
theorem dX6_tryChange_42 : decode cX6_tryChange 42 = .ok (.getfield 103, 3) := by decide +kernel
theorem dX6_tryChange_45 : decode cX6_tryChange 45 = .ok (.invokevirtual 310, 3) := by decide +kernel
theorem dX6_tryChange_48 : decode cX6_tryChange 48 = .ok (.istore 5, 2) := by decide +kernel
theorem dX6_tryChange_50 : decode cX6_tryChange 50 = .ok (.iload 5, 2) := by decide +kernel
theorem dX6_tryChange_52 : decode cX6_tryChange 52 = .ok (.ifCond .lt 27, 3) := by decide +kernel
theorem dX6_tryChange_55 : decode cX6_tryChange 55 = .ok (.aload_n 0, 1) := by decide +kernel
theorem dX6_tryChange_56 : decode cX6_tryChange 56 = .ok (.getfield 56, 3) := by decide +kernel
theorem dX6_tryChange_59 : decode cX6_tryChange 59 = .ok (.aload_n 0, 1) := by decide +kernel
theorem dX6_tryChange_60 : decode cX6_tryChange 60 = .ok (.getfield 42, 3) := by decide +kernel
theorem dX6_tryChange_63 : decode cX6_tryChange 63 = .ok (.getfield 215, 3) := by decide +kernel
theorem dX6_tryChange_66 : decode cX6_tryChange 66 = .ok (.iload 5, 2) := by decide +kernel
theorem dX6_tryChange_68 : decode cX6_tryChange 68 = .ok (.iaload, 1) := by decide +kernel
theorem dX6_tryChange_69 : decode cX6_tryChange 69 = .ok (.iload_n 1, 1) := by decide +kernel
theorem dX6_tryChange_70 : decode cX6_tryChange 70 = .ok (.sipush 1000, 3) := by decide +kernel
theorem dX6_tryChange_73 : decode cX6_tryChange 73 = .ok (.imul, 1) := by decide +kernel
theorem dX6_tryChange_74 : decode cX6_tryChange 74 = .ok (.iload_n 2, 1) := by decide +kernel
theorem dX6_tryChange_75 : decode cX6_tryChange 75 = .ok (.iadd, 1) := by decide +kernel
theorem dX6_tryChange_76 : decode cX6_tryChange 76 = .ok (.invokevirtual 219, 3) := by decide +kernel
theorem dX6_tryChange_79 : decode cX6_tryChange 79 = .ok (.return_, 1) := by decide +kernel
theorem dX6_tryPlace_0 : decode cX6_tryPlace 0 = .ok (.aload_n 0, 1) := by decide +kernel
theorem dX6_tryPlace_1 : decode cX6_tryPlace 1 = .ok (.getfield 23, 3) := by decide +kernel
theorem dX6_tryPlace_4 : decode cX6_tryPlace 4 = .ok (.getfield 314, 3) := by decide +kernel
theorem dX6_tryPlace_7 : decode cX6_tryPlace 7 = .ok (.iload_n 1, 1) := by decide +kernel
theorem dX6_tryPlace_8 : decode cX6_tryPlace 8 = .ok (.iaload, 1) := by decide +kernel
theorem dX6_tryPlace_9 : decode cX6_tryPlace 9 = .ok (.bipush 45, 2) := by decide +kernel
theorem dX6_tryPlace_11 : decode cX6_tryPlace 11 = .ok (.if_icmp .ne 13, 3) := by decide +kernel
theorem dX6_tryPlace_14 : decode cX6_tryPlace 14 = .ok (.aload_n 0, 1) := by decide +kernel
theorem dX6_tryPlace_15 : decode cX6_tryPlace 15 = .ok (.iload_n 1, 1) := by decide +kernel
theorem dX6_tryPlace_16 : decode cX6_tryPlace 16 = .ok (.iconst 0, 1) := by decide +kernel
theorem dX6_tryPlace_17 : decode cX6_tryPlace 17 = .ok (.lload_n 2, 1) := by decide +kernel
theorem dX6_tryPlace_18 : decode cX6_tryPlace 18 = .ok (.invokevirtual 317, 3) := by decide +kernel
theorem dX6_tryPlace_21 : decode cX6_tryPlace 21 = .ok (.goto 44, 3) := by decide +kernel
theorem dX6_tryPlace_24 : decode cX6_tryPlace 24 = .ok (.aload_n 0, 1) := by decide +kernel
theorem dX6_tryPlace_25 : decode cX6_tryPlace 25 = .ok (.getfield 23, 3) := by decide +kernel
theorem dX6_tryPlace_28 : decode cX6_tryPlace 28 = .ok (.getfield 314, 3) := by decide +kernel
theorem dX6_tryPlace_31 : decode cX6_tryPlace 31 = .ok (.iload_n 1, 1) := by decide +kernel
theorem dX6_tryPlace_32 : decode cX6_tryPlace 32 = .ok (.iaload, 1) := by decide +kernel
theorem dX6_tryPlace_33 : decode cX6_tryPlace 33 = .ok (.invokestatic 321, 3) := by decide +kernel
theorem dX6_tryPlace_36 : decode cX6_tryPlace 36 = .ok (.ifCond .lt 29, 3) := by decide +kernel
theorem dX6_tryPlace_39 : decode cX6_tryPlace 39 = .ok (.iconst 0, 1) := by decide +kernel
theorem dX6_tryPlace_40 : decode cX6_tryPlace 40 = .ok (.istore 4, 2) := by decide +kernel
theorem dX6_tryPlace_42 : decode cX6_tryPlace 42 = .ok (.iload 4, 2) := by decide +kernel
theorem dX6_tryPlace_44 : decode cX6_tryPlace 44 = .ok (.getstatic 324, 3) := by decide +kernel
theorem dX6_tryPlace_47 : decode cX6_tryPlace 47 = .ok (.arraylength, 1) := by decide +kernel
theorem dX6_tryPlace_48 : decode cX6_tryPlace 48 = .ok (.if_icmp .ge 17, 3) := by decide +kernel
theorem dX6_tryPlace_51 : decode cX6_tryPlace 51 = .ok (.aload_n 0, 1) := by decide +kernel
theorem dX6_tryPlace_52 : decode cX6_tryPlace 52 = .ok (.iload_n 1, 1) := by decide +kernel
theorem dX6_tryPlace_53 : decode cX6_tryPlace 53 = .ok (.iload 4, 2) := by decide +kernel
theorem dX6_tryPlace_55 : decode cX6_tryPlace 55 = .ok (.lload_n 2, 1) := by decide +kernel
theorem dX6_tryPlace_56 : decode cX6_tryPlace 56 = .ok (.invokevirtual 317, 3) := by decide +kernel
theorem dX6_tryPlace_59 : decode cX6_tryPlace 59 = .ok (.iinc 4 1, 3) := by decide +kernel
theorem dX6_tryPlace_62 : decode cX6_tryPlace 62 = .ok (.goto (-20), 3) := by decide +kernel
theorem dX6_tryPlace_65 : decode cX6_tryPlace 65 = .ok (.return_, 1) := by decide +kernel
theorem dX6_comma_0 : decode cX6_comma 0 = .ok (.iload_n 1, 1) := by decide +kernel
theorem dX6_comma_1 : decode cX6_comma 1 = .ok (.ifCond .lt 8, 3) := by decide +kernel
theorem dX6_comma_4 : decode cX6_comma 4 = .ok (.iload_n 1, 1) := by decide +kernel
theorem dX6_comma_5 : decode cX6_comma 5 = .ok (.iconst 2, 1) := by decide +kernel
theorem dX6_comma_6 : decode cX6_comma 6 = .ok (.if_icmp .le 6, 3) := by decide +kernel
theorem dX6_comma_9 : decode cX6_comma 9 = .ok (.bipush (-2), 2) := by decide +kernel
theorem dX6_comma_11 : decode cX6_comma 11 = .ok (.ireturn, 1) := by decide +kernel
theorem dX6_comma_12 : decode cX6_comma 12 = .ok (.aload_n 0, 1) := by decide +kernel
theorem dX6_comma_13 : decode cX6_comma 13 = .ok (.invokevirtual 127, 3) := by decide +kernel
theorem dX6_comma_16 : decode cX6_comma 16 = .ok (.ifCond .eq 6, 3) := by decide +kernel
theorem dX6_comma_19 : decode cX6_comma 19 = .ok (.bipush (-5), 2) := by decide +kernel
theorem dX6_comma_21 : decode cX6_comma 21 = .ok (.ireturn, 1) := by decide +kernel
theorem dX6_comma_22 : decode cX6_comma 22 = .ok (.aload_n 0, 1) := by decide +kernel
theorem dX6_comma_23 : decode cX6_comma 23 = .ok (.getfield 42, 3) := by decide +kernel
theorem dX6_comma_26 : decode cX6_comma 26 = .ok (.invokevirtual 182, 3) := by decide +kernel
theorem dX6_comma_29 : decode cX6_comma 29 = .ok (.aload_n 0, 1) := by decide +kernel
theorem dX6_comma_30 : decode cX6_comma 30 = .ok (.getfield 56, 3) := by decide +kernel
theorem dX6_comma_33 : decode cX6_comma 33 = .ok (.invokevirtual 185, 3) := by decide +kernel
theorem dX6_comma_36 : decode cX6_comma 36 = .ok (.aload_n 0, 1) := by decide +kernel
theorem dX6_comma_37 : decode cX6_comma 37 = .ok (.getfield 10, 3) := by decide +kernel
theorem dX6_comma_40 : decode cX6_comma 40 = .ok (.getfield 139, 3) := by decide +kernel
theorem dX6_comma_43 : decode cX6_comma 43 = .ok (.aload_n 0, 1) := by decide +kernel
theorem dX6_comma_44 : decode cX6_comma 44 = .ok (.getfield 10, 3) := by decide +kernel
theorem dX6_comma_47 : decode cX6_comma 47 = .ok (.aload_n 0, 1) := by decide +kernel
theorem dX6_comma_48 : decode cX6_comma 48 = .ok (.getfield 23, 3) := by decide +kernel
theorem dX6_comma_51 : decode cX6_comma 51 = .ok (.invokevirtual 187, 3) := by decide +kernel
theorem dX6_comma_54 : decode cX6_comma 54 = .ok (.aload_n 0, 1) := by decide +kernel
theorem dX6_comma_55 : decode cX6_comma 55 = .ok (.getfield 10, 3) := by decide +kernel
theorem dX6_comma_58 : decode cX6_comma 58 = .ok (.getfield 103, 3) := by decide +kernel
theorem dX6_comma_61 : decode cX6_comma 61 = .ok (.invokevirtual 190, 3) := by decide +kernel
theorem dX6_comma_64 : decode cX6_comma 64 = .ok (.land, 1) := by decide +kernel
theorem dX6_comma_65 : decode cX6_comma 65 = .ok (.lstore_n 2, 1) := by decide +kernel
theorem dX6_comma_66 : decode cX6_comma 66 = .ok (.iconst 0, 1) := by decide +kernel
theorem dX6_comma_67 : decode cX6_comma 67 = .ok (.istore 4, 2) := by decide +kernel
theorem dX6_comma_69 : decode cX6_comma 69 = .ok (.iload 4, 2) := by decide +kernel
theorem dX6_comma_71 : decode cX6_comma 71 = .ok (.aload_n 0, 1) := by decide +kernel
theorem dX6_comma_72 : decode cX6_comma 72 = .ok (.getfield 23, 3) := by decide +kernel
theorem dX6_comma_75 : decode cX6_comma 75 = .ok (.getfield 116, 3) := by decide +kernel
theorem dX6_comma_78 : decode cX6_comma 78 = .ok (.if_icmp .ge 16, 3) := by decide +kernel
theorem dX6_comma_81 : decode cX6_comma 81 = .ok (.aload_n 0, 1) := by decide +kernel
theorem dX6_comma_82 : decode cX6_comma 82 = .ok (.iload 4, 2) := by decide +kernel
theorem dX6_comma_84 : decode cX6_comma 84 = .ok (.lload_n 2, 1) := by decide +kernel
theorem dX6_comma_85 : decode cX6_comma 85 = .ok (.invokevirtual 194, 3) := by decide +kernel
theorem dX6_comma_88 : decode cX6_comma 88 = .ok (.iinc 4 1, 3) := by decide +kernel
theorem dX6_comma_91 : decode cX6_comma 91 = .ok (.goto (-22), 3) := by decide +kernel
theorem dX6_comma_94 : decode cX6_comma 94 = .ok (.aload_n 0, 1) := by decide +kernel
theorem dX6_comma_95 : decode cX6_comma 95 = .ok (.getfield 56, 3) := by decide +kernel
theorem dX6_comma_98 : decode cX6_comma 98 = .ok (.getfield 198, 3) := by decide +kernel
theorem dX6_comma_101 : decode cX6_comma 101 = .ok (.ifCond .ne 6, 3) := by decide +kernel
theorem dX6_comma_104 : decode cX6_comma 104 = .ok (.bipush (-6), 2) := by decide +kernel
theorem dX6_comma_106 : decode cX6_comma 106 = .ok (.ireturn, 1) := by decide +kernel
theorem dX6_comma_107 : decode cX6_comma 107 = .ok (.aload_n 0, 1) := by decide +kernel
theorem dX6_comma_108 : decode cX6_comma 108 = .ok (.getfield 56, 3) := by decide +kernel
theorem dX6_comma_111 : decode cX6_comma 111 = .ok (.getfield 202, 3) := by decide +kernel
theorem dX6_comma_114 : decode cX6_comma 114 = .ok (.sipush 1000, 3) := by decide +kernel
theorem dX6_comma_117 : decode cX6_comma 117 = .ok (.idiv, 1) := by decide +kernel
theorem dX6_comma_118 : decode cX6_comma 118 = .ok (.istore 4, 2) := by decide +kernel
theorem dX6_comma_120 : decode cX6_comma 120 = .ok (.iload_n 1, 1) := by decide +kernel
theorem dX6_comma_121 : decode cX6_comma 121 = .ok (.ifCond .ne 6, 3) := by decide +kernel
theorem dX6_comma_124 : decode cX6_comma 124 = .ok (.iload 4, 2) := by decide +kernel
theorem dX6_comma_126 : decode cX6_comma 126 = .ok (.ireturn, 1) := by decide +kernel
theorem dX6_comma_127 : decode cX6_comma 127 = .ok (.iload_n 1, 1) := by decide +kernel
theorem dX6_comma_128 : decode cX6_comma 128 = .ok (.iconst 1, 1) := by decide +kernel
theorem dX6_comma_129 : decode cX6_comma 129 = .ok (.if_icmp .ne 23, 3) := by decide +kernel
theorem dX6_comma_132 : decode cX6_comma 132 = .ok (.aload_n 0, 1) := by decide +kernel
theorem dX6_comma_133 : decode cX6_comma 133 = .ok (.iload 4, 2) := by decide +kernel
theorem dX6_comma_135 : decode cX6_comma 135 = .ok (.aload_n 0, 1) := by decide +kernel
theorem dX6_comma_136 : decode cX6_comma 136 = .ok (.getfield 56, 3) := by decide +kernel
theorem dX6_comma_139 : decode cX6_comma 139 = .ok (.getfield 202, 3) := by decide +kernel
theorem dX6_comma_142 : decode cX6_comma 142 = .ok (.sipush 1000, 3) := by decide +kernel
theorem dX6_comma_145 : decode cX6_comma 145 = .ok (.irem, 1) := by decide +kernel
theorem dX6_comma_146 : decode cX6_comma 146 = .ok (.invokevirtual 205, 3) := by decide +kernel
theorem dX6_comma_149 : decode cX6_comma 149 = .ok (.goto 14, 3) := by decide +kernel
theorem dX6_comma_152 : decode cX6_comma 152 = .ok (.aload_n 0, 1) := by decide +kernel
theorem dX6_comma_153 : decode cX6_comma 153 = .ok (.getfield 56, 3) := by decide +kernel
theorem dX6_comma_156 : decode cX6_comma 156 = .ok (.getfield 208, 3) := by decide +kernel
theorem dX6_comma_159 : decode cX6_comma 159 = .ok (.sipush 1000, 3) := by decide +kernel
theorem dX6_comma_162 : decode cX6_comma 162 = .ok (.iadd, 1) := by decide +kernel
theorem dX6_comma_163 : decode cX6_comma 163 = .ok (.ireturn, 1) := by decide +kernel
def spF (I : Nat → Nat → Int32) (p kd : Nat) : Int32 := if I 41 p = 45 then 0 else prS kd
def chC (pd : Nat → Int32) (p i : Nat) : Nat := if i ≤ p then i else chZ pd i p
theorem prS_n0 (k : Nat) : ¬ prS k = 0 := by
  unfold prS
  split
  · decide
  · split
    · decide
    · split
      · decide
      · split <;> decide
theorem wr_cc {S2 S : Nat → Nat → Int32} {c : Nat} {v : Int32} {f : Nat → Int32} (h0 : ∀ q, q ≠ 13 → q ≠ 14 → S2 q = S q) (h2 : ∀ k, k < c → S2 14 k = f k) (hv : v = f c) : (∀ q, q ≠ 13 → q ≠ 14 → wr (wr S2 14 c v) 13 1 (nI (c + 1)) q = S q) ∧ wr (wr S2 14 c v) 13 1 (nI (c + 1)) 13 1 = nI (c + 1) ∧ ∀ k, k < c + 1 → wr (wr S2 14 c v) 13 1 (nI (c + 1)) 14 k = f k := by
  refine ⟨fun q h3 h4 => ?_, rfl, fun k hk => ?_⟩
  · rw [← h0 q h3 h4]; simp [setI, h3, h4]
  · show upd (S2 14) c v k = f k
    by_cases e : k = c
    · rw [e, pk_us, hv]
    · rw [pk_un e]; exact h2 k (by omega)
theorem chC_ne {pd : Nat → Int32} {p i kd : Nat} (h : i ≠ p) : chT pd p kd (chC pd p i) = pd i ∧ chC pd p (i + 1) = chC pd p i + 1 := by
  unfold chT chC chZ
  cases hp : isPr (pd p) with
  | true =>
    simp only [if_true]
    by_cases c : i ≤ p
    · rw [if_pos c, if_pos (by omega), pk_un h]; exact ⟨rfl, rfl⟩
    · rw [if_neg c, if_neg (by omega), pk_un h]; exact ⟨rfl, rfl⟩
  | false =>
    simp only [Bool.false_eq_true, if_false]
    by_cases c : i ≤ p
    · rw [if_pos c, if_pos (by omega), if_pos (by omega)]; exact ⟨rfl, rfl⟩
    · rw [if_neg c, if_neg (by omega), if_neg (by omega)]; exact ⟨by rw [show i - 1 + 1 = i by omega], by omega⟩
theorem sdM_rm {t : Nat} {tx : Nat → Int32} {p : Nat} (hnl : isLt t (tx p) = false) : ∀ k, (k ≤ p → sdM t (fun j => if j < p then tx j else tx (j + 1)) k = sdM t tx k) ∧ (p ≤ k → sdM t (fun j => if j < p then tx j else tx (j + 1)) k = sdM t tx (k + 1))
  | 0 => by
    refine ⟨fun _ => rfl, fun h => ?_⟩
    have h : p = 0 := by omega
    subst h
    show 0 = 0 ||| (if isLt t (tx 0) then 2 ^ ltN (tx 0) else 0)
    rw [hnl]; simp
  | k + 1 => by
    obtain ⟨i1, i2⟩ := sdM_rm (t := t) (tx := tx) (p := p) hnl k
    constructor
    · intro h
      show sdM t (fun j => if j < p then tx j else tx (j + 1)) k ||| (if isLt t (if k < p then tx k else tx (k + 1)) then 2 ^ ltN (if k < p then tx k else tx (k + 1)) else 0) = sdM t tx k ||| (if isLt t (tx k) then 2 ^ ltN (tx k) else 0)
      rw [if_pos (show k < p by omega), i1 (by omega)]
    · intro h
      by_cases e : k < p
      · have e2 : p = k + 1 := by omega
        show sdM t (fun j => if j < p then tx j else tx (j + 1)) k ||| (if isLt t (if k < p then tx k else tx (k + 1)) then 2 ^ ltN (if k < p then tx k else tx (k + 1)) else 0) = (sdM t tx k ||| (if isLt t (tx k) then 2 ^ ltN (tx k) else 0)) ||| (if isLt t (tx (k + 1)) then 2 ^ ltN (tx (k + 1)) else 0)
        rw [if_pos e, i1 (by omega), ← e2, hnl]; simp
      · show sdM t (fun j => if j < p then tx j else tx (j + 1)) k ||| (if isLt t (if k < p then tx k else tx (k + 1)) then 2 ^ ltN (if k < p then tx k else tx (k + 1)) else 0) = sdM t tx (k + 1) ||| (if isLt t (tx (k + 1)) then 2 ^ ltN (tx (k + 1)) else 0)
        rw [if_neg e, i2 (by omega)]
theorem sdM_up {t : Nat} {tx : Nat → Int32} {p : Nat} {s : Int32} (hnl : isLt t (tx p) = false) (hs : isLt t s = false) : ∀ k, sdM t (upd tx p s) k = sdM t tx k
  | 0 => by show (0 : Nat) = 0; rfl
  | k + 1 => by
    show sdM t (upd tx p s) k ||| (if isLt t (upd tx p s k) then 2 ^ ltN (upd tx p s k) else 0) = sdM t tx k ||| (if isLt t (tx k) then 2 ^ ltN (tx k) else 0)
    rw [sdM_up hnl hs k]
    by_cases e : k = p
    · rw [e, pk_us, hnl, hs]; simp
    · rw [pk_un e]
theorem sdM_ch {t : Nat} {pd : Nat → Int32} {sg p : Nat} (kd : Nat) (h6 : t ≤ 6) (ht2 : 2 ≤ t) (hp : p < sg) (hk : isPr (pd p) = true ∨ pd p = 45) : sdM t (chT pd p kd) (chZ pd sg p) = sdM t pd sg := by
  unfold chT chZ
  cases hpr : isPr (pd p) with
  | true =>
    rw [if_pos rfl, if_pos rfl]
    exact sdM_up (pr_not h6 ht2 hpr).1 (pr_not h6 ht2 (prS_pr kd)).1 sg
  | false =>
    rw [if_neg (by decide), if_neg (by decide)]
    have h45 := hk.resolve_left (by rw [hpr]; decide)
    have hnl : isLt t (pd p) = false := by
      cases hx : isLt t (pd p) with
      | false => rfl
      | true => exact absurd h45 (isLt_not h6 ht2 hx).2.1
    have := (sdM_rm (t := t) (tx := pd) (p := p) hnl (sg - 1)).2 (by omega)
    rw [this, show sg - 1 + 1 = sg by omega]
theorem cg_eq {J : Nat → Nat → Int64} {t sl he sd sz : Nat} {tx : Nat → Int32} (h6 : t ≤ 6) (hsd : sdM t tx sz = sd) : mk64 (soM t tx sz he) 64 &&& (J 33 8 &&& slW t sl sd he) = mk64 (kpM (J 33 8) t sl tx sz he) (2 ^ t) := by
  have h64 := p2_le h6
  subst hsd
  apply l_ext
  intro w hw
  unfold slW
  rw [lb_and, lb_and, mk64_bit _ 64 (Nat.le_refl _), mk64_bit _ _ h64, mk64_bit _ _ h64, decide_eq_true hw, Bool.true_and]
  unfold kpM
  by_cases h : w < 2 ^ t
  · rw [decide_eq_true h, Bool.true_and, Bool.true_and]
    cases soM t tx sz he w <;> cases lbit (J 33 8) w <;> simp
  · rw [decide_eq_false h]; simp
theorem BS_mono {S S' : Nat → Nat → Int32} {o : Option (Int32 × Int32)} (h : BS S o) (e : S' 30 = S 30) : BS S' o := by
  cases o with
  | none => show S' 30 0 = 0; rw [e]; exact h
  | some x => show S' 30 0 = 1 ∧ S' 30 1 = x.1 ∧ S' 30 2 = x.2; rw [e]; exact h
def coS (I : Nat → Nat → Int32) (J : Nat → Nat → Int64) (t sl wy wi he sg p : Nat) : Nat → Option (Int32 × Int32) → Option (Int32 × Int32) := fun kd o => match cmM I J t sl wy wi he sg p kd with
  | none => o
  | some w => boF (wtF I t wi w) (nI (p * 1000 + kd)) o
theorem coS_n {I : Nat → Nat → Int32} {J : Nat → Nat → Int64} {t sl wy wi he sg p kd : Nat} {o : Option (Int32 × Int32)} (h : cmM I J t sl wy wi he sg p kd = none) : coS I J t sl wy wi he sg p kd o = o := by unfold coS; rw [h]
theorem coS_s {I : Nat → Nat → Int32} {J : Nat → Nat → Int64} {t sl wy wi he sg p kd w : Nat} {o : Option (Int32 × Int32)} (h : cmM I J t sl wy wi he sg p kd = some w) : coS I J t sl wy wi he sg p kd o = boF (wtF I t wi w) (nI (p * 1000 + kd)) o := by unfold coS; rw [h]
theorem cmS_n {I : Nat → Nat → Int32} {J : Nat → Nat → Int64} {t sl wy wi he sg p kd : Nat} {o : CS3} (h : cmM I J t sl wy wi he sg p kd = none) : cmS I J t sl wy wi he sg p kd o = o := by unfold cmS; rw [h]
theorem cmS_s0 {I : Nat → Nat → Int32} {J : Nat → Nat → Int64} {t sl wy wi he sg p kd w : Nat} (h : cmM I J t sl wy wi he sg p kd = some w) : cmS I J t sl wy wi he sg p kd none = some (p, (if isPr (I 41 p) then prS kd else 0), wtF I t wi w + 1000) := by unfold cmS; rw [h]
theorem cmS_s1 {I : Nat → Nat → Int32} {J : Nat → Nat → Int64} {t sl wy wi he sg p kd w : Nat} {x : Nat × Int32 × Int32} (h : cmM I J t sl wy wi he sg p kd = some w) : cmS I J t sl wy wi he sg p kd (some x) = if x.2.2 < wtF I t wi w + 1000 then some (p, (if isPr (I 41 p) then prS kd else 0), wtF I t wi w + 1000) else some x := by unfold cmS; rw [h]
def coF (I : Nat → Nat → Int32) (J : Nat → Nat → Int64) (t sl wy wi he sg : Nat) : Nat → Option (Int32 × Int32) → Option (Int32 × Int32) := fun p o => upto (coS I J t sl wy wi he sg p) (kdN (I 41 p)) o
def CRl (I : Nat → Nat → Int32) (B : Nat) : Option (Int32 × Int32) → CS3 → Prop
  | none, none => True
  | some a, some x => ∃ kd, kd < 5 ∧ x.1 < 40 ∧ x.1 * 1000 + kd < B ∧ a.2 = nI (x.1 * 1000 + kd) ∧ (isPr (I 41 x.1) = true ∨ I 41 x.1 = 45) ∧ x.2.1 = (if isPr (I 41 x.1) then prS kd else 0) ∧ x.2.2 = a.1 + 1000 ∧ (-54 ≤ a.1.toInt ∧ a.1.toInt ≤ 54)
  | none, some _ => False
  | some _, none => False
theorem CRl_mono {I : Nat → Nat → Int32} {B B' : Nat} (hB : B ≤ B') : ∀ {o : Option (Int32 × Int32)} {c : CS3}, CRl I B o c → CRl I B' o c
  | none, none, h => h
  | some a, some x, h => by
    obtain ⟨kd, h1, h2, h3, h4⟩ := h
    exact ⟨kd, h1, h2, by omega, h4⟩
  | none, some _, h => h
  | some _, none, h => h
theorem rk40 {p kd : Nat} (hp : p < 40) (hk : kd < 5) : p * 1000 + kd < 2 ^ 31 := by omega
theorem CRl_mk {I : Nat → Nat → Int32} {B p kd : Nat} {a r s m : Int32} (h1 : kd < 5) (h2 : p < 40) (h3 : p * 1000 + kd < B) (h4 : r = nI (p * 1000 + kd)) (h5 : isPr (I 41 p) = true ∨ I 41 p = 45) (h6 : s = (if isPr (I 41 p) then prS kd else 0)) (h7 : m = a + 1000) (h8 : -54 ≤ a.toInt ∧ a.toInt ≤ 54) : CRl I B (some (a, r)) (some (p, s, m)) := ⟨kd, h1, h2, h3, h4, h5, h6, h7, h8⟩
theorem e_1000 : (1000 : Int32).toInt = 1000 := rfl
theorem CRl_step {I : Nat → Nat → Int32} {J : Nat → Nat → Int64} {t sl wy wi he sg p kd : Nat} (hk : KI I J t sl wy wi he) (hp : p < 40) (hkd : kd < 5) (hpk : isPr (I 41 p) = true ∨ I 41 p = 45) : ∀ {o : Option (Int32 × Int32)} {c : CS3}, CRl I (p * 1000 + kd) o c → CRl I (p * 1000 + kd + 1) (coS I J t sl wy wi he sg p kd o) (cmS I J t sl wy wi he sg p kd c) := by
  intro o c h
  cases hm : cmM I J t sl wy wi he sg p kd with
  | none => rw [coS_n hm, cmS_n hm]; exact CRl_mono (by omega) h
  | some w =>
    have hb := wtF_b hk hk.1.2.2.2.2.2.2.2.2.1 w
    rw [coS_s hm]
    cases o with
    | none =>
      cases c with
      | none =>
        rw [cmS_s0 hm]
        exact CRl_mk hkd hp (Nat.lt_succ_self _) rfl hpk rfl rfl hb
      | some x => exact h.elim
    | some a =>
      cases c with
      | none => exact h.elim
      | some x =>
        rw [cmS_s1 hm]
        obtain ⟨k2, h1, h2, h3, h4, h5, h6, h7, h8⟩ := h
        have hx : p * 1000 + kd < p * 1000 + kd + 1 := Nat.lt_succ_self _
        have hnr : ¬ nI (p * 1000 + kd) < a.2 := fun h => by rw [h4] at h; exact Nat.lt_asymm h3 ((nI_ltI (rk40 hp hkd) (rk40 h2 h1)).mp h)
        have h39 : x.1 * 1000 + k2 < p * 1000 + kd + 1 := Nat.lt_succ_of_lt h3
        have e1 : (a.1 + 1000).toInt = a.1.toInt + 1000 := by rw [ti_add (by omega) (by rw [e_1000]; omega), e_1000]
        have e2 : (wtF I t wi w + 1000).toInt = (wtF I t wi w).toInt + 1000 := by rw [ti_add (by omega) (by rw [e_1000]; omega), e_1000]
        have hc : x.2.2 < wtF I t wi w + 1000 ↔ a.1 < wtF I t wi w := by rw [h7, i_lt, i_lt, e1, e2]; omega
        by_cases hlt : a.1 < wtF I t wi w
        · rw [if_pos (hc.mpr hlt), show boF (wtF I t wi w) (nI (p * 1000 + kd)) (some a) = some (wtF I t wi w, nI (p * 1000 + kd)) from if_pos (Or.inl hlt)]
          exact CRl_mk hkd hp (Nat.lt_succ_self _) rfl hpk rfl rfl hb
        · rw [if_neg (fun h => hlt (hc.mp h)), boF_n hlt (Or.inr hnr)]
          exact ⟨k2, h1, h2, h39, h4, h5, h6, h7, h8⟩
theorem kdN_le (s : Int32) : kdN s ≤ 5 := by unfold kdN; split; omega; split <;> omega
theorem kdN_pos {s : Int32} {m : Nat} (h : m < kdN s) : isPr s = true ∨ s = 45 := by
  unfold kdN at h
  split at h
  · rename_i hx; exact Or.inl hx
  · split at h
    · rename_i hx; exact Or.inr hx
    · omega
theorem CRl_in {I : Nat → Nat → Int32} {J : Nat → Nat → Int64} {t sl wy wi he sg p : Nat} (hk : KI I J t sl wy wi he) (hp : p < 40) {o : Option (Int32 × Int32)} {c : CS3} (h : CRl I (p * 1000) o c) : ∀ m, m ≤ kdN (I 41 p) → CRl I (p * 1000 + m) (upto (coS I J t sl wy wi he sg p) m o) (upto (cmS I J t sl wy wi he sg p) m c)
  | 0, _ => by rw [Nat.add_zero]; exact h
  | m + 1, hm => by
    have := CRl_step (sg := sg) hk hp (kd := m) (by have := kdN_le (I 41 p); omega) (kdN_pos hm) (CRl_in (sg := sg) hk hp h m (by omega))
    rw [Nat.add_assoc] at this
    exact this
theorem CRl_all {I : Nat → Nat → Int32} {J : Nat → Nat → Int64} {t sl wy wi he sg : Nat} (hk : KI I J t sl wy wi he) : ∀ m, m ≤ 40 → CRl I (m * 1000) (upto (coF I J t sl wy wi he sg) m none) (upto (cmF I J t sl wy wi he sg) m none)
  | 0, _ => trivial
  | m + 1, hm => CRl_mono (by have := kdN_le (I 41 m); omega) (CRl_in hk (by omega) (CRl_all hk m (by omega)) (kdN (I 41 m)) (Nat.le_refl _))
section CLS11
variable {xl : Nat} {xs : Nat → Int32} {n : Nat} {h : Nat → PC} {I S : Nat → Nat → Int32} {J T : Nat → Nat → Int64} {X : Nat → Option Nat} {t sl wy wi he sg : Nat}
theorem k_X6_signPut {p kd : Nat} (hn : 49 ≤ n) (hp : PdI I sg) (hp40 : p < 40) (hk5 : kd < 5) : Rn xl xs 0 0 0 0 mX6_signPut [.ref 0, .int (nI p), .int (nI kd)] n (sysH (ov I S) (ovJ J T) X) (some (.int (spF I p kd))) n (sysH (ov I S) (ovJ J T) X) := by
  intro Q hQ
  show Ev xl xs 0 0 0 0 mX6_signPut 0 [some (.ref 0), some (.int (nI p)), some (.int (nI kd))] [] n (sysH (ov I S) (ovJ J T) X) Q
  have e : ov I S 11 p = I 41 p := hp.2.2.2 p hp40
  refine ev_iload_n (q := 1) dX6_signPut_0 rfl rfl ?_
  refine ev_if_lt (q := 4) 22 dX6_signPut_1 (by decide) rfl (fun c_1 => ?_) (fun c_1 => ?_)
  · exact absurd c_1 (nI_pos (by omega))
  · refine ev_iload_n (q := 5) dX6_signPut_4 rfl rfl ?_
    refine ev_bipush (q := 7) (40) dX6_signPut_5 (by decide) rfl ?_
    refine ev_icmp_ge (q := 10) 22 dX6_signPut_7 (by decide) rfl (fun c_7 => ?_) (fun c_7 => ?_)
    · exact absurd ((nI_leI (a := 40) (by omega) (by omega)).mp c_7) (by omega)
    · refine ev_iload_n (q := 11) dX6_signPut_10 rfl rfl ?_
      refine ev_if_lt (q := 14) 22 dX6_signPut_11 (by decide) rfl (fun c_11 => ?_) (fun c_11 => ?_)
      · exact absurd c_11 (nI_pos (by omega))
      · refine ev_iload_n (q := 15) dX6_signPut_14 rfl rfl ?_
        refine ev_gets (q := 18) (k := 1) dX6_signPut_15 rfl (tb_in (tt_2 105 rfl) rfl) rfl ?_
        refine ev_flen (q := 19) 5 dX6_signPut_18 rfl (by decide) rfl ?_
        refine ev_icmp_lt (q := 22) 24 dX6_signPut_19 (by decide) rfl (fun c_19 => ?_) (fun c_19 => ?_)
        · refine ev_aload_n (q := 25) dX6_signPut_24 rfl rfl ?_
          refine ev_get (q := 28) dX6_signPut_25 fr_X6_23 rfl (lt_n hn (by decide)) rfl rfl ?_
          refine ev_get (q := 31) dX6_signPut_28 fr_X6_314 rfl (lt_n hn (by decide)) rfl rfl ?_
          refine ev_iload_n (q := 32) dX6_signPut_31 rfl rfl ?_
          refine ev_iaS (q := 33) p dX6_signPut_32 rfl rfl (by omega) (lt_n hn (by decide)) rfl ?_
          refine ev_bipush (q := 35) (45) dX6_signPut_33 (by decide) rfl ?_
          rw [e]
          refine ev_icmp_ne (q := 38) 42 dX6_signPut_35 (by decide) rfl (fun c_35 => ?_) (fun c_35 => ?_)
          · have c_35 : ¬ I 41 p = 45 := c_35
            refine ev_gets (q := 45) (k := 1) dX6_signPut_42 rfl (tb_in (tt_2 105 rfl) rfl) rfl ?_
            refine ev_iload_n (q := 46) dX6_signPut_45 rfl rfl ?_
            refine ev_fiald (q := 47) dX6_signPut_46 rfl (vin (by omega) (by decide)) (fz_joi (by omega)) rfl ?_
            exact ev_iretE dX6_signPut_47 rfl rfl (by unfold spF; first | (rw [if_pos c_35]; done) | rw [if_neg c_35]) rfl rfl hQ
          · have c_35 : I 41 p = 45 := c_35
            refine ev_iconst (q := 39) (0) dX6_signPut_38 (by decide) rfl ?_
            refine ev_goto 47 dX6_signPut_39 (by decide) ?_
            exact ev_iretE dX6_signPut_47 rfl rfl (by unfold spF; first | (rw [if_pos c_35]; done) | rw [if_neg c_35]) rfl rfl hQ
        · exact absurd ((nI_ltI (b := 5) (by omega) (by omega)).mpr hk5) c_19
theorem k_copyChanged {p kd : Nat} {s : Int32} (hn : 49 ≤ n) (hp : PdI I sg) (hps : p < sg) (hs : (isPr (I 41 p) = true ∧ s = prS kd) ∨ (I 41 p = 45 ∧ s = 0)) : RnP xl xs 1 21 mX1_copyChanged [.ref 13, .ref 10, .int (nI p), .int s] n I S J T X none (fun S' T' => S' 13 1 = nI (chZ (I 41) sg p) ∧ (∀ k, k < chZ (I 41) sg p → S' 14 k = chT (I 41) p kd k) ∧ T' = T ∧ ∀ q, q ≠ 13 → q ≠ 14 → S' q = S q) := by
  intro Q hQ
  have h40 := hp.2.2.1
  show Ev xl xs 1 21 0 0 mX1_copyChanged 0 [some (.ref 13), some (.ref 10), some (.int (nI p)), some (.int s), none] [] n (sysH (ov I S) (ovJ J T) X) Q
  have lp : ∀ j i, i + j = sg → ∀ S2, (∀ q, q ≠ 13 → q ≠ 14 → S2 q = S q) → S2 13 1 = nI (chC (I 41) p i) → (∀ k, k < chC (I 41) p i → S2 14 k = chT (I 41) p kd k) → Ev xl xs 1 21 0 0 mX1_copyChanged 8 [some (.ref 13), some (.ref 10), some (.int (nI p)), some (.int s), some (.int (nI i))] [] n (sysH (ov I S2) (ovJ J T) X) Q := by
    intro j
    induction j using Nat.strongRecOn with
    | _ j ih =>
      intro i hij S2 h0 h1 h2
      have e : ∀ h1, _ := fun (h1 : j - 1 < j) => ih (j - 1) h1 (i + 1)
      by_cases hi : sg ≤ i
      · have hi : i = sg := by omega
        have hz : chC (I 41) p i = chZ (I 41) sg p := by rw [hi]; exact if_neg (by omega)
        rw [hz] at h1 h2
        refine ev_iload (q := 10) dX1_copyChanged_8 rfl rfl ?_
        refine ev_aload_n (q := 11) dX1_copyChanged_10 rfl rfl ?_
        refine ev_get (q := 14) dX1_copyChanged_11 fr_X1_19 rfl (lt_n hn (by decide)) rfl rfl ?_
        rw [show ov I S2 10 1 = nI sg from hp.2.1]
        refine ev_icmp_ge (q := 17) 54 dX1_copyChanged_14 (by decide) rfl (fun c_14 => ?_) (fun c_14 => ?_)
        · exact ev_retE dX1_copyChanged_54 rfl rfl rfl (hQ _ _ ⟨h1, h2, rfl, h0⟩)
        · exact absurd ((nI_leI (by omega) (by omega)).mpr (by omega)) c_14
      · have e := e (by omega) (by omega)
        have hcl : chC (I 41) p i ≤ i := by unfold chC chZ; split; omega; split <;> omega
        by_cases hip : i = p
        · have hci : chC (I 41) p i = p := by rw [hip]; exact if_pos (Nat.le_refl _)
          rw [hci] at h1 h2
          rcases hs with ⟨hpr, hs⟩ | ⟨h45, hs⟩
          · have hc2 : chC (I 41) p (i + 1) = p + 1 := by unfold chC chZ; rw [if_neg (by omega), hpr, if_pos rfl, hip]
            have hv : s = chT (I 41) p kd p := by unfold chT; rw [hpr, if_pos rfl, pk_us, hs]
            obtain ⟨g0, g1, g2⟩ := wr_cc h0 h2 hv
            rw [hc2] at e
            refine ev_iload (q := 10) dX1_copyChanged_8 rfl rfl ?_
            refine ev_aload_n (q := 11) dX1_copyChanged_10 rfl rfl ?_
            refine ev_get (q := 14) dX1_copyChanged_11 fr_X1_19 rfl (lt_n hn (by decide)) rfl rfl ?_
            rw [show ov I S2 10 1 = nI sg from hp.2.1]
            refine ev_icmp_ge (q := 17) 54 dX1_copyChanged_14 (by decide) rfl (fun c_14 => ?_) (fun c_14 => ?_)
            · exact absurd ((nI_leI (by omega) (by omega)).mp c_14) hi
            · refine ev_iload (q := 19) dX1_copyChanged_17 rfl rfl ?_
              refine ev_iload_n (q := 20) dX1_copyChanged_19 rfl rfl ?_
              refine ev_icmp_eq (q := 23) 38 dX1_copyChanged_20 (by decide) rfl (fun c_20 => ?_) (fun c_20 => ?_)
              · refine ev_iload_n (q := 39) dX1_copyChanged_38 rfl rfl ?_
                refine ev_if_eq (q := 42) 48 dX1_copyChanged_39 (by decide) rfl (fun c_39 => ?_) (fun c_39 => ?_)
                · exact absurd (show s = 0 from c_39) (by rw [hs]; exact prS_n0 kd)
                · refine ev_aload_n (q := 43) dX1_copyChanged_42 rfl rfl ?_
                  refine ev_iload_n (q := 44) dX1_copyChanged_43 rfl rfl ?_
                  refine ev_callV1i (q := 47) dX1_copyChanged_44 ca_X1_23 (k_write13 hn h1 (by omega)) rfl (lt_n hn (by decide)) rfl rfl (Nat.le_of_ble_eq_true rfl) (Nat.le_of_ble_eq_true rfl) (by decide) (by decide) rfl ?_
                  refine ev_pop (q := 48) (fun _ => rfl) dX1_copyChanged_47 rfl ?_
                  refine ev_inc_4 (q := 51) (nI (i + 1)) dX1_copyChanged_48 (nI_1 i) rfl rfl ?_
                  refine ev_goto 8 dX1_copyChanged_51 (by decide) ?_
                  exact e _ g0 g1 g2
              · exact absurd (congrArg nI hip) c_20
          · have hnp : isPr (I 41 p) = false := by rw [h45]; rfl
            have hc2 : chC (I 41) p (i + 1) = p := by unfold chC chZ; rw [if_neg (by omega), hnp, if_neg (by decide), hip]; rfl
            rw [hc2] at e
            refine ev_iload (q := 10) dX1_copyChanged_8 rfl rfl ?_
            refine ev_aload_n (q := 11) dX1_copyChanged_10 rfl rfl ?_
            refine ev_get (q := 14) dX1_copyChanged_11 fr_X1_19 rfl (lt_n hn (by decide)) rfl rfl ?_
            rw [show ov I S2 10 1 = nI sg from hp.2.1]
            refine ev_icmp_ge (q := 17) 54 dX1_copyChanged_14 (by decide) rfl (fun c_14 => ?_) (fun c_14 => ?_)
            · exact absurd ((nI_leI (by omega) (by omega)).mp c_14) hi
            · refine ev_iload (q := 19) dX1_copyChanged_17 rfl rfl ?_
              refine ev_iload_n (q := 20) dX1_copyChanged_19 rfl rfl ?_
              refine ev_icmp_eq (q := 23) 38 dX1_copyChanged_20 (by decide) rfl (fun c_20 => ?_) (fun c_20 => ?_)
              · refine ev_iload_n (q := 39) dX1_copyChanged_38 rfl rfl ?_
                refine ev_if_eq (q := 42) 48 dX1_copyChanged_39 (by decide) rfl (fun c_39 => ?_) (fun c_39 => ?_)
                · refine ev_inc_4 (q := 51) (nI (i + 1)) dX1_copyChanged_48 (nI_1 i) rfl rfl ?_
                  refine ev_goto 8 dX1_copyChanged_51 (by decide) ?_
                  exact e _ h0 h1 h2
                · exact absurd hs c_39
              · exact absurd (congrArg nI hip) c_20
        · obtain ⟨c1, c2⟩ := chC_ne (pd := I 41) (kd := kd) hip
          rw [c2] at e
          obtain ⟨g0, g1, g2⟩ := wr_cc h0 h2 c1.symm
          refine ev_iload (q := 10) dX1_copyChanged_8 rfl rfl ?_
          refine ev_aload_n (q := 11) dX1_copyChanged_10 rfl rfl ?_
          refine ev_get (q := 14) dX1_copyChanged_11 fr_X1_19 rfl (lt_n hn (by decide)) rfl rfl ?_
          rw [show ov I S2 10 1 = nI sg from hp.2.1]
          refine ev_icmp_ge (q := 17) 54 dX1_copyChanged_14 (by decide) rfl (fun c_14 => ?_) (fun c_14 => ?_)
          · exact absurd ((nI_leI (by omega) (by omega)).mp c_14) hi
          · refine ev_iload (q := 19) dX1_copyChanged_17 rfl rfl ?_
            refine ev_iload_n (q := 20) dX1_copyChanged_19 rfl rfl ?_
            refine ev_icmp_eq (q := 23) 38 dX1_copyChanged_20 (by decide) rfl (fun c_20 => ?_) (fun c_20 => ?_)
            · exact absurd ((nI_eq (by omega) (by omega)).mp c_20) hip
            · refine ev_aload_n (q := 24) dX1_copyChanged_23 rfl rfl ?_
              refine ev_aload_n (q := 25) dX1_copyChanged_24 rfl rfl ?_
              refine ev_get (q := 28) dX1_copyChanged_25 fr_X1_9 rfl (lt_n hn (by decide)) rfl rfl ?_
              refine ev_iload (q := 30) dX1_copyChanged_28 rfl rfl ?_
              refine ev_iaS (q := 31) i dX1_copyChanged_30 rfl rfl (by omega) (lt_n hn (by decide)) rfl ?_
              rw [show ov I S2 11 i = I 41 i from hp.2.2.2 i (by omega)]
              refine ev_callV1i (q := 34) dX1_copyChanged_31 ca_X1_23 (k_write13 hn h1 (by omega)) rfl (lt_n hn (by decide)) rfl rfl (Nat.le_of_ble_eq_true rfl) (Nat.le_of_ble_eq_true rfl) (by decide) (by decide) rfl ?_
              refine ev_pop (q := 35) (fun _ => rfl) dX1_copyChanged_34 rfl ?_
              refine ev_goto 48 dX1_copyChanged_35 (by decide) ?_
              refine ev_inc_4 (q := 51) (nI (i + 1)) dX1_copyChanged_48 (nI_1 i) rfl rfl ?_
              refine ev_goto 8 dX1_copyChanged_51 (by decide) ?_
              exact e _ g0 g1 g2
  refine ev_aload_n (q := 1) dX1_copyChanged_0 rfl rfl ?_
  refine ev_iconst (q := 2) (0) dX1_copyChanged_1 (by decide) rfl ?_
  first | refine ev_putIK (q := 5) dX1_copyChanged_2 fa_X1_19 rfl (by decide) (lt_n hn (by decide)) (Nat.le_of_ble_eq_true rfl) ⟨rfl, rfl⟩ rfl rfl rfl ?_ | refine ev_putIR (q := 5) dX1_copyChanged_2 fa_X1_19 rfl (by decide) (lt_n hn (by decide)) (Nat.le_of_ble_eq_true rfl) ⟨rfl, rfl⟩ rfl rfl rfl ?_
  refine ev_iconst (q := 6) (0) dX1_copyChanged_5 (by decide) rfl ?_
  refine ev_ist_4 (q := 8) dX1_copyChanged_6 rfl rfl ?_
  exact lp sg 0 (by omega) _ (fun q h1 _ => by simp [setI, h1]) (by show (0 : Int32) = nI (chC (I 41) p 0); rw [show chC (I 41) p 0 = 0 from if_pos (Nat.zero_le _)]; rfl) (fun k hk => by rw [show chC (I 41) p 0 = 0 from if_pos (Nat.zero_le _)] at hk; omega)
theorem k_X6_tryChange {p kd : Nat} {o : Option (Int32 × Int32)} (hn : 49 ≤ n) (hk : KI I J t sl wy wi he) (hp : PdI I sg) (hw : WT t (I 41) sg) (hr : RD I S wy wi) (hb : BS S o) (hps : p < sg) (hpk : (isPr (I 41 p) = true ∧ kd < 5) ∨ (I 41 p = 45 ∧ kd = 0)) : RnP xl xs 4 96 mX6_tryChange [.ref 0, .int (nI p), .int (nI kd), .long (J 33 8 &&& slW t sl (sdM t (I 41) sg) he)] n I S J T X none (fun S' _ => RD I S' wy wi ∧ BS S' (coS I J t sl wy wi he sg p kd o)) := by
  intro Q hQ
  have h6 := hk.1.2.2.1
  have ht2 := hk.1.2.1
  have h64 := p2_le h6
  have hhl := hk.1.2.2.2.2.2.2.2.2.2.2
  have h40 := hp.2.2.1
  have hkd : kd < 5 := by rcases hpk with h | h <;> omega
  have hpk2 : isPr (I 41 p) = true ∨ I 41 p = 45 := by rcases hpk with h | h; exact Or.inl h.1; exact Or.inr h.1
  have hsp : (isPr (I 41 p) = true ∧ spF I p kd = prS kd) ∨ (I 41 p = 45 ∧ spF I p kd = 0) := by
    rcases hpk2 with h | h
    · exact Or.inl ⟨h, if_neg (pr_not h6 ht2 h).2.2.1⟩
    · exact Or.inr ⟨h, if_pos h⟩
  have hcg := cg_eq (J := J) (sl := sl) (he := he) h6 (sdM_ch kd h6 ht2 hps hpk2)
  have hrk : nI p * 1000 + nI kd = nI (p * 1000 + kd) := by rw [show (1000 : Int32) = nI 1000 from rfl, pk_mul, nI_add]
  show Ev xl xs 4 96 0 0 mX6_tryChange 0 [some (.ref 0), some (.int (nI p)), some (.int (nI kd)), some (.long (J 33 8 &&& slW t sl (sdM t (I 41) sg) he)), none, none] [] n (sysH (ov I S) (ovJ J T) X) Q
  cases hm : cmM I J t sl wy wi he sg p kd with
  | none =>
    rw [coS_n hm] at hQ
    refine ev_aload_n (q := 1) dX6_tryChange_0 rfl rfl ?_
    refine ev_get (q := 4) dX6_tryChange_1 fr_X6_27 rfl (lt_n hn (by decide)) rfl rfl ?_
    refine ev_aload_n (q := 5) dX6_tryChange_4 rfl rfl ?_
    refine ev_get (q := 8) dX6_tryChange_5 fr_X6_23 rfl (lt_n hn (by decide)) rfl rfl ?_
    refine ev_iload_n (q := 9) dX6_tryChange_8 rfl rfl ?_
    refine ev_aload_n (q := 10) dX6_tryChange_9 rfl rfl ?_
    refine ev_iload_n (q := 11) dX6_tryChange_10 rfl rfl ?_
    refine ev_iload_n (q := 12) dX6_tryChange_11 rfl rfl ?_
    refine ev_callV2i (q := 15) dX6_tryChange_12 ca_X6_205 (k_X6_signPut hn hp (by omega) hkd) rfl (lt_n hn (by decide)) rfl rfl (Nat.le_of_ble_eq_true rfl) (Nat.le_of_ble_eq_true rfl) (by decide) (by decide) rfl ?_
    refine ev_callV3vP (q := 18) dX6_tryChange_15 ca_X6_327 (k_copyChanged (kd := kd) hn hp hps hsp) rfl (lt_n hn (by decide)) rfl rfl (Nat.le_of_ble_eq_true rfl) (Nat.le_of_ble_eq_true rfl) (by decide) (by decide) rfl (fun S T hp_15 => ?_)
    obtain ⟨z1, z2, -, z4⟩ := hp_15
    have hr := RD_mono hr (z4 22 (by decide) (by decide)) (z4 23 (by decide) (by decide))
    have hb := BS_mono hb (z4 30 (by decide) (by decide))
    refine ev_aload_n (q := 19) dX6_tryChange_18 rfl rfl ?_
    refine ev_get (q := 22) dX6_tryChange_19 fr_X6_42 rfl (lt_n hn (by decide)) rfl rfl ?_
    refine ev_aload_n (q := 23) dX6_tryChange_22 rfl rfl ?_
    refine ev_get (q := 26) dX6_tryChange_23 fr_X6_27 rfl (lt_n hn (by decide)) rfl rfl ?_
    refine ev_aload_n (q := 27) dX6_tryChange_26 rfl rfl ?_
    refine ev_get (q := 30) dX6_tryChange_27 fr_X6_10 rfl (lt_n hn (by decide)) rfl rfl ?_
    refine ev_get (q := 33) dX6_tryChange_30 fr_X6_103 rfl (lt_n hn (by decide)) rfl rfl ?_
    rw [show ov I S 1 1 = nI he from hk.2.1.2.1]
    refine ev_callV1lP (q := 36) dX6_tryChange_33 ca_X6_131 (k_worldsFrom_13 hn h6 ht2 z1 z2 (WT_ch kd h6 ht2 hps hpk2 hw) (by omega)) rfl (lt_n hn (by decide)) rfl rfl (Nat.le_of_ble_eq_true rfl) (Nat.le_of_ble_eq_true rfl) (by decide) (by decide) rfl (fun S T hp_33 => ?_)
    rw [hp_33]
    refine ev_lload_n (q := 37) dX6_tryChange_36 rfl rfl ?_
    refine ev_land (q := 38) dX6_tryChange_37 rfl ?_
    rw [hcg]
    refine ev_aload_n (q := 39) dX6_tryChange_38 rfl rfl ?_
    refine ev_get (q := 42) dX6_tryChange_39 fr_X6_10 rfl (lt_n hn (by decide)) rfl rfl ?_
    refine ev_get (q := 45) dX6_tryChange_42 fr_X6_103 rfl (lt_n hn (by decide)) rfl rfl ?_
    rw [show ov I _ 1 1 = nI he from hk.2.1.2.1]
    refine ev_callV2i (q := 48) dX6_tryChange_45 ca_X6_310 (k_X3_outcome hn hk hr (fun w hw => mk64_hi h64 hw) hhl) rfl (lt_n hn (by decide)) rfl rfl (Nat.le_of_ble_eq_true rfl) (Nat.le_of_ble_eq_true rfl) (by decide) (by decide) rfl ?_
    rw [show upto (mkF (lkF I t wy wi he) (mk64 (kpM (J 33 8) t sl (chT (I 41) p kd) (chZ (I 41) sg p) he) (2 ^ t))) (2 ^ t) none = none from hm]
    refine ev_ist_5 (q := 50) dX6_tryChange_48 rfl rfl ?_
    refine ev_iload (q := 52) dX6_tryChange_50 rfl rfl ?_
    refine ev_if_lt (q := 55) 79 dX6_tryChange_52 (by decide) rfl (fun c_52 => ?_) (fun c_52 => ?_)
    · exact ev_retE dX6_tryChange_79 rfl rfl rfl (hQ _ _ ⟨hr, hb⟩)
    · exact absurd (show (-3 : Int32) < 0 by decide) c_52
  | some w =>
    have hw2 : w < 2 ^ t := mkF_lt _ _ hm
    rw [coS_s hm] at hQ
    refine ev_aload_n (q := 1) dX6_tryChange_0 rfl rfl ?_
    refine ev_get (q := 4) dX6_tryChange_1 fr_X6_27 rfl (lt_n hn (by decide)) rfl rfl ?_
    refine ev_aload_n (q := 5) dX6_tryChange_4 rfl rfl ?_
    refine ev_get (q := 8) dX6_tryChange_5 fr_X6_23 rfl (lt_n hn (by decide)) rfl rfl ?_
    refine ev_iload_n (q := 9) dX6_tryChange_8 rfl rfl ?_
    refine ev_aload_n (q := 10) dX6_tryChange_9 rfl rfl ?_
    refine ev_iload_n (q := 11) dX6_tryChange_10 rfl rfl ?_
    refine ev_iload_n (q := 12) dX6_tryChange_11 rfl rfl ?_
    refine ev_callV2i (q := 15) dX6_tryChange_12 ca_X6_205 (k_X6_signPut hn hp (by omega) hkd) rfl (lt_n hn (by decide)) rfl rfl (Nat.le_of_ble_eq_true rfl) (Nat.le_of_ble_eq_true rfl) (by decide) (by decide) rfl ?_
    refine ev_callV3vP (q := 18) dX6_tryChange_15 ca_X6_327 (k_copyChanged (kd := kd) hn hp hps hsp) rfl (lt_n hn (by decide)) rfl rfl (Nat.le_of_ble_eq_true rfl) (Nat.le_of_ble_eq_true rfl) (by decide) (by decide) rfl (fun S T hp_15 => ?_)
    obtain ⟨z1, z2, -, z4⟩ := hp_15
    have hr := RD_mono hr (z4 22 (by decide) (by decide)) (z4 23 (by decide) (by decide))
    have hb := BS_mono hb (z4 30 (by decide) (by decide))
    refine ev_aload_n (q := 19) dX6_tryChange_18 rfl rfl ?_
    refine ev_get (q := 22) dX6_tryChange_19 fr_X6_42 rfl (lt_n hn (by decide)) rfl rfl ?_
    refine ev_aload_n (q := 23) dX6_tryChange_22 rfl rfl ?_
    refine ev_get (q := 26) dX6_tryChange_23 fr_X6_27 rfl (lt_n hn (by decide)) rfl rfl ?_
    refine ev_aload_n (q := 27) dX6_tryChange_26 rfl rfl ?_
    refine ev_get (q := 30) dX6_tryChange_27 fr_X6_10 rfl (lt_n hn (by decide)) rfl rfl ?_
    refine ev_get (q := 33) dX6_tryChange_30 fr_X6_103 rfl (lt_n hn (by decide)) rfl rfl ?_
    rw [show ov I S 1 1 = nI he from hk.2.1.2.1]
    refine ev_callV1lP (q := 36) dX6_tryChange_33 ca_X6_131 (k_worldsFrom_13 hn h6 ht2 z1 z2 (WT_ch kd h6 ht2 hps hpk2 hw) (by omega)) rfl (lt_n hn (by decide)) rfl rfl (Nat.le_of_ble_eq_true rfl) (Nat.le_of_ble_eq_true rfl) (by decide) (by decide) rfl (fun S T hp_33 => ?_)
    rw [hp_33]
    refine ev_lload_n (q := 37) dX6_tryChange_36 rfl rfl ?_
    refine ev_land (q := 38) dX6_tryChange_37 rfl ?_
    rw [hcg]
    refine ev_aload_n (q := 39) dX6_tryChange_38 rfl rfl ?_
    refine ev_get (q := 42) dX6_tryChange_39 fr_X6_10 rfl (lt_n hn (by decide)) rfl rfl ?_
    refine ev_get (q := 45) dX6_tryChange_42 fr_X6_103 rfl (lt_n hn (by decide)) rfl rfl ?_
    rw [show ov I _ 1 1 = nI he from hk.2.1.2.1]
    refine ev_callV2i (q := 48) dX6_tryChange_45 ca_X6_310 (k_X3_outcome hn hk hr (fun w hw => mk64_hi h64 hw) hhl) rfl (lt_n hn (by decide)) rfl rfl (Nat.le_of_ble_eq_true rfl) (Nat.le_of_ble_eq_true rfl) (by decide) (by decide) rfl ?_
    rw [show upto (mkF (lkF I t wy wi he) (mk64 (kpM (J 33 8) t sl (chT (I 41) p kd) (chZ (I 41) sg p) he) (2 ^ t))) (2 ^ t) none = some w from hm]
    refine ev_ist_5 (q := 50) dX6_tryChange_48 rfl rfl ?_
    refine ev_iload (q := 52) dX6_tryChange_50 rfl rfl ?_
    refine ev_if_lt (q := 55) 79 dX6_tryChange_52 (by decide) rfl (fun c_52 => ?_) (fun c_52 => ?_)
    · exact absurd c_52 (nI_pos (n := w) (by omega))
    · refine ev_aload_n (q := 56) dX6_tryChange_55 rfl rfl ?_
      refine ev_get (q := 59) dX6_tryChange_56 fr_X6_56 rfl (lt_n hn (by decide)) rfl rfl ?_
      refine ev_aload_n (q := 60) dX6_tryChange_59 rfl rfl ?_
      refine ev_get (q := 63) dX6_tryChange_60 fr_X6_42 rfl (lt_n hn (by decide)) rfl rfl ?_
      refine ev_get (q := 66) dX6_tryChange_63 fr_X6_215 rfl (lt_n hn (by decide)) rfl rfl ?_
      refine ev_iload (q := 68) dX6_tryChange_66 rfl rfl ?_
      refine ev_iaS (q := 69) w dX6_tryChange_68 rfl rfl (by omega) (lt_n hn (by decide)) rfl ?_
      rw [show ov I _ 22 w = wtF I t wi w from hw_made hk hr hw2]
      refine ev_iload_n (q := 70) dX6_tryChange_69 rfl rfl ?_
      refine ev_sipush (q := 73) (1000) dX6_tryChange_70 (by decide) rfl ?_
      refine ev_imul (q := 74) dX6_tryChange_73 rfl ?_
      refine ev_iload_n (q := 75) dX6_tryChange_74 rfl rfl ?_
      refine ev_iadd (q := 76) dX6_tryChange_75 rfl ?_
      rw [hrk]
      refine ev_callV2vP (q := 79) dX6_tryChange_76 ca_X6_219 (k_X0_offer hn hb) rfl (lt_n hn (by decide)) rfl rfl (Nat.le_of_ble_eq_true rfl) (Nat.le_of_ble_eq_true rfl) (by decide) (by decide) rfl (fun S T hp_76 => ?_)
      obtain ⟨hb2, -, hfr⟩ := hp_76
      exact ev_retE dX6_tryChange_79 rfl rfl rfl (hQ _ _ ⟨RD_mono hr (hfr 22 (by decide)) (hfr 23 (by decide)), hb2⟩)
theorem k_X6_tryPlace {p : Nat} {o : Option (Int32 × Int32)} (hn : 49 ≤ n) (hk : KI I J t sl wy wi he) (hp : PdI I sg) (hw : WT t (I 41) sg) (hr : RD I S wy wi) (hb : BS S o) (hps : p < sg) : RnP xl xs 5 121 mX6_tryPlace [.ref 0, .int (nI p), .long (J 33 8 &&& slW t sl (sdM t (I 41) sg) he)] n I S J T X none (fun S' _ => RD I S' wy wi ∧ BS S' (coF I J t sl wy wi he sg p o)) := by
  intro Q hQ
  have h6 := hk.1.2.2.1
  have ht2 := hk.1.2.1
  have h40 := hp.2.2.1
  have e11 : ∀ S : Nat → Nat → Int32, ov I S 11 p = I 41 p := fun S => hp.2.2.2 p (by omega)
  show Ev xl xs 5 121 0 0 mX6_tryPlace 0 [some (.ref 0), some (.int (nI p)), some (.long (J 33 8 &&& slW t sl (sdM t (I 41) sg) he)), none, none] [] n (sysH (ov I S) (ovJ J T) X) Q
  unfold coF kdN at hQ
  cases hpr : isPr (I 41 p) with
  | true =>
    rw [hpr, if_pos rfl] at hQ
    have h45 := (pr_not h6 ht2 hpr).2.2.1
    obtain ⟨q, hq5, hq⟩ := isPr_k hpr
    have hor : orF (I 41 p) = nI q := by rw [hq]; exact orF_pr q hq5
    have lp : ∀ j i, i + j = 5 → ∀ S T, RD I S wy wi → BS S (upto (coS I J t sl wy wi he sg p) i o) → Ev xl xs 5 121 0 0 mX6_tryPlace 42 [some (.ref 0), some (.int (nI p)), some (.long (J 33 8 &&& slW t sl (sdM t (I 41) sg) he)), none, some (.int (nI i))] [] n (sysH (ov I S) (ovJ J T) X) Q := by
      intro j
      induction j using Nat.strongRecOn with
      | _ j ih =>
        intro i hij S T hr hb
        have e : ∀ h1, _ := fun (h1 : j - 1 < j) => ih (j - 1) h1 (i + 1)
        by_cases hi : 5 ≤ i
        · have hi : i = 5 := by omega
          subst hi
          refine ev_iload (q := 44) dX6_tryPlace_42 rfl rfl ?_
          refine ev_gets (q := 47) (k := 1) dX6_tryPlace_44 rfl (tb_in (tt_2 105 rfl) rfl) rfl ?_
          refine ev_flen (q := 48) 5 dX6_tryPlace_47 rfl (by decide) rfl ?_
          refine ev_icmp_ge (q := 51) 65 dX6_tryPlace_48 (by decide) rfl (fun c_48 => ?_) (fun c_48 => ?_)
          · exact ev_retE dX6_tryPlace_65 rfl rfl rfl (hQ _ _ ⟨hr, hb⟩)
          · exact absurd (show (5 : Int32) ≤ nI 5 by decide) c_48
        · have e := e (by omega) (by omega)
          refine ev_iload (q := 44) dX6_tryPlace_42 rfl rfl ?_
          refine ev_gets (q := 47) (k := 1) dX6_tryPlace_44 rfl (tb_in (tt_2 105 rfl) rfl) rfl ?_
          refine ev_flen (q := 48) 5 dX6_tryPlace_47 rfl (by decide) rfl ?_
          refine ev_icmp_ge (q := 51) 65 dX6_tryPlace_48 (by decide) rfl (fun c_48 => ?_) (fun c_48 => ?_)
          · exact absurd ((nI_leI (a := 5) (by omega) (by omega)).mp c_48) hi
          · refine ev_aload_n (q := 52) dX6_tryPlace_51 rfl rfl ?_
            refine ev_iload_n (q := 53) dX6_tryPlace_52 rfl rfl ?_
            refine ev_iload (q := 55) dX6_tryPlace_53 rfl rfl ?_
            refine ev_lload_n (q := 56) dX6_tryPlace_55 rfl rfl ?_
            refine ev_callV3vP (q := 59) dX6_tryPlace_56 ca_X6_317 (k_X6_tryChange (kd := i) hn hk hp hw hr hb hps (Or.inl ⟨hpr, by omega⟩)) rfl (lt_n hn (by decide)) rfl rfl (Nat.le_of_ble_eq_true rfl) (Nat.le_of_ble_eq_true rfl) (by decide) (by decide) rfl (fun S T hp_56 => ?_)
            obtain ⟨hr, hb⟩ := hp_56
            refine ev_inc_4 (q := 62) (nI (i + 1)) dX6_tryPlace_59 (nI_1 i) rfl rfl ?_
            refine ev_goto 42 dX6_tryPlace_62 (by decide) ?_
            exact e _ _ hr hb
    refine ev_aload_n (q := 1) dX6_tryPlace_0 rfl rfl ?_
    refine ev_get (q := 4) dX6_tryPlace_1 fr_X6_23 rfl (lt_n hn (by decide)) rfl rfl ?_
    refine ev_get (q := 7) dX6_tryPlace_4 fr_X6_314 rfl (lt_n hn (by decide)) rfl rfl ?_
    refine ev_iload_n (q := 8) dX6_tryPlace_7 rfl rfl ?_
    refine ev_iaS (q := 9) p dX6_tryPlace_8 rfl rfl (by omega) (lt_n hn (by decide)) rfl ?_
    refine ev_bipush (q := 11) (45) dX6_tryPlace_9 (by decide) rfl ?_
    rw [e11]
    refine ev_icmp_ne (q := 14) 24 dX6_tryPlace_11 (by decide) rfl (fun c_11 => ?_) (fun c_11 => ?_)
    · refine ev_aload_n (q := 25) dX6_tryPlace_24 rfl rfl ?_
      refine ev_get (q := 28) dX6_tryPlace_25 fr_X6_23 rfl (lt_n hn (by decide)) rfl rfl ?_
      refine ev_get (q := 31) dX6_tryPlace_28 fr_X6_314 rfl (lt_n hn (by decide)) rfl rfl ?_
      refine ev_iload_n (q := 32) dX6_tryPlace_31 rfl rfl ?_
      refine ev_iaS (q := 33) p dX6_tryPlace_32 rfl rfl (by omega) (lt_n hn (by decide)) rfl ?_
      rw [e11]
      refine ev_callS1i (q := 36) dX6_tryPlace_33 ca_X6_321 (c_X6_orderOf _) (Nat.le_of_ble_eq_true rfl) (Nat.le_of_ble_eq_true rfl) (by decide) (by decide) rfl ?_
      rw [hor]
      refine ev_if_lt (q := 39) 65 dX6_tryPlace_36 (by decide) rfl (fun c_36 => ?_) (fun c_36 => ?_)
      · exact absurd c_36 (nI_pos (by omega))
      · refine ev_iconst (q := 40) (0) dX6_tryPlace_39 (by decide) rfl ?_
        refine ev_ist_4 (q := 42) dX6_tryPlace_40 rfl rfl ?_
        exact lp 5 0 (by omega) _ _ hr hb
    · exact absurd (show I 41 p = 45 from c_11) h45
  | false =>
    rw [hpr, if_neg (by decide)] at hQ
    by_cases h45 : I 41 p = 45
    · rw [if_pos h45] at hQ
      refine ev_aload_n (q := 1) dX6_tryPlace_0 rfl rfl ?_
      refine ev_get (q := 4) dX6_tryPlace_1 fr_X6_23 rfl (lt_n hn (by decide)) rfl rfl ?_
      refine ev_get (q := 7) dX6_tryPlace_4 fr_X6_314 rfl (lt_n hn (by decide)) rfl rfl ?_
      refine ev_iload_n (q := 8) dX6_tryPlace_7 rfl rfl ?_
      refine ev_iaS (q := 9) p dX6_tryPlace_8 rfl rfl (by omega) (lt_n hn (by decide)) rfl ?_
      refine ev_bipush (q := 11) (45) dX6_tryPlace_9 (by decide) rfl ?_
      rw [e11]
      refine ev_icmp_ne (q := 14) 24 dX6_tryPlace_11 (by decide) rfl (fun c_11 => ?_) (fun c_11 => ?_)
      · exact absurd h45 c_11
      · refine ev_aload_n (q := 15) dX6_tryPlace_14 rfl rfl ?_
        refine ev_iload_n (q := 16) dX6_tryPlace_15 rfl rfl ?_
        refine ev_iconst (q := 17) (0) dX6_tryPlace_16 (by decide) rfl ?_
        refine ev_lload_n (q := 18) dX6_tryPlace_17 rfl rfl ?_
        refine ev_callV3vP (q := 21) dX6_tryPlace_18 ca_X6_317 (k_X6_tryChange (kd := 0) hn hk hp hw hr hb hps (Or.inr ⟨h45, rfl⟩)) rfl (lt_n hn (by decide)) rfl rfl (Nat.le_of_ble_eq_true rfl) (Nat.le_of_ble_eq_true rfl) (by decide) (by decide) rfl (fun S T hp_18 => ?_)
        obtain ⟨hr, hb⟩ := hp_18
        refine ev_goto 65 dX6_tryPlace_21 (by decide) ?_
        exact ev_retE dX6_tryPlace_65 rfl rfl rfl (hQ _ _ ⟨hr, hb⟩)
    · rw [if_neg h45] at hQ
      refine ev_aload_n (q := 1) dX6_tryPlace_0 rfl rfl ?_
      refine ev_get (q := 4) dX6_tryPlace_1 fr_X6_23 rfl (lt_n hn (by decide)) rfl rfl ?_
      refine ev_get (q := 7) dX6_tryPlace_4 fr_X6_314 rfl (lt_n hn (by decide)) rfl rfl ?_
      refine ev_iload_n (q := 8) dX6_tryPlace_7 rfl rfl ?_
      refine ev_iaS (q := 9) p dX6_tryPlace_8 rfl rfl (by omega) (lt_n hn (by decide)) rfl ?_
      refine ev_bipush (q := 11) (45) dX6_tryPlace_9 (by decide) rfl ?_
      rw [e11]
      refine ev_icmp_ne (q := 14) 24 dX6_tryPlace_11 (by decide) rfl (fun c_11 => ?_) (fun c_11 => ?_)
      · refine ev_aload_n (q := 25) dX6_tryPlace_24 rfl rfl ?_
        refine ev_get (q := 28) dX6_tryPlace_25 fr_X6_23 rfl (lt_n hn (by decide)) rfl rfl ?_
        refine ev_get (q := 31) dX6_tryPlace_28 fr_X6_314 rfl (lt_n hn (by decide)) rfl rfl ?_
        refine ev_iload_n (q := 32) dX6_tryPlace_31 rfl rfl ?_
        refine ev_iaS (q := 33) p dX6_tryPlace_32 rfl rfl (by omega) (lt_n hn (by decide)) rfl ?_
        rw [e11]
        refine ev_callS1i (q := 36) dX6_tryPlace_33 ca_X6_321 (c_X6_orderOf _) (Nat.le_of_ble_eq_true rfl) (Nat.le_of_ble_eq_true rfl) (by decide) (by decide) rfl ?_
        rw [isPr_n hpr]
        refine ev_if_lt (q := 39) 65 dX6_tryPlace_36 (by decide) rfl (fun c_36 => ?_) (fun c_36 => ?_)
        · exact ev_retE dX6_tryPlace_65 rfl rfl rfl (hQ _ _ ⟨hr, hb⟩)
        · exact absurd (show (-1 : Int32) < 0 by decide) c_36
      · exact absurd (show I 41 p = 45 from c_11) h45
theorem k_X6_comma_f (hn : 49 ≤ n) {v : Int32} (hv : inb v 0 2 = false) : RnS xl xs 6 145 0 0 mX6_comma [.ref 0, .int v] n I J X (some (.int (-2))) n I J X := by
  intro S T Q hQ
  have h1 := inb_cases hv
  show Ev xl xs 6 145 0 0 mX6_comma 0 [some (.ref 0), some (.int v), none, none, none] [] n (sysH (ov I S) (ovJ J T) X) Q
  refine ev_iload_n (q := 1) dX6_comma_0 rfl rfl ?_
  refine ev_if_lt (q := 4) 9 dX6_comma_1 (by decide) rfl (fun c_1 => ?_) (fun c_1 => ?_)
  · refine ev_bipush (q := 11) (-2) dX6_comma_9 (by decide) rfl ?_
    exact ev_iretE dX6_comma_11 rfl rfl rfl rfl rfl (hQ _ _)
  · refine ev_iload_n (q := 5) dX6_comma_4 rfl rfl ?_
    refine ev_iconst (q := 6) (2) dX6_comma_5 (by decide) rfl ?_
    refine ev_icmp_le (q := 9) 12 dX6_comma_6 (by decide) rfl (fun c_6 => ?_) (fun c_6 => ?_)
    · (simp only [i_le, i_lt] at *; omega)
    · refine ev_bipush (q := 11) (-2) dX6_comma_9 (by decide) rfl ?_
      exact ev_iretE dX6_comma_11 rfl rfl rfl rfl rfl (hQ _ _)
theorem k_X6_comma_n (hn : 49 ≤ n) (hk : KI I J t sl wy wi he) (hp : PdI I sg) {v : Int32} (hv : inb v 0 2 = true) (hf : ¬ ffP I t sg = -6) : RnS xl xs 6 145 0 0 mX6_comma [.ref 0, .int v] n I J X (some (.int (-5))) n I J X := by
  intro S T Q hQ
  simp only [inb, Bool.and_eq_true, decide_eq_true_eq] at hv
  have hb : decide (ffP I t sg ≠ -6) = true := decide_eq_true hf
  show Ev xl xs 6 145 0 0 mX6_comma 0 [some (.ref 0), some (.int v), none, none, none] [] n (sysH (ov I S) (ovJ J T) X) Q
  refine ev_iload_n (q := 1) dX6_comma_0 rfl rfl ?_
  refine ev_if_lt (q := 4) 9 dX6_comma_1 (by decide) rfl (fun c_1 => ?_) (fun c_1 => ?_)
  · (simp only [i_le, i_lt] at *; omega)
  · refine ev_iload_n (q := 5) dX6_comma_4 rfl rfl ?_
    refine ev_iconst (q := 6) (2) dX6_comma_5 (by decide) rfl ?_
    refine ev_icmp_le (q := 9) 12 dX6_comma_6 (by decide) rfl (fun c_6 => ?_) (fun c_6 => ?_)
    · refine ev_aload_n (q := 13) dX6_comma_12 rfl rfl ?_
      refine ev_callV0i (q := 16) dX6_comma_13 ca_X6_127 (k_X6_isFaulty hn hk hp) rfl (lt_n hn (by decide)) rfl rfl (Nat.le_of_ble_eq_true rfl) (Nat.le_of_ble_eq_true rfl) (by decide) (by decide) rfl ?_
      rw [hb]
      refine ev_if_eq (q := 19) 22 dX6_comma_16 (by decide) rfl (fun c_16 => ?_) (fun c_16 => ?_)
      · exact absurd c_16 (by decide)
      · refine ev_bipush (q := 21) (-5) dX6_comma_19 (by decide) rfl ?_
        exact ev_iretE dX6_comma_21 rfl rfl rfl rfl rfl (hQ _ _)
    · exact absurd hv.2 c_6
theorem k_X6_comma (hn : 49 ≤ n) (hk : KI I J t sl wy wi he) (hp : PdI I sg) {v : Int32} (hv : inb v 0 2 = true) (hf : ffP I t sg = -6) : RnS xl xs 6 145 0 0 mX6_comma [.ref 0, .int v] n I J X (some (.int (if v = 0 then cm0 (upto (cmF I J t sl wy wi he sg) sg none) else if v = 1 then cm1 (upto (cmF I J t sl wy wi he sg) sg none) else cm2 (upto (cmF I J t sl wy wi he sg) sg none)))) n I J X := by
  intro S T Q hQ
  simp only [inb, Bool.and_eq_true, decide_eq_true_eq] at hv
  have h6 := hk.1.2.2.1
  have ht2 := hk.1.2.1
  have h64 := p2_le h6
  have hhl := hk.1.2.2.2.2.2.2.2.2.2.2
  have h40 := hp.2.2.1
  have hw := ffP_WT h6 ht2 hp.2.2.1 hf
  have hsd := sdM_lt (t := t) (tx := I 41) h6 ht2 sg
  have hbf : decide (ffP I t sg ≠ -6) = false := decide_eq_false (fun h => h hf)
  have hcr := CRl_all (sg := sg) hk sg h40
  show Ev xl xs 6 145 0 0 mX6_comma 0 [some (.ref 0), some (.int v), none, none, none] [] n (sysH (ov I S) (ovJ J T) X) Q
  have lp : ∀ j p, p + j = sg → ∀ S T, RD I S wy wi → BS S (upto (coF I J t sl wy wi he sg) p none) → Ev xl xs 6 145 0 0 mX6_comma 69 [some (.ref 0), some (.int v), some (.long (J 33 8 &&& slW t sl (sdM t (I 41) sg) he)), none, some (.int (nI p))] [] n (sysH (ov I S) (ovJ J T) X) Q := by
    intro j
    induction j using Nat.strongRecOn with
    | _ j ih =>
      intro p hpj S T hr hb
      have e : ∀ h1, _ := fun (h1 : j - 1 < j) => ih (j - 1) h1 (p + 1)
      by_cases hps : sg ≤ p
      · have hps : p = sg := by omega
        rw [hps] at hb
        generalize upto (coF I J t sl wy wi he sg) sg none = o at hb hcr
        generalize upto (cmF I J t sl wy wi he sg) sg none = cc at hQ hcr
        cases o with
        | none =>
          cases cc with
          | none =>
            refine ev_iload (q := 71) dX6_comma_69 rfl rfl ?_
            refine ev_aload_n (q := 72) dX6_comma_71 rfl rfl ?_
            refine ev_get (q := 75) dX6_comma_72 fr_X6_23 rfl (lt_n hn (by decide)) rfl rfl ?_
            refine ev_get (q := 78) dX6_comma_75 fr_X6_116 rfl (lt_n hn (by decide)) rfl rfl ?_
            rw [show ov I S 10 1 = nI sg from hp.2.1]
            refine ev_icmp_ge (q := 81) 94 dX6_comma_78 (by decide) rfl (fun c_78 => ?_) (fun c_78 => ?_)
            · refine ev_aload_n (q := 95) dX6_comma_94 rfl rfl ?_
              refine ev_get (q := 98) dX6_comma_95 fr_X6_56 rfl (lt_n hn (by decide)) rfl rfl ?_
              refine ev_get (q := 101) dX6_comma_98 fr_X6_198 rfl (lt_n hn (by decide)) rfl rfl ?_
              rw [show ov I S 30 0 = 0 from hb]
              refine ev_if_ne (q := 104) 107 dX6_comma_101 (by decide) rfl (fun c_101 => ?_) (fun c_101 => ?_)
              · exact absurd rfl c_101
              · refine ev_bipush (q := 106) (-6) dX6_comma_104 (by decide) rfl ?_
                exact ev_iretE dX6_comma_106 rfl rfl (by show (-6 : Int32) = (if v = 0 then -6 else if v = 1 then -6 else -6); split; rfl; split <;> rfl) rfl rfl (hQ _ _)
            · exact absurd ((nI_leI (by omega) (by omega)).mpr (by omega)) c_78
          | some x => exact hcr.elim
        | some a =>
          cases cc with
          | none => exact hcr.elim
          | some x =>
            obtain ⟨kd, q1, q2, q3, q4, q5, q6, q7, q8⟩ := hcr
            obtain ⟨b0, b1, b2⟩ := hb
            have d1 : nI (x.1 * 1000 + kd) / 1000 = nI x.1 := by rw [show (1000 : Int32) = nI 1000 from rfl, pk_div (by omega) (by decide) (by decide)]; exact congrArg nI (by omega)
            have d2 : nI (x.1 * 1000 + kd) - nI (x.1 * 1000 + kd) / 1000 * 1000 = nI kd := by rw [show (1000 : Int32) = nI 1000 from rfl, pk_rem (by omega) (by decide) (by decide)]; exact congrArg nI (by omega)
            have hsp : spF I x.1 kd = x.2.1 := by
              rw [q6]
              unfold spF
              rcases q5 with g | g
              · rw [if_neg (pr_not h6 ht2 g).2.2.1, g, if_pos rfl]
              · rw [if_pos g, g]; rfl
            refine ev_iload (q := 71) dX6_comma_69 rfl rfl ?_
            refine ev_aload_n (q := 72) dX6_comma_71 rfl rfl ?_
            refine ev_get (q := 75) dX6_comma_72 fr_X6_23 rfl (lt_n hn (by decide)) rfl rfl ?_
            refine ev_get (q := 78) dX6_comma_75 fr_X6_116 rfl (lt_n hn (by decide)) rfl rfl ?_
            rw [show ov I S 10 1 = nI sg from hp.2.1]
            refine ev_icmp_ge (q := 81) 94 dX6_comma_78 (by decide) rfl (fun c_78 => ?_) (fun c_78 => ?_)
            · refine ev_aload_n (q := 95) dX6_comma_94 rfl rfl ?_
              refine ev_get (q := 98) dX6_comma_95 fr_X6_56 rfl (lt_n hn (by decide)) rfl rfl ?_
              refine ev_get (q := 101) dX6_comma_98 fr_X6_198 rfl (lt_n hn (by decide)) rfl rfl ?_
              rw [show ov I S 30 0 = 1 from b0]
              refine ev_if_ne (q := 104) 107 dX6_comma_101 (by decide) rfl (fun c_101 => ?_) (fun c_101 => ?_)
              · refine ev_aload_n (q := 108) dX6_comma_107 rfl rfl ?_
                refine ev_get (q := 111) dX6_comma_108 fr_X6_56 rfl (lt_n hn (by decide)) rfl rfl ?_
                refine ev_get (q := 114) dX6_comma_111 fr_X6_202 rfl (lt_n hn (by decide)) rfl rfl ?_
                refine ev_sipush (q := 117) (1000) dX6_comma_114 (by decide) rfl ?_
                rw [show ov I S 30 2 = nI (x.1 * 1000 + kd) from b2.trans q4]
                refine ev_idiv (q := 118) (by decide) dX6_comma_117 rfl ?_
                rw [d1]
                refine ev_ist_4 (q := 120) dX6_comma_118 rfl rfl ?_
                refine ev_iload_n (q := 121) dX6_comma_120 rfl rfl ?_
                refine ev_if_ne (q := 124) 127 dX6_comma_121 (by decide) rfl (fun c_121 => ?_) (fun c_121 => ?_)
                · have c_121 : ¬ v = 0 := c_121
                  refine ev_iload_n (q := 128) dX6_comma_127 rfl rfl ?_
                  refine ev_iconst (q := 129) (1) dX6_comma_128 (by decide) rfl ?_
                  refine ev_icmp_ne (q := 132) 152 dX6_comma_129 (by decide) rfl (fun c_129 => ?_) (fun c_129 => ?_)
                  · have c_129 : ¬ v = 1 := c_129
                    refine ev_aload_n (q := 153) dX6_comma_152 rfl rfl ?_
                    refine ev_get (q := 156) dX6_comma_153 fr_X6_56 rfl (lt_n hn (by decide)) rfl rfl ?_
                    refine ev_get (q := 159) dX6_comma_156 fr_X6_208 rfl (lt_n hn (by decide)) rfl rfl ?_
                    rw [show ov I S 30 1 = a.1 from b1]
                    refine ev_sipush (q := 162) (1000) dX6_comma_159 (by decide) rfl ?_
                    refine ev_iadd (q := 163) dX6_comma_162 rfl ?_
                    exact ev_iretE dX6_comma_163 rfl rfl (by first | (rw [if_pos c_121]; rfl) | (rw [if_neg c_121, if_pos c_129]; rfl) | (rw [if_neg c_121, if_neg c_129]; exact q7.symm)) rfl rfl (hQ _ _)
                  · have c_129 : v = 1 := c_129
                    refine ev_aload_n (q := 133) dX6_comma_132 rfl rfl ?_
                    refine ev_iload (q := 135) dX6_comma_133 rfl rfl ?_
                    refine ev_aload_n (q := 136) dX6_comma_135 rfl rfl ?_
                    refine ev_get (q := 139) dX6_comma_136 fr_X6_56 rfl (lt_n hn (by decide)) rfl rfl ?_
                    refine ev_get (q := 142) dX6_comma_139 fr_X6_202 rfl (lt_n hn (by decide)) rfl rfl ?_
                    refine ev_sipush (q := 145) (1000) dX6_comma_142 (by decide) rfl ?_
                    rw [show ov I S 30 2 = nI (x.1 * 1000 + kd) from b2.trans q4]
                    refine ev_irem (q := 146) (by decide) dX6_comma_145 rfl ?_
                    rw [d2]
                    refine ev_callV2i (q := 149) dX6_comma_146 ca_X6_205 (k_X6_signPut hn hp q2 q1) rfl (lt_n hn (by decide)) rfl rfl (Nat.le_of_ble_eq_true rfl) (Nat.le_of_ble_eq_true rfl) (by decide) (by decide) rfl ?_
                    rw [hsp]
                    refine ev_goto 163 dX6_comma_149 (by decide) ?_
                    exact ev_iretE dX6_comma_163 rfl rfl (by first | (rw [if_pos c_121]; rfl) | (rw [if_neg c_121, if_pos c_129]; rfl) | (rw [if_neg c_121, if_neg c_129]; exact q7.symm)) rfl rfl (hQ _ _)
                · have c_121 : v = 0 := c_121
                  refine ev_iload (q := 126) dX6_comma_124 rfl rfl ?_
                  exact ev_iretE dX6_comma_126 rfl rfl (by first | (rw [if_pos c_121]; rfl) | (rw [if_neg c_121, if_pos c_129]; rfl) | (rw [if_neg c_121, if_neg c_129]; exact q7.symm)) rfl rfl (hQ _ _)
              · exact absurd (show (1 : Int32) = 0 from c_101) (by decide)
            · exact absurd ((nI_leI (by omega) (by omega)).mpr (by omega)) c_78
      · have e := e (by omega) (by omega)
        refine ev_iload (q := 71) dX6_comma_69 rfl rfl ?_
        refine ev_aload_n (q := 72) dX6_comma_71 rfl rfl ?_
        refine ev_get (q := 75) dX6_comma_72 fr_X6_23 rfl (lt_n hn (by decide)) rfl rfl ?_
        refine ev_get (q := 78) dX6_comma_75 fr_X6_116 rfl (lt_n hn (by decide)) rfl rfl ?_
        rw [show ov I S 10 1 = nI sg from hp.2.1]
        refine ev_icmp_ge (q := 81) 94 dX6_comma_78 (by decide) rfl (fun c_78 => ?_) (fun c_78 => ?_)
        · exact absurd ((nI_leI (by omega) (by omega)).mp c_78) hps
        · refine ev_aload_n (q := 82) dX6_comma_81 rfl rfl ?_
          refine ev_iload (q := 84) dX6_comma_82 rfl rfl ?_
          refine ev_lload_n (q := 85) dX6_comma_84 rfl rfl ?_
          refine ev_callV2vP (q := 88) dX6_comma_85 ca_X6_194 (k_X6_tryPlace hn hk hp hw hr hb (by omega)) rfl (lt_n hn (by decide)) rfl rfl (Nat.le_of_ble_eq_true rfl) (Nat.le_of_ble_eq_true rfl) (by decide) (by decide) rfl (fun S T hp_85 => ?_)
          obtain ⟨hr, hb⟩ := hp_85
          refine ev_inc_4 (q := 91) (nI (p + 1)) dX6_comma_88 (nI_1 p) rfl rfl ?_
          refine ev_goto 69 dX6_comma_91 (by decide) ?_
          exact e _ _ hr hb
  refine ev_iload_n (q := 1) dX6_comma_0 rfl rfl ?_
  refine ev_if_lt (q := 4) 9 dX6_comma_1 (by decide) rfl (fun c_1 => ?_) (fun c_1 => ?_)
  · (simp only [i_le, i_lt] at *; omega)
  · refine ev_iload_n (q := 5) dX6_comma_4 rfl rfl ?_
    refine ev_iconst (q := 6) (2) dX6_comma_5 (by decide) rfl ?_
    refine ev_icmp_le (q := 9) 12 dX6_comma_6 (by decide) rfl (fun c_6 => ?_) (fun c_6 => ?_)
    · refine ev_aload_n (q := 13) dX6_comma_12 rfl rfl ?_
      refine ev_callV0i (q := 16) dX6_comma_13 ca_X6_127 (k_X6_isFaulty hn hk hp) rfl (lt_n hn (by decide)) rfl rfl (Nat.le_of_ble_eq_true rfl) (Nat.le_of_ble_eq_true rfl) (by decide) (by decide) rfl ?_
      rw [hbf]
      refine ev_if_eq (q := 19) 22 dX6_comma_16 (by decide) rfl (fun c_16 => ?_) (fun c_16 => ?_)
      · refine ev_aload_n (q := 23) dX6_comma_22 rfl rfl ?_
        refine ev_get (q := 26) dX6_comma_23 fr_X6_42 rfl (lt_n hn (by decide)) rfl rfl ?_
        refine ev_callV0v (q := 29) dX6_comma_26 ca_X6_182 (k_X3_ready hn hk) rfl (lt_n hn (by decide)) rfl rfl (Nat.le_of_ble_eq_true rfl) (Nat.le_of_ble_eq_true rfl) (by decide) (by decide) rfl ?_
        refine ev_aload_n (q := 30) dX6_comma_29 rfl rfl ?_
        refine ev_get (q := 33) dX6_comma_30 fr_X6_56 rfl (lt_n hn (by decide)) rfl rfl ?_
        refine ev_callV0v (q := 36) dX6_comma_33 ca_X6_185 (k_X0_clear hn) rfl (lt_n hn (by decide)) rfl rfl (Nat.le_of_ble_eq_true rfl) (Nat.le_of_ble_eq_true rfl) (by decide) (by decide) rfl ?_
        refine ev_aload_n (q := 37) dX6_comma_36 rfl rfl ?_
        refine ev_get (q := 40) dX6_comma_37 fr_X6_10 rfl (lt_n hn (by decide)) rfl rfl ?_
        refine ev_get (q := 43) dX6_comma_40 fr_X6_139 rfl (lt_n hn (by decide)) rfl rfl ?_
        refine ev_aload_n (q := 44) dX6_comma_43 rfl rfl ?_
        refine ev_get (q := 47) dX6_comma_44 fr_X6_10 rfl (lt_n hn (by decide)) rfl rfl ?_
        refine ev_aload_n (q := 48) dX6_comma_47 rfl rfl ?_
        refine ev_get (q := 51) dX6_comma_48 fr_X6_23 rfl (lt_n hn (by decide)) rfl rfl ?_
        rw [show ovJ J _ 1 5 = J 33 8 from hk.2.2.1.1]
        refine ev_callV0i (q := 54) dX6_comma_51 ca_X6_187 (k_saidThings hn hp h6 ht2 hw) rfl (lt_n hn (by decide)) rfl rfl (Nat.le_of_ble_eq_true rfl) (Nat.le_of_ble_eq_true rfl) (by decide) (by decide) rfl ?_
        refine ev_aload_n (q := 55) dX6_comma_54 rfl rfl ?_
        refine ev_get (q := 58) dX6_comma_55 fr_X6_10 rfl (lt_n hn (by decide)) rfl rfl ?_
        refine ev_get (q := 61) dX6_comma_58 fr_X6_103 rfl (lt_n hn (by decide)) rfl rfl ?_
        rw [show ov I _ 1 1 = nI he from hk.2.1.2.1]
        refine ev_callV2l (q := 64) dX6_comma_61 ca_X6_190 (k_X4_stillWorlds hn hk hsd (by omega)) rfl (lt_n hn (by decide)) rfl rfl (Nat.le_of_ble_eq_true rfl) (Nat.le_of_ble_eq_true rfl) (by decide) (by decide) rfl ?_
        refine ev_land (q := 65) dX6_comma_64 rfl ?_
        refine ev_lst_2 (q := 66) dX6_comma_65 rfl rfl ?_
        refine ev_iconst (q := 67) (0) dX6_comma_66 (by decide) rfl ?_
        refine ev_ist_4 (q := 69) dX6_comma_67 rfl rfl ?_
        exact lp sg 0 (by omega) _ _ (RD_mono RD_rdS rfl rfl) rfl
      · exact absurd rfl c_16
    · exact absurd hv.2 c_6
end CLS11
