theorem dX7_in_0 : decode cX7_in 0 = .ok (.iload_n 0, 1) := by decide +kernel
theorem dX7_in_1 : decode cX7_in 1 = .ok (.iload_n 1, 1) := by decide +kernel
theorem dX7_in_2 : decode cX7_in 2 = .ok (.if_icmp .lt 12, 3) := by decide +kernel
theorem dX7_in_5 : decode cX7_in 5 = .ok (.iload_n 0, 1) := by decide +kernel
theorem dX7_in_6 : decode cX7_in 6 = .ok (.iload_n 2, 1) := by decide +kernel
theorem dX7_in_7 : decode cX7_in 7 = .ok (.if_icmp .gt 7, 3) := by decide +kernel
theorem dX7_in_10 : decode cX7_in 10 = .ok (.iconst 1, 1) := by decide +kernel
theorem dX7_in_11 : decode cX7_in 11 = .ok (.goto 4, 3) := by decide +kernel
theorem dX7_in_14 : decode cX7_in 14 = .ok (.iconst 0, 1) := by decide +kernel
theorem dX7_in_15 : decode cX7_in 15 = .ok (.ireturn, 1) := by decide +kernel
theorem dX7_has_0 : decode cX7_has 0 = .ok (.iload_n 0, 1) := by decide +kernel
theorem dX7_has_1 : decode cX7_has 1 = .ok (.iload_n 1, 1) := by decide +kernel
theorem dX7_has_2 : decode cX7_has 2 = .ok (.ishr, 1) := by decide +kernel
theorem dX7_has_3 : decode cX7_has 3 = .ok (.iconst 1, 1) := by decide +kernel
theorem dX7_has_4 : decode cX7_has 4 = .ok (.iand, 1) := by decide +kernel
theorem dX7_has_5 : decode cX7_has 5 = .ok (.iconst 1, 1) := by decide +kernel
theorem dX7_has_6 : decode cX7_has 6 = .ok (.if_icmp .ne 7, 3) := by decide +kernel
theorem dX7_has_9 : decode cX7_has 9 = .ok (.iconst 1, 1) := by decide +kernel
theorem dX7_has_10 : decode cX7_has 10 = .ok (.goto 4, 3) := by decide +kernel
theorem dX7_has_13 : decode cX7_has 13 = .ok (.iconst 0, 1) := by decide +kernel
theorem dX7_has_14 : decode cX7_has 14 = .ok (.ireturn, 1) := by decide +kernel
theorem dX7_holds_0 : decode cX7_holds 0 = .ok (.lload_n 0, 1) := by decide +kernel
theorem dX7_holds_1 : decode cX7_holds 1 = .ok (.iload_n 2, 1) := by decide +kernel
theorem dX7_holds_2 : decode cX7_holds 2 = .ok (.lushr, 1) := by decide +kernel
theorem dX7_holds_3 : decode cX7_holds 3 = .ok (.lconst 1, 1) := by decide +kernel
theorem dX7_holds_4 : decode cX7_holds 4 = .ok (.land, 1) := by decide +kernel
theorem dX7_holds_5 : decode cX7_holds 5 = .ok (.lconst 1, 1) := by decide +kernel
theorem dX7_holds_6 : decode cX7_holds 6 = .ok (.lcmp, 1) := by decide +kernel
theorem dX7_holds_7 : decode cX7_holds 7 = .ok (.ifCond .ne 7, 3) := by decide +kernel
theorem dX7_holds_10 : decode cX7_holds 10 = .ok (.iconst 1, 1) := by decide +kernel
theorem dX7_holds_11 : decode cX7_holds 11 = .ok (.goto 4, 3) := by decide +kernel
theorem dX7_holds_14 : decode cX7_holds 14 = .ok (.iconst 0, 1) := by decide +kernel
theorem dX7_holds_15 : decode cX7_holds 15 = .ok (.ireturn, 1) := by decide +kernel
theorem dX7_bits_0 : decode cX7_bits 0 = .ok (.iconst 0, 1) := by decide +kernel
theorem dX7_bits_1 : decode cX7_bits 1 = .ok (.istore_n 1, 1) := by decide +kernel
theorem dX7_bits_2 : decode cX7_bits 2 = .ok (.iconst 0, 1) := by decide +kernel
theorem dX7_bits_3 : decode cX7_bits 3 = .ok (.istore_n 2, 1) := by decide +kernel
theorem dX7_bits_4 : decode cX7_bits 4 = .ok (.iload_n 2, 1) := by decide +kernel
theorem dX7_bits_5 : decode cX7_bits 5 = .ok (.bipush 6, 2) := by decide +kernel
theorem dX7_bits_7 : decode cX7_bits 7 = .ok (.if_icmp .ge 17, 3) := by decide +kernel
theorem dX7_bits_10 : decode cX7_bits 10 = .ok (.iload_n 1, 1) := by decide +kernel
theorem dX7_bits_11 : decode cX7_bits 11 = .ok (.iload_n 0, 1) := by decide +kernel
theorem dX7_bits_12 : decode cX7_bits 12 = .ok (.iload_n 2, 1) := by decide +kernel
theorem dX7_bits_13 : decode cX7_bits 13 = .ok (.ishr, 1) := by decide +kernel
theorem dX7_bits_14 : decode cX7_bits 14 = .ok (.iconst 1, 1) := by decide +kernel
theorem dX7_bits_15 : decode cX7_bits 15 = .ok (.iand, 1) := by decide +kernel
theorem dX7_bits_16 : decode cX7_bits 16 = .ok (.iadd, 1) := by decide +kernel
theorem dX7_bits_17 : decode cX7_bits 17 = .ok (.istore_n 1, 1) := by decide +kernel
theorem dX7_bits_18 : decode cX7_bits 18 = .ok (.iinc 2 1, 3) := by decide +kernel
theorem dX7_bits_21 : decode cX7_bits 21 = .ok (.goto (-17), 3) := by decide +kernel
theorem dX7_bits_24 : decode cX7_bits 24 = .ok (.iload_n 1, 1) := by decide +kernel
theorem dX7_bits_25 : decode cX7_bits 25 = .ok (.ireturn, 1) := by decide +kernel
theorem dX7_isCousin_0 : decode cX7_isCousin 0 = .ok (.iload_n 0, 1) := by decide +kernel
theorem dX7_isCousin_1 : decode cX7_isCousin 1 = .ok (.iconst 0, 1) := by decide +kernel
theorem dX7_isCousin_2 : decode cX7_isCousin 2 = .ok (.iconst 3, 1) := by decide +kernel
theorem dX7_isCousin_3 : decode cX7_isCousin 3 = .ok (.invokestatic 99, 3) := by decide +kernel
theorem dX7_isCousin_6 : decode cX7_isCousin 6 = .ok (.ireturn, 1) := by decide +kernel
theorem dX7_worlds_0 : decode cX7_worlds 0 = .ok (.iconst 1, 1) := by decide +kernel
theorem dX7_worlds_1 : decode cX7_worlds 1 = .ok (.aload_n 0, 1) := by decide +kernel
theorem dX7_worlds_2 : decode cX7_worlds 2 = .ok (.getfield 7, 3) := by decide +kernel
theorem dX7_worlds_5 : decode cX7_worlds 5 = .ok (.ishl, 1) := by decide +kernel
theorem dX7_worlds_6 : decode cX7_worlds 6 = .ok (.ireturn, 1) := by decide +kernel
theorem dX7_all_0 : decode cX7_all 0 = .ok (.aload_n 0, 1) := by decide +kernel
theorem dX7_all_1 : decode cX7_all 1 = .ok (.getfield 7, 3) := by decide +kernel
theorem dX7_all_4 : decode cX7_all 4 = .ok (.bipush 6, 2) := by decide +kernel
theorem dX7_all_6 : decode cX7_all 6 = .ok (.if_icmp .ne 9, 3) := by decide +kernel
theorem dX7_all_9 : decode cX7_all 9 = .ok (.ldc2_w 93, 3) := by decide +kernel
theorem dX7_all_12 : decode cX7_all 12 = .ok (.goto 11, 3) := by decide +kernel
theorem dX7_all_15 : decode cX7_all 15 = .ok (.lconst 1, 1) := by decide +kernel
theorem dX7_all_16 : decode cX7_all 16 = .ok (.aload_n 0, 1) := by decide +kernel
theorem dX7_all_17 : decode cX7_all 17 = .ok (.invokevirtual 95, 3) := by decide +kernel
theorem dX7_all_20 : decode cX7_all 20 = .ok (.lshl, 1) := by decide +kernel
theorem dX7_all_21 : decode cX7_all 21 = .ok (.lconst 1, 1) := by decide +kernel
theorem dX7_all_22 : decode cX7_all 22 = .ok (.lsub, 1) := by decide +kernel
theorem dX7_all_23 : decode cX7_all 23 = .ok (.lreturn, 1) := by decide +kernel
theorem dX7_isThing_0 : decode cX7_isThing 0 = .ok (.iload_n 1, 1) := by decide +kernel
theorem dX7_isThing_1 : decode cX7_isThing 1 = .ok (.iconst 0, 1) := by decide +kernel
theorem dX7_isThing_2 : decode cX7_isThing 2 = .ok (.aload_n 0, 1) := by decide +kernel
theorem dX7_isThing_3 : decode cX7_isThing 3 = .ok (.getfield 7, 3) := by decide +kernel
theorem dX7_isThing_6 : decode cX7_isThing 6 = .ok (.iconst 1, 1) := by decide +kernel
theorem dX7_isThing_7 : decode cX7_isThing 7 = .ok (.isub, 1) := by decide +kernel
theorem dX7_isThing_8 : decode cX7_isThing 8 = .ok (.invokestatic 99, 3) := by decide +kernel
theorem dX7_isThing_11 : decode cX7_isThing 11 = .ok (.ireturn, 1) := by decide +kernel
theorem dX7_isWorld_0 : decode cX7_isWorld 0 = .ok (.iload_n 1, 1) := by decide +kernel
theorem dX7_isWorld_1 : decode cX7_isWorld 1 = .ok (.iconst 0, 1) := by decide +kernel
theorem dX7_isWorld_2 : decode cX7_isWorld 2 = .ok (.aload_n 0, 1) := by decide +kernel
theorem dX7_isWorld_3 : decode cX7_isWorld 3 = .ok (.invokevirtual 95, 3) := by decide +kernel
theorem dX7_isWorld_6 : decode cX7_isWorld 6 = .ok (.iconst 1, 1) := by decide +kernel
theorem dX7_isWorld_7 : decode cX7_isWorld 7 = .ok (.isub, 1) := by decide +kernel
theorem dX7_isWorld_8 : decode cX7_isWorld 8 = .ok (.invokestatic 99, 3) := by decide +kernel
theorem dX7_isWorld_11 : decode cX7_isWorld 11 = .ok (.ireturn, 1) := by decide +kernel
theorem dX7_worthTo_0 : decode cX7_worthTo 0 = .ok (.iconst 0, 1) := by decide +kernel
theorem dX7_worthTo_1 : decode cX7_worthTo 1 = .ok (.istore_n 3, 1) := by decide +kernel
theorem dX7_worthTo_2 : decode cX7_worthTo 2 = .ok (.iconst 0, 1) := by decide +kernel
theorem dX7_worthTo_3 : decode cX7_worthTo 3 = .ok (.istore 4, 2) := by decide +kernel
theorem dX7_worthTo_5 : decode cX7_worthTo 5 = .ok (.iload 4, 2) := by decide +kernel
theorem dX7_worthTo_7 : decode cX7_worthTo 7 = .ok (.aload_n 0, 1) := by decide +kernel
theorem dX7_worthTo_8 : decode cX7_worthTo 8 = .ok (.getfield 7, 3) := by decide +kernel
theorem dX7_worthTo_11 : decode cX7_worthTo 11 = .ok (.if_icmp .ge 37, 3) := by decide +kernel
theorem dX7_worthTo_14 : decode cX7_worthTo 14 = .ok (.iload_n 3, 1) := by decide +kernel
theorem dX7_worthTo_15 : decode cX7_worthTo 15 = .ok (.iload_n 2, 1) := by decide +kernel
theorem dX7_worthTo_16 : decode cX7_worthTo 16 = .ok (.iload 4, 2) := by decide +kernel
theorem dX7_worthTo_18 : decode cX7_worthTo 18 = .ok (.invokestatic 113, 3) := by decide +kernel
theorem dX7_worthTo_21 : decode cX7_worthTo 21 = .ok (.ifCond .eq 18, 3) := by decide +kernel
theorem dX7_worthTo_24 : decode cX7_worthTo 24 = .ok (.aload_n 0, 1) := by decide +kernel
theorem dX7_worthTo_25 : decode cX7_worthTo 25 = .ok (.getfield 13, 3) := by decide +kernel
theorem dX7_worthTo_28 : decode cX7_worthTo 28 = .ok (.bipush 6, 2) := by decide +kernel
theorem dX7_worthTo_30 : decode cX7_worthTo 30 = .ok (.iload_n 1, 1) := by decide +kernel
theorem dX7_worthTo_31 : decode cX7_worthTo 31 = .ok (.imul, 1) := by decide +kernel
theorem dX7_worthTo_32 : decode cX7_worthTo 32 = .ok (.iload 4, 2) := by decide +kernel
theorem dX7_worthTo_34 : decode cX7_worthTo 34 = .ok (.iadd, 1) := by decide +kernel
theorem dX7_worthTo_35 : decode cX7_worthTo 35 = .ok (.iaload, 1) := by decide +kernel
theorem dX7_worthTo_36 : decode cX7_worthTo 36 = .ok (.goto 4, 3) := by decide +kernel
theorem dX7_worthTo_39 : decode cX7_worthTo 39 = .ok (.iconst 0, 1) := by decide +kernel
theorem dX7_worthTo_40 : decode cX7_worthTo 40 = .ok (.iadd, 1) := by decide +kernel
theorem dX7_worthTo_41 : decode cX7_worthTo 41 = .ok (.istore_n 3, 1) := by decide +kernel
theorem dX7_worthTo_42 : decode cX7_worthTo 42 = .ok (.iinc 4 1, 3) := by decide +kernel
theorem dX7_worthTo_45 : decode cX7_worthTo 45 = .ok (.goto (-40), 3) := by decide +kernel
theorem dX7_worthTo_48 : decode cX7_worthTo 48 = .ok (.iload_n 3, 1) := by decide +kernel
theorem dX7_worthTo_49 : decode cX7_worthTo 49 = .ok (.ireturn, 1) := by decide +kernel
theorem dX7_tasteOf_0 : decode cX7_tasteOf 0 = .ok (.iconst 0, 1) := by decide +kernel
theorem dX7_tasteOf_1 : decode cX7_tasteOf 1 = .ok (.istore_n 2, 1) := by decide +kernel
theorem dX7_tasteOf_2 : decode cX7_tasteOf 2 = .ok (.iconst 0, 1) := by decide +kernel
theorem dX7_tasteOf_3 : decode cX7_tasteOf 3 = .ok (.istore_n 3, 1) := by decide +kernel
theorem dX7_tasteOf_4 : decode cX7_tasteOf 4 = .ok (.iload_n 3, 1) := by decide +kernel
theorem dX7_tasteOf_5 : decode cX7_tasteOf 5 = .ok (.aload_n 0, 1) := by decide +kernel
theorem dX7_tasteOf_6 : decode cX7_tasteOf 6 = .ok (.getfield 7, 3) := by decide +kernel
theorem dX7_tasteOf_9 : decode cX7_tasteOf 9 = .ok (.if_icmp .ge 30, 3) := by decide +kernel
theorem dX7_tasteOf_12 : decode cX7_tasteOf 12 = .ok (.iload_n 2, 1) := by decide +kernel
theorem dX7_tasteOf_13 : decode cX7_tasteOf 13 = .ok (.iload_n 1, 1) := by decide +kernel
theorem dX7_tasteOf_14 : decode cX7_tasteOf 14 = .ok (.iload_n 3, 1) := by decide +kernel
theorem dX7_tasteOf_15 : decode cX7_tasteOf 15 = .ok (.invokestatic 113, 3) := by decide +kernel
theorem dX7_tasteOf_18 : decode cX7_tasteOf 18 = .ok (.ifCond .eq 12, 3) := by decide +kernel
theorem dX7_tasteOf_21 : decode cX7_tasteOf 21 = .ok (.aload_n 0, 1) := by decide +kernel
theorem dX7_tasteOf_22 : decode cX7_tasteOf 22 = .ok (.getfield 17, 3) := by decide +kernel
theorem dX7_tasteOf_25 : decode cX7_tasteOf 25 = .ok (.iload_n 3, 1) := by decide +kernel
theorem dX7_tasteOf_26 : decode cX7_tasteOf 26 = .ok (.iaload, 1) := by decide +kernel
theorem dX7_tasteOf_27 : decode cX7_tasteOf 27 = .ok (.goto 4, 3) := by decide +kernel
theorem dX7_tasteOf_30 : decode cX7_tasteOf 30 = .ok (.iconst 0, 1) := by decide +kernel
theorem dX7_tasteOf_31 : decode cX7_tasteOf 31 = .ok (.iadd, 1) := by decide +kernel
theorem dX7_tasteOf_32 : decode cX7_tasteOf 32 = .ok (.istore_n 2, 1) := by decide +kernel
theorem dX7_tasteOf_33 : decode cX7_tasteOf 33 = .ok (.iinc 3 1, 3) := by decide +kernel
theorem dX7_tasteOf_36 : decode cX7_tasteOf 36 = .ok (.goto (-32), 3) := by decide +kernel
theorem dX7_tasteOf_39 : decode cX7_tasteOf 39 = .ok (.iload_n 2, 1) := by decide +kernel
theorem dX7_tasteOf_40 : decode cX7_tasteOf 40 = .ok (.ireturn, 1) := by decide +kernel
def lt32 (a b : Int32) : Prop := a.toInt < b.toInt
theorem i_le (a b : Int32) : a ≤ b ↔ a.toInt ≤ b.toInt := Int32.le_iff_toInt_le
theorem i_lt (a b : Int32) : a < b ↔ a.toInt < b.toInt := Int32.lt_iff_toInt_lt
def inb (v lo hi : Int32) : Bool := decide (lo ≤ v) && decide (v ≤ hi)
theorem inb_t {v lo hi : Int32} (h1 : lo ≤ v) (h2 : v ≤ hi) : inb v lo hi = true := by simp [inb, h1, h2]
theorem inb_f {v lo hi : Int32} (h1 : ¬ lo ≤ v ∨ ¬ v ≤ hi) : inb v lo hi = false := by rcases h1 with h | h <;> simp [inb, h]
theorem b2i_t {b : Bool} (h : b = true) : b2i b = 1 := by rw [h]; rfl
theorem b2i_f {b : Bool} (h : b = false) : b2i b = 0 := by rw [h]; rfl
theorem b2i_0 {b : Bool} : b2i b = 0 ↔ b = false := by cases b <;> decide
theorem b2i_n0 {b : Bool} : ¬ b2i b = 0 ↔ b = true := by cases b <;> decide
theorem b2i_ne {b : Bool} : b2i b ≠ 0 ↔ b = true := b2i_n0
/-- a bit of an int, of a long -/
def wsum (f : Nat → Int32) : Nat → Nat → Int32
  | 0, _ => 0
  | k + 1, w => wsum f k w + if w.testBit k then f k else 0
def pop (k w : Nat) : Nat := match k with
  | 0 => 0
  | k + 1 => pop k w + if w.testBit k then 1 else 0
theorem pop_le : ∀ k w, pop k w ≤ k
  | 0, _ => Nat.le_refl _
  | k + 1, w => by unfold pop; have := pop_le k w; split <;> omega
theorem nI_bit {w k : Nat} (hw : w < 2 ^ 31) (hk : k < 31) : nI w >>> (nI k &&& 31) &&& 1 = nI (if w.testBit k then 1 else 0) := by
  have h1 : nI w >>> (nI k &&& 31) = nI (w / 2 ^ k) := pk_shrN hw _ k (by
    have : ∀ k, k < 31 → ((nI k &&& 31).toBitVec.smod 32).toNat = k := by decide +kernel
    exact this k hk)
  rw [h1, pk_andN (n := w / 2 ^ k) (Nat.lt_of_le_of_lt (Nat.div_le_self _ _) (by omega)) 1 (by decide)]
  congr 1
  rw [Nat.testBit_eq_decide_div_mod_eq]
  have : w / 2 ^ k % 2 < 2 := Nat.mod_lt _ (by decide)
  by_cases h : w / 2 ^ k % 2 = 1
  · simp [h]
  · simp [h]; omega
section MODEL1
variable {xl : Nat} {xs : Nat → Int32} {n : Nat} {h : Nat → PC} {I : Nat → Nat → Int32} {J : Nat → Nat → Int64} {X : Nat → Option Nat}
theorem c_X7_in (v lo hi : Int32) : Rn xl xs 0 0 0 0 mX7_in [.int v, .int lo, .int hi] n h (some (.int (b2i (inb v lo hi)))) n h := by
  intro Q hQ
  show Ev xl xs 0 0 0 0 mX7_in 0 [some (.int v), some (.int lo), some (.int hi)] [] n h Q
  refine ev_iload_n (q := 1) dX7_in_0 rfl rfl ?_
  refine ev_iload_n (q := 2) dX7_in_1 rfl rfl ?_
  refine ev_icmp_lt (q := 5) 14 dX7_in_2 (by decide) rfl (fun c_2 => ?_) (fun c_2 => ?_)
  · refine ev_iconst (q := 15) (0) dX7_in_14 (by decide) rfl ?_
    exact ev_iretE dX7_in_15 rfl (nar_b2i _) (by first | (rw [b2i_t (inb_t (by simp only [i_le, i_lt] at *; omega) (by simp only [i_le, i_lt] at *; omega))]; done) | (rw [b2i_f (inb_f (by simp only [i_le, i_lt] at *; omega))]; done)) rfl rfl hQ
  · refine ev_iload_n (q := 6) dX7_in_5 rfl rfl ?_
    refine ev_iload_n (q := 7) dX7_in_6 rfl rfl ?_
    refine ev_icmp_gt (q := 10) 14 dX7_in_7 (by decide) rfl (fun c_7 => ?_) (fun c_7 => ?_)
    · refine ev_iconst (q := 15) (0) dX7_in_14 (by decide) rfl ?_
      exact ev_iretE dX7_in_15 rfl (nar_b2i _) (by first | (rw [b2i_t (inb_t (by simp only [i_le, i_lt] at *; omega) (by simp only [i_le, i_lt] at *; omega))]; done) | (rw [b2i_f (inb_f (by simp only [i_le, i_lt] at *; omega))]; done)) rfl rfl hQ
    · refine ev_iconst (q := 11) (1) dX7_in_10 (by decide) rfl ?_
      refine ev_goto 15 dX7_in_11 (by decide) ?_
      exact ev_iretE dX7_in_15 rfl (nar_b2i _) (by first | (rw [b2i_t (inb_t (by simp only [i_le, i_lt] at *; omega) (by simp only [i_le, i_lt] at *; omega))]; done) | (rw [b2i_f (inb_f (by simp only [i_le, i_lt] at *; omega))]; done)) rfl rfl hQ
theorem c_X7_isCousin (v : Int32) : Rn xl xs 1 22 0 0 mX7_isCousin [.int v] n h (some (.int (b2i (inb v 0 3)))) n h := by
  intro Q hQ
  show Ev xl xs 1 22 0 0 mX7_isCousin 0 [some (.int v)] [] n h Q
  refine ev_iload_n (q := 1) dX7_isCousin_0 rfl rfl ?_
  refine ev_iconst (q := 2) (0) dX7_isCousin_1 (by decide) rfl ?_
  refine ev_iconst (q := 3) (3) dX7_isCousin_2 (by decide) rfl ?_
  refine ev_callS3i (q := 6) dX7_isCousin_3 ca_X7_99 (c_X7_in _ _ _) (Nat.le_of_ble_eq_true rfl) (Nat.le_of_ble_eq_true rfl) (by decide) (by decide) rfl ?_
  exact ev_iretE dX7_isCousin_6 rfl (nar_b2i _) rfl rfl rfl hQ
theorem c_X7_has {w k : Nat} (hw : w < 2 ^ 31) (hk : k < 31) : Rn xl xs 0 0 0 0 mX7_has [.int (nI w), .int (nI k)] n h (some (.int (b2i (w.testBit k)))) n h := by
  intro Q hQ
  show Ev xl xs 0 0 0 0 mX7_has 0 [some (.int (nI w)), some (.int (nI k))] [] n h Q
  have e := nI_bit hw hk
  refine ev_iload_n (q := 1) dX7_has_0 rfl rfl ?_
  refine ev_iload_n (q := 2) dX7_has_1 rfl rfl ?_
  refine ev_ishr (q := 3) dX7_has_2 rfl ?_
  refine ev_iconst (q := 4) (1) dX7_has_3 (by decide) rfl ?_
  refine ev_iand (q := 5) dX7_has_4 rfl ?_
  refine ev_iconst (q := 6) (1) dX7_has_5 (by decide) rfl ?_
  refine ev_icmp_ne (q := 9) 13 dX7_has_6 (by decide) rfl (fun c_6 => ?_) (fun c_6 => ?_)
  · refine ev_iconst (q := 14) (0) dX7_has_13 (by decide) rfl ?_
    exact ev_iretE dX7_has_14 rfl (nar_b2i _) (by rw [e] at c_6; cases hb : w.testBit k <;> first | rfl | (rw [hb] at c_6; exact absurd c_6 (by decide))) rfl rfl hQ
  · refine ev_iconst (q := 10) (1) dX7_has_9 (by decide) rfl ?_
    refine ev_goto 14 dX7_has_10 (by decide) ?_
    exact ev_iretE dX7_has_14 rfl (nar_b2i _) (by rw [e] at c_6; cases hb : w.testBit k <;> first | rfl | (rw [hb] at c_6; exact absurd c_6 (by decide))) rfl rfl hQ
theorem c_X7_worlds {t : Nat} (hn : 49 ≤ n) (ht : I 33 0 = nI t) (h6 : t ≤ 6) : Rn xl xs 0 0 0 0 mX7_worlds [.ref 33] n (sysH I J X) (some (.int (nI (2 ^ t)))) n (sysH I J X) := by
  intro Q hQ
  show Ev xl xs 0 0 0 0 mX7_worlds 0 [some (.ref 33)] [] n (sysH I J X) Q
  have e : (1 : Int32) <<< (nI t &&& 31) = nI (2 ^ t) := by
    have : ∀ t, t < 7 → (1 : Int32) <<< (nI t &&& 31) = nI (2 ^ t) := by decide +kernel
    exact this t (by omega)
  refine ev_iconst (q := 1) (1) dX7_worlds_0 (by decide) rfl ?_
  refine ev_aload_n (q := 2) dX7_worlds_1 rfl rfl ?_
  refine ev_get (q := 5) dX7_worlds_2 fr_X7_7 rfl (lt_n hn (by decide)) rfl rfl ?_
  refine ev_ishl (q := 6) dX7_worlds_5 rfl ?_
  exact ev_iretE dX7_worlds_6 rfl rfl (by rw [ht, e]) rfl rfl hQ
end MODEL1
