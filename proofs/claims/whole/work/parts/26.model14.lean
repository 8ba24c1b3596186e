theorem dX7_keeping_0 : decode cX7_keeping 0 = .ok (.aload_n 0, 1) := by decide +kernel
theorem dX7_keeping_1 : decode cX7_keeping 1 = .ok (.invokevirtual 140, 3) := by decide +kernel
theorem dX7_keeping_4 : decode cX7_keeping 4 = .ok (.istore_n 2, 1) := by decide +kernel
theorem dX7_keeping_5 : decode cX7_keeping 5 = .ok (.lconst 0, 1) := by decide +kernel
theorem dX7_keeping_6 : decode cX7_keeping 6 = .ok (.lstore_n 3, 1) := by decide +kernel
theorem dX7_keeping_7 : decode cX7_keeping 7 = .ok (.iconst 0, 1) := by decide +kernel
theorem dX7_keeping_8 : decode cX7_keeping 8 = .ok (.istore 5, 2) := by decide +kernel
theorem dX7_keeping_10 : decode cX7_keeping 10 = .ok (.iload 5, 2) := by decide +kernel
theorem dX7_keeping_12 : decode cX7_keeping 12 = .ok (.aload_n 0, 1) := by decide +kernel
theorem dX7_keeping_13 : decode cX7_keeping 13 = .ok (.invokevirtual 95, 3) := by decide +kernel
theorem dX7_keeping_16 : decode cX7_keeping 16 = .ok (.if_icmp .ge 72, 3) := by decide +kernel
theorem dX7_keeping_19 : decode cX7_keeping 19 = .ok (.aload_n 0, 1) := by decide +kernel
theorem dX7_keeping_20 : decode cX7_keeping 20 = .ok (.getfield 80, 3) := by decide +kernel
theorem dX7_keeping_23 : decode cX7_keeping 23 = .ok (.iload 5, 2) := by decide +kernel
theorem dX7_keeping_25 : decode cX7_keeping 25 = .ok (.invokestatic 143, 3) := by decide +kernel
theorem dX7_keeping_28 : decode cX7_keeping 28 = .ok (.ifCond .eq 35, 3) := by decide +kernel
theorem dX7_keeping_31 : decode cX7_keeping 31 = .ok (.iload 5, 2) := by decide +kernel
theorem dX7_keeping_33 : decode cX7_keeping 33 = .ok (.iload_n 1, 1) := by decide +kernel
theorem dX7_keeping_34 : decode cX7_keeping 34 = .ok (.ixor, 1) := by decide +kernel
theorem dX7_keeping_35 : decode cX7_keeping 35 = .ok (.iload_n 2, 1) := by decide +kernel
theorem dX7_keeping_36 : decode cX7_keeping 36 = .ok (.iconst (-1), 1) := by decide +kernel
theorem dX7_keeping_37 : decode cX7_keeping 37 = .ok (.ixor, 1) := by decide +kernel
theorem dX7_keeping_38 : decode cX7_keeping 38 = .ok (.iand, 1) := by decide +kernel
theorem dX7_keeping_39 : decode cX7_keeping 39 = .ok (.invokestatic 147, 3) := by decide +kernel
theorem dX7_keeping_42 : decode cX7_keeping 42 = .ok (.aload_n 0, 1) := by decide +kernel
theorem dX7_keeping_43 : decode cX7_keeping 43 = .ok (.getfield 70, 3) := by decide +kernel
theorem dX7_keeping_46 : decode cX7_keeping 46 = .ok (.if_icmp .gt 17, 3) := by decide +kernel
theorem dX7_keeping_49 : decode cX7_keeping 49 = .ok (.aload_n 0, 1) := by decide +kernel
theorem dX7_keeping_50 : decode cX7_keeping 50 = .ok (.iload 5, 2) := by decide +kernel
theorem dX7_keeping_52 : decode cX7_keeping 52 = .ok (.iload_n 1, 1) := by decide +kernel
theorem dX7_keeping_53 : decode cX7_keeping 53 = .ok (.invokevirtual 151, 3) := by decide +kernel
theorem dX7_keeping_56 : decode cX7_keeping 56 = .ok (.ifCond .eq 7, 3) := by decide +kernel
theorem dX7_keeping_59 : decode cX7_keeping 59 = .ok (.iconst 1, 1) := by decide +kernel
theorem dX7_keeping_60 : decode cX7_keeping 60 = .ok (.goto 4, 3) := by decide +kernel
theorem dX7_keeping_63 : decode cX7_keeping 63 = .ok (.iconst 0, 1) := by decide +kernel
theorem dX7_keeping_64 : decode cX7_keeping 64 = .ok (.istore 6, 2) := by decide +kernel
theorem dX7_keeping_66 : decode cX7_keeping 66 = .ok (.lload_n 3, 1) := by decide +kernel
theorem dX7_keeping_67 : decode cX7_keeping 67 = .ok (.iload 6, 2) := by decide +kernel
theorem dX7_keeping_69 : decode cX7_keeping 69 = .ok (.ifCond .eq 10, 3) := by decide +kernel
theorem dX7_keeping_72 : decode cX7_keeping 72 = .ok (.lconst 1, 1) := by decide +kernel
theorem dX7_keeping_73 : decode cX7_keeping 73 = .ok (.iload 5, 2) := by decide +kernel
theorem dX7_keeping_75 : decode cX7_keeping 75 = .ok (.lshl, 1) := by decide +kernel
theorem dX7_keeping_76 : decode cX7_keeping 76 = .ok (.goto 4, 3) := by decide +kernel
theorem dX7_keeping_79 : decode cX7_keeping 79 = .ok (.lconst 0, 1) := by decide +kernel
theorem dX7_keeping_80 : decode cX7_keeping 80 = .ok (.lor, 1) := by decide +kernel
theorem dX7_keeping_81 : decode cX7_keeping 81 = .ok (.lstore_n 3, 1) := by decide +kernel
theorem dX7_keeping_82 : decode cX7_keeping 82 = .ok (.iinc 5 1, 3) := by decide +kernel
theorem dX7_keeping_85 : decode cX7_keeping 85 = .ok (.goto (-75), 3) := by decide +kernel
theorem dX7_keeping_88 : decode cX7_keeping 88 = .ok (.lload_n 3, 1) := by decide +kernel
theorem dX7_keeping_89 : decode cX7_keeping 89 = .ok (.lreturn, 1) := by decide +kernel
theorem dX7_enact_0 : decode cX7_enact 0 = .ok (.aload_n 0, 1) := by decide +kernel
theorem dX7_enact_1 : decode cX7_enact 1 = .ok (.invokevirtual 130, 3) := by decide +kernel
theorem dX7_enact_4 : decode cX7_enact 4 = .ok (.ifCond .lt 6, 3) := by decide +kernel
theorem dX7_enact_7 : decode cX7_enact 7 = .ok (.bipush (-5), 2) := by decide +kernel
theorem dX7_enact_9 : decode cX7_enact 9 = .ok (.ireturn, 1) := by decide +kernel
theorem dX7_enact_10 : decode cX7_enact 10 = .ok (.aload_n 0, 1) := by decide +kernel
theorem dX7_enact_11 : decode cX7_enact 11 = .ok (.invokevirtual 154, 3) := by decide +kernel
theorem dX7_enact_14 : decode cX7_enact 14 = .ok (.lconst 0, 1) := by decide +kernel
theorem dX7_enact_15 : decode cX7_enact 15 = .ok (.lstore_n 1, 1) := by decide +kernel
theorem dX7_enact_16 : decode cX7_enact 16 = .ok (.iconst 0, 1) := by decide +kernel
theorem dX7_enact_17 : decode cX7_enact 17 = .ok (.istore_n 3, 1) := by decide +kernel
theorem dX7_enact_18 : decode cX7_enact 18 = .ok (.iload_n 3, 1) := by decide +kernel
theorem dX7_enact_19 : decode cX7_enact 19 = .ok (.aload_n 0, 1) := by decide +kernel
theorem dX7_enact_20 : decode cX7_enact 20 = .ok (.invokevirtual 95, 3) := by decide +kernel
theorem dX7_enact_23 : decode cX7_enact 23 = .ok (.if_icmp .ge 31, 3) := by decide +kernel
theorem dX7_enact_26 : decode cX7_enact 26 = .ok (.lload_n 1, 1) := by decide +kernel
theorem dX7_enact_27 : decode cX7_enact 27 = .ok (.aload_n 0, 1) := by decide +kernel
theorem dX7_enact_28 : decode cX7_enact 28 = .ok (.iload_n 3, 1) := by decide +kernel
theorem dX7_enact_29 : decode cX7_enact 29 = .ok (.aload_n 0, 1) := by decide +kernel
theorem dX7_enact_30 : decode cX7_enact 30 = .ok (.getfield 73, 3) := by decide +kernel
theorem dX7_enact_33 : decode cX7_enact 33 = .ok (.invokevirtual 151, 3) := by decide +kernel
theorem dX7_enact_36 : decode cX7_enact 36 = .ok (.ifCond .eq 9, 3) := by decide +kernel
theorem dX7_enact_39 : decode cX7_enact 39 = .ok (.lconst 1, 1) := by decide +kernel
theorem dX7_enact_40 : decode cX7_enact 40 = .ok (.iload_n 3, 1) := by decide +kernel
theorem dX7_enact_41 : decode cX7_enact 41 = .ok (.lshl, 1) := by decide +kernel
theorem dX7_enact_42 : decode cX7_enact 42 = .ok (.goto 4, 3) := by decide +kernel
theorem dX7_enact_45 : decode cX7_enact 45 = .ok (.lconst 0, 1) := by decide +kernel
theorem dX7_enact_46 : decode cX7_enact 46 = .ok (.lor, 1) := by decide +kernel
theorem dX7_enact_47 : decode cX7_enact 47 = .ok (.lstore_n 1, 1) := by decide +kernel
theorem dX7_enact_48 : decode cX7_enact 48 = .ok (.iinc 3 1, 3) := by decide +kernel
theorem dX7_enact_51 : decode cX7_enact 51 = .ok (.goto (-33), 3) := by decide +kernel
theorem dX7_enact_54 : decode cX7_enact 54 = .ok (.aload_n 0, 1) := by decide +kernel
theorem dX7_enact_55 : decode cX7_enact 55 = .ok (.lload_n 1, 1) := by decide +kernel
theorem dX7_enact_56 : decode cX7_enact 56 = .ok (.putfield 80, 3) := by decide +kernel
theorem dX7_enact_59 : decode cX7_enact 59 = .ok (.aload_n 0, 1) := by decide +kernel
theorem dX7_enact_60 : decode cX7_enact 60 = .ok (.getfield 121, 3) := by decide +kernel
theorem dX7_enact_63 : decode cX7_enact 63 = .ok (.istore_n 3, 1) := by decide +kernel
theorem dX7_enact_64 : decode cX7_enact 64 = .ok (.aload_n 0, 1) := by decide +kernel
theorem dX7_enact_65 : decode cX7_enact 65 = .ok (.iconst 0, 1) := by decide +kernel
theorem dX7_enact_66 : decode cX7_enact 66 = .ok (.putfield 121, 3) := by decide +kernel
theorem dX7_enact_69 : decode cX7_enact 69 = .ok (.iload_n 3, 1) := by decide +kernel
theorem dX7_enact_70 : decode cX7_enact 70 = .ok (.ireturn, 1) := by decide +kernel
theorem dX7_kept_0 : decode cX7_kept 0 = .ok (.aload_n 0, 1) := by decide +kernel
theorem dX7_kept_1 : decode cX7_kept 1 = .ok (.invokevirtual 130, 3) := by decide +kernel
theorem dX7_kept_4 : decode cX7_kept 4 = .ok (.ifCond .lt 6, 3) := by decide +kernel
theorem dX7_kept_7 : decode cX7_kept 7 = .ok (.bipush (-5), 2) := by decide +kernel
theorem dX7_kept_9 : decode cX7_kept 9 = .ok (.ireturn, 1) := by decide +kernel
theorem dX7_kept_10 : decode cX7_kept 10 = .ok (.aload_n 0, 1) := by decide +kernel
theorem dX7_kept_11 : decode cX7_kept 11 = .ok (.invokevirtual 154, 3) := by decide +kernel
theorem dX7_kept_14 : decode cX7_kept 14 = .ok (.aload_n 0, 1) := by decide +kernel
theorem dX7_kept_15 : decode cX7_kept 15 = .ok (.aload_n 0, 1) := by decide +kernel
theorem dX7_kept_16 : decode cX7_kept 16 = .ok (.getfield 73, 3) := by decide +kernel
theorem dX7_kept_19 : decode cX7_kept 19 = .ok (.invokevirtual 157, 3) := by decide +kernel
theorem dX7_kept_22 : decode cX7_kept 22 = .ok (.lstore_n 2, 1) := by decide +kernel
theorem dX7_kept_23 : decode cX7_kept 23 = .ok (.iload_n 1, 1) := by decide +kernel
theorem dX7_kept_24 : decode cX7_kept 24 = .ok (.iconst (-1), 1) := by decide +kernel
theorem dX7_kept_25 : decode cX7_kept 25 = .ok (.if_icmp .ne 9, 3) := by decide +kernel
theorem dX7_kept_28 : decode cX7_kept 28 = .ok (.aload_n 0, 1) := by decide +kernel
theorem dX7_kept_29 : decode cX7_kept 29 = .ok (.lload_n 2, 1) := by decide +kernel
theorem dX7_kept_30 : decode cX7_kept 30 = .ok (.invokevirtual 161, 3) := by decide +kernel
theorem dX7_kept_33 : decode cX7_kept 33 = .ok (.ireturn, 1) := by decide +kernel
theorem dX7_kept_34 : decode cX7_kept 34 = .ok (.iconst 0, 1) := by decide +kernel
theorem dX7_kept_35 : decode cX7_kept 35 = .ok (.istore 4, 2) := by decide +kernel
theorem dX7_kept_37 : decode cX7_kept 37 = .ok (.iconst 0, 1) := by decide +kernel
theorem dX7_kept_38 : decode cX7_kept 38 = .ok (.istore 5, 2) := by decide +kernel
theorem dX7_kept_40 : decode cX7_kept 40 = .ok (.iload 5, 2) := by decide +kernel
theorem dX7_kept_42 : decode cX7_kept 42 = .ok (.aload_n 0, 1) := by decide +kernel
theorem dX7_kept_43 : decode cX7_kept 43 = .ok (.invokevirtual 95, 3) := by decide +kernel
theorem dX7_kept_46 : decode cX7_kept 46 = .ok (.if_icmp .ge 30, 3) := by decide +kernel
theorem dX7_kept_49 : decode cX7_kept 49 = .ok (.lload_n 2, 1) := by decide +kernel
theorem dX7_kept_50 : decode cX7_kept 50 = .ok (.iload 5, 2) := by decide +kernel
theorem dX7_kept_52 : decode cX7_kept 52 = .ok (.invokestatic 143, 3) := by decide +kernel
theorem dX7_kept_55 : decode cX7_kept 55 = .ok (.ifCond .eq 15, 3) := by decide +kernel
theorem dX7_kept_58 : decode cX7_kept 58 = .ok (.iload 4, 2) := by decide +kernel
theorem dX7_kept_60 : decode cX7_kept 60 = .ok (.iload_n 1, 1) := by decide +kernel
theorem dX7_kept_61 : decode cX7_kept 61 = .ok (.if_icmp .ne 6, 3) := by decide +kernel
theorem dX7_kept_64 : decode cX7_kept 64 = .ok (.iload 5, 2) := by decide +kernel
theorem dX7_kept_66 : decode cX7_kept 66 = .ok (.ireturn, 1) := by decide +kernel
theorem dX7_kept_67 : decode cX7_kept 67 = .ok (.iinc 4 1, 3) := by decide +kernel
theorem dX7_kept_70 : decode cX7_kept 70 = .ok (.iinc 5 1, 3) := by decide +kernel
theorem dX7_kept_73 : decode cX7_kept 73 = .ok (.goto (-33), 3) := by decide +kernel
theorem dX7_kept_76 : decode cX7_kept 76 = .ok (.bipush (-6), 2) := by decide +kernel
theorem dX7_kept_78 : decode cX7_kept 78 = .ok (.ireturn, 1) := by decide +kernel
theorem dX7_made_0 : decode cX7_made 0 = .ok (.aload_n 0, 1) := by decide +kernel
theorem dX7_made_1 : decode cX7_made 1 = .ok (.invokevirtual 130, 3) := by decide +kernel
theorem dX7_made_4 : decode cX7_made 4 = .ok (.ifCond .lt 6, 3) := by decide +kernel
theorem dX7_made_7 : decode cX7_made 7 = .ok (.bipush (-5), 2) := by decide +kernel
theorem dX7_made_9 : decode cX7_made 9 = .ok (.ireturn, 1) := by decide +kernel
theorem dX7_made_10 : decode cX7_made 10 = .ok (.aload_n 0, 1) := by decide +kernel
theorem dX7_made_11 : decode cX7_made 11 = .ok (.invokevirtual 154, 3) := by decide +kernel
theorem dX7_made_14 : decode cX7_made 14 = .ok (.aload_n 0, 1) := by decide +kernel
theorem dX7_made_15 : decode cX7_made 15 = .ok (.aload_n 0, 1) := by decide +kernel
theorem dX7_made_16 : decode cX7_made 16 = .ok (.aload_n 0, 1) := by decide +kernel
theorem dX7_made_17 : decode cX7_made 17 = .ok (.getfield 73, 3) := by decide +kernel
theorem dX7_made_20 : decode cX7_made 20 = .ok (.invokevirtual 157, 3) := by decide +kernel
theorem dX7_made_23 : decode cX7_made 23 = .ok (.aload_n 0, 1) := by decide +kernel
theorem dX7_made_24 : decode cX7_made 24 = .ok (.getfield 73, 3) := by decide +kernel
theorem dX7_made_27 : decode cX7_made 27 = .ok (.invokevirtual 171, 3) := by decide +kernel
theorem dX7_made_30 : decode cX7_made 30 = .ok (.istore_n 1, 1) := by decide +kernel
theorem dX7_made_31 : decode cX7_made 31 = .ok (.iload_n 1, 1) := by decide +kernel
theorem dX7_made_32 : decode cX7_made 32 = .ok (.ifCond .ge 8, 3) := by decide +kernel
theorem dX7_made_35 : decode cX7_made 35 = .ok (.bipush (-3), 2) := by decide +kernel
theorem dX7_made_37 : decode cX7_made 37 = .ok (.goto 4, 3) := by decide +kernel
theorem dX7_made_40 : decode cX7_made 40 = .ok (.iload_n 1, 1) := by decide +kernel
theorem dX7_made_41 : decode cX7_made 41 = .ok (.ireturn, 1) := by decide +kernel
theorem dX7_makes_0 : decode cX7_makes 0 = .ok (.aload_n 0, 1) := by decide +kernel
theorem dX7_makes_1 : decode cX7_makes 1 = .ok (.invokevirtual 175, 3) := by decide +kernel
theorem dX7_makes_4 : decode cX7_makes 4 = .ok (.ireturn, 1) := by decide +kernel
def ltN (s : Int32) : Nat := (s - 97).toNatClampNeg
theorem isLt_n {t : Nat} {s : Int32} (h6 : t ≤ 6) (ht2 : 2 ≤ t) (h : isLt t s = true) : ∃ j, j < t ∧ s = nI (97 + j) ∧ s - 97 = nI j ∧ ltN s = j := by
  have e : 97 + nI t - 1 = nI (97 + t - 1) := by
    rw [show (97 : Int32) = nI 97 from rfl, nI_add]
    exact pk_sub (b := 1) (by omega)
  unfold isLt at h
  rw [e] at h
  obtain ⟨k, h1, h2, h3⟩ := inb_lo (lo := 97) (hi := 97 + t - 1) (by omega) h (by omega)
  refine ⟨k - 97, by omega, by rw [h3]; congr 1; omega, ?_, ?_⟩
  · rw [h3]; exact pk_sub (b := 97) h1
  · unfold ltN
    rw [h3, show nI k - 97 = nI (k - 97) from pk_sub (b := 97) h1, nI_clamp (by omega)]
def stM (t : Nat) (tx : Nat → Int32) (a w k : Nat) (l : List Bool) : List Bool :=
  if isLt t (tx k) then (if decide (0 < k) && decide (tx (k - 1) = 126) then (w.testBit (ltN (tx k)) == a.testBit (ltN (tx k))) else w.testBit (ltN (tx k))) :: l
  else if tx k = 48 ∨ tx k = 49 then decide (tx k = 49) :: l
  else if tx k = 45 then (match l with
    | b :: r => (!b) :: r
    | [] => [])
  else if tx k = 126 then l
  else (match l with
    | x :: y :: r => prF (tx k) x y :: r
    | l => l)
theorem stM_l0 {t : Nat} {tx : Nat → Int32} {a w j q : Nat} {l : List Bool} (hlt : isLt t (tx j) = true) (hq : ltN (tx j) = q) (h : ¬ 0 < j) : stM t tx a w j l = w.testBit q :: l := by unfold stM; rw [if_pos hlt, hq, if_neg (by simp [h])]
theorem stM_l1 {t : Nat} {tx : Nat → Int32} {a w j q : Nat} {l : List Bool} (hlt : isLt t (tx j) = true) (hq : ltN (tx j) = q) (h : ¬ tx (j - 1) = 126) : stM t tx a w j l = w.testBit q :: l := by unfold stM; rw [if_pos hlt, hq, if_neg (by simp [h])]
theorem stM_l2 {t : Nat} {tx : Nat → Int32} {a w j q : Nat} {l : List Bool} {b : Bool} (hlt : isLt t (tx j) = true) (hq : ltN (tx j) = q) (h : 0 < j) (h2 : tx (j - 1) = 126) (hb : (w.testBit q == a.testBit q) = b) : stM t tx a w j l = b :: l := by unfold stM; rw [if_pos hlt, hq, if_pos (by simp [h, h2]), hb]
def mst (t : Nat) (tx : Nat → Int32) (sz a w : Nat) : Nat → List Bool
  | 0 => []
  | i + 1 => stM t tx a w (sz - 1 - i) (mst t tx sz a w i)
def dpM (t : Nat) (tx : Nat → Int32) (sz : Nat) : Nat → Nat
  | 0 => 0
  | i + 1 => if isLt t (tx (sz - 1 - i)) then dpM t tx sz i + 1 else if tx (sz - 1 - i) = 48 ∨ tx (sz - 1 - i) = 49 then dpM t tx sz i + 1 else if tx (sz - 1 - i) = 45 then dpM t tx sz i else if tx (sz - 1 - i) = 126 then dpM t tx sz i else dpM t tx sz i - 1
def VT (t : Nat) (tx : Nat → Int32) (sz : Nat) : Prop := sz ≤ 40 ∧ (∀ i, i < sz → isLt t (tx (sz - 1 - i)) = false → ¬ (tx (sz - 1 - i) = 48 ∨ tx (sz - 1 - i) = 49) → (tx (sz - 1 - i) = 45 → 1 ≤ dpM t tx sz i) ∧ (¬ tx (sz - 1 - i) = 45 → ¬ tx (sz - 1 - i) = 126 → 2 ≤ dpM t tx sz i)) ∧ dpM t tx sz sz = 1
theorem mst_len {t : Nat} {tx : Nat → Int32} {sz a w : Nat} (hv : VT t tx sz) : ∀ i, i ≤ sz → (mst t tx sz a w i).length = dpM t tx sz i
  | 0, _ => rfl
  | i + 1, hi => by
    have ih := mst_len (a := a) (w := w) hv i (by omega)
    have hvi := hv.2.1 i (by omega)
    show (stM t tx a w (sz - 1 - i) (mst t tx sz a w i)).length = dpM t tx sz (i + 1)
    unfold stM dpM
    by_cases h1 : isLt t (tx (sz - 1 - i)) = true
    · rw [if_pos h1, if_pos h1, List.length_cons, ih]
    · have h1' : isLt t (tx (sz - 1 - i)) = false := by simpa using h1
      rw [if_neg h1, if_neg h1]
      by_cases h2 : tx (sz - 1 - i) = 48 ∨ tx (sz - 1 - i) = 49
      · rw [if_pos h2, if_pos h2, List.length_cons, ih]
      · have hvi := hvi h1' h2
        rw [if_neg h2, if_neg h2]
        by_cases h3 : tx (sz - 1 - i) = 45
        · rw [if_pos h3, if_pos h3]
          have h9 := hvi.1 h3
          cases hl : mst t tx sz a w i with
          | nil => rw [hl] at ih; simp at ih; omega
          | cons b r => rw [hl] at ih; simpa using ih
        · rw [if_neg h3, if_neg h3]
          by_cases h4 : tx (sz - 1 - i) = 126
          · rw [if_pos h4, if_pos h4, ih]
          · rw [if_neg h4, if_neg h4]
            have h9 := hvi.2 h3 h4
            cases hl : mst t tx sz a w i with
            | nil => rw [hl] at ih; simp at ih; omega
            | cons b r =>
              cases r with
              | nil => rw [hl] at ih; simp at ih; omega
              | cons c r => rw [hl] at ih; simp at ih ⊢; omega
theorem dpM_le {t : Nat} {tx : Nat → Int32} {sz : Nat} : ∀ i, dpM t tx sz i ≤ i
  | 0 => Nat.le_refl _
  | i + 1 => by
    have := dpM_le (t := t) (tx := tx) (sz := sz) i
    unfold dpM
    split
    · omega
    · split
      · omega
      · split
        · omega
        · split <;> omega
/-- the model's stack holds a list, top first -/
def Stk (S : Nat → Nat → Int32) (l : List Bool) : Prop := ∀ i, i < l.length → S 43 (l.length - 1 - i) = b2i (l.getD i false)
theorem stk_push {S : Nat → Nat → Int32} {l : List Bool} {b : Bool} (h : Stk S l) : Stk (setI S 43 (upd (S 43) l.length (b2i b))) (b :: l) := by
  intro i hi
  show upd (S 43) l.length (b2i b) (l.length + 1 - 1 - i) = _
  cases i with
  | zero => simp [upd]
  | succ i =>
    have h2 : i < l.length := by simpa using hi
    have : l.length + 1 - 1 - (i + 1) ≠ l.length := by omega
    rw [pk_un this, show l.length + 1 - 1 - (i + 1) = l.length - 1 - i by omega, h i h2]
    rfl
theorem stk_top {S : Nat → Nat → Int32} {b : Bool} {l : List Bool} (h : Stk S (b :: l)) : S 43 l.length = b2i b := by
  have := h 0 (by simp)
  simpa using this
theorem stk_2nd {S : Nat → Nat → Int32} {b c : Bool} {l : List Bool} (h : Stk S (b :: c :: l)) : S 43 l.length = b2i c := by
  have := h 1 (by simp)
  simpa using this
theorem stk_rep {S : Nat → Nat → Int32} {b c : Bool} {l : List Bool} (h : Stk S (b :: l)) : Stk (setI S 43 (upd (S 43) l.length (b2i c))) (c :: l) := by
  intro i hi
  show upd (S 43) l.length (b2i c) (l.length + 1 - 1 - i) = _
  cases i with
  | zero => simp [upd]
  | succ i =>
    have h2 : i < l.length := by simpa using hi
    have : l.length + 1 - 1 - (i + 1) ≠ l.length := by omega
    rw [pk_un this]
    have := h (i + 1) (by simpa using h2)
    simpa using this
theorem stk_pop {S : Nat → Nat → Int32} {b : Bool} {l : List Bool} (h : Stk S (b :: l)) : Stk S l := by
  intro i hi
  have := h (i + 1) (by simpa using hi)
  have e : (b :: l).length - 1 - (i + 1) = l.length - 1 - i := by simp; omega
  rw [e] at this
  simpa using this
theorem nar_z (b : Bool) : vp_nar .boolean (b2i b) = b2i b := by cases b <;> rfl
section MODEL14
variable {xl : Nat} {xs : Nat → Int32} {n : Nat} {h : Nat → PC} {I S : Nat → Nat → Int32} {J T : Nat → Nat → Int64} {X : Nat → Option Nat} {t sl wy wi he : Nat}
theorem s_X7_pairOf (hn : 49 ≤ n) (s : Int32) (a b : Bool) : Rn xl xs 0 0 0 0 mX7_pairOf [.ref 33, .int s, .int (b2i a), .int (b2i b)] n (sysH (ov I S) (ovJ J T) X) (some (.int (b2i (prF s a b)))) n (sysH (ov I S) (ovJ J T) X) := by
  intro Q hQ
  show Ev xl xs 0 0 0 0 mX7_pairOf 0 [some (.ref 33), some (.int s), some (.int (b2i a)), some (.int (b2i b))] [] n (sysH (ov I S) (ovJ J T) X) Q
  by_cases h1 : s = 38
  · subst h1
    refine ev_iload_n (q := 1) dX7_pairOf_0 rfl rfl ?_
    refine ev_look (off := 43) 44 dX7_pairOf_1 (by decide) (by decide) (by decide) ?_
    refine ev_iload_n (q := 45) dX7_pairOf_44 rfl rfl ?_
    refine ev_if_eq (q := 48) 56 dX7_pairOf_45 (by decide) rfl (fun c_45 => ?_) (fun c_45 => ?_)
    · refine ev_iconst (q := 57) (0) dX7_pairOf_56 (by decide) rfl ?_
      exact ev_iretE dX7_pairOf_57 rfl (nar_b2i _) (by cases a <;> cases b <;> first | rfl | (simp_all [prF, b2i]; done)) rfl rfl hQ
    · refine ev_iload_n (q := 49) dX7_pairOf_48 rfl rfl ?_
      refine ev_if_eq (q := 52) 56 dX7_pairOf_49 (by decide) rfl (fun c_49 => ?_) (fun c_49 => ?_)
      · refine ev_iconst (q := 57) (0) dX7_pairOf_56 (by decide) rfl ?_
        exact ev_iretE dX7_pairOf_57 rfl (nar_b2i _) (by cases a <;> cases b <;> first | rfl | (simp_all [prF, b2i]; done)) rfl rfl hQ
      · refine ev_iconst (q := 53) (1) dX7_pairOf_52 (by decide) rfl ?_
        refine ev_goto 57 dX7_pairOf_53 (by decide) ?_
        exact ev_iretE dX7_pairOf_57 rfl (nar_b2i _) (by cases a <;> cases b <;> first | rfl | (simp_all [prF, b2i]; done)) rfl rfl hQ
  · by_cases h2 : s = 124
    · subst h2
      refine ev_iload_n (q := 1) dX7_pairOf_0 rfl rfl ?_
      refine ev_look (off := 57) 58 dX7_pairOf_1 (by decide) (by decide) (by decide) ?_
      refine ev_iload_n (q := 59) dX7_pairOf_58 rfl rfl ?_
      refine ev_if_ne (q := 62) 66 dX7_pairOf_59 (by decide) rfl (fun c_59 => ?_) (fun c_59 => ?_)
      · refine ev_iconst (q := 67) (1) dX7_pairOf_66 (by decide) rfl ?_
        refine ev_goto 71 dX7_pairOf_67 (by decide) ?_
        exact ev_iretE dX7_pairOf_71 rfl (nar_b2i _) (by cases a <;> cases b <;> first | rfl | (simp_all [prF, b2i]; done)) rfl rfl hQ
      · refine ev_iload_n (q := 63) dX7_pairOf_62 rfl rfl ?_
        refine ev_if_eq (q := 66) 70 dX7_pairOf_63 (by decide) rfl (fun c_63 => ?_) (fun c_63 => ?_)
        · refine ev_iconst (q := 71) (0) dX7_pairOf_70 (by decide) rfl ?_
          exact ev_iretE dX7_pairOf_71 rfl (nar_b2i _) (by cases a <;> cases b <;> first | rfl | (simp_all [prF, b2i]; done)) rfl rfl hQ
        · refine ev_iconst (q := 67) (1) dX7_pairOf_66 (by decide) rfl ?_
          refine ev_goto 71 dX7_pairOf_67 (by decide) ?_
          exact ev_iretE dX7_pairOf_71 rfl (nar_b2i _) (by cases a <;> cases b <;> first | rfl | (simp_all [prF, b2i]; done)) rfl rfl hQ
    · by_cases h3 : s = 62
      · subst h3
        refine ev_iload_n (q := 1) dX7_pairOf_0 rfl rfl ?_
        refine ev_look (off := 71) 72 dX7_pairOf_1 (by decide) (by decide) (by decide) ?_
        refine ev_iload_n (q := 73) dX7_pairOf_72 rfl rfl ?_
        refine ev_if_eq (q := 76) 80 dX7_pairOf_73 (by decide) rfl (fun c_73 => ?_) (fun c_73 => ?_)
        · refine ev_iconst (q := 81) (1) dX7_pairOf_80 (by decide) rfl ?_
          refine ev_goto 85 dX7_pairOf_81 (by decide) ?_
          exact ev_iretE dX7_pairOf_85 rfl (nar_b2i _) (by cases a <;> cases b <;> first | rfl | (simp_all [prF, b2i]; done)) rfl rfl hQ
        · refine ev_iload_n (q := 77) dX7_pairOf_76 rfl rfl ?_
          refine ev_if_eq (q := 80) 84 dX7_pairOf_77 (by decide) rfl (fun c_77 => ?_) (fun c_77 => ?_)
          · refine ev_iconst (q := 85) (0) dX7_pairOf_84 (by decide) rfl ?_
            exact ev_iretE dX7_pairOf_85 rfl (nar_b2i _) (by cases a <;> cases b <;> first | rfl | (simp_all [prF, b2i]; done)) rfl rfl hQ
          · refine ev_iconst (q := 81) (1) dX7_pairOf_80 (by decide) rfl ?_
            refine ev_goto 85 dX7_pairOf_81 (by decide) ?_
            exact ev_iretE dX7_pairOf_85 rfl (nar_b2i _) (by cases a <;> cases b <;> first | rfl | (simp_all [prF, b2i]; done)) rfl rfl hQ
      · by_cases h4 : s = 61
        · subst h4
          refine ev_iload_n (q := 1) dX7_pairOf_0 rfl rfl ?_
          refine ev_look (off := 85) 86 dX7_pairOf_1 (by decide) (by decide) (by decide) ?_
          refine ev_iload_n (q := 87) dX7_pairOf_86 rfl rfl ?_
          refine ev_iload_n (q := 88) dX7_pairOf_87 rfl rfl ?_
          refine ev_icmp_ne (q := 91) 95 dX7_pairOf_88 (by decide) rfl (fun c_88 => ?_) (fun c_88 => ?_)
          · refine ev_iconst (q := 96) (0) dX7_pairOf_95 (by decide) rfl ?_
            exact ev_iretE dX7_pairOf_96 rfl (nar_b2i _) (by cases a <;> cases b <;> first | rfl | (simp_all [prF, b2i]; done)) rfl rfl hQ
          · refine ev_iconst (q := 92) (1) dX7_pairOf_91 (by decide) rfl ?_
            refine ev_goto 96 dX7_pairOf_92 (by decide) ?_
            exact ev_iretE dX7_pairOf_96 rfl (nar_b2i _) (by cases a <;> cases b <;> first | rfl | (simp_all [prF, b2i]; done)) rfl rfl hQ
        · have ho : Op.lookupswitch.offset [(38, 43), (61, 85), (62, 71), (124, 57)] 96 s.toInt = 96 := by
            rw [lv_osw h1 (by decide), lv_osw h4 (by decide), lv_osw h3 (by decide), lv_osw h2 (by decide)]
            rfl
          refine ev_iload_n (q := 1) dX7_pairOf_0 rfl rfl ?_
          refine ev_look (off := 96) 97 dX7_pairOf_1 (by decide) ho (by decide) ?_
          refine ev_iload_n (q := 98) dX7_pairOf_97 rfl rfl ?_
          refine ev_iload_n (q := 99) dX7_pairOf_98 rfl rfl ?_
          refine ev_icmp_eq (q := 102) 106 dX7_pairOf_99 (by decide) rfl (fun c_99 => ?_) (fun c_99 => ?_)
          · refine ev_iconst (q := 107) (0) dX7_pairOf_106 (by decide) rfl ?_
            exact ev_iretE dX7_pairOf_107 rfl (nar_b2i _) (by cases a <;> cases b <;> first | rfl | (simp_all [prF, b2i]; done)) rfl rfl hQ
          · refine ev_iconst (q := 103) (1) dX7_pairOf_102 (by decide) rfl ?_
            refine ev_goto 107 dX7_pairOf_103 (by decide) ?_
            exact ev_iretE dX7_pairOf_107 rfl (nar_b2i _) (by cases a <;> cases b <;> first | rfl | (simp_all [prF, b2i]; done)) rfl rfl hQ
theorem s_X7_isSo {sz a w : Nat} (hn : 49 ≤ n) (hm : MI I t sl wy wi he) (hsz : S 33 18 = nI sz) (hv : VT t (S 42) sz) (ha : a < 64) (hw : w < 64) : RnP xl xs 2 43 mX7_isSo [.ref 33, .int (nI w), .int (nI a)] n I S J T X (some (.int (b2i ((mst t (S 42) sz a w sz).headD false)))) (fun S' T' => T' = T ∧ S' 42 = S 42 ∧ S' 33 = S 33) := by
  intro Q hQ
  have hm' := hm
  obtain ⟨ht, ht2, h6, hs, hs6, hwy, h3, hwi, h4, hhe, hhl⟩ := hm'
  have h40 := hv.1
  generalize htx : S 42 = tx at hQ hv
  show Ev xl xs 2 43 0 0 mX7_isSo 0 [some (.ref 33), some (.int (nI w)), some (.int (nI a)), none, none, none, none] [] n (sysH (ov I S) (ovJ J T) X) Q
  have lp : ∀ j i, i + j = sz → ∀ S' a5 a6, S' 42 = tx → S' 33 = S 33 → Stk S' (mst t tx sz a w i) → Ev xl xs 2 43 0 0 mX7_isSo 10 [some (.ref 33), some (.int (nI w)), some (.int (nI a)), some (.int (nI (mst t tx sz a w i).length)), some (.int (nI j - 1)), a5, a6] [] n (sysH (ov I S') (ovJ J T) X) Q := by
    intro j
    induction j with
    | zero =>
      intro i hi S' a5 a6 e42 e33 hst
      have hi2 : i = sz := by omega
      subst hi2
      have hl := mst_len (a := a) (w := w) hv i (Nat.le_refl _)
      rw [hv.2.2] at hl
      obtain ⟨b, hb⟩ : ∃ b, mst t tx i a w i = [b] := List.length_eq_one_iff.mp hl
      rw [hb] at hst hQ
      have htop := stk_top hst
      refine ev_iload (q := 12) dX7_isSo_10 rfl rfl ?_
      refine ev_if_lt (q := 15) 217 dX7_isSo_12 (by decide) rfl (fun c_12 => ?_) (fun c_12 => ?_)
      · refine ev_aload_n (q := 218) dX7_isSo_217 rfl rfl ?_
        refine ev_get (q := 221) dX7_isSo_218 fr_X7_42 rfl (lt_n hn (by decide)) rfl rfl ?_
        refine ev_iconst (q := 222) (0) dX7_isSo_221 (by decide) rfl ?_
        refine ev_zaS (q := 223) 0 dX7_isSo_222 rfl rfl (by omega) (lt_n hn (by decide)) rfl ?_
        exact ev_iretE dX7_isSo_223 rfl (nar_b2i _) htop rfl rfl (hQ _ _ ⟨rfl, e42, e33⟩)
      · exact absurd (show nI 0 - 1 < 0 by decide) c_12
    | succ j ih =>
      intro i hi S' a5 a6 e42 e33 hst
      have hlen := mst_len (a := a) (w := w) hv i (by omega)
      have hdp := dpM_le (t := t) (tx := tx) (sz := sz) i
      have hvi := hv.2.1 i (by omega)
      have hpos : sz - 1 - i = j := by omega
      rw [hpos] at hvi
      have hms : mst t tx sz a w (i + 1) = stM t tx a w j (mst t tx sz a w i) := by show stM t tx a w (sz - 1 - i) _ = _; rw [hpos]
      have ih := ih (i + 1) (by omega)
      rw [hms] at ih
      rw [show nI (j + 1) - 1 = nI j from nI_pred j]
      generalize mst t tx sz a w i = l at hst hlen ih ⊢
      have etx : ∀ k, ov I S' 42 k = tx k := fun k => congrFun e42 k
      cases hlt : isLt t (tx j) with
      | true =>
        obtain ⟨q, hq1, hq2, hq3, hq4⟩ := isLt_n h6 ht2 hlt
        have J92 : ∀ b, stM t tx a w j l = b :: l → ∀ a6, Ev xl xs 2 43 0 0 mX7_isSo 92 [some (.ref 33), some (.int (nI w)), some (.int (nI a)), some (.int (nI l.length)), some (.int (nI j)), some (.int (tx j)), a6] [.int (b2i b), .int (nI l.length), .ref 43] n (sysH (ov I S') (ovJ J T) X) Q := by
          intro b hb a6
          rw [hb] at ih
          first | refine ev_zsK (q := 93) l.length dX7_isSo_92 rfl rfl (by omega) (lt_n hn (by decide)) (nar_z _) rfl rfl ?_ | refine ev_zsR (q := 93) l.length dX7_isSo_92 rfl rfl (by omega) (lt_n hn (by decide)) (nar_z _) rfl rfl ?_
          refine ev_inc_3 (q := 96) (nI (l.length + 1)) dX7_isSo_93 (nI_1 _) rfl rfl ?_
          refine ev_goto 211 dX7_isSo_96 (by decide) ?_
          refine ev_inc_4 (q := 214) (nI j - 1) dX7_isSo_211 (inc_m1 _) rfl rfl ?_
          refine ev_goto 10 dX7_isSo_214 (by decide) ?_
          exact ih _ _ _ (by exact e42) (by exact e33) (stk_push hst)
        refine ev_iload (q := 12) dX7_isSo_10 rfl rfl ?_
        refine ev_if_lt (q := 15) 217 dX7_isSo_12 (by decide) rfl (fun c_12 => ?_) (fun c_12 => ?_)
        · exact absurd c_12 (nI_pos (by omega))
        · refine ev_aload_n (q := 16) dX7_isSo_15 rfl rfl ?_
          refine ev_get (q := 19) dX7_isSo_16 fr_X7_39 rfl (lt_n hn (by decide)) rfl rfl ?_
          refine ev_iload (q := 21) dX7_isSo_19 rfl rfl ?_
          refine ev_iaS (q := 22) _ dX7_isSo_21 rfl rfl (by omega) (lt_n hn (by decide)) rfl ?_
          rw [etx j]
          refine ev_ist_5 (q := 24) dX7_isSo_22 rfl rfl ?_
          refine ev_aload_n (q := 25) dX7_isSo_24 rfl rfl ?_
          refine ev_iload (q := 27) dX7_isSo_25 rfl rfl ?_
          refine ev_callV1i (q := 30) dX7_isSo_27 ca_X7_124 (s_X7_isLetter hn hm _) rfl (lt_n hn (by decide)) rfl rfl (Nat.le_of_ble_eq_true rfl) (Nat.le_of_ble_eq_true rfl) (by decide) (by decide) rfl ?_
          refine ev_if_eq (q := 33) 99 dX7_isSo_30 (by decide) rfl (fun c_30 => ?_) (fun c_30 => ?_)
          · exact absurd (b2i_0.mp c_30) (by rw [hlt]; decide)
          · refine ev_iload_n (q := 34) dX7_isSo_33 rfl rfl ?_
            refine ev_iload (q := 36) dX7_isSo_34 rfl rfl ?_
            refine ev_bipush (q := 38) (97) dX7_isSo_36 (by decide) rfl ?_
            refine ev_isub (q := 39) dX7_isSo_38 rfl ?_
            rw [hq3]
            refine ev_callS2i (q := 42) dX7_isSo_39 ca_X7_113 (c_X7_has (by omega) (by omega)) (Nat.le_of_ble_eq_true rfl) (Nat.le_of_ble_eq_true rfl) (by decide) (by decide) rfl ?_
            refine ev_ist_6 (q := 44) dX7_isSo_42 rfl rfl ?_
            refine ev_aload_n (q := 45) dX7_isSo_44 rfl rfl ?_
            refine ev_get (q := 48) dX7_isSo_45 fr_X7_42 rfl (lt_n hn (by decide)) rfl rfl ?_
            refine ev_iload_n (q := 49) dX7_isSo_48 rfl rfl ?_
            refine ev_iload (q := 51) dX7_isSo_49 rfl rfl ?_
            refine ev_if_le (q := 54) 90 dX7_isSo_51 (by decide) rfl (fun c_51 => ?_) (fun c_51 => ?_)
            · have c_51 : ¬ 0 < j := Nat.not_lt.mpr ((nI_leI (b := 0) (by omega) (by omega)).mp c_51)
              refine ev_iload (q := 92) dX7_isSo_90 rfl rfl ?_
              first | exact J92 _ (stM_l2 hlt hq4 c_51 c_65 c_79) _ | exact J92 _ (stM_l1 hlt hq4 c_65) _ | exact J92 _ (stM_l0 hlt hq4 c_51) _
            · have c_51 : 0 < j := Nat.not_le.mp fun h => c_51 ((nI_leI (b := 0) (by omega) (by omega)).mpr h)
              refine ev_aload_n (q := 55) dX7_isSo_54 rfl rfl ?_
              refine ev_get (q := 58) dX7_isSo_55 fr_X7_39 rfl (lt_n hn (by decide)) rfl rfl ?_
              refine ev_iload (q := 60) dX7_isSo_58 rfl rfl ?_
              refine ev_iconst (q := 61) (1) dX7_isSo_60 (by decide) rfl ?_
              refine ev_isub (q := 62) dX7_isSo_61 rfl ?_
              refine ev_iaS (q := 63) (j - 1) dX7_isSo_62 (pk_sub (b := 1) (by omega)) rfl (by omega) (lt_n hn (by decide)) rfl ?_
              rw [etx (j - 1)]
              refine ev_bipush (q := 65) (126) dX7_isSo_63 (by decide) rfl ?_
              refine ev_icmp_ne (q := 68) 90 dX7_isSo_65 (by decide) rfl (fun c_65 => ?_) (fun c_65 => ?_)
              · have c_65 : ¬ tx (j - 1) = 126 := c_65
                refine ev_iload (q := 92) dX7_isSo_90 rfl rfl ?_
                first | exact J92 _ (stM_l2 hlt hq4 c_51 c_65 c_79) _ | exact J92 _ (stM_l1 hlt hq4 c_65) _ | exact J92 _ (stM_l0 hlt hq4 c_51) _
              · have c_65 : tx (j - 1) = 126 := c_65
                refine ev_iload (q := 70) dX7_isSo_68 rfl rfl ?_
                refine ev_iload_n (q := 71) dX7_isSo_70 rfl rfl ?_
                refine ev_iload (q := 73) dX7_isSo_71 rfl rfl ?_
                refine ev_bipush (q := 75) (97) dX7_isSo_73 (by decide) rfl ?_
                refine ev_isub (q := 76) dX7_isSo_75 rfl ?_
                rw [hq3]
                refine ev_callS2i (q := 79) dX7_isSo_76 ca_X7_113 (c_X7_has (by omega) (by omega)) (Nat.le_of_ble_eq_true rfl) (Nat.le_of_ble_eq_true rfl) (by decide) (by decide) rfl ?_
                refine ev_icmp_ne (q := 82) 86 dX7_isSo_79 (by decide) rfl (fun c_79 => ?_) (fun c_79 => ?_)
                · have c_79 : (w.testBit q == a.testBit q) = false := by cases hb1 : w.testBit q <;> cases hb2 : a.testBit q <;> first | rfl | (rw [hb1, hb2] at c_79; exact absurd rfl c_79)
                  refine ev_iconst (q := 87) (0) dX7_isSo_86 (by decide) rfl ?_
                  refine ev_goto 92 dX7_isSo_87 (by decide) ?_
                  first | exact J92 _ (stM_l2 hlt hq4 c_51 c_65 c_79) _ | exact J92 _ (stM_l1 hlt hq4 c_65) _ | exact J92 _ (stM_l0 hlt hq4 c_51) _
                · have c_79 : (w.testBit q == a.testBit q) = true := by cases hb1 : w.testBit q <;> cases hb2 : a.testBit q <;> first | rfl | (rw [hb1, hb2] at c_79; exact absurd c_79 (by decide))
                  refine ev_iconst (q := 83) (1) dX7_isSo_82 (by decide) rfl ?_
                  refine ev_goto 92 dX7_isSo_83 (by decide) ?_
                  first | exact J92 _ (stM_l2 hlt hq4 c_51 c_65 c_79) _ | exact J92 _ (stM_l1 hlt hq4 c_65) _ | exact J92 _ (stM_l0 hlt hq4 c_51) _
      | false =>
        by_cases hd : tx j = 48 ∨ tx j = 49
        · have hb : stM t tx a w j l = decide (tx j = 49) :: l := by unfold stM; rw [if_neg (by rw [hlt]; decide), if_pos hd]
          rw [hb] at ih
          have J130 : ∀ x, x = b2i (decide (tx j = 49)) → Ev xl xs 2 43 0 0 mX7_isSo 130 [some (.ref 33), some (.int (nI w)), some (.int (nI a)), some (.int (nI l.length)), some (.int (nI j)), some (.int (tx j)), a6] [.int x, .int (nI l.length), .ref 43] n (sysH (ov I S') (ovJ J T) X) Q := by
            intro x hx
            subst hx
            first | refine ev_zsK (q := 131) l.length dX7_isSo_130 rfl rfl (by omega) (lt_n hn (by decide)) (nar_z _) rfl rfl ?_ | refine ev_zsR (q := 131) l.length dX7_isSo_130 rfl rfl (by omega) (lt_n hn (by decide)) (nar_z _) rfl rfl ?_
            refine ev_inc_3 (q := 134) (nI (l.length + 1)) dX7_isSo_131 (nI_1 _) rfl rfl ?_
            refine ev_goto 211 dX7_isSo_134 (by decide) ?_
            refine ev_inc_4 (q := 214) (nI j - 1) dX7_isSo_211 (inc_m1 _) rfl rfl ?_
            refine ev_goto 10 dX7_isSo_214 (by decide) ?_
            exact ih _ _ _ (by exact e42) (by exact e33) (stk_push hst)
          refine ev_iload (q := 12) dX7_isSo_10 rfl rfl ?_
          refine ev_if_lt (q := 15) 217 dX7_isSo_12 (by decide) rfl (fun c_12 => ?_) (fun c_12 => ?_)
          · exact absurd c_12 (nI_pos (by omega))
          · refine ev_aload_n (q := 16) dX7_isSo_15 rfl rfl ?_
            refine ev_get (q := 19) dX7_isSo_16 fr_X7_39 rfl (lt_n hn (by decide)) rfl rfl ?_
            refine ev_iload (q := 21) dX7_isSo_19 rfl rfl ?_
            refine ev_iaS (q := 22) _ dX7_isSo_21 rfl rfl (by omega) (lt_n hn (by decide)) rfl ?_
            rw [etx j]
            refine ev_ist_5 (q := 24) dX7_isSo_22 rfl rfl ?_
            refine ev_aload_n (q := 25) dX7_isSo_24 rfl rfl ?_
            refine ev_iload (q := 27) dX7_isSo_25 rfl rfl ?_
            refine ev_callV1i (q := 30) dX7_isSo_27 ca_X7_124 (s_X7_isLetter hn hm _) rfl (lt_n hn (by decide)) rfl rfl (Nat.le_of_ble_eq_true rfl) (Nat.le_of_ble_eq_true rfl) (by decide) (by decide) rfl ?_
            refine ev_if_eq (q := 33) 99 dX7_isSo_30 (by decide) rfl (fun c_30 => ?_) (fun c_30 => ?_)
            · refine ev_iload (q := 101) dX7_isSo_99 rfl rfl ?_
              refine ev_bipush (q := 103) (48) dX7_isSo_101 (by decide) rfl ?_
              refine ev_icmp_eq (q := 106) 113 dX7_isSo_103 (by decide) rfl (fun c_103 => ?_) (fun c_103 => ?_)
              · have c_103 : tx j = 48 := c_103
                refine ev_aload_n (q := 114) dX7_isSo_113 rfl rfl ?_
                refine ev_get (q := 117) dX7_isSo_114 fr_X7_42 rfl (lt_n hn (by decide)) rfl rfl ?_
                refine ev_iload_n (q := 118) dX7_isSo_117 rfl rfl ?_
                refine ev_iload (q := 120) dX7_isSo_118 rfl rfl ?_
                refine ev_bipush (q := 122) (49) dX7_isSo_120 (by decide) rfl ?_
                refine ev_icmp_ne (q := 125) 129 dX7_isSo_122 (by decide) rfl (fun c_122 => ?_) (fun c_122 => ?_)
                · have c_122 : ¬ tx j = 49 := c_122
                  refine ev_iconst (q := 130) (0) dX7_isSo_129 (by decide) rfl ?_
                  exact J130 _ (by simp [c_122, b2i])
                · have c_122 : tx j = 49 := c_122
                  refine ev_iconst (q := 126) (1) dX7_isSo_125 (by decide) rfl ?_
                  refine ev_goto 130 dX7_isSo_126 (by decide) ?_
                  exact J130 _ (by simp [c_122, b2i])
              · have c_103 : ¬ tx j = 48 := c_103
                refine ev_iload (q := 108) dX7_isSo_106 rfl rfl ?_
                refine ev_bipush (q := 110) (49) dX7_isSo_108 (by decide) rfl ?_
                refine ev_icmp_ne (q := 113) 137 dX7_isSo_110 (by decide) rfl (fun c_110 => ?_) (fun c_110 => ?_)
                · exact absurd hd (fun h => h.elim c_103 c_110)
                · refine ev_aload_n (q := 114) dX7_isSo_113 rfl rfl ?_
                  refine ev_get (q := 117) dX7_isSo_114 fr_X7_42 rfl (lt_n hn (by decide)) rfl rfl ?_
                  refine ev_iload_n (q := 118) dX7_isSo_117 rfl rfl ?_
                  refine ev_iload (q := 120) dX7_isSo_118 rfl rfl ?_
                  refine ev_bipush (q := 122) (49) dX7_isSo_120 (by decide) rfl ?_
                  refine ev_icmp_ne (q := 125) 129 dX7_isSo_122 (by decide) rfl (fun c_122 => ?_) (fun c_122 => ?_)
                  · have c_122 : ¬ tx j = 49 := c_122
                    refine ev_iconst (q := 130) (0) dX7_isSo_129 (by decide) rfl ?_
                    exact J130 _ (by simp [c_122, b2i])
                  · have c_122 : tx j = 49 := c_122
                    refine ev_iconst (q := 126) (1) dX7_isSo_125 (by decide) rfl ?_
                    refine ev_goto 130 dX7_isSo_126 (by decide) ?_
                    exact J130 _ (by simp [c_122, b2i])
            · exact absurd (b2i_n0.mp c_30) (by rw [hlt]; decide)
        · have hvi := hvi hlt hd
          by_cases hneg : tx j = 45
          · have h9 := hvi.1 hneg
            obtain ⟨b, r, rfl⟩ : ∃ b r, l = b :: r := by cases l with | nil => simp at hlen; omega | cons b r => exact ⟨b, r, rfl⟩
            have hb : stM t tx a w j (b :: r) = (!b) :: r := by unfold stM; rw [if_neg (by rw [hlt]; decide), if_neg hd, if_pos hneg]
            rw [hb] at ih
            have htop := stk_top hst
            simp only [List.length_cons] at hlen ⊢ ih
            have J167 : ∀ x, x = b2i (!b) → Ev xl xs 2 43 0 0 mX7_isSo 167 [some (.ref 33), some (.int (nI w)), some (.int (nI a)), some (.int (nI (r.length + 1))), some (.int (nI j)), some (.int (tx j)), a6] [.int x, .int (nI (r.length + 1) - 1), .ref 43] n (sysH (ov I S') (ovJ J T) X) Q := by
              intro x hx
              subst hx
              first | refine ev_zsK (q := 168) r.length dX7_isSo_167 (nI_pred _) rfl (by omega) (lt_n hn (by decide)) (nar_z _) rfl rfl ?_ | refine ev_zsR (q := 168) r.length dX7_isSo_167 (nI_pred _) rfl (by omega) (lt_n hn (by decide)) (nar_z _) rfl rfl ?_
              refine ev_goto 211 dX7_isSo_168 (by decide) ?_
              refine ev_inc_4 (q := 214) (nI j - 1) dX7_isSo_211 (inc_m1 _) rfl rfl ?_
              refine ev_goto 10 dX7_isSo_214 (by decide) ?_
              exact ih _ _ _ (by exact e42) (by exact e33) (stk_rep hst)
            refine ev_iload (q := 12) dX7_isSo_10 rfl rfl ?_
            refine ev_if_lt (q := 15) 217 dX7_isSo_12 (by decide) rfl (fun c_12 => ?_) (fun c_12 => ?_)
            · exact absurd c_12 (nI_pos (by omega))
            · refine ev_aload_n (q := 16) dX7_isSo_15 rfl rfl ?_
              refine ev_get (q := 19) dX7_isSo_16 fr_X7_39 rfl (lt_n hn (by decide)) rfl rfl ?_
              refine ev_iload (q := 21) dX7_isSo_19 rfl rfl ?_
              refine ev_iaS (q := 22) _ dX7_isSo_21 rfl rfl (by omega) (lt_n hn (by decide)) rfl ?_
              rw [etx j]
              refine ev_ist_5 (q := 24) dX7_isSo_22 rfl rfl ?_
              refine ev_aload_n (q := 25) dX7_isSo_24 rfl rfl ?_
              refine ev_iload (q := 27) dX7_isSo_25 rfl rfl ?_
              refine ev_callV1i (q := 30) dX7_isSo_27 ca_X7_124 (s_X7_isLetter hn hm _) rfl (lt_n hn (by decide)) rfl rfl (Nat.le_of_ble_eq_true rfl) (Nat.le_of_ble_eq_true rfl) (by decide) (by decide) rfl ?_
              refine ev_if_eq (q := 33) 99 dX7_isSo_30 (by decide) rfl (fun c_30 => ?_) (fun c_30 => ?_)
              · refine ev_iload (q := 101) dX7_isSo_99 rfl rfl ?_
                refine ev_bipush (q := 103) (48) dX7_isSo_101 (by decide) rfl ?_
                refine ev_icmp_eq (q := 106) 113 dX7_isSo_103 (by decide) rfl (fun c_103 => ?_) (fun c_103 => ?_)
                · exact absurd (Or.inl c_103) hd
                · refine ev_iload (q := 108) dX7_isSo_106 rfl rfl ?_
                  refine ev_bipush (q := 110) (49) dX7_isSo_108 (by decide) rfl ?_
                  refine ev_icmp_ne (q := 113) 137 dX7_isSo_110 (by decide) rfl (fun c_110 => ?_) (fun c_110 => ?_)
                  · refine ev_iload (q := 139) dX7_isSo_137 rfl rfl ?_
                    refine ev_bipush (q := 141) (45) dX7_isSo_139 (by decide) rfl ?_
                    refine ev_icmp_ne (q := 144) 171 dX7_isSo_141 (by decide) rfl (fun c_141 => ?_) (fun c_141 => ?_)
                    · exact absurd hneg c_141
                    · refine ev_aload_n (q := 145) dX7_isSo_144 rfl rfl ?_
                      refine ev_get (q := 148) dX7_isSo_145 fr_X7_42 rfl (lt_n hn (by decide)) rfl rfl ?_
                      refine ev_iload_n (q := 149) dX7_isSo_148 rfl rfl ?_
                      refine ev_iconst (q := 150) (1) dX7_isSo_149 (by decide) rfl ?_
                      refine ev_isub (q := 151) dX7_isSo_150 rfl ?_
                      refine ev_aload_n (q := 152) dX7_isSo_151 rfl rfl ?_
                      refine ev_get (q := 155) dX7_isSo_152 fr_X7_42 rfl (lt_n hn (by decide)) rfl rfl ?_
                      refine ev_iload_n (q := 156) dX7_isSo_155 rfl rfl ?_
                      refine ev_iconst (q := 157) (1) dX7_isSo_156 (by decide) rfl ?_
                      refine ev_isub (q := 158) dX7_isSo_157 rfl ?_
                      refine ev_zaS (q := 159) r.length dX7_isSo_158 (nI_pred _) rfl (by omega) (lt_n hn (by decide)) rfl ?_
                      rw [show ov I S' 43 r.length = b2i b from htop]
                      refine ev_if_ne (q := 162) 166 dX7_isSo_159 (by decide) rfl (fun c_159 => ?_) (fun c_159 => ?_)
                      · have c_159 := b2i_ne.mp c_159
                        refine ev_iconst (q := 167) (0) dX7_isSo_166 (by decide) rfl ?_
                        exact J167 _ (by rw [c_159]; rfl)
                      · have c_159 := b2i_0.mp c_159
                        refine ev_iconst (q := 163) (1) dX7_isSo_162 (by decide) rfl ?_
                        refine ev_goto 167 dX7_isSo_163 (by decide) ?_
                        exact J167 _ (by rw [c_159]; rfl)
                  · exact absurd (Or.inr c_110) hd
              · exact absurd (b2i_n0.mp c_30) (by rw [hlt]; decide)
          · by_cases htl : tx j = 126
            · have hb : stM t tx a w j l = l := by unfold stM; rw [if_neg (by rw [hlt]; decide), if_neg hd, if_neg hneg, if_pos htl]
              rw [hb] at ih
              refine ev_iload (q := 12) dX7_isSo_10 rfl rfl ?_
              refine ev_if_lt (q := 15) 217 dX7_isSo_12 (by decide) rfl (fun c_12 => ?_) (fun c_12 => ?_)
              · exact absurd c_12 (nI_pos (by omega))
              · refine ev_aload_n (q := 16) dX7_isSo_15 rfl rfl ?_
                refine ev_get (q := 19) dX7_isSo_16 fr_X7_39 rfl (lt_n hn (by decide)) rfl rfl ?_
                refine ev_iload (q := 21) dX7_isSo_19 rfl rfl ?_
                refine ev_iaS (q := 22) _ dX7_isSo_21 rfl rfl (by omega) (lt_n hn (by decide)) rfl ?_
                rw [etx j]
                refine ev_ist_5 (q := 24) dX7_isSo_22 rfl rfl ?_
                refine ev_aload_n (q := 25) dX7_isSo_24 rfl rfl ?_
                refine ev_iload (q := 27) dX7_isSo_25 rfl rfl ?_
                refine ev_callV1i (q := 30) dX7_isSo_27 ca_X7_124 (s_X7_isLetter hn hm _) rfl (lt_n hn (by decide)) rfl rfl (Nat.le_of_ble_eq_true rfl) (Nat.le_of_ble_eq_true rfl) (by decide) (by decide) rfl ?_
                refine ev_if_eq (q := 33) 99 dX7_isSo_30 (by decide) rfl (fun c_30 => ?_) (fun c_30 => ?_)
                · refine ev_iload (q := 101) dX7_isSo_99 rfl rfl ?_
                  refine ev_bipush (q := 103) (48) dX7_isSo_101 (by decide) rfl ?_
                  refine ev_icmp_eq (q := 106) 113 dX7_isSo_103 (by decide) rfl (fun c_103 => ?_) (fun c_103 => ?_)
                  · exact absurd (Or.inl c_103) hd
                  · refine ev_iload (q := 108) dX7_isSo_106 rfl rfl ?_
                    refine ev_bipush (q := 110) (49) dX7_isSo_108 (by decide) rfl ?_
                    refine ev_icmp_ne (q := 113) 137 dX7_isSo_110 (by decide) rfl (fun c_110 => ?_) (fun c_110 => ?_)
                    · refine ev_iload (q := 139) dX7_isSo_137 rfl rfl ?_
                      refine ev_bipush (q := 141) (45) dX7_isSo_139 (by decide) rfl ?_
                      refine ev_icmp_ne (q := 144) 171 dX7_isSo_141 (by decide) rfl (fun c_141 => ?_) (fun c_141 => ?_)
                      · refine ev_iload (q := 173) dX7_isSo_171 rfl rfl ?_
                        refine ev_bipush (q := 175) (126) dX7_isSo_173 (by decide) rfl ?_
                        refine ev_icmp_eq (q := 178) 211 dX7_isSo_175 (by decide) rfl (fun c_175 => ?_) (fun c_175 => ?_)
                        · refine ev_inc_4 (q := 214) (nI j - 1) dX7_isSo_211 (inc_m1 _) rfl rfl ?_
                          refine ev_goto 10 dX7_isSo_214 (by decide) ?_
                          exact ih _ _ _ (by exact e42) (by exact e33) hst
                        · exact absurd htl c_175
                      · exact absurd c_141 hneg
                    · exact absurd (Or.inr c_110) hd
                · exact absurd (b2i_n0.mp c_30) (by rw [hlt]; decide)
            · have h9 := hvi.2 hneg htl
              obtain ⟨b, c, r, rfl⟩ : ∃ b c r, l = b :: c :: r := by
                cases l with
                | nil => simp at hlen; omega
                | cons b r =>
                  cases r with
                  | nil => simp at hlen; omega
                  | cons c r => exact ⟨b, c, r, rfl⟩
              have hb : stM t tx a w j (b :: c :: r) = prF (tx j) b c :: r := by unfold stM; rw [if_neg (by rw [hlt]; decide), if_neg hd, if_neg hneg, if_neg htl]
              rw [hb] at ih
              have htop := stk_top hst
              have h2nd := stk_2nd hst
              simp only [List.length_cons] at hlen ⊢ ih htop
              refine ev_iload (q := 12) dX7_isSo_10 rfl rfl ?_
              refine ev_if_lt (q := 15) 217 dX7_isSo_12 (by decide) rfl (fun c_12 => ?_) (fun c_12 => ?_)
              · exact absurd c_12 (nI_pos (by omega))
              · refine ev_aload_n (q := 16) dX7_isSo_15 rfl rfl ?_
                refine ev_get (q := 19) dX7_isSo_16 fr_X7_39 rfl (lt_n hn (by decide)) rfl rfl ?_
                refine ev_iload (q := 21) dX7_isSo_19 rfl rfl ?_
                refine ev_iaS (q := 22) _ dX7_isSo_21 rfl rfl (by omega) (lt_n hn (by decide)) rfl ?_
                rw [etx j]
                refine ev_ist_5 (q := 24) dX7_isSo_22 rfl rfl ?_
                refine ev_aload_n (q := 25) dX7_isSo_24 rfl rfl ?_
                refine ev_iload (q := 27) dX7_isSo_25 rfl rfl ?_
                refine ev_callV1i (q := 30) dX7_isSo_27 ca_X7_124 (s_X7_isLetter hn hm _) rfl (lt_n hn (by decide)) rfl rfl (Nat.le_of_ble_eq_true rfl) (Nat.le_of_ble_eq_true rfl) (by decide) (by decide) rfl ?_
                refine ev_if_eq (q := 33) 99 dX7_isSo_30 (by decide) rfl (fun c_30 => ?_) (fun c_30 => ?_)
                · refine ev_iload (q := 101) dX7_isSo_99 rfl rfl ?_
                  refine ev_bipush (q := 103) (48) dX7_isSo_101 (by decide) rfl ?_
                  refine ev_icmp_eq (q := 106) 113 dX7_isSo_103 (by decide) rfl (fun c_103 => ?_) (fun c_103 => ?_)
                  · exact absurd (Or.inl c_103) hd
                  · refine ev_iload (q := 108) dX7_isSo_106 rfl rfl ?_
                    refine ev_bipush (q := 110) (49) dX7_isSo_108 (by decide) rfl ?_
                    refine ev_icmp_ne (q := 113) 137 dX7_isSo_110 (by decide) rfl (fun c_110 => ?_) (fun c_110 => ?_)
                    · refine ev_iload (q := 139) dX7_isSo_137 rfl rfl ?_
                      refine ev_bipush (q := 141) (45) dX7_isSo_139 (by decide) rfl ?_
                      refine ev_icmp_ne (q := 144) 171 dX7_isSo_141 (by decide) rfl (fun c_141 => ?_) (fun c_141 => ?_)
                      · refine ev_iload (q := 173) dX7_isSo_171 rfl rfl ?_
                        refine ev_bipush (q := 175) (126) dX7_isSo_173 (by decide) rfl ?_
                        refine ev_icmp_eq (q := 178) 211 dX7_isSo_175 (by decide) rfl (fun c_175 => ?_) (fun c_175 => ?_)
                        · exact absurd c_175 htl
                        · refine ev_aload_n (q := 179) dX7_isSo_178 rfl rfl ?_
                          refine ev_get (q := 182) dX7_isSo_179 fr_X7_42 rfl (lt_n hn (by decide)) rfl rfl ?_
                          refine ev_iload_n (q := 183) dX7_isSo_182 rfl rfl ?_
                          refine ev_iconst (q := 184) (2) dX7_isSo_183 (by decide) rfl ?_
                          refine ev_isub (q := 185) dX7_isSo_184 rfl ?_
                          refine ev_aload_n (q := 186) dX7_isSo_185 rfl rfl ?_
                          refine ev_iload (q := 188) dX7_isSo_186 rfl rfl ?_
                          refine ev_aload_n (q := 189) dX7_isSo_188 rfl rfl ?_
                          refine ev_get (q := 192) dX7_isSo_189 fr_X7_42 rfl (lt_n hn (by decide)) rfl rfl ?_
                          refine ev_iload_n (q := 193) dX7_isSo_192 rfl rfl ?_
                          refine ev_iconst (q := 194) (1) dX7_isSo_193 (by decide) rfl ?_
                          refine ev_isub (q := 195) dX7_isSo_194 rfl ?_
                          refine ev_zaS (q := 196) (r.length + 1) dX7_isSo_195 (nI_pred _) rfl (by omega) (lt_n hn (by decide)) rfl ?_
                          rw [show ov I S' 43 (r.length + 1) = b2i b from htop]
                          refine ev_aload_n (q := 197) dX7_isSo_196 rfl rfl ?_
                          refine ev_get (q := 200) dX7_isSo_197 fr_X7_42 rfl (lt_n hn (by decide)) rfl rfl ?_
                          refine ev_iload_n (q := 201) dX7_isSo_200 rfl rfl ?_
                          refine ev_iconst (q := 202) (2) dX7_isSo_201 (by decide) rfl ?_
                          refine ev_isub (q := 203) dX7_isSo_202 rfl ?_
                          refine ev_zaS (q := 204) r.length dX7_isSo_203 (pk_sub (b := 2) (by omega)) rfl (by omega) (lt_n hn (by decide)) rfl ?_
                          rw [show ov I S' 43 r.length = b2i c from h2nd]
                          refine ev_callV3i (q := 207) dX7_isSo_204 ca_X7_136 (s_X7_pairOf hn _ _ _) rfl (lt_n hn (by decide)) rfl rfl (Nat.le_of_ble_eq_true rfl) (Nat.le_of_ble_eq_true rfl) (by decide) (by decide) rfl ?_
                          first | refine ev_zsK (q := 208) r.length dX7_isSo_207 (pk_sub (b := 2) (by omega)) rfl (by omega) (lt_n hn (by decide)) (nar_z _) rfl rfl ?_ | refine ev_zsR (q := 208) r.length dX7_isSo_207 (pk_sub (b := 2) (by omega)) rfl (by omega) (lt_n hn (by decide)) (nar_z _) rfl rfl ?_
                          refine ev_inc_3 (q := 211) (nI (r.length + 1)) dX7_isSo_208 ((inc_m1 _).trans (nI_pred _)) rfl rfl ?_
                          refine ev_inc_4 (q := 214) (nI j - 1) dX7_isSo_211 (inc_m1 _) rfl rfl ?_
                          refine ev_goto 10 dX7_isSo_214 (by decide) ?_
                          exact ih _ _ _ (by exact e42) (by exact e33) (stk_rep (stk_pop hst))
                      · exact absurd c_141 hneg
                    · exact absurd (Or.inr c_110) hd
                · exact absurd (b2i_n0.mp c_30) (by rw [hlt]; decide)
  refine ev_iconst (q := 1) (0) dX7_isSo_0 (by decide) rfl ?_
  refine ev_ist_3 (q := 2) dX7_isSo_1 rfl rfl ?_
  refine ev_aload_n (q := 3) dX7_isSo_2 rfl rfl ?_
  refine ev_get (q := 6) dX7_isSo_3 fr_X7_133 rfl (lt_n hn (by decide)) rfl rfl ?_
  rw [show ov I S 33 18 = nI sz from hsz]
  refine ev_iconst (q := 7) (1) dX7_isSo_6 (by decide) rfl ?_
  refine ev_isub (q := 8) dX7_isSo_7 rfl ?_
  refine ev_ist_4 (q := 10) dX7_isSo_8 rfl rfl ?_
  exact lp sz 0 (by omega) _ _ _ htx rfl (fun i hi => absurd hi (by simp [mst]))
end MODEL14
