theorem dX3_movedBy_0 : decode cX3_movedBy 0 = .ok (.lload_n 0, 1) := by decide +kernel
theorem dX3_movedBy_1 : decode cX3_movedBy 1 = .ok (.lstore_n 3, 1) := by decide +kernel
theorem dX3_movedBy_2 : decode cX3_movedBy 2 = .ok (.iconst 0, 1) := by decide +kernel
theorem dX3_movedBy_3 : decode cX3_movedBy 3 = .ok (.istore 5, 2) := by decide +kernel
theorem dX3_movedBy_5 : decode cX3_movedBy 5 = .ok (.iload 5, 2) := by decide +kernel
theorem dX3_movedBy_7 : decode cX3_movedBy 7 = .ok (.bipush 6, 2) := by decide +kernel
theorem dX3_movedBy_9 : decode cX3_movedBy 9 = .ok (.if_icmp .ge 50, 3) := by decide +kernel
theorem dX3_movedBy_12 : decode cX3_movedBy 12 = .ok (.iload_n 2, 1) := by decide +kernel
theorem dX3_movedBy_13 : decode cX3_movedBy 13 = .ok (.iload 5, 2) := by decide +kernel
theorem dX3_movedBy_15 : decode cX3_movedBy 15 = .ok (.ishr, 1) := by decide +kernel
theorem dX3_movedBy_16 : decode cX3_movedBy 16 = .ok (.iconst 1, 1) := by decide +kernel
theorem dX3_movedBy_17 : decode cX3_movedBy 17 = .ok (.iand, 1) := by decide +kernel
theorem dX3_movedBy_18 : decode cX3_movedBy 18 = .ok (.ifCond .eq 35, 3) := by decide +kernel
theorem dX3_movedBy_21 : decode cX3_movedBy 21 = .ok (.lload_n 3, 1) := by decide +kernel
theorem dX3_movedBy_22 : decode cX3_movedBy 22 = .ok (.getstatic 109, 3) := by decide +kernel
theorem dX3_movedBy_25 : decode cX3_movedBy 25 = .ok (.iload 5, 2) := by decide +kernel
theorem dX3_movedBy_27 : decode cX3_movedBy 27 = .ok (.laload, 1) := by decide +kernel
theorem dX3_movedBy_28 : decode cX3_movedBy 28 = .ok (.land, 1) := by decide +kernel
theorem dX3_movedBy_29 : decode cX3_movedBy 29 = .ok (.iconst 1, 1) := by decide +kernel
theorem dX3_movedBy_30 : decode cX3_movedBy 30 = .ok (.iload 5, 2) := by decide +kernel
theorem dX3_movedBy_32 : decode cX3_movedBy 32 = .ok (.ishl, 1) := by decide +kernel
theorem dX3_movedBy_33 : decode cX3_movedBy 33 = .ok (.lushr, 1) := by decide +kernel
theorem dX3_movedBy_34 : decode cX3_movedBy 34 = .ok (.lload_n 3, 1) := by decide +kernel
theorem dX3_movedBy_35 : decode cX3_movedBy 35 = .ok (.getstatic 109, 3) := by decide +kernel
theorem dX3_movedBy_38 : decode cX3_movedBy 38 = .ok (.iload 5, 2) := by decide +kernel
theorem dX3_movedBy_40 : decode cX3_movedBy 40 = .ok (.laload, 1) := by decide +kernel
theorem dX3_movedBy_41 : decode cX3_movedBy 41 = .ok (.ldc2_w 112, 3) := by decide +kernel
theorem dX3_movedBy_44 : decode cX3_movedBy 44 = .ok (.lxor, 1) := by decide +kernel
theorem dX3_movedBy_45 : decode cX3_movedBy 45 = .ok (.land, 1) := by decide +kernel
theorem dX3_movedBy_46 : decode cX3_movedBy 46 = .ok (.iconst 1, 1) := by decide +kernel
theorem dX3_movedBy_47 : decode cX3_movedBy 47 = .ok (.iload 5, 2) := by decide +kernel
theorem dX3_movedBy_49 : decode cX3_movedBy 49 = .ok (.ishl, 1) := by decide +kernel
theorem dX3_movedBy_50 : decode cX3_movedBy 50 = .ok (.lshl, 1) := by decide +kernel
theorem dX3_movedBy_51 : decode cX3_movedBy 51 = .ok (.lor, 1) := by decide +kernel
theorem dX3_movedBy_52 : decode cX3_movedBy 52 = .ok (.lstore_n 3, 1) := by decide +kernel
theorem dX3_movedBy_53 : decode cX3_movedBy 53 = .ok (.iinc 5 1, 3) := by decide +kernel
theorem dX3_movedBy_56 : decode cX3_movedBy 56 = .ok (.goto (-51), 3) := by decide +kernel
theorem dX3_movedBy_59 : decode cX3_movedBy 59 = .ok (.lload_n 3, 1) := by decide +kernel
theorem dX3_movedBy_60 : decode cX3_movedBy 60 = .ok (.lreturn, 1) := by decide +kernel
theorem dX3_termWorlds_0 : decode cX3_termWorlds 0 = .ok (.aload_n 0, 1) := by decide +kernel
theorem dX3_termWorlds_1 : decode cX3_termWorlds 1 = .ok (.getfield 22, 3) := by decide +kernel
theorem dX3_termWorlds_4 : decode cX3_termWorlds 4 = .ok (.getfield 74, 3) := by decide +kernel
theorem dX3_termWorlds_7 : decode cX3_termWorlds 7 = .ok (.iload_n 1, 1) := by decide +kernel
theorem dX3_termWorlds_8 : decode cX3_termWorlds 8 = .ok (.laload, 1) := by decide +kernel
theorem dX3_termWorlds_9 : decode cX3_termWorlds 9 = .ok (.aload_n 0, 1) := by decide +kernel
theorem dX3_termWorlds_10 : decode cX3_termWorlds 10 = .ok (.getfield 18, 3) := by decide +kernel
theorem dX3_termWorlds_13 : decode cX3_termWorlds 13 = .ok (.getfield 80, 3) := by decide +kernel
theorem dX3_termWorlds_16 : decode cX3_termWorlds 16 = .ok (.land, 1) := by decide +kernel
theorem dX3_termWorlds_17 : decode cX3_termWorlds 17 = .ok (.lstore_n 3, 1) := by decide +kernel
theorem dX3_termWorlds_18 : decode cX3_termWorlds 18 = .ok (.aload_n 0, 1) := by decide +kernel
theorem dX3_termWorlds_19 : decode cX3_termWorlds 19 = .ok (.getfield 22, 3) := by decide +kernel
theorem dX3_termWorlds_22 : decode cX3_termWorlds 22 = .ok (.getfield 84, 3) := by decide +kernel
theorem dX3_termWorlds_25 : decode cX3_termWorlds 25 = .ok (.iload_n 1, 1) := by decide +kernel
theorem dX3_termWorlds_26 : decode cX3_termWorlds 26 = .ok (.iaload, 1) := by decide +kernel
theorem dX3_termWorlds_27 : decode cX3_termWorlds 27 = .ok (.istore 5, 2) := by decide +kernel
theorem dX3_termWorlds_29 : decode cX3_termWorlds 29 = .ok (.aload_n 0, 1) := by decide +kernel
theorem dX3_termWorlds_30 : decode cX3_termWorlds 30 = .ok (.getfield 18, 3) := by decide +kernel
theorem dX3_termWorlds_33 : decode cX3_termWorlds 33 = .ok (.getfield 87, 3) := by decide +kernel
theorem dX3_termWorlds_36 : decode cX3_termWorlds 36 = .ok (.aload_n 0, 1) := by decide +kernel
theorem dX3_termWorlds_37 : decode cX3_termWorlds 37 = .ok (.getfield 18, 3) := by decide +kernel
theorem dX3_termWorlds_40 : decode cX3_termWorlds 40 = .ok (.getfield 90, 3) := by decide +kernel
theorem dX3_termWorlds_43 : decode cX3_termWorlds 43 = .ok (.iload 5, 2) := by decide +kernel
theorem dX3_termWorlds_45 : decode cX3_termWorlds 45 = .ok (.invokestatic 93, 3) := by decide +kernel
theorem dX3_termWorlds_48 : decode cX3_termWorlds 48 = .ok (.isub, 1) := by decide +kernel
theorem dX3_termWorlds_49 : decode cX3_termWorlds 49 = .ok (.if_icmp .ge 40, 3) := by decide +kernel
theorem dX3_termWorlds_52 : decode cX3_termWorlds 52 = .ok (.iload_n 2, 1) := by decide +kernel
theorem dX3_termWorlds_53 : decode cX3_termWorlds 53 = .ok (.iload 5, 2) := by decide +kernel
theorem dX3_termWorlds_55 : decode cX3_termWorlds 55 = .ok (.iconst (-1), 1) := by decide +kernel
theorem dX3_termWorlds_56 : decode cX3_termWorlds 56 = .ok (.ixor, 1) := by decide +kernel
theorem dX3_termWorlds_57 : decode cX3_termWorlds 57 = .ok (.iand, 1) := by decide +kernel
theorem dX3_termWorlds_58 : decode cX3_termWorlds 58 = .ok (.aload_n 0, 1) := by decide +kernel
theorem dX3_termWorlds_59 : decode cX3_termWorlds 59 = .ok (.getfield 22, 3) := by decide +kernel
theorem dX3_termWorlds_62 : decode cX3_termWorlds 62 = .ok (.getfield 99, 3) := by decide +kernel
theorem dX3_termWorlds_65 : decode cX3_termWorlds 65 = .ok (.iload_n 1, 1) := by decide +kernel
theorem dX3_termWorlds_66 : decode cX3_termWorlds 66 = .ok (.iaload, 1) := by decide +kernel
theorem dX3_termWorlds_67 : decode cX3_termWorlds 67 = .ok (.ior, 1) := by decide +kernel
theorem dX3_termWorlds_68 : decode cX3_termWorlds 68 = .ok (.istore 6, 2) := by decide +kernel
theorem dX3_termWorlds_70 : decode cX3_termWorlds 70 = .ok (.lload_n 3, 1) := by decide +kernel
theorem dX3_termWorlds_71 : decode cX3_termWorlds 71 = .ok (.getstatic 102, 3) := by decide +kernel
theorem dX3_termWorlds_74 : decode cX3_termWorlds 74 = .ok (.aload_n 0, 1) := by decide +kernel
theorem dX3_termWorlds_75 : decode cX3_termWorlds 75 = .ok (.getfield 18, 3) := by decide +kernel
theorem dX3_termWorlds_78 : decode cX3_termWorlds 78 = .ok (.getfield 87, 3) := by decide +kernel
theorem dX3_termWorlds_81 : decode cX3_termWorlds 81 = .ok (.laload, 1) := by decide +kernel
theorem dX3_termWorlds_82 : decode cX3_termWorlds 82 = .ok (.iload 6, 2) := by decide +kernel
theorem dX3_termWorlds_84 : decode cX3_termWorlds 84 = .ok (.invokestatic 105, 3) := by decide +kernel
theorem dX3_termWorlds_87 : decode cX3_termWorlds 87 = .ok (.land, 1) := by decide +kernel
theorem dX3_termWorlds_88 : decode cX3_termWorlds 88 = .ok (.lstore_n 3, 1) := by decide +kernel
theorem dX3_termWorlds_89 : decode cX3_termWorlds 89 = .ok (.lload_n 3, 1) := by decide +kernel
theorem dX3_termWorlds_90 : decode cX3_termWorlds 90 = .ok (.lreturn, 1) := by decide +kernel
theorem dX3_ofTerm_0 : decode cX3_ofTerm 0 = .ok (.aload_n 0, 1) := by decide +kernel
theorem dX3_ofTerm_1 : decode cX3_ofTerm 1 = .ok (.aload_n 0, 1) := by decide +kernel
theorem dX3_ofTerm_2 : decode cX3_ofTerm 2 = .ok (.iload_n 1, 1) := by decide +kernel
theorem dX3_ofTerm_3 : decode cX3_ofTerm 3 = .ok (.iload_n 2, 1) := by decide +kernel
theorem dX3_ofTerm_4 : decode cX3_ofTerm 4 = .ok (.invokevirtual 53, 3) := by decide +kernel
theorem dX3_ofTerm_7 : decode cX3_ofTerm 7 = .ok (.iload_n 2, 1) := by decide +kernel
theorem dX3_ofTerm_8 : decode cX3_ofTerm 8 = .ok (.invokevirtual 57, 3) := by decide +kernel
theorem dX3_ofTerm_11 : decode cX3_ofTerm 11 = .ok (.ireturn, 1) := by decide +kernel
theorem dX3_didAll_0 : decode cX3_didAll 0 = .ok (.iconst 0, 1) := by decide +kernel
theorem dX3_didAll_1 : decode cX3_didAll 1 = .ok (.istore_n 2, 1) := by decide +kernel
theorem dX3_didAll_2 : decode cX3_didAll 2 = .ok (.iload_n 2, 1) := by decide +kernel
theorem dX3_didAll_3 : decode cX3_didAll 3 = .ok (.aload_n 0, 1) := by decide +kernel
theorem dX3_didAll_4 : decode cX3_didAll 4 = .ok (.getfield 18, 3) := by decide +kernel
theorem dX3_didAll_7 : decode cX3_didAll 7 = .ok (.getfield 61, 3) := by decide +kernel
theorem dX3_didAll_10 : decode cX3_didAll 10 = .ok (.if_icmp .ge 37, 3) := by decide +kernel
theorem dX3_didAll_13 : decode cX3_didAll 13 = .ok (.aload_n 0, 1) := by decide +kernel
theorem dX3_didAll_14 : decode cX3_didAll 14 = .ok (.iload_n 1, 1) := by decide +kernel
theorem dX3_didAll_15 : decode cX3_didAll 15 = .ok (.aload_n 0, 1) := by decide +kernel
theorem dX3_didAll_16 : decode cX3_didAll 16 = .ok (.getfield 18, 3) := by decide +kernel
theorem dX3_didAll_19 : decode cX3_didAll 19 = .ok (.getfield 64, 3) := by decide +kernel
theorem dX3_didAll_22 : decode cX3_didAll 22 = .ok (.iload_n 2, 1) := by decide +kernel
theorem dX3_didAll_23 : decode cX3_didAll 23 = .ok (.iaload, 1) := by decide +kernel
theorem dX3_didAll_24 : decode cX3_didAll 24 = .ok (.invokevirtual 67, 3) := by decide +kernel
theorem dX3_didAll_27 : decode cX3_didAll 27 = .ok (.aload_n 0, 1) := by decide +kernel
theorem dX3_didAll_28 : decode cX3_didAll 28 = .ok (.getfield 18, 3) := by decide +kernel
theorem dX3_didAll_31 : decode cX3_didAll 31 = .ok (.getfield 71, 3) := by decide +kernel
theorem dX3_didAll_34 : decode cX3_didAll 34 = .ok (.iload_n 2, 1) := by decide +kernel
theorem dX3_didAll_35 : decode cX3_didAll 35 = .ok (.iaload, 1) := by decide +kernel
theorem dX3_didAll_36 : decode cX3_didAll 36 = .ok (.if_icmp .eq 5, 3) := by decide +kernel
theorem dX3_didAll_39 : decode cX3_didAll 39 = .ok (.iconst 0, 1) := by decide +kernel
theorem dX3_didAll_40 : decode cX3_didAll 40 = .ok (.ireturn, 1) := by decide +kernel
theorem dX3_didAll_41 : decode cX3_didAll 41 = .ok (.iinc 2 1, 3) := by decide +kernel
theorem dX3_didAll_44 : decode cX3_didAll 44 = .ok (.goto (-42), 3) := by decide +kernel
theorem dX3_didAll_47 : decode cX3_didAll 47 = .ok (.iconst 1, 1) := by decide +kernel
theorem dX3_didAll_48 : decode cX3_didAll 48 = .ok (.ireturn, 1) := by decide +kernel
theorem ti_add {a b : Int32} (h1 : -1000000 ≤ a.toInt ∧ a.toInt ≤ 1000000) (h2 : -1000000 ≤ b.toInt ∧ b.toInt ≤ 1000000) : (a + b).toInt = a.toInt + b.toInt := by
  rw [Int32.toInt_add]; exact Int.bmod_eq_of_le (by omega) (by omega)
theorem ti_sub {a b : Int32} (h1 : -1000000 ≤ a.toInt ∧ a.toInt ≤ 1000000) (h2 : -1000000 ≤ b.toInt ∧ b.toInt ≤ 1000000) : (a - b).toInt = a.toInt - b.toInt := by
  rw [Int32.toInt_sub]; exact Int.bmod_eq_of_le (by omega) (by omega)
theorem ti_neg {a : Int32} (h1 : -1000000 ≤ a.toInt ∧ a.toInt ≤ 1000000) : (-a).toInt = -a.toInt := by
  rw [Int32.toInt_neg]; exact Int.bmod_eq_of_le (by omega) (by omega)
theorem ti_n {a : Nat} (h : a ≤ 1000000) : (nI a).toInt = (a : Int) := nI_toInt (by omega)
theorem wsum_b {f : Nat → Int32} {w : Nat} : ∀ k, k ≤ 6 → (∀ i, i < k → wb9 (f i)) → -(9 * k : Int) ≤ (wsum f k w).toInt ∧ (wsum f k w).toInt ≤ 9 * k
  | 0, _, _ => by simp [wsum]
  | k + 1, hk, h => by
    have ih := wsum_b (f := f) (w := w) k (by omega) (fun i hi => h i (by omega))
    have h0 := h k (by omega)
    have h1 : -9 ≤ (if w.testBit k then f k else 0).toInt ∧ (if w.testBit k then f k else 0).toInt ≤ 9 := by
      split
      · exact h0
      · exact ⟨by decide, by decide⟩
    show -(9 * (k + 1 : Nat) : Int) ≤ (wsum f k w + (if w.testBit k then f k else 0)).toInt ∧ (wsum f k w + (if w.testBit k then f k else 0)).toInt ≤ 9 * (k + 1 : Nat)
    rw [ti_add (by omega) (by omega)]
    omega
def rdF (I : Nat → Nat → Int32) (wi w : Nat) : Int32 := wsum (fun k => I 2 (6 * wi + k)) 6 w
def rdG (I : Nat → Nat → Int32) (wy wi w : Nat) : Int32 := if wy = 1 then (-1) * wsum (fun k => I 3 (0 + k)) 6 w else rdF I wi w
def rdS (I S : Nat → Nat → Int32) (wy wi : Nat) : Nat → Nat → Int32 := fillA (fillA S 22 64 (rdF I wi)) 23 64 (rdG I wy wi)
def RD (I S : Nat → Nat → Int32) (wy wi : Nat) : Prop := (∀ w, w < 64 → S 22 w = rdF I wi w) ∧ (∀ w, w < 64 → S 23 w = rdG I wy wi w)
theorem RD_rdS {I S : Nat → Nat → Int32} {wy wi : Nat} : RD I (rdS I S wy wi) wy wi := ⟨fun w hw => fillA_at (S := S) (p := 22) hw, fun w hw => fillA_at (p := 23) hw⟩
theorem RD_mono {I S S' : Nat → Nat → Int32} {wy wi : Nat} (h : RD I S wy wi) (h1 : S' 22 = S 22) (h2 : S' 23 = S 23) : RD I S' wy wi := ⟨fun w hw => by rw [h1]; exact h.1 w hw, fun w hw => by rw [h2]; exact h.2 w hw⟩
theorem cpy_fill {S : Nat → Nat → Int32} {F : Nat → Int32} (h : ∀ w, w < 64 → S 22 w = F w) : setI S 23 (va_cpy (S 22) (S 23) 0 0 64) = fillA S 23 64 F := by
  funext p j
  by_cases hp : p = 23
  · subst hp
    show va_cpy (S 22) (S 23) 0 0 64 j = if j < 64 then F j else S 23 j
    by_cases hj : j < 64
    · rw [pk_cpy_in (by omega) (by omega), if_pos hj, Nat.zero_add, Nat.sub_zero, h j hj]
    · rw [pk_cpy_out (by omega), if_neg hj]
  · simp [setI, fillA, hp]
theorem lsF_f {sc : Nat → Int32} {Z : Int64} {w : Nat} {o : Option Nat} (h : lbit Z w = false) : lsF sc Z w o = o := by unfold lsF; rw [h]; exact if_neg (by decide)
theorem lsF_n {sc : Nat → Int32} {Z : Int64} {w : Nat} (h : lbit Z w = true) : lsF sc Z w none = some w := by unfold lsF; rw [h]; exact if_pos rfl
theorem lsF_s {sc : Nat → Int32} {Z : Int64} {w v : Nat} (h : lbit Z w = true) : lsF sc Z w (some v) = if sc w < sc v then some w else some v := by unfold lsF; rw [h]; exact if_pos rfl
theorem mkF_f {lk : Nat → Int32} {Z : Int64} {w : Nat} {o : Option Nat} (h : lbit Z w = false) : mkF lk Z w o = o := by unfold mkF; rw [h]; exact if_neg (by decide)
theorem mkF_n {lk : Nat → Int32} {Z : Int64} {w : Nat} (h : lbit Z w = true) : mkF lk Z w none = some w := by unfold mkF; rw [h]; exact if_pos rfl
theorem mkF_s {lk : Nat → Int32} {Z : Int64} {w v : Nat} (h : lbit Z w = true) : mkF lk Z w (some v) = if lk v < lk w then some w else some v := by unfold mkF; rw [h]; exact if_pos rfl
theorem ls_mk1 {sc lk : Nat → Int32} {Z : Int64} {N : Nat} (hc : ∀ v w, v < N → w < N → (sc w < sc v ↔ lk v < lk w)) : ∀ k, k ≤ N → upto (lsF sc Z) k none = upto (mkF lk Z) k none
  | 0, _ => (show (none : Option Nat) = none from rfl)
  | k + 1, hk => by
    have ih := ls_mk1 (Z := Z) hc k (by omega)
    have hlt := lsF_lt (sc := sc) (Z := Z) k
    show lsF sc Z k (upto (lsF sc Z) k none) = mkF lk Z k (upto (mkF lk Z) k none)
    rw [← ih]
    generalize upto (lsF sc Z) k none = o at hlt
    cases hb : lbit Z k with
    | false => rw [lsF_f hb, mkF_f hb]
    | true =>
      cases o with
      | none => rw [lsF_n hb, mkF_n hb]
      | some v =>
        have := (hlt v rfl).1
        have h9 := hc v k (by omega) (by omega)
        rw [lsF_s hb, mkF_s hb]
        by_cases h : sc k < sc v
        · rw [if_pos h, if_pos (h9.mp h)]
        · rw [if_neg h, if_neg (fun h2 => h (h9.mpr h2))]
theorem lsF_skip2 {sc : Nat → Int32} {Z : Int64} {p q : Nat} (hpq : p ≤ q) (h : ∀ i, p ≤ i → i < q → lbit Z i = false) : upto (lsF sc Z) q none = upto (lsF sc Z) p none := by
  obtain ⟨j, rfl⟩ : ∃ j, q = p + j := ⟨q - p, by omega⟩
  exact lsF_skip j h
theorem ls_mk {sc lk : Nat → Int32} {Z : Int64} {t : Nat} (h6 : t ≤ 6) (hZ : ∀ w, 2 ^ t ≤ w → lbit Z w = false) (hc : ∀ v w, v < 2 ^ t → w < 2 ^ t → (sc w < sc v ↔ lk v < lk w)) : lsO sc Z = upto (mkF lk Z) (2 ^ t) none := by
  rw [← ls_mk1 hc (2 ^ t) (Nat.le_refl _)]
  exact lsF_skip2 (q := 64) (p2_le h6) (fun i h1 _ => hZ i h1)
theorem ne1_mul (x : Int32) : (-1) * x = -x := by rw [Int32.neg_mul, Int32.one_mul]
theorem lk_cmp {I S : Nat → Nat → Int32} {J : Nat → Nat → Int64} {t sl wy wi he a : Nat} (hk : KI I J t sl wy wi he) (hr : RD I S wy wi) (v w : Nat) (hv : v < 2 ^ t) (hw : w < 2 ^ t) : (upS a (S 23) (if wy = 2 then 1000 else 0) w < upS a (S 23) (if wy = 2 then 1000 else 0) v ↔ lkF I t wy wi a v < lkF I t wy wi a w) := by
  have h6 := hk.1.2.2.1
  have h64 := p2_le h6
  have h3 := hk.1.2.2.2.2.2.2.1
  have h4 := hk.1.2.2.2.2.2.2.2.2.1
  have ew : ∀ w, w < 2 ^ t → rdF I wi w = wsum (fun k => I 34 (6 * wi + k)) t w := fun w hw => wtK hk h4 hw
  have et : ∀ w, w < 2 ^ t → wsum (fun k => I 3 (0 + k)) 6 w = wsum (I 35) t w := fun w hw => by
    rw [wsum_6 h6 hw]
    exact wsum_congr (fun i hi => by rw [Nat.zero_add]; exact (hk.2.2.2.2.1 i (by omega)).1)
  have bw : ∀ w, -54 ≤ (wsum (fun k => I 34 (6 * wi + k)) t w).toInt ∧ (wsum (fun k => I 34 (6 * wi + k)) t w).toInt ≤ 54 := fun w => by
    have := wsum_b (f := fun k => I 34 (6 * wi + k)) (w := w) t h6 (fun i hi => (hk.2.2.2.1 _ (by omega)).2)
    omega
  have bt2 : ∀ w, -54 ≤ (wsum (I 35) t w).toInt ∧ (wsum (I 35) t w).toInt ≤ 54 := fun w => by
    have := wsum_b (f := I 35) (w := w) t h6 (fun i hi => (hk.2.2.2.2.1 _ (by omega)).2)
    omega
  unfold upS
  rw [hr.2 w (by omega), hr.2 v (by omega)]
  unfold rdG lkF
  by_cases h1 : wy = 1
  · simp only [h1, if_true, show ¬ (1 = 2) by decide, if_false]
    rw [et w hw, et v hv, Int32.zero_mul, Int32.zero_mul, i_add0, i_add0, ne1_mul, ne1_mul, i_lt, i_lt, ti_neg (by have := bt2 w; have := bt2 v; omega), ti_neg (by have := bt2 v; have := bt2 w; omega)]
    omega
  · simp only [h1, if_false]
    rw [ew w hw, ew v hv]
    by_cases h0 : wy = 0
    · simp only [h0, show ¬ (0 = 2) by decide, if_false, if_true]
      rw [Int32.zero_mul, Int32.zero_mul, i_add0, i_add0, i_lt, i_lt, ti_neg (by have := bw w; have := bw v; omega), ti_neg (by have := bw v; have := bw w; omega)]
      omega
    · have h2 : wy = 2 := by omega
      simp only [h2, show ¬ (2 = 0) by decide, if_false, if_true]
      have pm : ∀ w, (1000 : Int32) * nI (pop 6 (w ^^^ a)) = nI (1000 * pop 6 (w ^^^ a)) := fun w => pk_mul 1000 _
      have pb : ∀ w, pop 6 (w ^^^ a) ≤ 6 := fun w => pop_le 6 _
      have b1 := bw w; have b2 := bw v; have b3 := pb w; have b4 := pb v
      have e1 : (nI (1000 * pop 6 (w ^^^ a))).toInt = ((1000 * pop 6 (w ^^^ a) : Nat) : Int) := ti_n (by omega)
      have e2 : (nI (1000 * pop 6 (v ^^^ a))).toInt = ((1000 * pop 6 (v ^^^ a) : Nat) : Int) := ti_n (by omega)
      have e3 : (-(nI (1000 * pop 6 (w ^^^ a)))).toInt = -((1000 * pop 6 (w ^^^ a) : Nat) : Int) := by rw [ti_neg (by omega), e1]
      have e4 : (-(nI (1000 * pop 6 (v ^^^ a)))).toInt = -((1000 * pop 6 (v ^^^ a) : Nat) : Int) := by rw [ti_neg (by omega), e2]
      rw [Int32.neg_mul, Int32.neg_mul, pm, pm, i_lt, i_lt, ti_add (by omega) (by omega), ti_add (by omega) (by omega), ti_sub (by omega) (by omega), ti_sub (by omega) (by omega), e1, e2, e3, e4]
      omega
-- bits of longs
theorem lb_shr {x : Int64} {k j : Nat} (hk : k < 64) : lbit ((x.toUInt64 >>> ((nI k).toInt64.toUInt64 &&& Int64.toUInt64 63)).toInt64) j = lbit x (k + j) := by
  have hs : ∀ w, w < 64 → (((nI w).toInt64.toUInt64 &&& Int64.toUInt64 63).toBitVec % 64).toNat = w := by decide +kernel
  have e1 : ((x.toUInt64 >>> ((nI k).toInt64.toUInt64 &&& Int64.toUInt64 63)).toInt64).toBitVec = x.toBitVec >>> k := by
    show (x.toUInt64 >>> ((nI k).toInt64.toUInt64 &&& Int64.toUInt64 63)).toBitVec = _
    rw [UInt64.toBitVec_shiftRight]
    show x.toBitVec >>> (((nI k).toInt64.toUInt64 &&& Int64.toUInt64 63).toBitVec % 64) = _
    rw [BitVec.ushiftRight_eq', hs k hk]
  unfold lbit
  rw [e1, BitVec.getLsbD_ushiftRight]
theorem lb_shl {x : Int64} {k j : Nat} (hk : k < 64) : lbit (x <<< ((nI k).toInt64 &&& 63)) j = (decide (j < 64) && (decide (k ≤ j) && lbit x (j - k))) := by
  have hs : ∀ k, k < 64 → (((nI k).toInt64 &&& 63).toBitVec.smod 64) = BitVec.ofNat 64 k := by decide +kernel
  unfold lbit
  rw [Int64.toBitVec_shiftLeft, hs k hk, BitVec.shiftLeft_eq', BitVec.toNat_ofNat, Nat.mod_eq_of_lt (by omega), BitVec.getLsbD_shiftLeft]
  by_cases h : k ≤ j
  · simp [h, show ¬ j < k by omega]
  · simp [h, show j < k by omega]
theorem lb_and {x y : Int64} {j : Nat} : lbit (x &&& y) j = (lbit x j && lbit y j) := by unfold lbit; rw [Int64.toBitVec_and, BitVec.getLsbD_and]
theorem lb_or {x y : Int64} {j : Nat} : lbit (x ||| y) j = (lbit x j || lbit y j) := by unfold lbit; rw [Int64.toBitVec_or, BitVec.getLsbD_or]
theorem lb_xor {x y : Int64} {j : Nat} : lbit (x ^^^ y) j = (lbit x j ^^ lbit y j) := by unfold lbit; rw [Int64.toBitVec_xor, BitVec.getLsbD_xor]
theorem lb_m1 : ∀ j, j < 64 → lbit (-1) j = true := by decide +kernel
theorem lb_not {x : Int64} {j : Nat} (hj : j < 64) : lbit (x ^^^ (-1)) j = !lbit x j := by rw [lb_xor, lb_m1 j hj]; cases lbit x j <;> rfl
theorem lb_hi {x : Int64} {j : Nat} (hj : 64 ≤ j) : lbit x j = false := by unfold lbit; exact BitVec.getLsbD_of_ge _ _ hj
theorem mv_D : ∀ i, i < 6 → ∀ j, j < 64 → if j.testBit i then (2 ^ i ≤ j ∧ j - 2 ^ i = j ^^^ 2 ^ i ∧ (j - 2 ^ i).testBit i = false ∧ (2 ^ i + j).testBit i = false) else (2 ^ i + j < 64 ∧ 2 ^ i + j = j ^^^ 2 ^ i ∧ (2 ^ i + j).testBit i = true ∧ (2 ^ i ≤ j → (j - 2 ^ i).testBit i = true)) := by decide +kernel
theorem mv_1 {x : Int64} {i : Nat} (hi : i < 6) {j : Nat} (hj : j < 64) : lbit (((x &&& soB i).toUInt64 >>> ((nI (2 ^ i)).toInt64.toUInt64 &&& Int64.toUInt64 63)).toInt64 ||| (x &&& (soB i ^^^ (-1))) <<< ((nI (2 ^ i)).toInt64 &&& 63)) j = lbit x (j ^^^ 2 ^ i) := by
  have h2 : 2 ^ i < 64 := Nat.pow_lt_pow_right (n := 6) (by decide) hi
  have h0 : 0 < 2 ^ i := Nat.pow_pos (by decide)
  have hd := mv_D i hi j hj
  rw [lb_or, lb_shr h2, lb_shl h2, lb_and, lb_and, decide_eq_true hj, Bool.true_and]
  cases hb : j.testBit i with
  | true =>
    rw [hb, if_pos rfl] at hd
    obtain ⟨d1, d2, d3, d4⟩ := hd
    have e1 : lbit (soB i) (2 ^ i + j) = false := by
      by_cases h : 2 ^ i + j < 64
      · rw [soB_b i hi _ h, d4]
      · exact lb_hi (by omega)
    rw [e1, Bool.and_false, Bool.false_or, decide_eq_true d1, Bool.true_and, lb_not (by omega), soB_b i hi _ (by omega), d3, d2]
    simp
  | false =>
    rw [hb, if_neg (by decide)] at hd
    obtain ⟨d1, d2, d3, d4⟩ := hd
    rw [soB_b i hi _ d1, d3, Bool.and_true, d2]
    by_cases h : 2 ^ i ≤ j
    · rw [decide_eq_true h, Bool.true_and, lb_not (by omega), soB_b i hi _ (by omega), d4 h]
      simp
    · rw [decide_eq_false h]; simp
def mvB (x : Int64) (b : Nat) : Int64 := mk64 (fun w => lbit x (w ^^^ b)) 64
theorem mvB_b {x : Int64} {b w : Nat} (hw : w < 64) : lbit (mvB x b) w = lbit x (w ^^^ b) := by
  unfold mvB
  rw [mk64_bit _ 64 (Nat.le_refl _), decide_eq_true hw, Bool.true_and]
theorem mod_x : ∀ i, i < 6 → ∀ b, b < 64 → b % 2 ^ (i + 1) = if b.testBit i then 2 ^ i ^^^ (b % 2 ^ i) else b % 2 ^ i := by decide +kernel
theorem tmask_bit {v t num : Nat} : ∀ i, i ≤ t → ∀ k, (tmask v t num i).testBit k = decide (t - i ≤ k ∧ k < t ∧ num / 3 ^ (t - 1 - k) % 3 = v)
  | 0, _, k => by
    show (0 : Nat).testBit k = _
    rw [Nat.zero_testBit]; symm; rw [decide_eq_false_iff_not]; omega
  | i + 1, hi, k => by
    show (tmask v t num i ||| (if num / 3 ^ i % 3 = v then 2 ^ (t - 1 - i) else 0)).testBit k = _
    rw [Nat.testBit_or, tmask_bit i (by omega) k]
    by_cases hk : k = t - 1 - i
    · have e : t - 1 - k = i := by omega
      rw [decide_eq_false (show ¬ (t - i ≤ k ∧ _) by omega), Bool.false_or, e]
      split
      · rename_i h
        rw [Nat.testBit_two_pow, decide_eq_true hk.symm, decide_eq_true ⟨by omega, by omega, h⟩]
      · rename_i h
        rw [Nat.zero_testBit, decide_eq_false (fun h2 => h h2.2.2)]
    · have e : (if num / 3 ^ i % 3 = v then 2 ^ (t - 1 - i) else 0).testBit k = false := by
        split
        · rw [Nat.testBit_two_pow, decide_eq_false (fun h => hk h.symm)]
        · exact Nat.zero_testBit k
      rw [e, Bool.or_false, decide_eq_decide]
      omega
theorem tm_bit {v t num k : Nat} : (tmask v t num t).testBit k = (decide (k < t) && decide (dig t num k = v)) := by
  rw [tmask_bit t (Nat.le_refl _)]
  unfold dig
  by_cases h : k < t
  · simp [h]
  · simp [h]
theorem tmask_lt2 (v t num : Nat) : tmask v t num t < 2 ^ t := by
  apply Nat.lt_pow_two_of_testBit
  intro i hi
  rw [tm_bit, decide_eq_false (by omega), Bool.false_and]
def wgt (t m : Nat) : Nat → Nat
  | 0 => 0
  | k + 1 => wgt t m k + if m.testBit k then 3 ^ (t - 1 - k) else 0
/-- the list of terms, as the class keeps it -/
def TOK (I : Nat → Nat → Int32) (J : Nat → Nat → Int64) (t : Nat) : Prop := I 16 0 = nI (3 ^ t) ∧ (∀ num, num < 3 ^ t → I 17 num = nI (tmask 1 t num t ||| tmask 2 t num t) ∧ I 18 num = nI (tmask 1 t num t) ∧ ∀ w, w < 64 → lbit (J 19 num) w = (decide (w &&& tmask 1 t num t = tmask 1 t num t) && decide (w &&& tmask 2 t num t = 0))) ∧ (∀ m, m < 2 ^ t → I 20 m = nI (wgt t m t))
theorem pop_D : ∀ t, t < 7 → ∀ sd, sd < 2 ^ t → pop 6 sd ≤ t := by decide +kernel
theorem pop_E : ∀ t, t < 7 → ∀ u, u < 2 ^ t → ∀ sd, sd < 2 ^ t → pop 6 (u &&& (63 ^^^ sd)) + pop 6 sd ≤ t := by decide +kernel
theorem tm_disj {t num k : Nat} (h : (tmask 1 t num t).testBit k = true) : (tmask 2 t num t).testBit k = false := by
  rw [tm_bit] at h ⊢
  have h := Bool.and_eq_true_iff.mp h
  have h2 : dig t num k = 1 := of_decide_eq_true h.2
  rw [h2]; simp
theorem aim_eq {t num a w : Nat} (hw : w < 64) (ha : a < 64) (h6 : t ≤ 6) (h1 : w &&& tmask 1 t num t = tmask 1 t num t) (h2 : w &&& tmask 2 t num t = 0) : w ^^^ ((a &&& (63 ^^^ (tmask 1 t num t ||| tmask 2 t num t))) ||| tmask 1 t num t) = (w ^^^ a) &&& (63 ^^^ (tmask 1 t num t ||| tmask 2 t num t)) := by
  apply Nat.eq_of_testBit_eq
  intro i
  have g1 := congrArg (fun x => x.testBit i) h1
  have g2 := congrArg (fun x => x.testBit i) h2
  have g3 := tm_disj (t := t) (num := num) (k := i)
  simp only [Nat.testBit_and, Nat.zero_testBit] at g1 g2
  simp only [Nat.testBit_xor, Nat.testBit_or, Nat.testBit_and]
  by_cases hi : i < 6
  · have h63 : ∀ i, i < 6 → (63 : Nat).testBit i = true := by decide
    rw [h63 i hi]
    cases hy : (tmask 1 t num t).testBit i <;> cases hz : (tmask 2 t num t).testBit i <;> cases hwb : w.testBit i <;> cases hab : a.testBit i <;> simp_all
  · have e1 : w.testBit i = false := Nat.testBit_lt_two_pow (Nat.lt_of_lt_of_le hw (Nat.pow_le_pow_right (n := 2) (i := 6) (by decide) (by omega)))
    have e2 : a.testBit i = false := Nat.testBit_lt_two_pow (Nat.lt_of_lt_of_le ha (Nat.pow_le_pow_right (n := 2) (i := 6) (by decide) (by omega)))
    have e3 : (tmask 1 t num t).testBit i = false := by rw [tm_bit, decide_eq_false (by omega), Bool.false_and]
    rw [e1, e2, e3]; simp
def cfN (I : Nat → Nat → Int32) (i : Nat) : Nat := (I 40 (2 * i)).toNatClampNeg
def CMI (I : Nat → Nat → Int32) (t c : Nat) : Prop := c ≤ 6 ∧ I 33 14 = nI c ∧ I 1 15 = nI c ∧ ∀ i, i < c → I 7 i = I 40 (2 * i) ∧ I 8 i = I 40 (2 * i + 1) ∧ I 40 (2 * i) = nI (cfN I i) ∧ cfN I i < 2 ^ t ∧ ∃ v, v < 2 ^ t ∧ I 40 (2 * i + 1) = nI v
theorem gd_one {I : Nat → Nat → Int32} {J : Nat → Nat → Int64} {t sl wy wi c num i : Nat} {cf : Nat → Nat} (e : i = c) (h : upto (fun i b => b && decide (eo (mtF I J t sl wy wi num (cf i)) = I 40 (2 * i + 1))) i true = true) : (1 : Int32) = b2i (gdL I J t sl wy wi cf c num) := by
  subst e
  unfold gdL
  rw [h]
  rfl
section CLS3
variable {xl : Nat} {xs : Nat → Int32} {n : Nat} {h : Nat → PC} {I S : Nat → Nat → Int32} {J T : Nat → Nat → Int64} {X : Nat → Option Nat} {t sl wy wi he c : Nat}
theorem k_X3_ready (hn : 49 ≤ n) (hk : KI I J t sl wy wi he) : Rn xl xs 2 45 0 0 mX3_ready [.ref 21] n (sysH (ov I S) (ovJ J T) X) none n (sysH (ov I (rdS I S wy wi)) (ovJ J T) X) := by
  intro Q hQ
  have h3 := hk.1.2.2.2.2.2.2.1
  have h4 := hk.1.2.2.2.2.2.2.2.2.1
  have e1 : (fun w => (1 : Int32) * wsum (fun k => I 2 (6 * wi + k)) 6 w) = rdF I wi := by funext w; exact Int32.one_mul _
  have hf := k_fill_2_22 (xl := xl) (xs := xs) (n := n) (I := I) (S := S) (J := J) (T := T) (X := X) (b := 6 * wi) (g := 1) hn (by omega)
  rw [e1] at hf
  show Ev xl xs 2 45 0 0 mX3_ready 0 [some (.ref 21)] [] n (sysH (ov I S) (ovJ J T) X) Q
  by_cases h1 : wy = 1
  · have hf2 := k_fill_3_23 (xl := xl) (xs := xs) (n := n) (I := I) (S := fillA S 22 64 (rdF I wi)) (J := J) (T := T) (X := X) (b := 0) (g := -1) hn (by omega)
    have e2 : rdS I S wy wi = fillA (fillA S 22 64 (rdF I wi)) 23 64 (fun w => (-1) * wsum (fun k => I 3 (0 + k)) 6 w) := by unfold rdS; congr 1; funext w; unfold rdG; rw [if_pos h1]
    rw [e2] at hQ
    refine ev_aload_n (q := 1) dX3_ready_0 rfl rfl ?_
    refine ev_get (q := 4) dX3_ready_1 fr_X3_18 rfl (lt_n hn (by decide)) rfl rfl ?_
    refine ev_get (q := 7) dX3_ready_4 fr_X3_26 rfl (lt_n hn (by decide)) rfl rfl ?_
    refine ev_aload_n (q := 8) dX3_ready_7 rfl rfl ?_
    refine ev_get (q := 11) dX3_ready_8 fr_X3_18 rfl (lt_n hn (by decide)) rfl rfl ?_
    refine ev_get (q := 14) dX3_ready_11 fr_X3_29 rfl (lt_n hn (by decide)) rfl rfl ?_
    refine ev_bipush (q := 16) (6) dX3_ready_14 (by decide) rfl ?_
    rw [show ov I S 1 3 = nI wi from hk.2.1.2.2.2.1]
    refine ev_imul (q := 17) dX3_ready_16 rfl ?_
    refine ev_iconst (q := 18) (1) dX3_ready_17 (by decide) rfl ?_
    refine ev_aload_n (q := 19) dX3_ready_18 rfl rfl ?_
    refine ev_get (q := 22) dX3_ready_19 fr_X3_9 rfl (lt_n hn (by decide)) rfl rfl ?_
    rw [show nI wi * 6 = nI (6 * wi) from (pk_mul wi 6).trans (by rw [Nat.mul_comm])]
    refine ev_callSn4v (q := 25) dX3_ready_22 ca_X3_33 hf (Nat.le_of_ble_eq_true rfl) (Nat.le_of_ble_eq_true rfl) (by decide) (by decide) rfl ?_
    refine ev_aload_n (q := 26) dX3_ready_25 rfl rfl ?_
    refine ev_get (q := 29) dX3_ready_26 fr_X3_18 rfl (lt_n hn (by decide)) rfl rfl ?_
    refine ev_get (q := 32) dX3_ready_29 fr_X3_37 rfl (lt_n hn (by decide)) rfl rfl ?_
    refine ev_iconst (q := 33) (1) dX3_ready_32 (by decide) rfl ?_
    rw [show ov I (fillA S 22 64 (rdF I wi)) 1 2 = nI wy from hk.2.1.2.2.1]
    refine ev_icmp_ne (q := 36) 55 dX3_ready_33 (by decide) rfl (fun c_33 => ?_) (fun c_33 => ?_)
    · exact absurd (by rw [h1]; rfl) c_33
    · refine ev_aload_n (q := 37) dX3_ready_36 rfl rfl ?_
      refine ev_get (q := 40) dX3_ready_37 fr_X3_18 rfl (lt_n hn (by decide)) rfl rfl ?_
      refine ev_get (q := 43) dX3_ready_40 fr_X3_40 rfl (lt_n hn (by decide)) rfl rfl ?_
      refine ev_iconst (q := 44) (0) dX3_ready_43 (by decide) rfl ?_
      refine ev_iconst (q := 45) (-1) dX3_ready_44 (by decide) rfl ?_
      refine ev_aload_n (q := 46) dX3_ready_45 rfl rfl ?_
      refine ev_get (q := 49) dX3_ready_46 fr_X3_15 rfl (lt_n hn (by decide)) rfl rfl ?_
      refine ev_callSn4v (q := 52) dX3_ready_49 ca_X3_33 hf2 (Nat.le_of_ble_eq_true rfl) (Nat.le_of_ble_eq_true rfl) (by decide) (by decide) rfl ?_
      refine ev_goto 70 dX3_ready_52 (by decide) ?_
      exact ev_retE dX3_ready_70 rfl rfl rfl hQ
  · have e2 : rdS I S wy wi = fillA (fillA S 22 64 (rdF I wi)) 23 64 (rdF I wi) := by unfold rdS; congr 1; funext w; unfold rdG; rw [if_neg h1]
    have e3 := cpy_fill (S := fillA S 22 64 (rdF I wi)) (F := rdF I wi) (fun w hw => fillA_at (S := S) (p := 22) hw)
    rw [e2] at hQ
    refine ev_aload_n (q := 1) dX3_ready_0 rfl rfl ?_
    refine ev_get (q := 4) dX3_ready_1 fr_X3_18 rfl (lt_n hn (by decide)) rfl rfl ?_
    refine ev_get (q := 7) dX3_ready_4 fr_X3_26 rfl (lt_n hn (by decide)) rfl rfl ?_
    refine ev_aload_n (q := 8) dX3_ready_7 rfl rfl ?_
    refine ev_get (q := 11) dX3_ready_8 fr_X3_18 rfl (lt_n hn (by decide)) rfl rfl ?_
    refine ev_get (q := 14) dX3_ready_11 fr_X3_29 rfl (lt_n hn (by decide)) rfl rfl ?_
    refine ev_bipush (q := 16) (6) dX3_ready_14 (by decide) rfl ?_
    rw [show ov I S 1 3 = nI wi from hk.2.1.2.2.2.1]
    refine ev_imul (q := 17) dX3_ready_16 rfl ?_
    refine ev_iconst (q := 18) (1) dX3_ready_17 (by decide) rfl ?_
    refine ev_aload_n (q := 19) dX3_ready_18 rfl rfl ?_
    refine ev_get (q := 22) dX3_ready_19 fr_X3_9 rfl (lt_n hn (by decide)) rfl rfl ?_
    rw [show nI wi * 6 = nI (6 * wi) from (pk_mul wi 6).trans (by rw [Nat.mul_comm])]
    refine ev_callSn4v (q := 25) dX3_ready_22 ca_X3_33 hf (Nat.le_of_ble_eq_true rfl) (Nat.le_of_ble_eq_true rfl) (by decide) (by decide) rfl ?_
    refine ev_aload_n (q := 26) dX3_ready_25 rfl rfl ?_
    refine ev_get (q := 29) dX3_ready_26 fr_X3_18 rfl (lt_n hn (by decide)) rfl rfl ?_
    refine ev_get (q := 32) dX3_ready_29 fr_X3_37 rfl (lt_n hn (by decide)) rfl rfl ?_
    refine ev_iconst (q := 33) (1) dX3_ready_32 (by decide) rfl ?_
    rw [show ov I (fillA S 22 64 (rdF I wi)) 1 2 = nI wy from hk.2.1.2.2.1]
    refine ev_icmp_ne (q := 36) 55 dX3_ready_33 (by decide) rfl (fun c_33 => ?_) (fun c_33 => ?_)
    · refine ev_aload_n (q := 56) dX3_ready_55 rfl rfl ?_
      refine ev_get (q := 59) dX3_ready_56 fr_X3_9 rfl (lt_n hn (by decide)) rfl rfl ?_
      refine ev_iconst (q := 60) (0) dX3_ready_59 (by decide) rfl ?_
      refine ev_aload_n (q := 61) dX3_ready_60 rfl rfl ?_
      refine ev_get (q := 64) dX3_ready_61 fr_X3_15 rfl (lt_n hn (by decide)) rfl rfl ?_
      refine ev_iconst (q := 65) (0) dX3_ready_64 (by decide) rfl ?_
      refine ev_bipush (q := 67) (64) dX3_ready_65 (by decide) rfl ?_
      refine ev_cpyI (q := 70) dX3_ready_67 (tb_in (tt_2 179 rfl) rfl) rfl (lt_n hn (by decide)) rfl (lt_n hn (by decide)) (by decide) (by decide) (by decide) (by decide) (by decide) (by decide) (by decide) rfl ?_
      rw [show setI (ov I (fillA S 22 64 (rdF I wi))) 23 (va_cpy (ov I (fillA S 22 64 (rdF I wi)) 22) (ov I (fillA S 22 64 (rdF I wi)) 23) (0 : Int32).toNatClampNeg (0 : Int32).toNatClampNeg (64 : Int32).toNatClampNeg) = ov I (fillA (fillA S 22 64 (rdF I wi)) 23 64 (rdF I wi)) from by rw [ovI_s _ (fun j => rfl), ← e3]; rfl]
      exact ev_retE dX3_ready_70 rfl rfl rfl hQ
    · exact absurd ((nI_eq (b := 1) (by omega) (by decide)).mp c_33) h1
theorem k_X3_outcome {Z : Int64} {a : Nat} (hn : 49 ≤ n) (hk : KI I J t sl wy wi he) (hr : RD I S wy wi) (hZ : ∀ w, 2 ^ t ≤ w → lbit Z w = false) (ha : a < 2 ^ t) : Rn xl xs 3 73 0 0 mX3_outcome [.ref 21, .long Z, .int (nI a)] n (sysH (ov I S) (ovJ J T) X) (some (.int (e3 (upto (mkF (lkF I t wy wi a) Z) (2 ^ t) none)))) n (sysH (ov I S) (ovJ J T) X) := by
  intro Q hQ
  have h6 := hk.1.2.2.1
  have h64 := p2_le h6
  have h3 := hk.1.2.2.2.2.2.2.1
  rw [← ls_mk h6 hZ (fun v w hv hw => lk_cmp (a := a) hk hr v w hv hw)] at hQ
  show Ev xl xs 3 73 0 0 mX3_outcome 0 [some (.ref 21), some (.long Z), none, some (.int (nI a))] [] n (sysH (ov I S) (ovJ J T) X) Q
  by_cases h2 : wy = 2
  · rw [if_pos h2] at hQ
    refine ev_lload_n (q := 1) dX3_outcome_0 rfl rfl ?_
    refine ev_aload_n (q := 2) dX3_outcome_1 rfl rfl ?_
    refine ev_get (q := 5) dX3_outcome_2 fr_X3_15 rfl (lt_n hn (by decide)) rfl rfl ?_
    refine ev_iload_n (q := 6) dX3_outcome_5 rfl rfl ?_
    refine ev_aload_n (q := 7) dX3_outcome_6 rfl rfl ?_
    refine ev_get (q := 10) dX3_outcome_7 fr_X3_18 rfl (lt_n hn (by decide)) rfl rfl ?_
    refine ev_get (q := 13) dX3_outcome_10 fr_X3_37 rfl (lt_n hn (by decide)) rfl rfl ?_
    refine ev_iconst (q := 14) (2) dX3_outcome_13 (by decide) rfl ?_
    rw [show ov I S 1 2 = nI wy from hk.2.1.2.2.1]
    refine ev_icmp_ne (q := 17) 23 dX3_outcome_14 (by decide) rfl (fun c_14 => ?_) (fun c_14 => ?_)
    · exact absurd (by rw [h2]; rfl) c_14
    · refine ev_sipush (q := 20) (1000) dX3_outcome_17 (by decide) rfl ?_
      refine ev_goto 24 dX3_outcome_20 (by decide) ?_
      refine ev_callSn4i (q := 27) dX3_outcome_24 ca_X3_49 (k_least_23 hn (by omega)) (Nat.le_of_ble_eq_true rfl) (Nat.le_of_ble_eq_true rfl) (by decide) (by decide) rfl ?_
      exact ev_iretE dX3_outcome_27 rfl rfl rfl rfl rfl hQ
  · rw [if_neg h2] at hQ
    refine ev_lload_n (q := 1) dX3_outcome_0 rfl rfl ?_
    refine ev_aload_n (q := 2) dX3_outcome_1 rfl rfl ?_
    refine ev_get (q := 5) dX3_outcome_2 fr_X3_15 rfl (lt_n hn (by decide)) rfl rfl ?_
    refine ev_iload_n (q := 6) dX3_outcome_5 rfl rfl ?_
    refine ev_aload_n (q := 7) dX3_outcome_6 rfl rfl ?_
    refine ev_get (q := 10) dX3_outcome_7 fr_X3_18 rfl (lt_n hn (by decide)) rfl rfl ?_
    refine ev_get (q := 13) dX3_outcome_10 fr_X3_37 rfl (lt_n hn (by decide)) rfl rfl ?_
    refine ev_iconst (q := 14) (2) dX3_outcome_13 (by decide) rfl ?_
    rw [show ov I S 1 2 = nI wy from hk.2.1.2.2.1]
    refine ev_icmp_ne (q := 17) 23 dX3_outcome_14 (by decide) rfl (fun c_14 => ?_) (fun c_14 => ?_)
    · refine ev_iconst (q := 24) (0) dX3_outcome_23 (by decide) rfl ?_
      refine ev_callSn4i (q := 27) dX3_outcome_24 ca_X3_49 (k_least_23 hn (by omega)) (Nat.le_of_ble_eq_true rfl) (Nat.le_of_ble_eq_true rfl) (by decide) (by decide) rfl ?_
      exact ev_iretE dX3_outcome_27 rfl rfl rfl rfl rfl hQ
    · exact absurd ((nI_eq (b := 2) (by omega) (by decide)).mp c_14) h2
theorem c_X3_movedBy {x : Int64} {b : Nat} (hb : b < 64) : Rn xl xs 0 0 0 0 mX3_movedBy [.long x, .int (nI b)] n h (some (.long (mvB x b))) n h := by
  intro Q hQ
  show Ev xl xs 0 0 0 0 mX3_movedBy 0 [some (.long x), none, some (.int (nI b)), none, none, none] [] n h Q
  have lp : ∀ j i, i + j = 6 → Ev xl xs 0 0 0 0 mX3_movedBy 5 [some (.long x), none, some (.int (nI b)), some (.long (mvB x (b % 2 ^ i))), none, some (.int (nI i))] [] n h Q := by
    intro j
    induction j using Nat.strongRecOn with
    | _ j ih =>
      intro i hi
      have e : ∀ h1, _ := fun (h1 : j - 1 < j) => ih (j - 1) h1 (i + 1)
      refine ev_iload (q := 7) dX3_movedBy_5 rfl rfl ?_
      refine ev_bipush (q := 9) (6) dX3_movedBy_7 (by decide) rfl ?_
      refine ev_icmp_ge (q := 12) 59 dX3_movedBy_9 (by decide) rfl (fun c_9 => ?_) (fun c_9 => ?_)
      · have c_9 : 6 ≤ i := (nI_leI (a := 6) (by omega) (by omega)).mp c_9
        refine ev_lload_n (q := 60) dX3_movedBy_59 rfl rfl ?_
        exact ev_lretE dX3_movedBy_60 rfl (by rw [show i = 6 by omega, Nat.mod_eq_of_lt hb]) rfl rfl hQ
      · have c_9 : ¬ 6 ≤ i := fun h => c_9 ((nI_leI (a := 6) (by omega) (by omega)).mpr h)
        have e := e (by omega) (by omega)
        rw [mod_x i (by omega) b hb] at e
        refine ev_iload_n (q := 13) dX3_movedBy_12 rfl rfl ?_
        refine ev_iload (q := 15) dX3_movedBy_13 rfl rfl ?_
        refine ev_ishr (q := 16) dX3_movedBy_15 rfl ?_
        refine ev_iconst (q := 17) (1) dX3_movedBy_16 (by decide) rfl ?_
        refine ev_iand (q := 18) dX3_movedBy_17 rfl ?_
        rw [nI_bit (by omega) (by omega)]
        refine ev_if_eq (q := 21) 53 dX3_movedBy_18 (by decide) rfl (fun c_18 => ?_) (fun c_18 => ?_)
        · have c_18 : b.testBit i = false := by cases hx : b.testBit i with | false => rfl | true => rw [hx] at c_18; exact absurd c_18 (by decide)
          rw [c_18, if_neg (by decide)] at e
          refine ev_inc_5 (q := 56) (nI (i + 1)) dX3_movedBy_53 (nI_1 i) rfl rfl ?_
          refine ev_goto 5 dX3_movedBy_56 (by decide) ?_
          exact e
        · have c_18 : b.testBit i = true := by cases hx : b.testBit i with | true => rfl | false => rw [hx] at c_18; exact absurd rfl c_18
          rw [c_18, if_pos rfl] at e
          refine ev_lload_n (q := 22) dX3_movedBy_21 rfl rfl ?_
          refine ev_getsN (q := 25) (k := 2) dX3_movedBy_22 rfl (List.mem_filter.mpr ⟨tt_3 31 rfl, rfl⟩) rfl ?_
          refine ev_iload (q := 27) dX3_movedBy_25 rfl rfl ?_
          refine ev_flald (q := 28) dX3_movedBy_27 rfl (vin (by omega) (by decide)) (fz_so (by omega)) rfl ?_
          refine ev_land (q := 29) dX3_movedBy_28 rfl ?_
          refine ev_iconst (q := 30) (1) dX3_movedBy_29 (by decide) rfl ?_
          refine ev_iload (q := 32) dX3_movedBy_30 rfl rfl ?_
          refine ev_ishl (q := 33) dX3_movedBy_32 rfl ?_
          refine ev_lushr (q := 34) dX3_movedBy_33 rfl ?_
          refine ev_lload_n (q := 35) dX3_movedBy_34 rfl rfl ?_
          refine ev_getsN (q := 38) (k := 2) dX3_movedBy_35 rfl (List.mem_filter.mpr ⟨tt_3 31 rfl, rfl⟩) rfl ?_
          refine ev_iload (q := 40) dX3_movedBy_38 rfl rfl ?_
          refine ev_flald (q := 41) dX3_movedBy_40 rfl (vin (by omega) (by decide)) (fz_so (by omega)) rfl ?_
          refine ev_ldc2 (q := 44) co_X3_112 dX3_movedBy_41 rfl ?_
          refine ev_lxor (q := 45) dX3_movedBy_44 rfl ?_
          refine ev_land (q := 46) dX3_movedBy_45 rfl ?_
          refine ev_iconst (q := 47) (1) dX3_movedBy_46 (by decide) rfl ?_
          refine ev_iload (q := 49) dX3_movedBy_47 rfl rfl ?_
          refine ev_ishl (q := 50) dX3_movedBy_49 rfl ?_
          refine ev_lshl (q := 51) dX3_movedBy_50 rfl ?_
          refine ev_lor (q := 52) dX3_movedBy_51 rfl ?_
          rw [nI_sh1 (by omega)]
          rw [show ((mvB x (b % 2 ^ i) &&& soB i).toUInt64 >>> ((nI (2 ^ i)).toInt64.toUInt64 &&& Int64.toUInt64 63)).toInt64 ||| (mvB x (b % 2 ^ i) &&& (soB i ^^^ (-1))) <<< ((nI (2 ^ i)).toInt64 &&& 63) = mvB x (2 ^ i ^^^ (b % 2 ^ i)) from l_ext (fun w hw => by rw [mv_1 (by omega) hw, mvB_b hw, mvB_b (Nat.xor_lt_two_pow (n := 6) hw (Nat.pow_lt_pow_right (by decide) (by omega))), Nat.xor_assoc])]
          refine ev_lst_3 (q := 53) dX3_movedBy_52 rfl rfl ?_
          refine ev_inc_5 (q := 56) (nI (i + 1)) dX3_movedBy_53 (nI_1 i) rfl rfl ?_
          refine ev_goto 5 dX3_movedBy_56 (by decide) ?_
          exact e
  refine ev_lload_n (q := 1) dX3_movedBy_0 rfl rfl ?_
  refine ev_lst_3 (q := 2) dX3_movedBy_1 rfl rfl ?_
  refine ev_iconst (q := 3) (0) dX3_movedBy_2 (by decide) rfl ?_
  refine ev_ist_5 (q := 5) dX3_movedBy_3 rfl rfl ?_
  have e := lp 6 0 (by omega)
  rw [show mvB x (b % 2 ^ 0) = x from l_ext (fun w hw => by rw [mvB_b hw, Nat.pow_zero, Nat.mod_one, Nat.xor_zero])] at e
  exact e
theorem k_X3_termWorlds {num a : Nat} (hn : 49 ≤ n) (hk : KI I J t sl wy wi he) (ht : TOK I J t) (hu : num < 3 ^ t) (ha : a < 2 ^ t) : Rn xl xs 1 25 0 0 mX3_termWorlds [.ref 21, .int (nI num), .int (nI a)] n (sysH (ov I S) (ovJ J T) X) (some (.long (mk64 (ktT J t sl num a) (2 ^ t)))) n (sysH (ov I S) (ovJ J T) X) := by
  intro Q hQ
  have h6 := hk.1.2.2.1
  have h64 := p2_le h6
  have h729 := p3_le h6
  have hs6 := hk.1.2.2.2.2.1
  obtain ⟨h17, h18, h19⟩ := ht.2.1 num hu
  have hlaw := hk.2.2.1.2
  have hy := tmask_lt2 1 t num
  have hz := tmask_lt2 2 t num
  have hsd : tmask 1 t num t ||| tmask 2 t num t < 2 ^ t := Nat.or_lt_two_pow hy hz
  have hpd := pop_D t (by omega) _ hsd
  have aim := fun w => aim_eq (t := t) (num := num) (a := a) (w := w)
  show Ev xl xs 1 25 0 0 mX3_termWorlds 0 [some (.ref 21), some (.int (nI num)), some (.int (nI a)), none, none, none, none] [] n (sysH (ov I S) (ovJ J T) X) Q
  have bits : ∀ w, w < 64 → lbit (mk64 (ktT J t sl num a) (2 ^ t)) w = (lbit (J 19 num) w && (lbit (J 33 8) w && decide (pop 6 ((w ^^^ a) &&& (63 ^^^ (tmask 1 t num t ||| tmask 2 t num t))) ≤ sl))) := by
    intro w hw
    rw [mk64_bit _ _ h64, h19 w hw]
    unfold ktT ktF
    by_cases h : w < 2 ^ t
    · rw [decide_eq_true h, Bool.true_and, Bool.and_assoc]
    · rw [decide_eq_false h, hlaw w (by omega)]; simp
  by_cases hc : sl < t - pop 6 (tmask 1 t num t ||| tmask 2 t num t)
  · have hr : J 19 num &&& J 33 8 &&& mvB (fewB sl) ((a &&& (63 ^^^ (tmask 1 t num t ||| tmask 2 t num t))) ||| tmask 1 t num t) = mk64 (ktT J t sl num a) (2 ^ t) := by
      apply l_ext
      intro w hw
      have haim : (a &&& (63 ^^^ (tmask 1 t num t ||| tmask 2 t num t))) ||| tmask 1 t num t < 64 := Nat.or_lt_two_pow (n := 6) (Nat.lt_of_le_of_lt Nat.and_le_left (by omega)) (by omega)
      rw [bits w hw, lb_and, lb_and, mvB_b hw, fewB_b sl (by omega) _ (Nat.xor_lt_two_pow (n := 6) hw haim), Bool.and_assoc]
      cases h9 : lbit (J 19 num) w with
      | false => rfl
      | true =>
        rw [h19 w hw] at h9
        have h9 := Bool.and_eq_true_iff.mp h9
        rw [aim w hw (by omega) h6 (of_decide_eq_true h9.1) (of_decide_eq_true h9.2)]
    refine ev_aload_n (q := 1) dX3_termWorlds_0 rfl rfl ?_
    refine ev_get (q := 4) dX3_termWorlds_1 fr_X3_22 rfl (lt_n hn (by decide)) rfl rfl ?_
    refine ev_get (q := 7) dX3_termWorlds_4 fr_X3_74 rfl (lt_n hn (by decide)) rfl rfl ?_
    refine ev_iload_n (q := 8) dX3_termWorlds_7 rfl rfl ?_
    refine ev_laS (q := 9) num dX3_termWorlds_8 rfl rfl (by omega) (lt_n hn (by decide)) rfl ?_
    refine ev_aload_n (q := 10) dX3_termWorlds_9 rfl rfl ?_
    refine ev_get (q := 13) dX3_termWorlds_10 fr_X3_18 rfl (lt_n hn (by decide)) rfl rfl ?_
    refine ev_get (q := 16) dX3_termWorlds_13 fr_X3_80 rfl (lt_n hn (by decide)) rfl rfl ?_
    rw [show ovJ J T 1 5 = J 33 8 from hk.2.2.1.1, show ovJ J T 19 num = J 19 num from rfl]
    refine ev_land (q := 17) dX3_termWorlds_16 rfl ?_
    refine ev_lst_3 (q := 18) dX3_termWorlds_17 rfl rfl ?_
    refine ev_aload_n (q := 19) dX3_termWorlds_18 rfl rfl ?_
    refine ev_get (q := 22) dX3_termWorlds_19 fr_X3_22 rfl (lt_n hn (by decide)) rfl rfl ?_
    refine ev_get (q := 25) dX3_termWorlds_22 fr_X3_84 rfl (lt_n hn (by decide)) rfl rfl ?_
    refine ev_iload_n (q := 26) dX3_termWorlds_25 rfl rfl ?_
    refine ev_iaS (q := 27) num dX3_termWorlds_26 rfl rfl (by omega) (lt_n hn (by decide)) rfl ?_
    rw [show ov I S 17 num = _ from h17]
    refine ev_ist_5 (q := 29) dX3_termWorlds_27 rfl rfl ?_
    refine ev_aload_n (q := 30) dX3_termWorlds_29 rfl rfl ?_
    refine ev_get (q := 33) dX3_termWorlds_30 fr_X3_18 rfl (lt_n hn (by decide)) rfl rfl ?_
    refine ev_get (q := 36) dX3_termWorlds_33 fr_X3_87 rfl (lt_n hn (by decide)) rfl rfl ?_
    refine ev_aload_n (q := 37) dX3_termWorlds_36 rfl rfl ?_
    refine ev_get (q := 40) dX3_termWorlds_37 fr_X3_18 rfl (lt_n hn (by decide)) rfl rfl ?_
    refine ev_get (q := 43) dX3_termWorlds_40 fr_X3_90 rfl (lt_n hn (by decide)) rfl rfl ?_
    refine ev_iload (q := 45) dX3_termWorlds_43 rfl rfl ?_
    refine ev_callS1i (q := 48) dX3_termWorlds_45 ca_X3_93 (c_bitI (by omega)) (Nat.le_of_ble_eq_true rfl) (Nat.le_of_ble_eq_true rfl) (by decide) (by decide) rfl ?_
    rw [show ov I S 1 0 = nI t from hk.2.1.1]
    refine ev_isub (q := 49) dX3_termWorlds_48 rfl ?_
    rw [pk_sub hpd, show ov I S 1 4 = nI sl from hk.2.1.2.2.2.2]
    refine ev_icmp_ge (q := 52) 89 dX3_termWorlds_49 (by decide) rfl (fun c_49 => ?_) (fun c_49 => ?_)
    · exact absurd ((nI_leI (by omega) (by omega)).mp c_49) (by omega)
    · refine ev_iload_n (q := 53) dX3_termWorlds_52 rfl rfl ?_
      refine ev_iload (q := 55) dX3_termWorlds_53 rfl rfl ?_
      refine ev_iconst (q := 56) (-1) dX3_termWorlds_55 (by decide) rfl ?_
      refine ev_ixor (q := 57) dX3_termWorlds_56 rfl ?_
      refine ev_iand (q := 58) dX3_termWorlds_57 rfl ?_
      refine ev_aload_n (q := 59) dX3_termWorlds_58 rfl rfl ?_
      refine ev_get (q := 62) dX3_termWorlds_59 fr_X3_22 rfl (lt_n hn (by decide)) rfl rfl ?_
      refine ev_get (q := 65) dX3_termWorlds_62 fr_X3_99 rfl (lt_n hn (by decide)) rfl rfl ?_
      refine ev_iload_n (q := 66) dX3_termWorlds_65 rfl rfl ?_
      refine ev_iaS (q := 67) num dX3_termWorlds_66 rfl rfl (by omega) (lt_n hn (by decide)) rfl ?_
      refine ev_ior (q := 68) dX3_termWorlds_67 rfl ?_
      rw [nI_not (by omega) (by omega), show ov I S 18 num = _ from h18, nI_or]
      refine ev_ist_6 (q := 70) dX3_termWorlds_68 rfl rfl ?_
      refine ev_lload_n (q := 71) dX3_termWorlds_70 rfl rfl ?_
      refine ev_getsN (q := 74) (k := 3) dX3_termWorlds_71 rfl (List.mem_filter.mpr ⟨tt_3 26 rfl, rfl⟩) rfl ?_
      refine ev_aload_n (q := 75) dX3_termWorlds_74 rfl rfl ?_
      refine ev_get (q := 78) dX3_termWorlds_75 fr_X3_18 rfl (lt_n hn (by decide)) rfl rfl ?_
      refine ev_get (q := 81) dX3_termWorlds_78 fr_X3_87 rfl (lt_n hn (by decide)) rfl rfl ?_
      rw [show ov I S 1 4 = nI sl from hk.2.1.2.2.2.2]
      refine ev_flald (q := 82) dX3_termWorlds_81 rfl (vin (by omega) (by decide)) (fz_few (by omega)) rfl ?_
      refine ev_iload (q := 84) dX3_termWorlds_82 rfl rfl ?_
      refine ev_callS2l (q := 87) dX3_termWorlds_84 ca_X3_105 (c_X3_movedBy (Nat.or_lt_two_pow (n := 6) (Nat.lt_of_le_of_lt Nat.and_le_left (by omega)) (by omega))) (Nat.le_of_ble_eq_true rfl) (Nat.le_of_ble_eq_true rfl) (by decide) (by decide) rfl ?_
      refine ev_land (q := 88) dX3_termWorlds_87 rfl ?_
      refine ev_lst_3 (q := 89) dX3_termWorlds_88 rfl rfl ?_
      refine ev_lload_n (q := 90) dX3_termWorlds_89 rfl rfl ?_
      exact ev_lretE dX3_termWorlds_90 rfl hr rfl rfl hQ
  · have hr : J 19 num &&& J 33 8 = mk64 (ktT J t sl num a) (2 ^ t) := by
      apply l_ext
      intro w hw
      rw [bits w hw, lb_and]
      by_cases hw2 : w < 2 ^ t
      · have := pop_E t (by omega) _ (Nat.xor_lt_two_pow hw2 ha) _ hsd
        rw [decide_eq_true (show pop 6 ((w ^^^ a) &&& (63 ^^^ (tmask 1 t num t ||| tmask 2 t num t))) ≤ sl by omega), Bool.and_true]
      · rw [hlaw w (by omega)]; simp
    refine ev_aload_n (q := 1) dX3_termWorlds_0 rfl rfl ?_
    refine ev_get (q := 4) dX3_termWorlds_1 fr_X3_22 rfl (lt_n hn (by decide)) rfl rfl ?_
    refine ev_get (q := 7) dX3_termWorlds_4 fr_X3_74 rfl (lt_n hn (by decide)) rfl rfl ?_
    refine ev_iload_n (q := 8) dX3_termWorlds_7 rfl rfl ?_
    refine ev_laS (q := 9) num dX3_termWorlds_8 rfl rfl (by omega) (lt_n hn (by decide)) rfl ?_
    refine ev_aload_n (q := 10) dX3_termWorlds_9 rfl rfl ?_
    refine ev_get (q := 13) dX3_termWorlds_10 fr_X3_18 rfl (lt_n hn (by decide)) rfl rfl ?_
    refine ev_get (q := 16) dX3_termWorlds_13 fr_X3_80 rfl (lt_n hn (by decide)) rfl rfl ?_
    rw [show ovJ J T 1 5 = J 33 8 from hk.2.2.1.1, show ovJ J T 19 num = J 19 num from rfl]
    refine ev_land (q := 17) dX3_termWorlds_16 rfl ?_
    refine ev_lst_3 (q := 18) dX3_termWorlds_17 rfl rfl ?_
    refine ev_aload_n (q := 19) dX3_termWorlds_18 rfl rfl ?_
    refine ev_get (q := 22) dX3_termWorlds_19 fr_X3_22 rfl (lt_n hn (by decide)) rfl rfl ?_
    refine ev_get (q := 25) dX3_termWorlds_22 fr_X3_84 rfl (lt_n hn (by decide)) rfl rfl ?_
    refine ev_iload_n (q := 26) dX3_termWorlds_25 rfl rfl ?_
    refine ev_iaS (q := 27) num dX3_termWorlds_26 rfl rfl (by omega) (lt_n hn (by decide)) rfl ?_
    rw [show ov I S 17 num = _ from h17]
    refine ev_ist_5 (q := 29) dX3_termWorlds_27 rfl rfl ?_
    refine ev_aload_n (q := 30) dX3_termWorlds_29 rfl rfl ?_
    refine ev_get (q := 33) dX3_termWorlds_30 fr_X3_18 rfl (lt_n hn (by decide)) rfl rfl ?_
    refine ev_get (q := 36) dX3_termWorlds_33 fr_X3_87 rfl (lt_n hn (by decide)) rfl rfl ?_
    refine ev_aload_n (q := 37) dX3_termWorlds_36 rfl rfl ?_
    refine ev_get (q := 40) dX3_termWorlds_37 fr_X3_18 rfl (lt_n hn (by decide)) rfl rfl ?_
    refine ev_get (q := 43) dX3_termWorlds_40 fr_X3_90 rfl (lt_n hn (by decide)) rfl rfl ?_
    refine ev_iload (q := 45) dX3_termWorlds_43 rfl rfl ?_
    refine ev_callS1i (q := 48) dX3_termWorlds_45 ca_X3_93 (c_bitI (by omega)) (Nat.le_of_ble_eq_true rfl) (Nat.le_of_ble_eq_true rfl) (by decide) (by decide) rfl ?_
    rw [show ov I S 1 0 = nI t from hk.2.1.1]
    refine ev_isub (q := 49) dX3_termWorlds_48 rfl ?_
    rw [pk_sub hpd, show ov I S 1 4 = nI sl from hk.2.1.2.2.2.2]
    refine ev_icmp_ge (q := 52) 89 dX3_termWorlds_49 (by decide) rfl (fun c_49 => ?_) (fun c_49 => ?_)
    · refine ev_lload_n (q := 90) dX3_termWorlds_89 rfl rfl ?_
      exact ev_lretE dX3_termWorlds_90 rfl hr rfl rfl hQ
    · exact absurd ((nI_leI (by omega) (by omega)).mpr (by omega)) c_49
theorem mk64_hi {p : Nat → Bool} {k w : Nat} (hk : k ≤ 64) (h : k ≤ w) : lbit (mk64 p k) w = false := by rw [mk64_bit _ _ hk, decide_eq_false (by omega), Bool.false_and]
theorem k_X3_ofTerm {num a : Nat} (hn : 49 ≤ n) (hk : KI I J t sl wy wi he) (ht : TOK I J t) (hr : RD I S wy wi) (hu : num < 3 ^ t) (ha : a < 2 ^ t) : Rn xl xs 4 96 0 0 mX3_ofTerm [.ref 21, .int (nI num), .int (nI a)] n (sysH (ov I S) (ovJ J T) X) (some (.int (e3 (mtF I J t sl wy wi num a)))) n (sysH (ov I S) (ovJ J T) X) := by
  intro Q hQ
  show Ev xl xs 4 96 0 0 mX3_ofTerm 0 [some (.ref 21), some (.int (nI num)), some (.int (nI a))] [] n (sysH (ov I S) (ovJ J T) X) Q
  refine ev_aload_n (q := 1) dX3_ofTerm_0 rfl rfl ?_
  refine ev_aload_n (q := 2) dX3_ofTerm_1 rfl rfl ?_
  refine ev_iload_n (q := 3) dX3_ofTerm_2 rfl rfl ?_
  refine ev_iload_n (q := 4) dX3_ofTerm_3 rfl rfl ?_
  refine ev_callV2l (q := 7) dX3_ofTerm_4 ca_X3_53 (k_X3_termWorlds hn hk ht hu ha) rfl (lt_n hn (by decide)) rfl rfl (Nat.le_of_ble_eq_true rfl) (Nat.le_of_ble_eq_true rfl) (by decide) (by decide) rfl ?_
  refine ev_iload_n (q := 8) dX3_ofTerm_7 rfl rfl ?_
  refine ev_callV2i (q := 11) dX3_ofTerm_8 ca_X3_57 (k_X3_outcome hn hk hr (fun w hw => mk64_hi (p2_le hk.1.2.2.1) hw) ha) rfl (lt_n hn (by decide)) rfl rfl (Nat.le_of_ble_eq_true rfl) (Nat.le_of_ble_eq_true rfl) (by decide) (by decide) rfl ?_
  exact ev_iretE dX3_ofTerm_11 rfl rfl rfl rfl rfl hQ
theorem eo_e3 {o : Option Nat} {x : Int32} {v : Nat} (hv : v < 2 ^ 31) (hx : x = nI v) : e3 o = x ↔ eo o = x := by
  cases o with
  | none =>
    have h0 := nI_pos hv
    rw [hx]
    exact ⟨fun h => absurd (show nI v < 0 by rw [← h]; decide) h0, fun h => absurd (show nI v < 0 by rw [← h]; decide) h0⟩
  | some w => exact Iff.rfl
theorem k_X3_didAll {num : Nat} (hn : 49 ≤ n) (hk : KI I J t sl wy wi he) (ht : TOK I J t) (hr : RD I S wy wi) (hc : CMI I t c) (hu : num < 3 ^ t) : Rn xl xs 5 118 0 0 mX3_didAll [.ref 21, .int (nI num)] n (sysH (ov I S) (ovJ J T) X) (some (.int (b2i (gdL I J t sl wy wi (cfN I) c num)))) n (sysH (ov I S) (ovJ J T) X) := by
  intro Q hQ
  have h6 := hk.1.2.2.1
  have h64 := p2_le h6
  have h729 := p3_le h6
  obtain ⟨hc6, hcr, hcc, hci⟩ := hc
  show Ev xl xs 5 118 0 0 mX3_didAll 0 [some (.ref 21), some (.int (nI num)), none] [] n (sysH (ov I S) (ovJ J T) X) Q
  have lp : ∀ j i, i + j = c → upto (fun i b => b && decide (eo (mtF I J t sl wy wi num (cfN I i)) = I 40 (2 * i + 1))) i true = true → Ev xl xs 5 118 0 0 mX3_didAll 2 [some (.ref 21), some (.int (nI num)), some (.int (nI i))] [] n (sysH (ov I S) (ovJ J T) X) Q := by
    intro j
    induction j using Nat.strongRecOn with
    | _ j ih =>
      intro i hi hg
      have e : ∀ h1, _ := fun (h1 : j - 1 < j) => ih (j - 1) h1 (i + 1)
      by_cases hic : c ≤ i
      · refine ev_iload_n (q := 3) dX3_didAll_2 rfl rfl ?_
        refine ev_aload_n (q := 4) dX3_didAll_3 rfl rfl ?_
        refine ev_get (q := 7) dX3_didAll_4 fr_X3_18 rfl (lt_n hn (by decide)) rfl rfl ?_
        refine ev_get (q := 10) dX3_didAll_7 fr_X3_61 rfl (lt_n hn (by decide)) rfl rfl ?_
        rw [show ov I S 1 15 = nI c from hcc]
        refine ev_icmp_ge (q := 13) 47 dX3_didAll_10 (by decide) rfl (fun c_10 => ?_) (fun c_10 => ?_)
        · refine ev_iconst (q := 48) (1) dX3_didAll_47 (by decide) rfl ?_
          exact ev_iretE dX3_didAll_48 rfl (nar_b2i _) (gd_one (show i = c by omega) hg) rfl rfl hQ
        · exact absurd ((nI_leI (by omega) (by omega)).mpr hic) c_10
      · obtain ⟨g1, g2, g3, g4, v, hv, g5⟩ := hci i (by omega)
        have hst : upto (fun i b => b && decide (eo (mtF I J t sl wy wi num (cfN I i)) = I 40 (2 * i + 1))) (i + 1) true = decide (eo (mtF I J t sl wy wi num (cfN I i)) = I 40 (2 * i + 1)) := by
          show (upto _ i true && _) = _
          rw [hg, Bool.true_and]
        refine ev_iload_n (q := 3) dX3_didAll_2 rfl rfl ?_
        refine ev_aload_n (q := 4) dX3_didAll_3 rfl rfl ?_
        refine ev_get (q := 7) dX3_didAll_4 fr_X3_18 rfl (lt_n hn (by decide)) rfl rfl ?_
        refine ev_get (q := 10) dX3_didAll_7 fr_X3_61 rfl (lt_n hn (by decide)) rfl rfl ?_
        rw [show ov I S 1 15 = nI c from hcc]
        refine ev_icmp_ge (q := 13) 47 dX3_didAll_10 (by decide) rfl (fun c_10 => ?_) (fun c_10 => ?_)
        · exact absurd ((nI_leI (by omega) (by omega)).mp c_10) hic
        · refine ev_aload_n (q := 14) dX3_didAll_13 rfl rfl ?_
          refine ev_iload_n (q := 15) dX3_didAll_14 rfl rfl ?_
          refine ev_aload_n (q := 16) dX3_didAll_15 rfl rfl ?_
          refine ev_get (q := 19) dX3_didAll_16 fr_X3_18 rfl (lt_n hn (by decide)) rfl rfl ?_
          refine ev_get (q := 22) dX3_didAll_19 fr_X3_64 rfl (lt_n hn (by decide)) rfl rfl ?_
          refine ev_iload_n (q := 23) dX3_didAll_22 rfl rfl ?_
          refine ev_iaS (q := 24) i dX3_didAll_23 rfl rfl (by omega) (lt_n hn (by decide)) rfl ?_
          rw [show ov I S 7 i = nI (cfN I i) from g1.trans g3]
          refine ev_callV2i (q := 27) dX3_didAll_24 ca_X3_67 (k_X3_ofTerm hn hk ht hr (by omega) (by omega)) rfl (lt_n hn (by decide)) rfl rfl (Nat.le_of_ble_eq_true rfl) (Nat.le_of_ble_eq_true rfl) (by decide) (by decide) rfl ?_
          refine ev_aload_n (q := 28) dX3_didAll_27 rfl rfl ?_
          refine ev_get (q := 31) dX3_didAll_28 fr_X3_18 rfl (lt_n hn (by decide)) rfl rfl ?_
          refine ev_get (q := 34) dX3_didAll_31 fr_X3_71 rfl (lt_n hn (by decide)) rfl rfl ?_
          refine ev_iload_n (q := 35) dX3_didAll_34 rfl rfl ?_
          refine ev_iaS (q := 36) i dX3_didAll_35 rfl rfl (by omega) (lt_n hn (by decide)) rfl ?_
          rw [show ov I S 8 i = I 40 (2 * i + 1) from g2]
          refine ev_icmp_eq (q := 39) 41 dX3_didAll_36 (by decide) rfl (fun c_36 => ?_) (fun c_36 => ?_)
          · have c_36 := (eo_e3 (show v < 2 ^ 31 by omega) g5).mp c_36
            refine ev_inc_2 (q := 44) (nI (i + 1)) dX3_didAll_41 (nI_1 i) rfl rfl ?_
            refine ev_goto 2 dX3_didAll_44 (by decide) ?_
            exact e (by omega) (by omega) (by rw [hst, decide_eq_true c_36])
          · have c_36 := fun h => c_36 ((eo_e3 (show v < 2 ^ 31 by omega) g5).mpr h)
            refine ev_iconst (q := 40) (0) dX3_didAll_39 (by decide) rfl ?_
            exact ev_iretE dX3_didAll_40 rfl (nar_b2i _) (by have h9 := gdL_f (i + 1) (hst.trans (decide_eq_false c_36)) (c - (i + 1)); rw [show i + 1 + (c - (i + 1)) = c by omega] at h9; unfold gdL; rw [h9]; rfl) rfl rfl hQ
  refine ev_iconst (q := 1) (0) dX3_didAll_0 (by decide) rfl ?_
  refine ev_ist_2 (q := 2) dX3_didAll_1 rfl rfl ?_
  exact lp c 0 (by omega) rfl
end CLS3
