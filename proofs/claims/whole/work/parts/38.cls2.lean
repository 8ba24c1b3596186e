theorem dX6_fillSums_0 : decode cX6_fillSums 0 = .ok (.aload_n 3, 1) := by decide +kernel
theorem dX6_fillSums_1 : decode cX6_fillSums 1 = .ok (.iconst 0, 1) := by decide +kernel
theorem dX6_fillSums_2 : decode cX6_fillSums 2 = .ok (.iconst 0, 1) := by decide +kernel
theorem dX6_fillSums_3 : decode cX6_fillSums 3 = .ok (.iastore, 1) := by decide +kernel
theorem dX6_fillSums_4 : decode cX6_fillSums 4 = .ok (.iconst 1, 1) := by decide +kernel
theorem dX6_fillSums_5 : decode cX6_fillSums 5 = .ok (.istore 4, 2) := by decide +kernel
theorem dX6_fillSums_7 : decode cX6_fillSums 7 = .ok (.iload 4, 2) := by decide +kernel
theorem dX6_fillSums_9 : decode cX6_fillSums 9 = .ok (.bipush 64, 2) := by decide +kernel
theorem dX6_fillSums_11 : decode cX6_fillSums 11 = .ok (.if_icmp .ge 44, 3) := by decide +kernel
theorem dX6_fillSums_14 : decode cX6_fillSums 14 = .ok (.iload 4, 2) := by decide +kernel
theorem dX6_fillSums_16 : decode cX6_fillSums 16 = .ok (.iload 4, 2) := by decide +kernel
theorem dX6_fillSums_18 : decode cX6_fillSums 18 = .ok (.ineg, 1) := by decide +kernel
theorem dX6_fillSums_19 : decode cX6_fillSums 19 = .ok (.iand, 1) := by decide +kernel
theorem dX6_fillSums_20 : decode cX6_fillSums 20 = .ok (.iconst 1, 1) := by decide +kernel
theorem dX6_fillSums_21 : decode cX6_fillSums 21 = .ok (.isub, 1) := by decide +kernel
theorem dX6_fillSums_22 : decode cX6_fillSums 22 = .ok (.invokestatic 337, 3) := by decide +kernel
theorem dX6_fillSums_25 : decode cX6_fillSums 25 = .ok (.istore 5, 2) := by decide +kernel
theorem dX6_fillSums_27 : decode cX6_fillSums 27 = .ok (.aload_n 3, 1) := by decide +kernel
theorem dX6_fillSums_28 : decode cX6_fillSums 28 = .ok (.iload 4, 2) := by decide +kernel
theorem dX6_fillSums_30 : decode cX6_fillSums 30 = .ok (.aload_n 3, 1) := by decide +kernel
theorem dX6_fillSums_31 : decode cX6_fillSums 31 = .ok (.iload 4, 2) := by decide +kernel
theorem dX6_fillSums_33 : decode cX6_fillSums 33 = .ok (.iload 4, 2) := by decide +kernel
theorem dX6_fillSums_35 : decode cX6_fillSums 35 = .ok (.iconst 1, 1) := by decide +kernel
theorem dX6_fillSums_36 : decode cX6_fillSums 36 = .ok (.isub, 1) := by decide +kernel
theorem dX6_fillSums_37 : decode cX6_fillSums 37 = .ok (.iand, 1) := by decide +kernel
theorem dX6_fillSums_38 : decode cX6_fillSums 38 = .ok (.iaload, 1) := by decide +kernel
theorem dX6_fillSums_39 : decode cX6_fillSums 39 = .ok (.iload_n 2, 1) := by decide +kernel
theorem dX6_fillSums_40 : decode cX6_fillSums 40 = .ok (.aload_n 0, 1) := by decide +kernel
theorem dX6_fillSums_41 : decode cX6_fillSums 41 = .ok (.iload_n 1, 1) := by decide +kernel
theorem dX6_fillSums_42 : decode cX6_fillSums 42 = .ok (.iload 5, 2) := by decide +kernel
theorem dX6_fillSums_44 : decode cX6_fillSums 44 = .ok (.iadd, 1) := by decide +kernel
theorem dX6_fillSums_45 : decode cX6_fillSums 45 = .ok (.iaload, 1) := by decide +kernel
theorem dX6_fillSums_46 : decode cX6_fillSums 46 = .ok (.imul, 1) := by decide +kernel
theorem dX6_fillSums_47 : decode cX6_fillSums 47 = .ok (.iadd, 1) := by decide +kernel
theorem dX6_fillSums_48 : decode cX6_fillSums 48 = .ok (.iastore, 1) := by decide +kernel
theorem dX6_fillSums_49 : decode cX6_fillSums 49 = .ok (.iinc 4 1, 3) := by decide +kernel
theorem dX6_fillSums_52 : decode cX6_fillSums 52 = .ok (.goto (-45), 3) := by decide +kernel
theorem dX6_fillSums_55 : decode cX6_fillSums 55 = .ok (.return_, 1) := by decide +kernel
theorem dX6_leastOf_0 : decode cX6_leastOf 0 = .ok (.bipush (-3), 2) := by decide +kernel
theorem dX6_leastOf_2 : decode cX6_leastOf 2 = .ok (.istore 5, 2) := by decide +kernel
theorem dX6_leastOf_4 : decode cX6_leastOf 4 = .ok (.iconst 0, 1) := by decide +kernel
theorem dX6_leastOf_5 : decode cX6_leastOf 5 = .ok (.istore 6, 2) := by decide +kernel
theorem dX6_leastOf_7 : decode cX6_leastOf 7 = .ok (.lload_n 0, 1) := by decide +kernel
theorem dX6_leastOf_8 : decode cX6_leastOf 8 = .ok (.lstore 7, 2) := by decide +kernel
theorem dX6_leastOf_10 : decode cX6_leastOf 10 = .ok (.lload_n 0, 1) := by decide +kernel
theorem dX6_leastOf_11 : decode cX6_leastOf 11 = .ok (.invokestatic 146, 3) := by decide +kernel
theorem dX6_leastOf_14 : decode cX6_leastOf 14 = .ok (.istore 9, 2) := by decide +kernel
theorem dX6_leastOf_16 : decode cX6_leastOf 16 = .ok (.iload 9, 2) := by decide +kernel
theorem dX6_leastOf_18 : decode cX6_leastOf 18 = .ok (.ifCond .le 62, 3) := by decide +kernel
theorem dX6_leastOf_21 : decode cX6_leastOf 21 = .ok (.lload 7, 2) := by decide +kernel
theorem dX6_leastOf_23 : decode cX6_leastOf 23 = .ok (.invokestatic 152, 3) := by decide +kernel
theorem dX6_leastOf_26 : decode cX6_leastOf 26 = .ok (.istore 10, 2) := by decide +kernel
theorem dX6_leastOf_28 : decode cX6_leastOf 28 = .ok (.lload 7, 2) := by decide +kernel
theorem dX6_leastOf_30 : decode cX6_leastOf 30 = .ok (.lload 7, 2) := by decide +kernel
theorem dX6_leastOf_32 : decode cX6_leastOf 32 = .ok (.lconst 1, 1) := by decide +kernel
theorem dX6_leastOf_33 : decode cX6_leastOf 33 = .ok (.lsub, 1) := by decide +kernel
theorem dX6_leastOf_34 : decode cX6_leastOf 34 = .ok (.land, 1) := by decide +kernel
theorem dX6_leastOf_35 : decode cX6_leastOf 35 = .ok (.lstore 7, 2) := by decide +kernel
theorem dX6_leastOf_37 : decode cX6_leastOf 37 = .ok (.aload_n 2, 1) := by decide +kernel
theorem dX6_leastOf_38 : decode cX6_leastOf 38 = .ok (.iload 10, 2) := by decide +kernel
theorem dX6_leastOf_40 : decode cX6_leastOf 40 = .ok (.iaload, 1) := by decide +kernel
theorem dX6_leastOf_41 : decode cX6_leastOf 41 = .ok (.iload 4, 2) := by decide +kernel
theorem dX6_leastOf_43 : decode cX6_leastOf 43 = .ok (.iload 10, 2) := by decide +kernel
theorem dX6_leastOf_45 : decode cX6_leastOf 45 = .ok (.iload_n 3, 1) := by decide +kernel
theorem dX6_leastOf_46 : decode cX6_leastOf 46 = .ok (.ixor, 1) := by decide +kernel
theorem dX6_leastOf_47 : decode cX6_leastOf 47 = .ok (.invokestatic 337, 3) := by decide +kernel
theorem dX6_leastOf_50 : decode cX6_leastOf 50 = .ok (.imul, 1) := by decide +kernel
theorem dX6_leastOf_51 : decode cX6_leastOf 51 = .ok (.iadd, 1) := by decide +kernel
theorem dX6_leastOf_52 : decode cX6_leastOf 52 = .ok (.istore 11, 2) := by decide +kernel
theorem dX6_leastOf_54 : decode cX6_leastOf 54 = .ok (.iload 5, 2) := by decide +kernel
theorem dX6_leastOf_56 : decode cX6_leastOf 56 = .ok (.ifCond .lt 10, 3) := by decide +kernel
theorem dX6_leastOf_59 : decode cX6_leastOf 59 = .ok (.iload 11, 2) := by decide +kernel
theorem dX6_leastOf_61 : decode cX6_leastOf 61 = .ok (.iload 6, 2) := by decide +kernel
theorem dX6_leastOf_63 : decode cX6_leastOf 63 = .ok (.if_icmp .ge 11, 3) := by decide +kernel
theorem dX6_leastOf_66 : decode cX6_leastOf 66 = .ok (.iload 10, 2) := by decide +kernel
theorem dX6_leastOf_68 : decode cX6_leastOf 68 = .ok (.istore 5, 2) := by decide +kernel
theorem dX6_leastOf_70 : decode cX6_leastOf 70 = .ok (.iload 11, 2) := by decide +kernel
theorem dX6_leastOf_72 : decode cX6_leastOf 72 = .ok (.istore 6, 2) := by decide +kernel
theorem dX6_leastOf_74 : decode cX6_leastOf 74 = .ok (.iinc 9 (-1), 3) := by decide +kernel
theorem dX6_leastOf_77 : decode cX6_leastOf 77 = .ok (.goto (-61), 3) := by decide +kernel
theorem dX6_leastOf_80 : decode cX6_leastOf 80 = .ok (.iload 5, 2) := by decide +kernel
theorem dX6_leastOf_82 : decode cX6_leastOf 82 = .ok (.ireturn, 1) := by decide +kernel
theorem dX3_ready_0 : decode cX3_ready 0 = .ok (.aload_n 0, 1) := by decide +kernel
theorem dX3_ready_1 : decode cX3_ready 1 = .ok (.getfield 18, 3) := by decide +kernel
theorem dX3_ready_4 : decode cX3_ready 4 = .ok (.getfield 26, 3) := by decide +kernel
theorem dX3_ready_7 : decode cX3_ready 7 = .ok (.aload_n 0, 1) := by decide +kernel
theorem dX3_ready_8 : decode cX3_ready 8 = .ok (.getfield 18, 3) := by decide +kernel
theorem dX3_ready_11 : decode cX3_ready 11 = .ok (.getfield 29, 3) := by decide +kernel
theorem dX3_ready_14 : decode cX3_ready 14 = .ok (.bipush 6, 2) := by decide +kernel
theorem dX3_ready_16 : decode cX3_ready 16 = .ok (.imul, 1) := by decide +kernel
theorem dX3_ready_17 : decode cX3_ready 17 = .ok (.iconst 1, 1) := by decide +kernel
theorem dX3_ready_18 : decode cX3_ready 18 = .ok (.aload_n 0, 1) := by decide +kernel
theorem dX3_ready_19 : decode cX3_ready 19 = .ok (.getfield 9, 3) := by decide +kernel
theorem dX3_ready_22 : decode cX3_ready 22 = .ok (.invokestatic 33, 3) := by decide +kernel
theorem dX3_ready_25 : decode cX3_ready 25 = .ok (.aload_n 0, 1) := by decide +kernel
theorem dX3_ready_26 : decode cX3_ready 26 = .ok (.getfield 18, 3) := by decide +kernel
theorem dX3_ready_29 : decode cX3_ready 29 = .ok (.getfield 37, 3) := by decide +kernel
theorem dX3_ready_32 : decode cX3_ready 32 = .ok (.iconst 1, 1) := by decide +kernel
theorem dX3_ready_33 : decode cX3_ready 33 = .ok (.if_icmp .ne 22, 3) := by decide +kernel
theorem dX3_ready_36 : decode cX3_ready 36 = .ok (.aload_n 0, 1) := by decide +kernel
theorem dX3_ready_37 : decode cX3_ready 37 = .ok (.getfield 18, 3) := by decide +kernel
theorem dX3_ready_40 : decode cX3_ready 40 = .ok (.getfield 40, 3) := by decide +kernel
theorem dX3_ready_43 : decode cX3_ready 43 = .ok (.iconst 0, 1) := by decide +kernel
theorem dX3_ready_44 : decode cX3_ready 44 = .ok (.iconst (-1), 1) := by decide +kernel
theorem dX3_ready_45 : decode cX3_ready 45 = .ok (.aload_n 0, 1) := by decide +kernel
theorem dX3_ready_46 : decode cX3_ready 46 = .ok (.getfield 15, 3) := by decide +kernel
theorem dX3_ready_49 : decode cX3_ready 49 = .ok (.invokestatic 33, 3) := by decide +kernel
theorem dX3_ready_52 : decode cX3_ready 52 = .ok (.goto 18, 3) := by decide +kernel
theorem dX3_ready_55 : decode cX3_ready 55 = .ok (.aload_n 0, 1) := by decide +kernel
theorem dX3_ready_56 : decode cX3_ready 56 = .ok (.getfield 9, 3) := by decide +kernel
theorem dX3_ready_59 : decode cX3_ready 59 = .ok (.iconst 0, 1) := by decide +kernel
theorem dX3_ready_60 : decode cX3_ready 60 = .ok (.aload_n 0, 1) := by decide +kernel
theorem dX3_ready_61 : decode cX3_ready 61 = .ok (.getfield 15, 3) := by decide +kernel
theorem dX3_ready_64 : decode cX3_ready 64 = .ok (.iconst 0, 1) := by decide +kernel
theorem dX3_ready_65 : decode cX3_ready 65 = .ok (.bipush 64, 2) := by decide +kernel
theorem dX3_ready_67 : decode cX3_ready 67 = .ok (.invokestatic 43, 3) := by decide +kernel
theorem dX3_ready_70 : decode cX3_ready 70 = .ok (.return_, 1) := by decide +kernel
theorem dX3_outcome_0 : decode cX3_outcome 0 = .ok (.lload_n 1, 1) := by decide +kernel
theorem dX3_outcome_1 : decode cX3_outcome 1 = .ok (.aload_n 0, 1) := by decide +kernel
theorem dX3_outcome_2 : decode cX3_outcome 2 = .ok (.getfield 15, 3) := by decide +kernel
theorem dX3_outcome_5 : decode cX3_outcome 5 = .ok (.iload_n 3, 1) := by decide +kernel
theorem dX3_outcome_6 : decode cX3_outcome 6 = .ok (.aload_n 0, 1) := by decide +kernel
theorem dX3_outcome_7 : decode cX3_outcome 7 = .ok (.getfield 18, 3) := by decide +kernel
theorem dX3_outcome_10 : decode cX3_outcome 10 = .ok (.getfield 37, 3) := by decide +kernel
theorem dX3_outcome_13 : decode cX3_outcome 13 = .ok (.iconst 2, 1) := by decide +kernel
theorem dX3_outcome_14 : decode cX3_outcome 14 = .ok (.if_icmp .ne 9, 3) := by decide +kernel
theorem dX3_outcome_17 : decode cX3_outcome 17 = .ok (.sipush 1000, 3) := by decide +kernel
theorem dX3_outcome_20 : decode cX3_outcome 20 = .ok (.goto 4, 3) := by decide +kernel
theorem dX3_outcome_23 : decode cX3_outcome 23 = .ok (.iconst 0, 1) := by decide +kernel
theorem dX3_outcome_24 : decode cX3_outcome 24 = .ok (.invokestatic 49, 3) := by decide +kernel
theorem dX3_outcome_27 : decode cX3_outcome 27 = .ok (.ireturn, 1) := by decide +kernel
theorem w_arrC : arrC := ⟨tb_in (tt_2 181 rfl) rfl, tb_in (tt_2 180 rfl) rfl, tb_in (tt_1 11 rfl) rfl⟩
theorem ovI_s {I S : Nat → Nat → Int32} {b : Nat} (f : Nat → Int32) (h : ∀ j, scb b j = true) : setI (ov I S) b f = ov I (setI S b f) := by
  funext p j
  by_cases hp : p = b
  · subst hp; simp [setI, ov, h]
  · simp [setI, ov, hp]
theorem ovI_r {I S : Nat → Nat → Int32} {b : Nat} (f : Nat → Int32) (h : ∀ j, scb b j = false) : setI (ov I S) b f = ov (setI I b f) S := by
  funext p j
  by_cases hp : p = b
  · subst hp; simp [setI, ov, h]
  · simp [setI, ov, hp]
theorem ovJ_r {J T : Nat → Nat → Int64} {b : Nat} (f : Nat → Int64) (h : scj b = false) : setJ (ovJ J T) b f = ovJ (setJ J b f) T := by
  funext p j
  by_cases hp : p = b
  · subst hp; simp [setJ, ovJ, h]
  · simp [setJ, ovJ, hp]
section CPY
variable {xl : Nat} {xs : Nat → Int32} {F L B1 B2 : Nat} {M : Mt} {pc : Nat} {lv : List (Option Value)} {st : List Value} {n q : Nat} {I : Nat → Nat → Int32} {J : Nat → Nat → Int64} {X : Nat → Option Nat} {Q : QT}
theorem ev_cpyI {idx a b na nb : Nat} {sp dp len : Int32} (d : decode M.2.1 pc = .ok (.invokestatic idx, 3)) (w0 : Cond.methodLink M.1.cls idx arraycopyName ∈ TB) (hsa : shI a = some na) (han : a < n) (hsb : shI b = some nb) (hbn : b < n) (h1 : ¬ sp < 0) (h2 : ¬ dp < 0) (h3 : ¬ len < 0) (h4 : sp.toNatClampNeg + len.toNatClampNeg ≤ na) (h5 : dp.toNatClampNeg + len.toNatClampNeg ≤ nb) (hF : 1 ≤ F) (hL : (st.map fun v => v.category).sum + (nativeFrameWords "java/lang/System" "arraycopy" 5 + 11) ≤ L) (hq : pc + 3 = q)
    (k : Ev xl xs F L B1 B2 M q lv st n (sysH (setI I b (va_cpy (I a) (I b) sp.toNatClampNeg dp.toNatClampNeg len.toNatClampNeg)) J X) Q) : Ev xl xs F L B1 B2 M pc lv (.int len :: .int dp :: .ref b :: .int sp :: .ref a :: st) n (sysH I J X) Q :=
  ev_copyI d w0 w_arrC (shI_at hsa) han (shI_at hsb) hbn h1 h2 h3 h4 h5 hF hL hq (by rw [shI_up _ hsb]; exact k)
theorem ev_cpyJ {idx a b na nb : Nat} {sp dp len : Int32} (d : decode M.2.1 pc = .ok (.invokestatic idx, 3)) (w0 : Cond.methodLink M.1.cls idx arraycopyName ∈ TB) (hsa : shJ a = some na) (han : a < n) (hsb : shJ b = some nb) (hbn : b < n) (h1 : ¬ sp < 0) (h2 : ¬ dp < 0) (h3 : ¬ len < 0) (h4 : sp.toNatClampNeg + len.toNatClampNeg ≤ na) (h5 : dp.toNatClampNeg + len.toNatClampNeg ≤ nb) (hF : 1 ≤ F) (hL : (st.map fun v => v.category).sum + (nativeFrameWords "java/lang/System" "arraycopy" 5 + 11) ≤ L) (hq : pc + 3 = q)
    (k : Ev xl xs F L B1 B2 M q lv st n (sysH I (setJ J b (va_cpy (J a) (J b) sp.toNatClampNeg dp.toNatClampNeg len.toNatClampNeg)) X) Q) : Ev xl xs F L B1 B2 M pc lv (.int len :: .int dp :: .ref b :: .int sp :: .ref a :: st) n (sysH I J X) Q :=
  ev_copyJ d w0 w_arrC (shJ_at hsa) han (shJ_at hsb) hbn h1 h2 h3 h4 h5 hF hL hq (by rw [shJ_up _ hsb]; exact k)
end CPY
def lwB (k : Nat) : Nat := (k - (k &&& (k - 1))) - 1
def lw (k : Nat) : Nat := pop 6 (lwB k)
theorem lw_A : ∀ k, k < 64 → 0 < k → (nI k &&& -(nI k)) - 1 = nI (lwB k) ∧ lwB k < 64 ∧ lw k < 6 ∧ k &&& (k - 1) < k ∧ nI k &&& (nI k - 1) = nI (k &&& (k - 1)) ∧ (∀ j, j < 6 → k.testBit j = (decide (j = lw k) || (k &&& (k - 1)).testBit j)) ∧ (k &&& (k - 1)).testBit (lw k) = false := by decide +kernel
theorem wsum_low {f : Nat → Int32} {k : Nat} (hk : k < 64) (h0 : 0 < k) : ∀ m, m ≤ 6 → wsum f m k = wsum f m (k &&& (k - 1)) + if lw k < m then f (lw k) else 0
  | 0, _ => by simp [wsum]
  | m + 1, hm => by
    obtain ⟨-, -, -, -, -, hb, hl⟩ := lw_A k hk h0
    have ih := wsum_low (f := f) hk h0 m (by omega)
    show wsum f m k + (if k.testBit m then f m else 0) = (wsum f m (k &&& (k - 1)) + (if (k &&& (k - 1)).testBit m then f m else 0)) + _
    rw [ih, hb m (by omega)]
    by_cases e : m = lw k
    · rw [← e] at hl
      rw [← e, hl, if_neg (show ¬ m < m by omega), if_pos (show m < m + 1 by omega)]
      simp
    · have : decide (m = lw k) = false := decide_eq_false e
      rw [this, Bool.false_or]
      by_cases h1 : lw k < m
      · rw [if_pos h1, if_pos (show lw k < m + 1 by omega), Int32.add_assoc, Int32.add_comm (f (lw k)), ← Int32.add_assoc]
      · rw [if_neg h1, if_neg (show ¬ lw k < m + 1 by omega), i_add0, i_add0]
/-- the first of the least -/
def lsF (sc : Nat → Int32) (Z : Int64) : Nat → Option Nat → Option Nat := fun w o => if lbit Z w then (match o with
  | none => some w
  | some v => if sc w < sc v then some w else some v) else o
def lsO (sc : Nat → Int32) (Z : Int64) : Option Nat := upto (lsF sc Z) 64 none
theorem lsF_lt {sc : Nat → Int32} {Z : Int64} : ∀ k v, upto (lsF sc Z) k none = some v → v < k ∧ lbit Z v = true
  | 0, v, h => by cases h
  | k + 1, v, h => by
    have ih := lsF_lt (sc := sc) (Z := Z) k
    have h : lsF sc Z k (upto (lsF sc Z) k none) = some v := h
    generalize upto (lsF sc Z) k none = o at h ih
    unfold lsF at h
    split at h
    · rename_i hb
      cases o with
      | none => cases h; exact ⟨by omega, hb⟩
      | some u =>
        have := ih u rfl
        dsimp only at h
        split at h <;> cases h
        · exact ⟨by omega, hb⟩
        · exact ⟨by omega, this.2⟩
    · have := ih v h; exact ⟨by omega, this.2⟩
theorem lsF_skip {sc : Nat → Int32} {Z : Int64} {p : Nat} : ∀ j, (∀ i, p ≤ i → i < p + j → lbit Z i = false) → upto (lsF sc Z) (p + j) none = upto (lsF sc Z) p none
  | 0, _ => rfl
  | j + 1, h => by
    show lsF sc Z (p + j) (upto (lsF sc Z) (p + j) none) = _
    rw [lsF_skip j (fun i h1 h2 => h i h1 (by omega))]
    unfold lsF
    rw [h (p + j) (by omega) (by omega)]
    rfl
theorem cN_0 {p : Nat → Bool} : ∀ k, cN p k = 0 → ∀ i, i < k → p i = false
  | 0, _, i, hi => absurd hi (by omega)
  | k + 1, h, i, hi => by
    unfold cN at h
    by_cases e : i = k
    · subst e
      cases hp : p i with
      | false => rfl
      | true => rw [hp] at h; simp at h
    · exact cN_0 k (by omega) i (by omega)
theorem cN_ex {p : Nat → Bool} : ∀ k, 0 < cN p k → ∃ q, q < k ∧ p q = true ∧ ∀ i, i < q → p i = false
  | 0, h => absurd h (by simp [cN])
  | k + 1, h => by
    by_cases hk : 0 < cN p k
    · obtain ⟨q, h1, h2, h3⟩ := cN_ex k hk
      exact ⟨q, by omega, h2, h3⟩
    · have h0 : cN p k = 0 := by omega
      refine ⟨k, by omega, ?_, cN_0 k h0⟩
      unfold cN at h
      cases hp : p k with
      | true => rfl
      | false => rw [hp, h0] at h; simp at h
theorem cN_clr {p : Nat → Bool} {q : Nat} (hq : p q = true) : ∀ k, q < k → cN (fun i => p i && decide (i ≠ q)) k + 1 = cN p k
  | 0, h => absurd h (by omega)
  | k + 1, h => by
    unfold cN
    by_cases e : q = k
    · subst e
      have : cN (fun i => p i && decide (i ≠ q)) q = cN p q := cN_congr (fun i hi => by simp [show i ≠ q by omega])
      rw [this, hq]; simp
    · have ih := cN_clr hq k (by omega)
      have e2 : k ≠ q := fun h => e h.symm
      simp only [e2, ne_eq, not_false_eq_true, decide_true, Bool.and_true] at ih ⊢
      omega
def upS (a : Nat) (f : Nat → Int32) (far : Int32) : Nat → Int32 := fun w => f w + far * nI (pop 6 (w ^^^ a))
section CLS2
variable {xl : Nat} {xs : Nat → Int32} {n : Nat} {h : Nat → PC} {I S : Nat → Nat → Int32} {J T : Nat → Nat → Int64} {X : Nat → Option Nat} {t sl wy wi he : Nat}
theorem k_fill_2_22 {b : Nat} {g : Int32} (hn : 49 ≤ n) (hb : b + 6 ≤ 24) : Rn xl xs 1 20 0 0 mX6_fillSums [.ref 2, .int (nI b), .int g, .ref 22] n (sysH (ov I S) (ovJ J T) X) none n (sysH (ov I (fillA S 22 64 (fun w => g * wsum (fun k => I 2 (b + k)) 6 w))) (ovJ J T) X) := by
  intro Q hQ
  show Ev xl xs 1 20 0 0 mX6_fillSums 0 [some (.ref 2), some (.int (nI b)), some (.int g), some (.ref 22), none, none] [] n (sysH (ov I S) (ovJ J T) X) Q
  have lp : ∀ j k, k + j = 64 → 0 < k → ∀ a5, Ev xl xs 1 20 0 0 mX6_fillSums 7 [some (.ref 2), some (.int (nI b)), some (.int g), some (.ref 22), some (.int (nI k)), a5] [] n (sysH (ov I (fillA S 22 k (fun w => g * wsum (fun k => I 2 (b + k)) 6 w))) (ovJ J T) X) Q := by
    intro j
    induction j using Nat.strongRecOn with
    | _ j ih =>
      intro k hk h0 a5
      have e : ∀ h1, _ := fun (h1 : j - 1 < j) => ih (j - 1) h1 (k + 1)
      by_cases hk64 : 64 ≤ k
      · have hk64 : k = 64 := by omega
        subst hk64
        refine ev_iload (q := 9) dX6_fillSums_7 rfl rfl ?_
        refine ev_bipush (q := 11) (64) dX6_fillSums_9 (by decide) rfl ?_
        refine ev_icmp_ge (q := 14) 55 dX6_fillSums_11 (by decide) rfl (fun c_11 => ?_) (fun c_11 => ?_)
        · exact ev_retE dX6_fillSums_55 rfl rfl rfl hQ
        · exact absurd (show (64 : Int32) ≤ nI 64 by decide) c_11
      · obtain ⟨l1, l2, l3, l4, l5, l6, l7⟩ := lw_A k (by omega) h0
        have lst := wsum_low (f := fun k => I 2 (b + k)) (show k < 64 by omega) h0 6 (Nat.le_refl _)
        rw [if_pos l3] at lst
        refine ev_iload (q := 9) dX6_fillSums_7 rfl rfl ?_
        refine ev_bipush (q := 11) (64) dX6_fillSums_9 (by decide) rfl ?_
        refine ev_icmp_ge (q := 14) 55 dX6_fillSums_11 (by decide) rfl (fun c_11 => ?_) (fun c_11 => ?_)
        · exact absurd ((nI_leI (a := 64) (by omega) (by omega)).mp c_11) hk64
        · refine ev_iload (q := 16) dX6_fillSums_14 rfl rfl ?_
          refine ev_iload (q := 18) dX6_fillSums_16 rfl rfl ?_
          refine ev_ineg (q := 19) dX6_fillSums_18 rfl ?_
          refine ev_iand (q := 20) dX6_fillSums_19 rfl ?_
          refine ev_iconst (q := 21) (1) dX6_fillSums_20 (by decide) rfl ?_
          refine ev_isub (q := 22) dX6_fillSums_21 rfl ?_
          rw [l1]
          refine ev_callS1i (q := 25) dX6_fillSums_22 ca_X6_337 (c_bitI (by omega)) (Nat.le_of_ble_eq_true rfl) (Nat.le_of_ble_eq_true rfl) (by decide) (by decide) rfl ?_
          refine ev_ist_5 (q := 27) dX6_fillSums_25 rfl rfl ?_
          refine ev_aload_n (q := 28) dX6_fillSums_27 rfl rfl ?_
          refine ev_iload (q := 30) dX6_fillSums_28 rfl rfl ?_
          refine ev_aload_n (q := 31) dX6_fillSums_30 rfl rfl ?_
          refine ev_iload (q := 33) dX6_fillSums_31 rfl rfl ?_
          refine ev_iload (q := 35) dX6_fillSums_33 rfl rfl ?_
          refine ev_iconst (q := 36) (1) dX6_fillSums_35 (by decide) rfl ?_
          refine ev_isub (q := 37) dX6_fillSums_36 rfl ?_
          refine ev_iand (q := 38) dX6_fillSums_37 rfl ?_
          rw [l5]
          refine ev_iaS (q := 39) (k &&& (k - 1)) dX6_fillSums_38 rfl rfl (by omega) (lt_n hn (by decide)) rfl ?_
          rw [show ov I (fillA S 22 k (fun w => g * wsum (fun k => I 2 (b + k)) 6 w)) 22 (k &&& (k - 1)) = g * wsum (fun k => I 2 (b + k)) 6 (k &&& (k - 1)) from fillA_at (S := S) (p := 22) (N := k) (f := fun w => g * wsum (fun k => I 2 (b + k)) 6 w) (by omega)]
          refine ev_iload_n (q := 40) dX6_fillSums_39 rfl rfl ?_
          refine ev_aload_n (q := 41) dX6_fillSums_40 rfl rfl ?_
          refine ev_iload_n (q := 42) dX6_fillSums_41 rfl rfl ?_
          refine ev_iload (q := 44) dX6_fillSums_42 rfl rfl ?_
          refine ev_iadd (q := 45) dX6_fillSums_44 rfl ?_
          refine ev_iaS (q := 46) (b + lw k) dX6_fillSums_45 (nI_add _ _) rfl (by omega) (lt_n hn (by decide)) rfl ?_
          refine ev_imul (q := 47) dX6_fillSums_46 rfl ?_
          refine ev_iadd (q := 48) dX6_fillSums_47 rfl ?_
          rw [show g * wsum (fun k => I 2 (b + k)) 6 (k &&& (k - 1)) + g * ov I (fillA S 22 k (fun w => g * wsum (fun k => I 2 (b + k)) 6 w)) 2 (b + lw k) = g * wsum (fun k => I 2 (b + k)) 6 k from by rw [lst, Int32.mul_add]; rfl]
          first | refine ev_isK (q := 49) k dX6_fillSums_48 rfl rfl (by omega) (lt_n hn (by decide)) rfl rfl ?_ | refine ev_isR (q := 49) k dX6_fillSums_48 rfl rfl (by omega) (lt_n hn (by decide)) rfl rfl ?_
          rw [fillA_s S 22 k (fun w => g * wsum (fun k => I 2 (b + k)) 6 w)]
          refine ev_inc_4 (q := 52) (nI (k + 1)) dX6_fillSums_49 (nI_1 k) rfl rfl ?_
          refine ev_goto 7 dX6_fillSums_52 (by decide) ?_
          exact e (by omega) (by omega) (by omega) _
  refine ev_aload_n (q := 1) dX6_fillSums_0 rfl rfl ?_
  refine ev_iconst (q := 2) (0) dX6_fillSums_1 (by decide) rfl ?_
  refine ev_iconst (q := 3) (0) dX6_fillSums_2 (by decide) rfl ?_
  first | refine ev_isK (q := 4) 0 dX6_fillSums_3 rfl rfl (by omega) (lt_n hn (by decide)) rfl rfl ?_ | refine ev_isR (q := 4) 0 dX6_fillSums_3 rfl rfl (by omega) (lt_n hn (by decide)) rfl rfl ?_
  refine ev_iconst (q := 5) (1) dX6_fillSums_4 (by decide) rfl ?_
  refine ev_ist_4 (q := 7) dX6_fillSums_5 rfl rfl ?_
  have e := lp 63 1 (by omega) (by decide) none
  rw [show fillA S 22 1 (fun w => g * wsum (fun k => I 2 (b + k)) 6 w) = setI S 22 (upd (S 22) 0 0) from by rw [← fillA_s, fillA_0]; congr 2] at e
  exact e
theorem k_fill_3_23 {b : Nat} {g : Int32} (hn : 49 ≤ n) (hb : b + 6 ≤ 6) : Rn xl xs 1 20 0 0 mX6_fillSums [.ref 3, .int (nI b), .int g, .ref 23] n (sysH (ov I S) (ovJ J T) X) none n (sysH (ov I (fillA S 23 64 (fun w => g * wsum (fun k => I 3 (b + k)) 6 w))) (ovJ J T) X) := by
  intro Q hQ
  show Ev xl xs 1 20 0 0 mX6_fillSums 0 [some (.ref 3), some (.int (nI b)), some (.int g), some (.ref 23), none, none] [] n (sysH (ov I S) (ovJ J T) X) Q
  have lp : ∀ j k, k + j = 64 → 0 < k → ∀ a5, Ev xl xs 1 20 0 0 mX6_fillSums 7 [some (.ref 3), some (.int (nI b)), some (.int g), some (.ref 23), some (.int (nI k)), a5] [] n (sysH (ov I (fillA S 23 k (fun w => g * wsum (fun k => I 3 (b + k)) 6 w))) (ovJ J T) X) Q := by
    intro j
    induction j using Nat.strongRecOn with
    | _ j ih =>
      intro k hk h0 a5
      have e : ∀ h1, _ := fun (h1 : j - 1 < j) => ih (j - 1) h1 (k + 1)
      by_cases hk64 : 64 ≤ k
      · have hk64 : k = 64 := by omega
        subst hk64
        refine ev_iload (q := 9) dX6_fillSums_7 rfl rfl ?_
        refine ev_bipush (q := 11) (64) dX6_fillSums_9 (by decide) rfl ?_
        refine ev_icmp_ge (q := 14) 55 dX6_fillSums_11 (by decide) rfl (fun c_11 => ?_) (fun c_11 => ?_)
        · exact ev_retE dX6_fillSums_55 rfl rfl rfl hQ
        · exact absurd (show (64 : Int32) ≤ nI 64 by decide) c_11
      · obtain ⟨l1, l2, l3, l4, l5, l6, l7⟩ := lw_A k (by omega) h0
        have lst := wsum_low (f := fun k => I 3 (b + k)) (show k < 64 by omega) h0 6 (Nat.le_refl _)
        rw [if_pos l3] at lst
        refine ev_iload (q := 9) dX6_fillSums_7 rfl rfl ?_
        refine ev_bipush (q := 11) (64) dX6_fillSums_9 (by decide) rfl ?_
        refine ev_icmp_ge (q := 14) 55 dX6_fillSums_11 (by decide) rfl (fun c_11 => ?_) (fun c_11 => ?_)
        · exact absurd ((nI_leI (a := 64) (by omega) (by omega)).mp c_11) hk64
        · refine ev_iload (q := 16) dX6_fillSums_14 rfl rfl ?_
          refine ev_iload (q := 18) dX6_fillSums_16 rfl rfl ?_
          refine ev_ineg (q := 19) dX6_fillSums_18 rfl ?_
          refine ev_iand (q := 20) dX6_fillSums_19 rfl ?_
          refine ev_iconst (q := 21) (1) dX6_fillSums_20 (by decide) rfl ?_
          refine ev_isub (q := 22) dX6_fillSums_21 rfl ?_
          rw [l1]
          refine ev_callS1i (q := 25) dX6_fillSums_22 ca_X6_337 (c_bitI (by omega)) (Nat.le_of_ble_eq_true rfl) (Nat.le_of_ble_eq_true rfl) (by decide) (by decide) rfl ?_
          refine ev_ist_5 (q := 27) dX6_fillSums_25 rfl rfl ?_
          refine ev_aload_n (q := 28) dX6_fillSums_27 rfl rfl ?_
          refine ev_iload (q := 30) dX6_fillSums_28 rfl rfl ?_
          refine ev_aload_n (q := 31) dX6_fillSums_30 rfl rfl ?_
          refine ev_iload (q := 33) dX6_fillSums_31 rfl rfl ?_
          refine ev_iload (q := 35) dX6_fillSums_33 rfl rfl ?_
          refine ev_iconst (q := 36) (1) dX6_fillSums_35 (by decide) rfl ?_
          refine ev_isub (q := 37) dX6_fillSums_36 rfl ?_
          refine ev_iand (q := 38) dX6_fillSums_37 rfl ?_
          rw [l5]
          refine ev_iaS (q := 39) (k &&& (k - 1)) dX6_fillSums_38 rfl rfl (by omega) (lt_n hn (by decide)) rfl ?_
          rw [show ov I (fillA S 23 k (fun w => g * wsum (fun k => I 3 (b + k)) 6 w)) 23 (k &&& (k - 1)) = g * wsum (fun k => I 3 (b + k)) 6 (k &&& (k - 1)) from fillA_at (S := S) (p := 23) (N := k) (f := fun w => g * wsum (fun k => I 3 (b + k)) 6 w) (by omega)]
          refine ev_iload_n (q := 40) dX6_fillSums_39 rfl rfl ?_
          refine ev_aload_n (q := 41) dX6_fillSums_40 rfl rfl ?_
          refine ev_iload_n (q := 42) dX6_fillSums_41 rfl rfl ?_
          refine ev_iload (q := 44) dX6_fillSums_42 rfl rfl ?_
          refine ev_iadd (q := 45) dX6_fillSums_44 rfl ?_
          refine ev_iaS (q := 46) (b + lw k) dX6_fillSums_45 (nI_add _ _) rfl (by omega) (lt_n hn (by decide)) rfl ?_
          refine ev_imul (q := 47) dX6_fillSums_46 rfl ?_
          refine ev_iadd (q := 48) dX6_fillSums_47 rfl ?_
          rw [show g * wsum (fun k => I 3 (b + k)) 6 (k &&& (k - 1)) + g * ov I (fillA S 23 k (fun w => g * wsum (fun k => I 3 (b + k)) 6 w)) 3 (b + lw k) = g * wsum (fun k => I 3 (b + k)) 6 k from by rw [lst, Int32.mul_add]; rfl]
          first | refine ev_isK (q := 49) k dX6_fillSums_48 rfl rfl (by omega) (lt_n hn (by decide)) rfl rfl ?_ | refine ev_isR (q := 49) k dX6_fillSums_48 rfl rfl (by omega) (lt_n hn (by decide)) rfl rfl ?_
          rw [fillA_s S 23 k (fun w => g * wsum (fun k => I 3 (b + k)) 6 w)]
          refine ev_inc_4 (q := 52) (nI (k + 1)) dX6_fillSums_49 (nI_1 k) rfl rfl ?_
          refine ev_goto 7 dX6_fillSums_52 (by decide) ?_
          exact e (by omega) (by omega) (by omega) _
  refine ev_aload_n (q := 1) dX6_fillSums_0 rfl rfl ?_
  refine ev_iconst (q := 2) (0) dX6_fillSums_1 (by decide) rfl ?_
  refine ev_iconst (q := 3) (0) dX6_fillSums_2 (by decide) rfl ?_
  first | refine ev_isK (q := 4) 0 dX6_fillSums_3 rfl rfl (by omega) (lt_n hn (by decide)) rfl rfl ?_ | refine ev_isR (q := 4) 0 dX6_fillSums_3 rfl rfl (by omega) (lt_n hn (by decide)) rfl rfl ?_
  refine ev_iconst (q := 5) (1) dX6_fillSums_4 (by decide) rfl ?_
  refine ev_ist_4 (q := 7) dX6_fillSums_5 rfl rfl ?_
  have e := lp 63 1 (by omega) (by decide) none
  rw [show fillA S 23 1 (fun w => g * wsum (fun k => I 3 (b + k)) 6 w) = setI S 23 (upd (S 23) 0 0) from by rw [← fillA_s, fillA_0]; congr 2] at e
  exact e
theorem k_fill_2_31 {b : Nat} {g : Int32} (hn : 49 ≤ n) (hb : b + 6 ≤ 24) : Rn xl xs 1 20 0 0 mX6_fillSums [.ref 2, .int (nI b), .int g, .ref 31] n (sysH (ov I S) (ovJ J T) X) none n (sysH (ov I (fillA S 31 64 (fun w => g * wsum (fun k => I 2 (b + k)) 6 w))) (ovJ J T) X) := by
  intro Q hQ
  show Ev xl xs 1 20 0 0 mX6_fillSums 0 [some (.ref 2), some (.int (nI b)), some (.int g), some (.ref 31), none, none] [] n (sysH (ov I S) (ovJ J T) X) Q
  have lp : ∀ j k, k + j = 64 → 0 < k → ∀ a5, Ev xl xs 1 20 0 0 mX6_fillSums 7 [some (.ref 2), some (.int (nI b)), some (.int g), some (.ref 31), some (.int (nI k)), a5] [] n (sysH (ov I (fillA S 31 k (fun w => g * wsum (fun k => I 2 (b + k)) 6 w))) (ovJ J T) X) Q := by
    intro j
    induction j using Nat.strongRecOn with
    | _ j ih =>
      intro k hk h0 a5
      have e : ∀ h1, _ := fun (h1 : j - 1 < j) => ih (j - 1) h1 (k + 1)
      by_cases hk64 : 64 ≤ k
      · have hk64 : k = 64 := by omega
        subst hk64
        refine ev_iload (q := 9) dX6_fillSums_7 rfl rfl ?_
        refine ev_bipush (q := 11) (64) dX6_fillSums_9 (by decide) rfl ?_
        refine ev_icmp_ge (q := 14) 55 dX6_fillSums_11 (by decide) rfl (fun c_11 => ?_) (fun c_11 => ?_)
        · exact ev_retE dX6_fillSums_55 rfl rfl rfl hQ
        · exact absurd (show (64 : Int32) ≤ nI 64 by decide) c_11
      · obtain ⟨l1, l2, l3, l4, l5, l6, l7⟩ := lw_A k (by omega) h0
        have lst := wsum_low (f := fun k => I 2 (b + k)) (show k < 64 by omega) h0 6 (Nat.le_refl _)
        rw [if_pos l3] at lst
        refine ev_iload (q := 9) dX6_fillSums_7 rfl rfl ?_
        refine ev_bipush (q := 11) (64) dX6_fillSums_9 (by decide) rfl ?_
        refine ev_icmp_ge (q := 14) 55 dX6_fillSums_11 (by decide) rfl (fun c_11 => ?_) (fun c_11 => ?_)
        · exact absurd ((nI_leI (a := 64) (by omega) (by omega)).mp c_11) hk64
        · refine ev_iload (q := 16) dX6_fillSums_14 rfl rfl ?_
          refine ev_iload (q := 18) dX6_fillSums_16 rfl rfl ?_
          refine ev_ineg (q := 19) dX6_fillSums_18 rfl ?_
          refine ev_iand (q := 20) dX6_fillSums_19 rfl ?_
          refine ev_iconst (q := 21) (1) dX6_fillSums_20 (by decide) rfl ?_
          refine ev_isub (q := 22) dX6_fillSums_21 rfl ?_
          rw [l1]
          refine ev_callS1i (q := 25) dX6_fillSums_22 ca_X6_337 (c_bitI (by omega)) (Nat.le_of_ble_eq_true rfl) (Nat.le_of_ble_eq_true rfl) (by decide) (by decide) rfl ?_
          refine ev_ist_5 (q := 27) dX6_fillSums_25 rfl rfl ?_
          refine ev_aload_n (q := 28) dX6_fillSums_27 rfl rfl ?_
          refine ev_iload (q := 30) dX6_fillSums_28 rfl rfl ?_
          refine ev_aload_n (q := 31) dX6_fillSums_30 rfl rfl ?_
          refine ev_iload (q := 33) dX6_fillSums_31 rfl rfl ?_
          refine ev_iload (q := 35) dX6_fillSums_33 rfl rfl ?_
          refine ev_iconst (q := 36) (1) dX6_fillSums_35 (by decide) rfl ?_
          refine ev_isub (q := 37) dX6_fillSums_36 rfl ?_
          refine ev_iand (q := 38) dX6_fillSums_37 rfl ?_
          rw [l5]
          refine ev_iaS (q := 39) (k &&& (k - 1)) dX6_fillSums_38 rfl rfl (by omega) (lt_n hn (by decide)) rfl ?_
          rw [show ov I (fillA S 31 k (fun w => g * wsum (fun k => I 2 (b + k)) 6 w)) 31 (k &&& (k - 1)) = g * wsum (fun k => I 2 (b + k)) 6 (k &&& (k - 1)) from fillA_at (S := S) (p := 31) (N := k) (f := fun w => g * wsum (fun k => I 2 (b + k)) 6 w) (by omega)]
          refine ev_iload_n (q := 40) dX6_fillSums_39 rfl rfl ?_
          refine ev_aload_n (q := 41) dX6_fillSums_40 rfl rfl ?_
          refine ev_iload_n (q := 42) dX6_fillSums_41 rfl rfl ?_
          refine ev_iload (q := 44) dX6_fillSums_42 rfl rfl ?_
          refine ev_iadd (q := 45) dX6_fillSums_44 rfl ?_
          refine ev_iaS (q := 46) (b + lw k) dX6_fillSums_45 (nI_add _ _) rfl (by omega) (lt_n hn (by decide)) rfl ?_
          refine ev_imul (q := 47) dX6_fillSums_46 rfl ?_
          refine ev_iadd (q := 48) dX6_fillSums_47 rfl ?_
          rw [show g * wsum (fun k => I 2 (b + k)) 6 (k &&& (k - 1)) + g * ov I (fillA S 31 k (fun w => g * wsum (fun k => I 2 (b + k)) 6 w)) 2 (b + lw k) = g * wsum (fun k => I 2 (b + k)) 6 k from by rw [lst, Int32.mul_add]; rfl]
          first | refine ev_isK (q := 49) k dX6_fillSums_48 rfl rfl (by omega) (lt_n hn (by decide)) rfl rfl ?_ | refine ev_isR (q := 49) k dX6_fillSums_48 rfl rfl (by omega) (lt_n hn (by decide)) rfl rfl ?_
          rw [fillA_s S 31 k (fun w => g * wsum (fun k => I 2 (b + k)) 6 w)]
          refine ev_inc_4 (q := 52) (nI (k + 1)) dX6_fillSums_49 (nI_1 k) rfl rfl ?_
          refine ev_goto 7 dX6_fillSums_52 (by decide) ?_
          exact e (by omega) (by omega) (by omega) _
  refine ev_aload_n (q := 1) dX6_fillSums_0 rfl rfl ?_
  refine ev_iconst (q := 2) (0) dX6_fillSums_1 (by decide) rfl ?_
  refine ev_iconst (q := 3) (0) dX6_fillSums_2 (by decide) rfl ?_
  first | refine ev_isK (q := 4) 0 dX6_fillSums_3 rfl rfl (by omega) (lt_n hn (by decide)) rfl rfl ?_ | refine ev_isR (q := 4) 0 dX6_fillSums_3 rfl rfl (by omega) (lt_n hn (by decide)) rfl rfl ?_
  refine ev_iconst (q := 5) (1) dX6_fillSums_4 (by decide) rfl ?_
  refine ev_ist_4 (q := 7) dX6_fillSums_5 rfl rfl ?_
  have e := lp 63 1 (by omega) (by decide) none
  rw [show fillA S 31 1 (fun w => g * wsum (fun k => I 2 (b + k)) 6 w) = setI S 31 (upd (S 31) 0 0) from by rw [← fillA_s, fillA_0]; congr 2] at e
  exact e
theorem k_fill_2_32 {b : Nat} {g : Int32} (hn : 49 ≤ n) (hb : b + 6 ≤ 24) : Rn xl xs 1 20 0 0 mX6_fillSums [.ref 2, .int (nI b), .int g, .ref 32] n (sysH (ov I S) (ovJ J T) X) none n (sysH (ov I (fillA S 32 64 (fun w => g * wsum (fun k => I 2 (b + k)) 6 w))) (ovJ J T) X) := by
  intro Q hQ
  show Ev xl xs 1 20 0 0 mX6_fillSums 0 [some (.ref 2), some (.int (nI b)), some (.int g), some (.ref 32), none, none] [] n (sysH (ov I S) (ovJ J T) X) Q
  have lp : ∀ j k, k + j = 64 → 0 < k → ∀ a5, Ev xl xs 1 20 0 0 mX6_fillSums 7 [some (.ref 2), some (.int (nI b)), some (.int g), some (.ref 32), some (.int (nI k)), a5] [] n (sysH (ov I (fillA S 32 k (fun w => g * wsum (fun k => I 2 (b + k)) 6 w))) (ovJ J T) X) Q := by
    intro j
    induction j using Nat.strongRecOn with
    | _ j ih =>
      intro k hk h0 a5
      have e : ∀ h1, _ := fun (h1 : j - 1 < j) => ih (j - 1) h1 (k + 1)
      by_cases hk64 : 64 ≤ k
      · have hk64 : k = 64 := by omega
        subst hk64
        refine ev_iload (q := 9) dX6_fillSums_7 rfl rfl ?_
        refine ev_bipush (q := 11) (64) dX6_fillSums_9 (by decide) rfl ?_
        refine ev_icmp_ge (q := 14) 55 dX6_fillSums_11 (by decide) rfl (fun c_11 => ?_) (fun c_11 => ?_)
        · exact ev_retE dX6_fillSums_55 rfl rfl rfl hQ
        · exact absurd (show (64 : Int32) ≤ nI 64 by decide) c_11
      · obtain ⟨l1, l2, l3, l4, l5, l6, l7⟩ := lw_A k (by omega) h0
        have lst := wsum_low (f := fun k => I 2 (b + k)) (show k < 64 by omega) h0 6 (Nat.le_refl _)
        rw [if_pos l3] at lst
        refine ev_iload (q := 9) dX6_fillSums_7 rfl rfl ?_
        refine ev_bipush (q := 11) (64) dX6_fillSums_9 (by decide) rfl ?_
        refine ev_icmp_ge (q := 14) 55 dX6_fillSums_11 (by decide) rfl (fun c_11 => ?_) (fun c_11 => ?_)
        · exact absurd ((nI_leI (a := 64) (by omega) (by omega)).mp c_11) hk64
        · refine ev_iload (q := 16) dX6_fillSums_14 rfl rfl ?_
          refine ev_iload (q := 18) dX6_fillSums_16 rfl rfl ?_
          refine ev_ineg (q := 19) dX6_fillSums_18 rfl ?_
          refine ev_iand (q := 20) dX6_fillSums_19 rfl ?_
          refine ev_iconst (q := 21) (1) dX6_fillSums_20 (by decide) rfl ?_
          refine ev_isub (q := 22) dX6_fillSums_21 rfl ?_
          rw [l1]
          refine ev_callS1i (q := 25) dX6_fillSums_22 ca_X6_337 (c_bitI (by omega)) (Nat.le_of_ble_eq_true rfl) (Nat.le_of_ble_eq_true rfl) (by decide) (by decide) rfl ?_
          refine ev_ist_5 (q := 27) dX6_fillSums_25 rfl rfl ?_
          refine ev_aload_n (q := 28) dX6_fillSums_27 rfl rfl ?_
          refine ev_iload (q := 30) dX6_fillSums_28 rfl rfl ?_
          refine ev_aload_n (q := 31) dX6_fillSums_30 rfl rfl ?_
          refine ev_iload (q := 33) dX6_fillSums_31 rfl rfl ?_
          refine ev_iload (q := 35) dX6_fillSums_33 rfl rfl ?_
          refine ev_iconst (q := 36) (1) dX6_fillSums_35 (by decide) rfl ?_
          refine ev_isub (q := 37) dX6_fillSums_36 rfl ?_
          refine ev_iand (q := 38) dX6_fillSums_37 rfl ?_
          rw [l5]
          refine ev_iaS (q := 39) (k &&& (k - 1)) dX6_fillSums_38 rfl rfl (by omega) (lt_n hn (by decide)) rfl ?_
          rw [show ov I (fillA S 32 k (fun w => g * wsum (fun k => I 2 (b + k)) 6 w)) 32 (k &&& (k - 1)) = g * wsum (fun k => I 2 (b + k)) 6 (k &&& (k - 1)) from fillA_at (S := S) (p := 32) (N := k) (f := fun w => g * wsum (fun k => I 2 (b + k)) 6 w) (by omega)]
          refine ev_iload_n (q := 40) dX6_fillSums_39 rfl rfl ?_
          refine ev_aload_n (q := 41) dX6_fillSums_40 rfl rfl ?_
          refine ev_iload_n (q := 42) dX6_fillSums_41 rfl rfl ?_
          refine ev_iload (q := 44) dX6_fillSums_42 rfl rfl ?_
          refine ev_iadd (q := 45) dX6_fillSums_44 rfl ?_
          refine ev_iaS (q := 46) (b + lw k) dX6_fillSums_45 (nI_add _ _) rfl (by omega) (lt_n hn (by decide)) rfl ?_
          refine ev_imul (q := 47) dX6_fillSums_46 rfl ?_
          refine ev_iadd (q := 48) dX6_fillSums_47 rfl ?_
          rw [show g * wsum (fun k => I 2 (b + k)) 6 (k &&& (k - 1)) + g * ov I (fillA S 32 k (fun w => g * wsum (fun k => I 2 (b + k)) 6 w)) 2 (b + lw k) = g * wsum (fun k => I 2 (b + k)) 6 k from by rw [lst, Int32.mul_add]; rfl]
          first | refine ev_isK (q := 49) k dX6_fillSums_48 rfl rfl (by omega) (lt_n hn (by decide)) rfl rfl ?_ | refine ev_isR (q := 49) k dX6_fillSums_48 rfl rfl (by omega) (lt_n hn (by decide)) rfl rfl ?_
          rw [fillA_s S 32 k (fun w => g * wsum (fun k => I 2 (b + k)) 6 w)]
          refine ev_inc_4 (q := 52) (nI (k + 1)) dX6_fillSums_49 (nI_1 k) rfl rfl ?_
          refine ev_goto 7 dX6_fillSums_52 (by decide) ?_
          exact e (by omega) (by omega) (by omega) _
  refine ev_aload_n (q := 1) dX6_fillSums_0 rfl rfl ?_
  refine ev_iconst (q := 2) (0) dX6_fillSums_1 (by decide) rfl ?_
  refine ev_iconst (q := 3) (0) dX6_fillSums_2 (by decide) rfl ?_
  first | refine ev_isK (q := 4) 0 dX6_fillSums_3 rfl rfl (by omega) (lt_n hn (by decide)) rfl rfl ?_ | refine ev_isR (q := 4) 0 dX6_fillSums_3 rfl rfl (by omega) (lt_n hn (by decide)) rfl rfl ?_
  refine ev_iconst (q := 5) (1) dX6_fillSums_4 (by decide) rfl ?_
  refine ev_ist_4 (q := 7) dX6_fillSums_5 rfl rfl ?_
  have e := lp 63 1 (by omega) (by decide) none
  rw [show fillA S 32 1 (fun w => g * wsum (fun k => I 2 (b + k)) 6 w) = setI S 32 (upd (S 32) 0 0) from by rw [← fillA_s, fillA_0]; congr 2] at e
  exact e
theorem k_least_23 {Z : Int64} {a : Nat} {far : Int32} (hn : 49 ≤ n) (ha : a < 64) : Rn xl xs 2 42 0 0 mX6_leastOf [.long Z, .ref 23, .int (nI a), .int far] n (sysH (ov I S) (ovJ J T) X) (some (.int (e3 (lsO (upS a (S 23) far) Z)))) n (sysH (ov I S) (ovJ J T) X) := by
  intro Q hQ
  show Ev xl xs 2 42 0 0 mX6_leastOf 0 [some (.long Z), none, some (.ref 23), some (.int (nI a)), some (.int far), none, none, none, none, none, none, none] [] n (sysH (ov I S) (ovJ J T) X) Q
  have lp : ∀ j p lf, p ≤ 64 → (∀ i, i < 64 → lbit lf i = (decide (p ≤ i) && lbit Z i)) → cN (lbit lf) 64 = j → ∀ ls, (∀ v, upto (lsF (upS a (S 23) far) Z) p none = some v → ls = upS a (S 23) far v) → ∀ a10 a11, Ev xl xs 2 42 0 0 mX6_leastOf 16 [some (.long Z), none, some (.ref 23), some (.int (nI a)), some (.int far), some (.int (e3 (upto (lsF (upS a (S 23) far) Z) p none))), some (.int ls), some (.long lf), none, some (.int (nI j)), a10, a11] [] n (sysH (ov I S) (ovJ J T) X) Q := by
    intro j
    induction j with
    | zero =>
      intro p lf hp hlf hc ls hls a10 a11
      have hz := cN_0 64 hc
      have hsk := lsF_skip (sc := upS a (S 23) far) (Z := Z) (p := p) (64 - p) (fun i h1 h2 => by have := hlf i (by omega); rw [hz i (by omega), decide_eq_true h1, Bool.true_and] at this; exact this.symm)
      rw [show p + (64 - p) = 64 by omega] at hsk
      refine ev_iload (q := 18) dX6_leastOf_16 rfl rfl ?_
      refine ev_if_le (q := 21) 80 dX6_leastOf_18 (by decide) rfl (fun c_18 => ?_) (fun c_18 => ?_)
      · refine ev_iload (q := 82) dX6_leastOf_80 rfl rfl ?_
        exact ev_iretE dX6_leastOf_82 rfl rfl (by rw [← hsk]; rfl) rfl rfl hQ
      · exact absurd (show nI 0 ≤ 0 by decide) c_18
    | succ j ih =>
      intro p lf hp hlf hc ls hls a10 a11
      obtain ⟨w, hw, hw1, hw2⟩ := cN_ex 64 (show 0 < cN (lbit lf) 64 by omega)
      have hpw : p ≤ w ∧ lbit Z w = true := by have := hlf w hw; rw [hw1] at this; have := Bool.and_eq_true_iff.mp this.symm; exact ⟨of_decide_eq_true this.1, this.2⟩
      have hcl : ∀ i, lbit (lf &&& (lf - 1)) i = (lbit lf i && decide (i ≠ w)) := fun i => clr_l hw1 hw2 i
      have hsk := lsF_skip (sc := upS a (S 23) far) (Z := Z) (p := p) (w - p) (fun i h1 h2 => by have := hlf i (by omega); rw [hw2 i (by omega), decide_eq_true h1, Bool.true_and] at this; exact this.symm)
      rw [show p + (w - p) = w by omega] at hsk
      have hst : upto (lsF (upS a (S 23) far) Z) (w + 1) none = lsF (upS a (S 23) far) Z w (upto (lsF (upS a (S 23) far) Z) p none) := by rw [← hsk]; rfl
      have hj64 : cN (lbit lf) 64 ≤ 64 := cN_le _ _
      have hc2 : cN (lbit (lf &&& (lf - 1))) 64 = j := by have := cN_clr (p := lbit lf) hw1 64 hw; rw [← cN_congr (fun i _ => hcl i)] at this; omega
      have hlf2 : ∀ i, i < 64 → lbit (lf &&& (lf - 1)) i = (decide (w + 1 ≤ i) && lbit Z i) := by
        intro i hi
        rw [hcl i]
        by_cases h1 : i < w
        · rw [hw2 i h1, Bool.false_and, decide_eq_false (by omega), Bool.false_and]
        · by_cases h2 : i = w
          · rw [decide_eq_false (by simp [h2]), Bool.and_false, decide_eq_false (by omega), Bool.false_and]
          · rw [hlf i hi, decide_eq_true h2, Bool.and_true, decide_eq_true (show p ≤ i by omega), decide_eq_true (show w + 1 ≤ i by omega)]
      have e := ih (w + 1) (lf &&& (lf - 1)) (by omega) hlf2 hc2
      have hx : w ^^^ a < 64 := Nat.xor_lt_two_pow (n := 6) hw ha
      rw [hst] at e
      have J74 : ∀ ls a10 a11, (∀ v, lsF (upS a (S 23) far) Z w (upto (lsF (upS a (S 23) far) Z) p none) = some v → ls = upS a (S 23) far v) → Ev xl xs 2 42 0 0 mX6_leastOf 74 [some (.long Z), none, some (.ref 23), some (.int (nI a)), some (.int far), some (.int (e3 (lsF (upS a (S 23) far) Z w (upto (lsF (upS a (S 23) far) Z) p none)))), some (.int ls), some (.long (lf &&& (lf - 1))), none, some (.int (nI (j + 1))), a10, a11] [] n (sysH (ov I S) (ovJ J T) X) Q := by
        intro ls a10 a11 hls
        refine ev_inc_9 (q := 77) (nI j) dX6_leastOf_74 (pk_m1 j) rfl rfl ?_
        refine ev_goto 16 dX6_leastOf_77 (by decide) ?_
        exact e _ hls _ _
      cases ho : upto (lsF (upS a (S 23) far) Z) p none with
      | none =>
        rw [ho] at J74
        have hl : lsF (upS a (S 23) far) Z w none = some w := by unfold lsF; rw [hpw.2]; rfl
        rw [hl] at J74
        refine ev_iload (q := 18) dX6_leastOf_16 rfl rfl ?_
        refine ev_if_le (q := 21) 80 dX6_leastOf_18 (by decide) rfl (fun c_18 => ?_) (fun c_18 => ?_)
        · exact absurd c_18 (nI_nle (by omega) (by omega))
        · refine ev_lload (q := 23) dX6_leastOf_21 rfl rfl ?_
          refine ev_callS1i (q := 26) dX6_leastOf_23 ca_X6_152 (c_X6_lowestOf hw hw1 hw2) (Nat.le_of_ble_eq_true rfl) (Nat.le_of_ble_eq_true rfl) (by decide) (by decide) rfl ?_
          refine ev_ist_10 (q := 28) dX6_leastOf_26 rfl rfl ?_
          refine ev_lload (q := 30) dX6_leastOf_28 rfl rfl ?_
          refine ev_lload (q := 32) dX6_leastOf_30 rfl rfl ?_
          refine ev_lconst (q := 33) (1) dX6_leastOf_32 (by decide) rfl ?_
          refine ev_lsub (q := 34) dX6_leastOf_33 rfl ?_
          refine ev_land (q := 35) dX6_leastOf_34 rfl ?_
          refine ev_lst_7 (q := 37) dX6_leastOf_35 rfl rfl ?_
          refine ev_aload_n (q := 38) dX6_leastOf_37 rfl rfl ?_
          refine ev_iload (q := 40) dX6_leastOf_38 rfl rfl ?_
          refine ev_iaS (q := 41) w dX6_leastOf_40 rfl rfl (by omega) (lt_n hn (by decide)) rfl ?_
          refine ev_iload (q := 43) dX6_leastOf_41 rfl rfl ?_
          refine ev_iload (q := 45) dX6_leastOf_43 rfl rfl ?_
          refine ev_iload_n (q := 46) dX6_leastOf_45 rfl rfl ?_
          refine ev_ixor (q := 47) dX6_leastOf_46 rfl ?_
          rw [nI_xor]
          refine ev_callS1i (q := 50) dX6_leastOf_47 ca_X6_337 (c_bitI (by omega)) (Nat.le_of_ble_eq_true rfl) (Nat.le_of_ble_eq_true rfl) (by decide) (by decide) rfl ?_
          refine ev_imul (q := 51) dX6_leastOf_50 rfl ?_
          refine ev_iadd (q := 52) dX6_leastOf_51 rfl ?_
          refine ev_ist_11 (q := 54) dX6_leastOf_52 rfl rfl ?_
          refine ev_iload (q := 56) dX6_leastOf_54 rfl rfl ?_
          refine ev_if_lt (q := 59) 66 dX6_leastOf_56 (by decide) rfl (fun c_56 => ?_) (fun c_56 => ?_)
          · refine ev_iload (q := 68) dX6_leastOf_66 rfl rfl ?_
            refine ev_ist_5 (q := 70) dX6_leastOf_68 rfl rfl ?_
            refine ev_iload (q := 72) dX6_leastOf_70 rfl rfl ?_
            refine ev_ist_6 (q := 74) dX6_leastOf_72 rfl rfl ?_
            exact J74 _ _ _ (fun v hv => by cases hv; rfl)
          · exact absurd (show (-3 : Int32) < 0 by decide) c_56
      | some v =>
        rw [ho] at J74 hls
        have hv := (lsF_lt _ _ ho).1
        have hls := hls v rfl
        by_cases hlt : upS a (S 23) far w < upS a (S 23) far v
        · have hl : lsF (upS a (S 23) far) Z w (some v) = some w := by unfold lsF; rw [hpw.2]; simp [hlt]
          rw [hl] at J74
          refine ev_iload (q := 18) dX6_leastOf_16 rfl rfl ?_
          refine ev_if_le (q := 21) 80 dX6_leastOf_18 (by decide) rfl (fun c_18 => ?_) (fun c_18 => ?_)
          · exact absurd c_18 (nI_nle (by omega) (by omega))
          · refine ev_lload (q := 23) dX6_leastOf_21 rfl rfl ?_
            refine ev_callS1i (q := 26) dX6_leastOf_23 ca_X6_152 (c_X6_lowestOf hw hw1 hw2) (Nat.le_of_ble_eq_true rfl) (Nat.le_of_ble_eq_true rfl) (by decide) (by decide) rfl ?_
            refine ev_ist_10 (q := 28) dX6_leastOf_26 rfl rfl ?_
            refine ev_lload (q := 30) dX6_leastOf_28 rfl rfl ?_
            refine ev_lload (q := 32) dX6_leastOf_30 rfl rfl ?_
            refine ev_lconst (q := 33) (1) dX6_leastOf_32 (by decide) rfl ?_
            refine ev_lsub (q := 34) dX6_leastOf_33 rfl ?_
            refine ev_land (q := 35) dX6_leastOf_34 rfl ?_
            refine ev_lst_7 (q := 37) dX6_leastOf_35 rfl rfl ?_
            refine ev_aload_n (q := 38) dX6_leastOf_37 rfl rfl ?_
            refine ev_iload (q := 40) dX6_leastOf_38 rfl rfl ?_
            refine ev_iaS (q := 41) w dX6_leastOf_40 rfl rfl (by omega) (lt_n hn (by decide)) rfl ?_
            refine ev_iload (q := 43) dX6_leastOf_41 rfl rfl ?_
            refine ev_iload (q := 45) dX6_leastOf_43 rfl rfl ?_
            refine ev_iload_n (q := 46) dX6_leastOf_45 rfl rfl ?_
            refine ev_ixor (q := 47) dX6_leastOf_46 rfl ?_
            rw [nI_xor]
            refine ev_callS1i (q := 50) dX6_leastOf_47 ca_X6_337 (c_bitI (by omega)) (Nat.le_of_ble_eq_true rfl) (Nat.le_of_ble_eq_true rfl) (by decide) (by decide) rfl ?_
            refine ev_imul (q := 51) dX6_leastOf_50 rfl ?_
            refine ev_iadd (q := 52) dX6_leastOf_51 rfl ?_
            refine ev_ist_11 (q := 54) dX6_leastOf_52 rfl rfl ?_
            refine ev_iload (q := 56) dX6_leastOf_54 rfl rfl ?_
            refine ev_if_lt (q := 59) 66 dX6_leastOf_56 (by decide) rfl (fun c_56 => ?_) (fun c_56 => ?_)
            · exact absurd c_56 (nI_pos (by omega))
            · refine ev_iload (q := 61) dX6_leastOf_59 rfl rfl ?_
              refine ev_iload (q := 63) dX6_leastOf_61 rfl rfl ?_
              refine ev_icmp_ge (q := 66) 74 dX6_leastOf_63 (by decide) rfl (fun c_63 => ?_) (fun c_63 => ?_)
              · exact absurd (show ls ≤ upS a (S 23) far w from c_63) (by rw [hls]; simp only [i_le, i_lt] at *; omega)
              · refine ev_iload (q := 68) dX6_leastOf_66 rfl rfl ?_
                refine ev_ist_5 (q := 70) dX6_leastOf_68 rfl rfl ?_
                refine ev_iload (q := 72) dX6_leastOf_70 rfl rfl ?_
                refine ev_ist_6 (q := 74) dX6_leastOf_72 rfl rfl ?_
                exact J74 _ _ _ (fun v hv => by cases hv; rfl)
        · have hl : lsF (upS a (S 23) far) Z w (some v) = some v := by unfold lsF; rw [hpw.2]; simp [hlt]
          rw [hl] at J74
          refine ev_iload (q := 18) dX6_leastOf_16 rfl rfl ?_
          refine ev_if_le (q := 21) 80 dX6_leastOf_18 (by decide) rfl (fun c_18 => ?_) (fun c_18 => ?_)
          · exact absurd c_18 (nI_nle (by omega) (by omega))
          · refine ev_lload (q := 23) dX6_leastOf_21 rfl rfl ?_
            refine ev_callS1i (q := 26) dX6_leastOf_23 ca_X6_152 (c_X6_lowestOf hw hw1 hw2) (Nat.le_of_ble_eq_true rfl) (Nat.le_of_ble_eq_true rfl) (by decide) (by decide) rfl ?_
            refine ev_ist_10 (q := 28) dX6_leastOf_26 rfl rfl ?_
            refine ev_lload (q := 30) dX6_leastOf_28 rfl rfl ?_
            refine ev_lload (q := 32) dX6_leastOf_30 rfl rfl ?_
            refine ev_lconst (q := 33) (1) dX6_leastOf_32 (by decide) rfl ?_
            refine ev_lsub (q := 34) dX6_leastOf_33 rfl ?_
            refine ev_land (q := 35) dX6_leastOf_34 rfl ?_
            refine ev_lst_7 (q := 37) dX6_leastOf_35 rfl rfl ?_
            refine ev_aload_n (q := 38) dX6_leastOf_37 rfl rfl ?_
            refine ev_iload (q := 40) dX6_leastOf_38 rfl rfl ?_
            refine ev_iaS (q := 41) w dX6_leastOf_40 rfl rfl (by omega) (lt_n hn (by decide)) rfl ?_
            refine ev_iload (q := 43) dX6_leastOf_41 rfl rfl ?_
            refine ev_iload (q := 45) dX6_leastOf_43 rfl rfl ?_
            refine ev_iload_n (q := 46) dX6_leastOf_45 rfl rfl ?_
            refine ev_ixor (q := 47) dX6_leastOf_46 rfl ?_
            rw [nI_xor]
            refine ev_callS1i (q := 50) dX6_leastOf_47 ca_X6_337 (c_bitI (by omega)) (Nat.le_of_ble_eq_true rfl) (Nat.le_of_ble_eq_true rfl) (by decide) (by decide) rfl ?_
            refine ev_imul (q := 51) dX6_leastOf_50 rfl ?_
            refine ev_iadd (q := 52) dX6_leastOf_51 rfl ?_
            refine ev_ist_11 (q := 54) dX6_leastOf_52 rfl rfl ?_
            refine ev_iload (q := 56) dX6_leastOf_54 rfl rfl ?_
            refine ev_if_lt (q := 59) 66 dX6_leastOf_56 (by decide) rfl (fun c_56 => ?_) (fun c_56 => ?_)
            · exact absurd c_56 (nI_pos (by omega))
            · refine ev_iload (q := 61) dX6_leastOf_59 rfl rfl ?_
              refine ev_iload (q := 63) dX6_leastOf_61 rfl rfl ?_
              refine ev_icmp_ge (q := 66) 74 dX6_leastOf_63 (by decide) rfl (fun c_63 => ?_) (fun c_63 => ?_)
              · exact J74 _ _ _ (fun u hu => by cases hu; exact hls)
              · exact absurd (show ls ≤ upS a (S 23) far w by rw [hls]; simp only [i_le, i_lt] at *; omega) c_63
  refine ev_bipush (q := 2) (-3) dX6_leastOf_0 (by decide) rfl ?_
  refine ev_ist_5 (q := 4) dX6_leastOf_2 rfl rfl ?_
  refine ev_iconst (q := 5) (0) dX6_leastOf_4 (by decide) rfl ?_
  refine ev_ist_6 (q := 7) dX6_leastOf_5 rfl rfl ?_
  refine ev_lload_n (q := 8) dX6_leastOf_7 rfl rfl ?_
  refine ev_lst_7 (q := 10) dX6_leastOf_8 rfl rfl ?_
  refine ev_lload_n (q := 11) dX6_leastOf_10 rfl rfl ?_
  refine ev_callS1i (q := 14) dX6_leastOf_11 ca_X6_146 (c_bitL _) (Nat.le_of_ble_eq_true rfl) (Nat.le_of_ble_eq_true rfl) (by decide) (by decide) rfl ?_
  refine ev_ist_9 (q := 16) dX6_leastOf_14 rfl rfl ?_
  exact lp _ 0 Z (by decide) (fun i hi => by simp) rfl 0 (fun v hv => by cases hv) _ _
theorem k_least_31 {Z : Int64} {a : Nat} {far : Int32} (hn : 49 ≤ n) (ha : a < 64) : Rn xl xs 2 42 0 0 mX6_leastOf [.long Z, .ref 31, .int (nI a), .int far] n (sysH (ov I S) (ovJ J T) X) (some (.int (e3 (lsO (upS a (S 31) far) Z)))) n (sysH (ov I S) (ovJ J T) X) := by
  intro Q hQ
  show Ev xl xs 2 42 0 0 mX6_leastOf 0 [some (.long Z), none, some (.ref 31), some (.int (nI a)), some (.int far), none, none, none, none, none, none, none] [] n (sysH (ov I S) (ovJ J T) X) Q
  have lp : ∀ j p lf, p ≤ 64 → (∀ i, i < 64 → lbit lf i = (decide (p ≤ i) && lbit Z i)) → cN (lbit lf) 64 = j → ∀ ls, (∀ v, upto (lsF (upS a (S 31) far) Z) p none = some v → ls = upS a (S 31) far v) → ∀ a10 a11, Ev xl xs 2 42 0 0 mX6_leastOf 16 [some (.long Z), none, some (.ref 31), some (.int (nI a)), some (.int far), some (.int (e3 (upto (lsF (upS a (S 31) far) Z) p none))), some (.int ls), some (.long lf), none, some (.int (nI j)), a10, a11] [] n (sysH (ov I S) (ovJ J T) X) Q := by
    intro j
    induction j with
    | zero =>
      intro p lf hp hlf hc ls hls a10 a11
      have hz := cN_0 64 hc
      have hsk := lsF_skip (sc := upS a (S 31) far) (Z := Z) (p := p) (64 - p) (fun i h1 h2 => by have := hlf i (by omega); rw [hz i (by omega), decide_eq_true h1, Bool.true_and] at this; exact this.symm)
      rw [show p + (64 - p) = 64 by omega] at hsk
      refine ev_iload (q := 18) dX6_leastOf_16 rfl rfl ?_
      refine ev_if_le (q := 21) 80 dX6_leastOf_18 (by decide) rfl (fun c_18 => ?_) (fun c_18 => ?_)
      · refine ev_iload (q := 82) dX6_leastOf_80 rfl rfl ?_
        exact ev_iretE dX6_leastOf_82 rfl rfl (by rw [← hsk]; rfl) rfl rfl hQ
      · exact absurd (show nI 0 ≤ 0 by decide) c_18
    | succ j ih =>
      intro p lf hp hlf hc ls hls a10 a11
      obtain ⟨w, hw, hw1, hw2⟩ := cN_ex 64 (show 0 < cN (lbit lf) 64 by omega)
      have hpw : p ≤ w ∧ lbit Z w = true := by have := hlf w hw; rw [hw1] at this; have := Bool.and_eq_true_iff.mp this.symm; exact ⟨of_decide_eq_true this.1, this.2⟩
      have hcl : ∀ i, lbit (lf &&& (lf - 1)) i = (lbit lf i && decide (i ≠ w)) := fun i => clr_l hw1 hw2 i
      have hsk := lsF_skip (sc := upS a (S 31) far) (Z := Z) (p := p) (w - p) (fun i h1 h2 => by have := hlf i (by omega); rw [hw2 i (by omega), decide_eq_true h1, Bool.true_and] at this; exact this.symm)
      rw [show p + (w - p) = w by omega] at hsk
      have hst : upto (lsF (upS a (S 31) far) Z) (w + 1) none = lsF (upS a (S 31) far) Z w (upto (lsF (upS a (S 31) far) Z) p none) := by rw [← hsk]; rfl
      have hj64 : cN (lbit lf) 64 ≤ 64 := cN_le _ _
      have hc2 : cN (lbit (lf &&& (lf - 1))) 64 = j := by have := cN_clr (p := lbit lf) hw1 64 hw; rw [← cN_congr (fun i _ => hcl i)] at this; omega
      have hlf2 : ∀ i, i < 64 → lbit (lf &&& (lf - 1)) i = (decide (w + 1 ≤ i) && lbit Z i) := by
        intro i hi
        rw [hcl i]
        by_cases h1 : i < w
        · rw [hw2 i h1, Bool.false_and, decide_eq_false (by omega), Bool.false_and]
        · by_cases h2 : i = w
          · rw [decide_eq_false (by simp [h2]), Bool.and_false, decide_eq_false (by omega), Bool.false_and]
          · rw [hlf i hi, decide_eq_true h2, Bool.and_true, decide_eq_true (show p ≤ i by omega), decide_eq_true (show w + 1 ≤ i by omega)]
      have e := ih (w + 1) (lf &&& (lf - 1)) (by omega) hlf2 hc2
      have hx : w ^^^ a < 64 := Nat.xor_lt_two_pow (n := 6) hw ha
      rw [hst] at e
      have J74 : ∀ ls a10 a11, (∀ v, lsF (upS a (S 31) far) Z w (upto (lsF (upS a (S 31) far) Z) p none) = some v → ls = upS a (S 31) far v) → Ev xl xs 2 42 0 0 mX6_leastOf 74 [some (.long Z), none, some (.ref 31), some (.int (nI a)), some (.int far), some (.int (e3 (lsF (upS a (S 31) far) Z w (upto (lsF (upS a (S 31) far) Z) p none)))), some (.int ls), some (.long (lf &&& (lf - 1))), none, some (.int (nI (j + 1))), a10, a11] [] n (sysH (ov I S) (ovJ J T) X) Q := by
        intro ls a10 a11 hls
        refine ev_inc_9 (q := 77) (nI j) dX6_leastOf_74 (pk_m1 j) rfl rfl ?_
        refine ev_goto 16 dX6_leastOf_77 (by decide) ?_
        exact e _ hls _ _
      cases ho : upto (lsF (upS a (S 31) far) Z) p none with
      | none =>
        rw [ho] at J74
        have hl : lsF (upS a (S 31) far) Z w none = some w := by unfold lsF; rw [hpw.2]; rfl
        rw [hl] at J74
        refine ev_iload (q := 18) dX6_leastOf_16 rfl rfl ?_
        refine ev_if_le (q := 21) 80 dX6_leastOf_18 (by decide) rfl (fun c_18 => ?_) (fun c_18 => ?_)
        · exact absurd c_18 (nI_nle (by omega) (by omega))
        · refine ev_lload (q := 23) dX6_leastOf_21 rfl rfl ?_
          refine ev_callS1i (q := 26) dX6_leastOf_23 ca_X6_152 (c_X6_lowestOf hw hw1 hw2) (Nat.le_of_ble_eq_true rfl) (Nat.le_of_ble_eq_true rfl) (by decide) (by decide) rfl ?_
          refine ev_ist_10 (q := 28) dX6_leastOf_26 rfl rfl ?_
          refine ev_lload (q := 30) dX6_leastOf_28 rfl rfl ?_
          refine ev_lload (q := 32) dX6_leastOf_30 rfl rfl ?_
          refine ev_lconst (q := 33) (1) dX6_leastOf_32 (by decide) rfl ?_
          refine ev_lsub (q := 34) dX6_leastOf_33 rfl ?_
          refine ev_land (q := 35) dX6_leastOf_34 rfl ?_
          refine ev_lst_7 (q := 37) dX6_leastOf_35 rfl rfl ?_
          refine ev_aload_n (q := 38) dX6_leastOf_37 rfl rfl ?_
          refine ev_iload (q := 40) dX6_leastOf_38 rfl rfl ?_
          refine ev_iaS (q := 41) w dX6_leastOf_40 rfl rfl (by omega) (lt_n hn (by decide)) rfl ?_
          refine ev_iload (q := 43) dX6_leastOf_41 rfl rfl ?_
          refine ev_iload (q := 45) dX6_leastOf_43 rfl rfl ?_
          refine ev_iload_n (q := 46) dX6_leastOf_45 rfl rfl ?_
          refine ev_ixor (q := 47) dX6_leastOf_46 rfl ?_
          rw [nI_xor]
          refine ev_callS1i (q := 50) dX6_leastOf_47 ca_X6_337 (c_bitI (by omega)) (Nat.le_of_ble_eq_true rfl) (Nat.le_of_ble_eq_true rfl) (by decide) (by decide) rfl ?_
          refine ev_imul (q := 51) dX6_leastOf_50 rfl ?_
          refine ev_iadd (q := 52) dX6_leastOf_51 rfl ?_
          refine ev_ist_11 (q := 54) dX6_leastOf_52 rfl rfl ?_
          refine ev_iload (q := 56) dX6_leastOf_54 rfl rfl ?_
          refine ev_if_lt (q := 59) 66 dX6_leastOf_56 (by decide) rfl (fun c_56 => ?_) (fun c_56 => ?_)
          · refine ev_iload (q := 68) dX6_leastOf_66 rfl rfl ?_
            refine ev_ist_5 (q := 70) dX6_leastOf_68 rfl rfl ?_
            refine ev_iload (q := 72) dX6_leastOf_70 rfl rfl ?_
            refine ev_ist_6 (q := 74) dX6_leastOf_72 rfl rfl ?_
            exact J74 _ _ _ (fun v hv => by cases hv; rfl)
          · exact absurd (show (-3 : Int32) < 0 by decide) c_56
      | some v =>
        rw [ho] at J74 hls
        have hv := (lsF_lt _ _ ho).1
        have hls := hls v rfl
        by_cases hlt : upS a (S 31) far w < upS a (S 31) far v
        · have hl : lsF (upS a (S 31) far) Z w (some v) = some w := by unfold lsF; rw [hpw.2]; simp [hlt]
          rw [hl] at J74
          refine ev_iload (q := 18) dX6_leastOf_16 rfl rfl ?_
          refine ev_if_le (q := 21) 80 dX6_leastOf_18 (by decide) rfl (fun c_18 => ?_) (fun c_18 => ?_)
          · exact absurd c_18 (nI_nle (by omega) (by omega))
          · refine ev_lload (q := 23) dX6_leastOf_21 rfl rfl ?_
            refine ev_callS1i (q := 26) dX6_leastOf_23 ca_X6_152 (c_X6_lowestOf hw hw1 hw2) (Nat.le_of_ble_eq_true rfl) (Nat.le_of_ble_eq_true rfl) (by decide) (by decide) rfl ?_
            refine ev_ist_10 (q := 28) dX6_leastOf_26 rfl rfl ?_
            refine ev_lload (q := 30) dX6_leastOf_28 rfl rfl ?_
            refine ev_lload (q := 32) dX6_leastOf_30 rfl rfl ?_
            refine ev_lconst (q := 33) (1) dX6_leastOf_32 (by decide) rfl ?_
            refine ev_lsub (q := 34) dX6_leastOf_33 rfl ?_
            refine ev_land (q := 35) dX6_leastOf_34 rfl ?_
            refine ev_lst_7 (q := 37) dX6_leastOf_35 rfl rfl ?_
            refine ev_aload_n (q := 38) dX6_leastOf_37 rfl rfl ?_
            refine ev_iload (q := 40) dX6_leastOf_38 rfl rfl ?_
            refine ev_iaS (q := 41) w dX6_leastOf_40 rfl rfl (by omega) (lt_n hn (by decide)) rfl ?_
            refine ev_iload (q := 43) dX6_leastOf_41 rfl rfl ?_
            refine ev_iload (q := 45) dX6_leastOf_43 rfl rfl ?_
            refine ev_iload_n (q := 46) dX6_leastOf_45 rfl rfl ?_
            refine ev_ixor (q := 47) dX6_leastOf_46 rfl ?_
            rw [nI_xor]
            refine ev_callS1i (q := 50) dX6_leastOf_47 ca_X6_337 (c_bitI (by omega)) (Nat.le_of_ble_eq_true rfl) (Nat.le_of_ble_eq_true rfl) (by decide) (by decide) rfl ?_
            refine ev_imul (q := 51) dX6_leastOf_50 rfl ?_
            refine ev_iadd (q := 52) dX6_leastOf_51 rfl ?_
            refine ev_ist_11 (q := 54) dX6_leastOf_52 rfl rfl ?_
            refine ev_iload (q := 56) dX6_leastOf_54 rfl rfl ?_
            refine ev_if_lt (q := 59) 66 dX6_leastOf_56 (by decide) rfl (fun c_56 => ?_) (fun c_56 => ?_)
            · exact absurd c_56 (nI_pos (by omega))
            · refine ev_iload (q := 61) dX6_leastOf_59 rfl rfl ?_
              refine ev_iload (q := 63) dX6_leastOf_61 rfl rfl ?_
              refine ev_icmp_ge (q := 66) 74 dX6_leastOf_63 (by decide) rfl (fun c_63 => ?_) (fun c_63 => ?_)
              · exact absurd (show ls ≤ upS a (S 31) far w from c_63) (by rw [hls]; simp only [i_le, i_lt] at *; omega)
              · refine ev_iload (q := 68) dX6_leastOf_66 rfl rfl ?_
                refine ev_ist_5 (q := 70) dX6_leastOf_68 rfl rfl ?_
                refine ev_iload (q := 72) dX6_leastOf_70 rfl rfl ?_
                refine ev_ist_6 (q := 74) dX6_leastOf_72 rfl rfl ?_
                exact J74 _ _ _ (fun v hv => by cases hv; rfl)
        · have hl : lsF (upS a (S 31) far) Z w (some v) = some v := by unfold lsF; rw [hpw.2]; simp [hlt]
          rw [hl] at J74
          refine ev_iload (q := 18) dX6_leastOf_16 rfl rfl ?_
          refine ev_if_le (q := 21) 80 dX6_leastOf_18 (by decide) rfl (fun c_18 => ?_) (fun c_18 => ?_)
          · exact absurd c_18 (nI_nle (by omega) (by omega))
          · refine ev_lload (q := 23) dX6_leastOf_21 rfl rfl ?_
            refine ev_callS1i (q := 26) dX6_leastOf_23 ca_X6_152 (c_X6_lowestOf hw hw1 hw2) (Nat.le_of_ble_eq_true rfl) (Nat.le_of_ble_eq_true rfl) (by decide) (by decide) rfl ?_
            refine ev_ist_10 (q := 28) dX6_leastOf_26 rfl rfl ?_
            refine ev_lload (q := 30) dX6_leastOf_28 rfl rfl ?_
            refine ev_lload (q := 32) dX6_leastOf_30 rfl rfl ?_
            refine ev_lconst (q := 33) (1) dX6_leastOf_32 (by decide) rfl ?_
            refine ev_lsub (q := 34) dX6_leastOf_33 rfl ?_
            refine ev_land (q := 35) dX6_leastOf_34 rfl ?_
            refine ev_lst_7 (q := 37) dX6_leastOf_35 rfl rfl ?_
            refine ev_aload_n (q := 38) dX6_leastOf_37 rfl rfl ?_
            refine ev_iload (q := 40) dX6_leastOf_38 rfl rfl ?_
            refine ev_iaS (q := 41) w dX6_leastOf_40 rfl rfl (by omega) (lt_n hn (by decide)) rfl ?_
            refine ev_iload (q := 43) dX6_leastOf_41 rfl rfl ?_
            refine ev_iload (q := 45) dX6_leastOf_43 rfl rfl ?_
            refine ev_iload_n (q := 46) dX6_leastOf_45 rfl rfl ?_
            refine ev_ixor (q := 47) dX6_leastOf_46 rfl ?_
            rw [nI_xor]
            refine ev_callS1i (q := 50) dX6_leastOf_47 ca_X6_337 (c_bitI (by omega)) (Nat.le_of_ble_eq_true rfl) (Nat.le_of_ble_eq_true rfl) (by decide) (by decide) rfl ?_
            refine ev_imul (q := 51) dX6_leastOf_50 rfl ?_
            refine ev_iadd (q := 52) dX6_leastOf_51 rfl ?_
            refine ev_ist_11 (q := 54) dX6_leastOf_52 rfl rfl ?_
            refine ev_iload (q := 56) dX6_leastOf_54 rfl rfl ?_
            refine ev_if_lt (q := 59) 66 dX6_leastOf_56 (by decide) rfl (fun c_56 => ?_) (fun c_56 => ?_)
            · exact absurd c_56 (nI_pos (by omega))
            · refine ev_iload (q := 61) dX6_leastOf_59 rfl rfl ?_
              refine ev_iload (q := 63) dX6_leastOf_61 rfl rfl ?_
              refine ev_icmp_ge (q := 66) 74 dX6_leastOf_63 (by decide) rfl (fun c_63 => ?_) (fun c_63 => ?_)
              · exact J74 _ _ _ (fun u hu => by cases hu; exact hls)
              · exact absurd (show ls ≤ upS a (S 31) far w by rw [hls]; simp only [i_le, i_lt] at *; omega) c_63
  refine ev_bipush (q := 2) (-3) dX6_leastOf_0 (by decide) rfl ?_
  refine ev_ist_5 (q := 4) dX6_leastOf_2 rfl rfl ?_
  refine ev_iconst (q := 5) (0) dX6_leastOf_4 (by decide) rfl ?_
  refine ev_ist_6 (q := 7) dX6_leastOf_5 rfl rfl ?_
  refine ev_lload_n (q := 8) dX6_leastOf_7 rfl rfl ?_
  refine ev_lst_7 (q := 10) dX6_leastOf_8 rfl rfl ?_
  refine ev_lload_n (q := 11) dX6_leastOf_10 rfl rfl ?_
  refine ev_callS1i (q := 14) dX6_leastOf_11 ca_X6_146 (c_bitL _) (Nat.le_of_ble_eq_true rfl) (Nat.le_of_ble_eq_true rfl) (by decide) (by decide) rfl ?_
  refine ev_ist_9 (q := 16) dX6_leastOf_14 rfl rfl ?_
  exact lp _ 0 Z (by decide) (fun i hi => by simp) rfl 0 (fun v hv => by cases hv) _ _
end CLS2
