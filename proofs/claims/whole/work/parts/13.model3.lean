theorem dX7_keepsTerm_0 : decode cX7_keepsTerm 0 = .ok (.iload_n 1, 1) := by decide +kernel
theorem dX7_keepsTerm_1 : decode cX7_keepsTerm 1 = .ok (.aload_n 0, 1) := by decide +kernel
theorem dX7_keepsTerm_2 : decode cX7_keepsTerm 2 = .ok (.getfield 184, 3) := by decide +kernel
theorem dX7_keepsTerm_5 : decode cX7_keepsTerm 5 = .ok (.iand, 1) := by decide +kernel
theorem dX7_keepsTerm_6 : decode cX7_keepsTerm 6 = .ok (.aload_n 0, 1) := by decide +kernel
theorem dX7_keepsTerm_7 : decode cX7_keepsTerm 7 = .ok (.getfield 184, 3) := by decide +kernel
theorem dX7_keepsTerm_10 : decode cX7_keepsTerm 10 = .ok (.if_icmp .ne 52, 3) := by decide +kernel
theorem dX7_keepsTerm_13 : decode cX7_keepsTerm 13 = .ok (.iload_n 1, 1) := by decide +kernel
theorem dX7_keepsTerm_14 : decode cX7_keepsTerm 14 = .ok (.aload_n 0, 1) := by decide +kernel
theorem dX7_keepsTerm_15 : decode cX7_keepsTerm 15 = .ok (.getfield 187, 3) := by decide +kernel
theorem dX7_keepsTerm_18 : decode cX7_keepsTerm 18 = .ok (.iand, 1) := by decide +kernel
theorem dX7_keepsTerm_19 : decode cX7_keepsTerm 19 = .ok (.ifCond .ne 43, 3) := by decide +kernel
theorem dX7_keepsTerm_22 : decode cX7_keepsTerm 22 = .ok (.aload_n 0, 1) := by decide +kernel
theorem dX7_keepsTerm_23 : decode cX7_keepsTerm 23 = .ok (.getfield 80, 3) := by decide +kernel
theorem dX7_keepsTerm_26 : decode cX7_keepsTerm 26 = .ok (.iload_n 1, 1) := by decide +kernel
theorem dX7_keepsTerm_27 : decode cX7_keepsTerm 27 = .ok (.invokestatic 143, 3) := by decide +kernel
theorem dX7_keepsTerm_30 : decode cX7_keepsTerm 30 = .ok (.ifCond .eq 32, 3) := by decide +kernel
theorem dX7_keepsTerm_33 : decode cX7_keepsTerm 33 = .ok (.iload_n 1, 1) := by decide +kernel
theorem dX7_keepsTerm_34 : decode cX7_keepsTerm 34 = .ok (.iload_n 2, 1) := by decide +kernel
theorem dX7_keepsTerm_35 : decode cX7_keepsTerm 35 = .ok (.ixor, 1) := by decide +kernel
theorem dX7_keepsTerm_36 : decode cX7_keepsTerm 36 = .ok (.aload_n 0, 1) := by decide +kernel
theorem dX7_keepsTerm_37 : decode cX7_keepsTerm 37 = .ok (.getfield 184, 3) := by decide +kernel
theorem dX7_keepsTerm_40 : decode cX7_keepsTerm 40 = .ok (.aload_n 0, 1) := by decide +kernel
theorem dX7_keepsTerm_41 : decode cX7_keepsTerm 41 = .ok (.getfield 187, 3) := by decide +kernel
theorem dX7_keepsTerm_44 : decode cX7_keepsTerm 44 = .ok (.ior, 1) := by decide +kernel
theorem dX7_keepsTerm_45 : decode cX7_keepsTerm 45 = .ok (.iconst (-1), 1) := by decide +kernel
theorem dX7_keepsTerm_46 : decode cX7_keepsTerm 46 = .ok (.ixor, 1) := by decide +kernel
theorem dX7_keepsTerm_47 : decode cX7_keepsTerm 47 = .ok (.iand, 1) := by decide +kernel
theorem dX7_keepsTerm_48 : decode cX7_keepsTerm 48 = .ok (.invokestatic 147, 3) := by decide +kernel
theorem dX7_keepsTerm_51 : decode cX7_keepsTerm 51 = .ok (.aload_n 0, 1) := by decide +kernel
theorem dX7_keepsTerm_52 : decode cX7_keepsTerm 52 = .ok (.getfield 70, 3) := by decide +kernel
theorem dX7_keepsTerm_55 : decode cX7_keepsTerm 55 = .ok (.if_icmp .gt 7, 3) := by decide +kernel
theorem dX7_keepsTerm_58 : decode cX7_keepsTerm 58 = .ok (.iconst 1, 1) := by decide +kernel
theorem dX7_keepsTerm_59 : decode cX7_keepsTerm 59 = .ok (.goto 4, 3) := by decide +kernel
theorem dX7_keepsTerm_62 : decode cX7_keepsTerm 62 = .ok (.iconst 0, 1) := by decide +kernel
theorem dX7_keepsTerm_63 : decode cX7_keepsTerm 63 = .ok (.ireturn, 1) := by decide +kernel
theorem dX7_keepingTerm_0 : decode cX7_keepingTerm 0 = .ok (.aload_n 0, 1) := by decide +kernel
theorem dX7_keepingTerm_1 : decode cX7_keepingTerm 1 = .ok (.iload_n 1, 1) := by decide +kernel
theorem dX7_keepingTerm_2 : decode cX7_keepingTerm 2 = .ok (.invokevirtual 190, 3) := by decide +kernel
theorem dX7_keepingTerm_5 : decode cX7_keepingTerm 5 = .ok (.lconst 0, 1) := by decide +kernel
theorem dX7_keepingTerm_6 : decode cX7_keepingTerm 6 = .ok (.lstore_n 3, 1) := by decide +kernel
theorem dX7_keepingTerm_7 : decode cX7_keepingTerm 7 = .ok (.iconst 0, 1) := by decide +kernel
theorem dX7_keepingTerm_8 : decode cX7_keepingTerm 8 = .ok (.istore 5, 2) := by decide +kernel
theorem dX7_keepingTerm_10 : decode cX7_keepingTerm 10 = .ok (.iload 5, 2) := by decide +kernel
theorem dX7_keepingTerm_12 : decode cX7_keepingTerm 12 = .ok (.aload_n 0, 1) := by decide +kernel
theorem dX7_keepingTerm_13 : decode cX7_keepingTerm 13 = .ok (.invokevirtual 95, 3) := by decide +kernel
theorem dX7_keepingTerm_16 : decode cX7_keepingTerm 16 = .ok (.if_icmp .ge 30, 3) := by decide +kernel
theorem dX7_keepingTerm_19 : decode cX7_keepingTerm 19 = .ok (.lload_n 3, 1) := by decide +kernel
theorem dX7_keepingTerm_20 : decode cX7_keepingTerm 20 = .ok (.aload_n 0, 1) := by decide +kernel
theorem dX7_keepingTerm_21 : decode cX7_keepingTerm 21 = .ok (.iload 5, 2) := by decide +kernel
theorem dX7_keepingTerm_23 : decode cX7_keepingTerm 23 = .ok (.iload_n 2, 1) := by decide +kernel
theorem dX7_keepingTerm_24 : decode cX7_keepingTerm 24 = .ok (.invokevirtual 194, 3) := by decide +kernel
theorem dX7_keepingTerm_27 : decode cX7_keepingTerm 27 = .ok (.ifCond .eq 10, 3) := by decide +kernel
theorem dX7_keepingTerm_30 : decode cX7_keepingTerm 30 = .ok (.lconst 1, 1) := by decide +kernel
theorem dX7_keepingTerm_31 : decode cX7_keepingTerm 31 = .ok (.iload 5, 2) := by decide +kernel
theorem dX7_keepingTerm_33 : decode cX7_keepingTerm 33 = .ok (.lshl, 1) := by decide +kernel
theorem dX7_keepingTerm_34 : decode cX7_keepingTerm 34 = .ok (.goto 4, 3) := by decide +kernel
theorem dX7_keepingTerm_37 : decode cX7_keepingTerm 37 = .ok (.lconst 0, 1) := by decide +kernel
theorem dX7_keepingTerm_38 : decode cX7_keepingTerm 38 = .ok (.lor, 1) := by decide +kernel
theorem dX7_keepingTerm_39 : decode cX7_keepingTerm 39 = .ok (.lstore_n 3, 1) := by decide +kernel
theorem dX7_keepingTerm_40 : decode cX7_keepingTerm 40 = .ok (.iinc 5 1, 3) := by decide +kernel
theorem dX7_keepingTerm_43 : decode cX7_keepingTerm 43 = .ok (.goto (-33), 3) := by decide +kernel
theorem dX7_keepingTerm_46 : decode cX7_keepingTerm 46 = .ok (.lload_n 3, 1) := by decide +kernel
theorem dX7_keepingTerm_47 : decode cX7_keepingTerm 47 = .ok (.lreturn, 1) := by decide +kernel
theorem dX7_madeOfTerm_0 : decode cX7_madeOfTerm 0 = .ok (.aload_n 0, 1) := by decide +kernel
theorem dX7_madeOfTerm_1 : decode cX7_madeOfTerm 1 = .ok (.aload_n 0, 1) := by decide +kernel
theorem dX7_madeOfTerm_2 : decode cX7_madeOfTerm 2 = .ok (.iload_n 1, 1) := by decide +kernel
theorem dX7_madeOfTerm_3 : decode cX7_madeOfTerm 3 = .ok (.iload_n 2, 1) := by decide +kernel
theorem dX7_madeOfTerm_4 : decode cX7_madeOfTerm 4 = .ok (.invokevirtual 197, 3) := by decide +kernel
theorem dX7_madeOfTerm_7 : decode cX7_madeOfTerm 7 = .ok (.iload_n 2, 1) := by decide +kernel
theorem dX7_madeOfTerm_8 : decode cX7_madeOfTerm 8 = .ok (.invokevirtual 171, 3) := by decide +kernel
theorem dX7_madeOfTerm_11 : decode cX7_madeOfTerm 11 = .ok (.ireturn, 1) := by decide +kernel
theorem nI_or (a b : Nat) : nI a ||| nI b = nI (a ||| b) := by
  apply Int32.toBitVec_inj.mp
  rw [Int32.toBitVec_or]
  show BitVec.ofNat 32 a ||| BitVec.ofNat 32 b = BitVec.ofNat 32 (a ||| b)
  rw [BitVec.ofNat_or]
theorem nI_and (a b : Nat) : nI a &&& nI b = nI (a &&& b) := by
  apply Int32.toBitVec_inj.mp
  rw [Int32.toBitVec_and]
  show BitVec.ofNat 32 a &&& BitVec.ofNat 32 b = BitVec.ofNat 32 (a &&& b)
  rw [BitVec.ofNat_and]
theorem nI_xor (a b : Nat) : nI a ^^^ nI b = nI (a ^^^ b) := by
  apply Int32.toBitVec_inj.mp
  rw [Int32.toBitVec_xor]
  show BitVec.ofNat 32 a ^^^ BitVec.ofNat 32 b = BitVec.ofNat 32 (a ^^^ b)
  rw [BitVec.ofNat_xor]
theorem nI_not {a m : Nat} (ha : a < 64) (hm : m < 64) : nI a &&& (nI m ^^^ (-1)) = nI (a &&& (63 ^^^ m)) := by
  have : ∀ a, a < 64 → ∀ m, m < 64 → nI a &&& (nI m ^^^ (-1)) = nI (a &&& (63 ^^^ m)) := by decide +kernel
  exact this a ha m hm
theorem nI_div3 {a : Nat} (ha : a < 2 ^ 31) : nI a / 3 = nI (a / 3) := pk_div ha (d := 3) (by decide) (by decide)
theorem nI_rem3 {a : Nat} (ha : a < 2 ^ 31) : nI a - nI a / 3 * 3 = nI (a % 3) := pk_rem ha (d := 3) (by decide) (by decide)
theorem nI_sh1 {k : Nat} (hk : k < 31) : (1 : Int32) <<< (nI k &&& 31) = nI (2 ^ k) := by
  have : ∀ k, k < 31 → (1 : Int32) <<< (nI k &&& 31) = nI (2 ^ k) := by decide +kernel
  exact this k hk
def upto {α : Type} (f : Nat → α → α) : Nat → α → α
  | 0, a => a
  | k + 1, a => f k (upto f k a)
def eo : Option Nat → Int32
  | none => -6
  | some w => nI w
/-- base three -/
def dig (t num k : Nat) : Nat := num / 3 ^ (t - 1 - k) % 3
def wdc (t num : Nat) : Nat → Nat
  | 0 => 0
  | k + 1 => wdc t num k + if 0 < dig t num k then 1 else 0
def wd (t num : Nat) : Nat := wdc t num t
theorem wdc_le (t num : Nat) : ∀ k, wdc t num k ≤ k
  | 0 => Nat.le_refl _
  | k + 1 => by unfold wdc; have := wdc_le t num k; split <;> omega
def tmask (v t num : Nat) : Nat → Nat
  | 0 => 0
  | i + 1 => tmask v t num i ||| (if num / 3 ^ i % 3 = v then 2 ^ (t - 1 - i) else 0)
theorem tmask_lt (v t num : Nat) (h6 : t ≤ 6) : ∀ i, i ≤ t → tmask v t num i < 64
  | 0, _ => by show 0 < 64; decide
  | i + 1, hi => by
    have h1 := tmask_lt v t num h6 i (by omega)
    have h2 : (if num / 3 ^ i % 3 = v then 2 ^ (t - 1 - i) else 0) < 2 ^ 6 := by
      split
      · exact Nat.pow_lt_pow_right (by decide) (by omega)
      · decide
    exact Nat.or_lt_two_pow (n := 6) h1 h2
def yn (I : Nat → Nat → Int32) (y z : Int32) : Nat → Nat → Int32 := setI I 33 (upd (upd (I 33) 21 y) 22 z)
theorem yn_0 (I : Nat → Nat → Int32) (y z : Int32) : setI (setI I 33 (upd (I 33) 21 y)) 33 (upd (setI I 33 (upd (I 33) 21 y) 33) 22 z) = yn I y z := by
  funext p j; simp only [yn, setI, upd]; split <;> simp_all
theorem yn_y (I : Nat → Nat → Int32) (y z y' : Int32) : setI (yn I y z) 33 (upd (yn I y z 33) 21 y') = yn I y' z := by
  funext p j
  by_cases hp : p = 33
  · subst hp
    simp only [yn, setI, upd, if_true]
    by_cases h1 : j = 21 <;> by_cases h2 : j = 22 <;> simp_all
  · simp [yn, setI, hp]
theorem yn_n (I : Nat → Nat → Int32) (y z z' : Int32) : setI (yn I y z) 33 (upd (yn I y z 33) 22 z') = yn I y z' := by
  funext p j
  by_cases hp : p = 33
  · subst hp
    simp only [yn, setI, upd, if_true]
    by_cases h1 : j = 21 <;> by_cases h2 : j = 22 <;> simp_all
  · simp [yn, setI, hp]
theorem yn_yn (I : Nat → Nat → Int32) (y z y' z' : Int32) : yn (yn I y z) y' z' = yn I y' z' := by
  funext p j
  by_cases hp : p = 33
  · subst hp
    simp only [yn, setI, upd, if_true]
    by_cases h1 : j = 21 <;> by_cases h2 : j = 22 <;> simp_all
  · simp [yn, setI, hp]
section MODEL3
variable {xl : Nat} {xs : Nat → Int32} {n : Nat} {h : Nat → PC} {I : Nat → Nat → Int32} {J : Nat → Nat → Int64} {X : Nat → Option Nat} {t : Nat}
theorem c_X7_count {S : Int64} (hn : 49 ≤ n) (ht : I 33 0 = nI t) (h6 : t ≤ 6) : Rn xl xs 1 22 0 0 mX7_count [.ref 33, .long S] n (sysH I J X) (some (.int (upto (fun w c => c + b2i (lbit S w)) (2 ^ t) 0))) n (sysH I J X) := by
  intro Q hQ
  have h64 : 2 ^ t ≤ 64 := Nat.pow_le_pow_right (n := 2) (by decide) h6
  show Ev xl xs 1 22 0 0 mX7_count 0 [some (.ref 33), some (.long S), none, none, none] [] n (sysH I J X) Q
  have lp : ∀ j k, k + j = 2 ^ t → Ev xl xs 1 22 0 0 mX7_count 5 [some (.ref 33), some (.long S), none, some (.int (upto (fun w c => c + b2i (lbit S w)) k 0)), some (.int (nI k))] [] n (sysH I J X) Q := by
    intro j
    induction j using Nat.strongRecOn with
    | _ j ih =>
      intro k hk
      refine ev_iload (q := 7) dX7_count_5 rfl rfl ?_
      refine ev_aload_n (q := 8) dX7_count_7 rfl rfl ?_
      refine ev_callV0i (q := 11) dX7_count_8 ca_X7_95 (c_X7_worlds hn ht h6) rfl (lt_n hn (by decide)) rfl rfl (Nat.le_of_ble_eq_true rfl) (Nat.le_of_ble_eq_true rfl) (by decide) (by decide) rfl ?_
      refine ev_icmp_ge (q := 14) 37 dX7_count_11 (by decide) rfl (fun c_11 => ?_) (fun c_11 => ?_)
      · have c_11 : 2 ^ t ≤ k := (nI_leI (by omega) (by omega)).mp c_11
        refine ev_iload_n (q := 38) dX7_count_37 rfl rfl ?_
        exact ev_iretE dX7_count_38 rfl rfl (by rw [show k = 2 ^ t by omega]) rfl rfl hQ
      · have c_11 : ¬ 2 ^ t ≤ k := fun h => c_11 ((nI_leI (by omega) (by omega)).mpr h)
        refine ev_iload_n (q := 15) dX7_count_14 rfl rfl ?_
        refine ev_lload_n (q := 16) dX7_count_15 rfl rfl ?_
        refine ev_iload (q := 18) dX7_count_16 rfl rfl ?_
        refine ev_callS2i (q := 21) dX7_count_18 ca_X7_143 (c_X7_holds (by omega)) (Nat.le_of_ble_eq_true rfl) (Nat.le_of_ble_eq_true rfl) (by decide) (by decide) rfl ?_
        refine ev_if_eq (q := 24) 28 dX7_count_21 (by decide) rfl (fun c_21 => ?_) (fun c_21 => ?_)
        · have c_21 := b2i_0.mp c_21
          refine ev_iconst (q := 29) (0) dX7_count_28 (by decide) rfl ?_
          refine ev_iadd (q := 30) dX7_count_29 rfl ?_
          refine ev_ist_3 (q := 31) dX7_count_30 rfl rfl ?_
          refine ev_inc_4 (q := 34) (nI (k + 1)) dX7_count_31 (nI_1 k) rfl rfl ?_
          refine ev_goto 5 dX7_count_34 (by decide) ?_
          have e := ih (j - 1) (by omega) (k + 1) (by omega)
          simp only [upto, c_21] at e
          exact e
        · have c_21 := b2i_n0.mp c_21
          refine ev_iconst (q := 25) (1) dX7_count_24 (by decide) rfl ?_
          refine ev_goto 29 dX7_count_25 (by decide) ?_
          refine ev_iadd (q := 30) dX7_count_29 rfl ?_
          refine ev_ist_3 (q := 31) dX7_count_30 rfl rfl ?_
          refine ev_inc_4 (q := 34) (nI (k + 1)) dX7_count_31 (nI_1 k) rfl rfl ?_
          refine ev_goto 5 dX7_count_34 (by decide) ?_
          have e := ih (j - 1) (by omega) (k + 1) (by omega)
          simp only [upto, c_21] at e
          exact e
  refine ev_iconst (q := 1) (0) dX7_count_0 (by decide) rfl ?_
  refine ev_ist_3 (q := 2) dX7_count_1 rfl rfl ?_
  refine ev_iconst (q := 3) (0) dX7_count_2 (by decide) rfl ?_
  refine ev_ist_4 (q := 5) dX7_count_3 rfl rfl ?_
  exact lp (2 ^ t) 0 (by omega)
/-- how the spirit likes a world -/
def lkF (I : Nat → Nat → Int32) (t wy wi at_ w : Nat) : Int32 := if wy = 1 then wsum (I 35) t w else if wy = 0 then -(wsum (fun k => I 34 (6 * wi + k)) t w) else (-1000) * nI (pop 6 (w ^^^ at_)) - wsum (fun k => I 34 (6 * wi + k)) t w
theorem c_X7_likes {wy wi w a : Nat} (hn : 49 ≤ n) (ht : I 33 0 = nI t) (h6 : t ≤ 6) (hwy : I 33 4 = nI wy) (h3 : wy < 3) (hwi : I 33 5 = nI wi) (h4 : wi < 4) (hw : w < 64) (ha : a < 64) : Rn xl xs 2 45 0 0 mX7_likes [.ref 33, .int (nI w), .int (nI a)] n (sysH I J X) (some (.int (lkF I t wy wi a w))) n (sysH I J X) := by
  intro Q hQ
  have hx : w ^^^ a < 64 := Nat.xor_lt_two_pow (n := 6) hw ha
  show Ev xl xs 2 45 0 0 mX7_likes 0 [some (.ref 33), some (.int (nI w)), some (.int (nI a))] [] n (sysH I J X) Q
  refine ev_aload_n (q := 1) dX7_likes_0 rfl rfl ?_
  refine ev_get (q := 4) dX7_likes_1 fr_X7_64 rfl (lt_n hn (by decide)) rfl rfl ?_
  rw [hwy]
  refine ev_iconst (q := 5) (1) dX7_likes_4 (by decide) rfl ?_
  refine ev_icmp_ne (q := 8) 16 dX7_likes_5 (by decide) rfl (fun c_5 => ?_) (fun c_5 => ?_)
  · have c_5 : wy ≠ 1 := fun h => c_5 (by rw [h]; rfl)
    refine ev_aload_n (q := 17) dX7_likes_16 rfl rfl ?_
    refine ev_get (q := 20) dX7_likes_17 fr_X7_64 rfl (lt_n hn (by decide)) rfl rfl ?_
    rw [hwy]
    refine ev_if_ne (q := 23) 36 dX7_likes_20 (by decide) rfl (fun c_20 => ?_) (fun c_20 => ?_)
    · have c_20 : wy ≠ 0 := fun h => c_20 (by rw [h]; rfl)
      refine ev_sipush (q := 39) (-1000) dX7_likes_36 (by decide) rfl ?_
      refine ev_iload_n (q := 40) dX7_likes_39 rfl rfl ?_
      refine ev_iload_n (q := 41) dX7_likes_40 rfl rfl ?_
      refine ev_ixor (q := 42) dX7_likes_41 rfl ?_
      rw [nI_xor]
      refine ev_callS1i (q := 45) dX7_likes_42 ca_X7_147 (c_X7_bits (by omega)) (Nat.le_of_ble_eq_true rfl) (Nat.le_of_ble_eq_true rfl) (by decide) (by decide) rfl ?_
      refine ev_imul (q := 46) dX7_likes_45 rfl ?_
      refine ev_aload_n (q := 47) dX7_likes_46 rfl rfl ?_
      refine ev_aload_n (q := 48) dX7_likes_47 rfl rfl ?_
      refine ev_get (q := 51) dX7_likes_48 fr_X7_67 rfl (lt_n hn (by decide)) rfl rfl ?_
      rw [hwi]
      refine ev_iload_n (q := 52) dX7_likes_51 rfl rfl ?_
      refine ev_callV2i (q := 55) dX7_likes_52 ca_X7_117 (c_X7_worthTo hn ht h6 (by omega) (by omega)) rfl (lt_n hn (by decide)) rfl rfl (Nat.le_of_ble_eq_true rfl) (Nat.le_of_ble_eq_true rfl) (by decide) (by decide) rfl ?_
      refine ev_isub (q := 56) dX7_likes_55 rfl ?_
      exact ev_iretE dX7_likes_56 rfl rfl (by simp [lkF, *]) rfl rfl hQ
    · have c_20 : wy = 0 := (nI_eq (b := 0) (by omega) (by omega)).mp c_20
      refine ev_aload_n (q := 24) dX7_likes_23 rfl rfl ?_
      refine ev_aload_n (q := 25) dX7_likes_24 rfl rfl ?_
      refine ev_get (q := 28) dX7_likes_25 fr_X7_67 rfl (lt_n hn (by decide)) rfl rfl ?_
      rw [hwi]
      refine ev_iload_n (q := 29) dX7_likes_28 rfl rfl ?_
      refine ev_callV2i (q := 32) dX7_likes_29 ca_X7_117 (c_X7_worthTo hn ht h6 (by omega) (by omega)) rfl (lt_n hn (by decide)) rfl rfl (Nat.le_of_ble_eq_true rfl) (Nat.le_of_ble_eq_true rfl) (by decide) (by decide) rfl ?_
      refine ev_ineg (q := 33) dX7_likes_32 rfl ?_
      refine ev_goto 56 dX7_likes_33 (by decide) ?_
      exact ev_iretE dX7_likes_56 rfl rfl (by simp [lkF, *]) rfl rfl hQ
  · have c_5 : wy = 1 := (nI_eq (b := 1) (by omega) (by omega)).mp c_5
    refine ev_aload_n (q := 9) dX7_likes_8 rfl rfl ?_
    refine ev_iload_n (q := 10) dX7_likes_9 rfl rfl ?_
    refine ev_callV1i (q := 13) dX7_likes_10 ca_X7_165 (c_X7_tasteOf hn ht h6 (by omega)) rfl (lt_n hn (by decide)) rfl rfl (Nat.le_of_ble_eq_true rfl) (Nat.le_of_ble_eq_true rfl) (by decide) (by decide) rfl ?_
    refine ev_goto 56 dX7_likes_13 (by decide) ?_
    exact ev_iretE dX7_likes_56 rfl rfl (by simp [lkF, *]) rfl rfl hQ
def mkF (lk : Nat → Int32) (S : Int64) : Nat → Option Nat → Option Nat := fun w o => if lbit S w then (match o with
  | none => some w
  | some v => if lk v < lk w then some w else some v) else o
theorem mkF_lt {lk : Nat → Int32} {S : Int64} : ∀ k v, upto (mkF lk S) k none = some v → v < k
  | 0, v, h => by cases h
  | k + 1, v, h => by
    have ih := mkF_lt (lk := lk) (S := S) k
    have h : mkF lk S k (upto (mkF lk S) k none) = some v := h
    generalize upto (mkF lk S) k none = o at h ih
    unfold mkF at h
    split at h
    · cases o with
      | none => cases h; omega
      | some u =>
        have := ih u rfl
        dsimp only at h
        split at h <;> cases h <;> omega
    · have := ih v h; omega
theorem c_X7_madeOf {wy wi a : Nat} {S : Int64} (hn : 49 ≤ n) (ht : I 33 0 = nI t) (h6 : t ≤ 6) (hwy : I 33 4 = nI wy) (h3 : wy < 3) (hwi : I 33 5 = nI wi) (h4 : wi < 4) (ha : a < 64) : Rn xl xs 3 67 0 0 mX7_madeOf [.ref 33, .long S, .int (nI a)] n (sysH I J X) (some (.int (eo (upto (mkF (lkF I t wy wi a) S) (2 ^ t) none)))) n (sysH I J X) := by
  intro Q hQ
  have h64 : 2 ^ t ≤ 64 := Nat.pow_le_pow_right (n := 2) (by decide) h6
  show Ev xl xs 3 67 0 0 mX7_madeOf 0 [some (.ref 33), some (.long S), none, some (.int (nI a)), none, none] [] n (sysH I J X) Q
  have lp : ∀ j k, k + j = 2 ^ t → Ev xl xs 3 67 0 0 mX7_madeOf 7 [some (.ref 33), some (.long S), none, some (.int (nI a)), some (.int (eo (upto (mkF (lkF I t wy wi a) S) k none))), some (.int (nI k))] [] n (sysH I J X) Q := by
    intro j
    induction j using Nat.strongRecOn with
    | _ j ih =>
      intro k hk
      have hlt := mkF_lt (lk := lkF I t wy wi a) (S := S) k
      cases ho : upto (mkF (lkF I t wy wi a) S) k none with
      | none =>
        refine ev_iload (q := 9) dX7_madeOf_7 rfl rfl ?_
        refine ev_aload_n (q := 10) dX7_madeOf_9 rfl rfl ?_
        refine ev_callV0i (q := 13) dX7_madeOf_10 ca_X7_95 (c_X7_worlds hn ht h6) rfl (lt_n hn (by decide)) rfl rfl (Nat.le_of_ble_eq_true rfl) (Nat.le_of_ble_eq_true rfl) (by decide) (by decide) rfl ?_
        refine ev_icmp_ge (q := 16) 62 dX7_madeOf_13 (by decide) rfl (fun c_13 => ?_) (fun c_13 => ?_)
        · have c_13 : 2 ^ t ≤ k := (nI_leI (by omega) (by omega)).mp c_13
          refine ev_iload (q := 64) dX7_madeOf_62 rfl rfl ?_
          exact ev_iretE dX7_madeOf_64 rfl rfl (by rw [show 2 ^ t = k by omega, ho]) rfl rfl hQ
        · have c_13 : ¬ 2 ^ t ≤ k := fun h => c_13 ((nI_leI (by omega) (by omega)).mpr h)
          refine ev_lload_n (q := 17) dX7_madeOf_16 rfl rfl ?_
          refine ev_iload (q := 19) dX7_madeOf_17 rfl rfl ?_
          refine ev_callS2i (q := 22) dX7_madeOf_19 ca_X7_143 (c_X7_holds (by omega)) (Nat.le_of_ble_eq_true rfl) (Nat.le_of_ble_eq_true rfl) (by decide) (by decide) rfl ?_
          refine ev_if_eq (q := 25) 52 dX7_madeOf_22 (by decide) rfl (fun c_22 => ?_) (fun c_22 => ?_)
          · have c_22 := b2i_0.mp c_22
            refine ev_iload (q := 54) dX7_madeOf_52 rfl rfl ?_
            refine ev_ist_4 (q := 56) dX7_madeOf_54 rfl rfl ?_
            refine ev_inc_5 (q := 59) (nI (k + 1)) dX7_madeOf_56 (nI_1 k) rfl rfl ?_
            refine ev_goto 7 dX7_madeOf_59 (by decide) ?_
            have e := ih (j - 1) (by omega) (k + 1) (by omega)
            simp only [upto, mkF, ho, c_22] at e
            exact e
          · have c_22 := b2i_n0.mp c_22
            refine ev_iload (q := 27) dX7_madeOf_25 rfl rfl ?_
            refine ev_if_lt (q := 30) 47 dX7_madeOf_27 (by decide) rfl (fun c_27 => ?_) (fun c_27 => ?_)
            · refine ev_iload (q := 49) dX7_madeOf_47 rfl rfl ?_
              refine ev_goto 54 dX7_madeOf_49 (by decide) ?_
              refine ev_ist_4 (q := 56) dX7_madeOf_54 rfl rfl ?_
              refine ev_inc_5 (q := 59) (nI (k + 1)) dX7_madeOf_56 (nI_1 k) rfl rfl ?_
              refine ev_goto 7 dX7_madeOf_59 (by decide) ?_
              have e := ih (j - 1) (by omega) (k + 1) (by omega)
              simp only [upto, mkF, ho, c_22] at e
              exact e
            · exact absurd (show (-6 : Int32) < 0 by decide) c_27
      | some v =>
        have hv := hlt v ho
        refine ev_iload (q := 9) dX7_madeOf_7 rfl rfl ?_
        refine ev_aload_n (q := 10) dX7_madeOf_9 rfl rfl ?_
        refine ev_callV0i (q := 13) dX7_madeOf_10 ca_X7_95 (c_X7_worlds hn ht h6) rfl (lt_n hn (by decide)) rfl rfl (Nat.le_of_ble_eq_true rfl) (Nat.le_of_ble_eq_true rfl) (by decide) (by decide) rfl ?_
        refine ev_icmp_ge (q := 16) 62 dX7_madeOf_13 (by decide) rfl (fun c_13 => ?_) (fun c_13 => ?_)
        · have c_13 : 2 ^ t ≤ k := (nI_leI (by omega) (by omega)).mp c_13
          refine ev_iload (q := 64) dX7_madeOf_62 rfl rfl ?_
          exact ev_iretE dX7_madeOf_64 rfl rfl (by rw [show 2 ^ t = k by omega, ho]) rfl rfl hQ
        · have c_13 : ¬ 2 ^ t ≤ k := fun h => c_13 ((nI_leI (by omega) (by omega)).mpr h)
          refine ev_lload_n (q := 17) dX7_madeOf_16 rfl rfl ?_
          refine ev_iload (q := 19) dX7_madeOf_17 rfl rfl ?_
          refine ev_callS2i (q := 22) dX7_madeOf_19 ca_X7_143 (c_X7_holds (by omega)) (Nat.le_of_ble_eq_true rfl) (Nat.le_of_ble_eq_true rfl) (by decide) (by decide) rfl ?_
          refine ev_if_eq (q := 25) 52 dX7_madeOf_22 (by decide) rfl (fun c_22 => ?_) (fun c_22 => ?_)
          · have c_22 := b2i_0.mp c_22
            refine ev_iload (q := 54) dX7_madeOf_52 rfl rfl ?_
            refine ev_ist_4 (q := 56) dX7_madeOf_54 rfl rfl ?_
            refine ev_inc_5 (q := 59) (nI (k + 1)) dX7_madeOf_56 (nI_1 k) rfl rfl ?_
            refine ev_goto 7 dX7_madeOf_59 (by decide) ?_
            have e := ih (j - 1) (by omega) (k + 1) (by omega)
            first | (simp only [upto, mkF, ho, c_22, c_44, if_true, if_false] at e; exact e) | (simp only [upto, mkF, ho, c_22] at e; exact e)
          · have c_22 := b2i_n0.mp c_22
            refine ev_iload (q := 27) dX7_madeOf_25 rfl rfl ?_
            refine ev_if_lt (q := 30) 47 dX7_madeOf_27 (by decide) rfl (fun c_27 => ?_) (fun c_27 => ?_)
            · exact absurd c_27 (nI_pos (by omega))
            · refine ev_aload_n (q := 31) dX7_madeOf_30 rfl rfl ?_
              refine ev_iload (q := 33) dX7_madeOf_31 rfl rfl ?_
              refine ev_iload_n (q := 34) dX7_madeOf_33 rfl rfl ?_
              refine ev_callV2i (q := 37) dX7_madeOf_34 ca_X7_168 (c_X7_likes hn ht h6 hwy h3 hwi h4 (by omega) (by omega)) rfl (lt_n hn (by decide)) rfl rfl (Nat.le_of_ble_eq_true rfl) (Nat.le_of_ble_eq_true rfl) (by decide) (by decide) rfl ?_
              refine ev_aload_n (q := 38) dX7_madeOf_37 rfl rfl ?_
              refine ev_iload (q := 40) dX7_madeOf_38 rfl rfl ?_
              refine ev_iload_n (q := 41) dX7_madeOf_40 rfl rfl ?_
              refine ev_callV2i (q := 44) dX7_madeOf_41 ca_X7_168 (c_X7_likes (w := v) hn ht h6 hwy h3 hwi h4 (by omega) (by omega)) rfl (lt_n hn (by decide)) rfl rfl (Nat.le_of_ble_eq_true rfl) (Nat.le_of_ble_eq_true rfl) (by decide) (by decide) rfl ?_
              refine ev_icmp_le (q := 47) 52 dX7_madeOf_44 (by decide) rfl (fun c_44 => ?_) (fun c_44 => ?_)
              · have c_44 : ¬ lkF I t wy wi a v < lkF I t wy wi a k := fun h => absurd c_44 (by simp only [i_le, i_lt] at *; omega)
                refine ev_iload (q := 54) dX7_madeOf_52 rfl rfl ?_
                refine ev_ist_4 (q := 56) dX7_madeOf_54 rfl rfl ?_
                refine ev_inc_5 (q := 59) (nI (k + 1)) dX7_madeOf_56 (nI_1 k) rfl rfl ?_
                refine ev_goto 7 dX7_madeOf_59 (by decide) ?_
                have e := ih (j - 1) (by omega) (k + 1) (by omega)
                first | (simp only [upto, mkF, ho, c_22, c_44, if_true, if_false] at e; exact e) | (simp only [upto, mkF, ho, c_22] at e; exact e)
              · have c_44 : lkF I t wy wi a v < lkF I t wy wi a k := by simp only [i_le, i_lt] at *; omega
                refine ev_iload (q := 49) dX7_madeOf_47 rfl rfl ?_
                refine ev_goto 54 dX7_madeOf_49 (by decide) ?_
                refine ev_ist_4 (q := 56) dX7_madeOf_54 rfl rfl ?_
                refine ev_inc_5 (q := 59) (nI (k + 1)) dX7_madeOf_56 (nI_1 k) rfl rfl ?_
                refine ev_goto 7 dX7_madeOf_59 (by decide) ?_
                have e := ih (j - 1) (by omega) (k + 1) (by omega)
                first | (simp only [upto, mkF, ho, c_22, c_44, if_true, if_false] at e; exact e) | (simp only [upto, mkF, ho, c_22] at e; exact e)
  refine ev_bipush (q := 2) (-6) dX7_madeOf_0 (by decide) rfl ?_
  refine ev_ist_4 (q := 4) dX7_madeOf_2 rfl rfl ?_
  refine ev_iconst (q := 5) (0) dX7_madeOf_4 (by decide) rfl ?_
  refine ev_ist_5 (q := 7) dX7_madeOf_5 rfl rfl ?_
  exact lp (2 ^ t) 0 (by omega)
end MODEL3
