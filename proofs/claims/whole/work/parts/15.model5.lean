theorem dX7_term_0 : decode cX7_term 0 = .ok (.iload_n 1, 1) := by decide +kernel
theorem dX7_term_1 : decode cX7_term 1 = .ok (.iconst 0, 1) := by decide +kernel
theorem dX7_term_2 : decode cX7_term 2 = .ok (.aload_n 0, 1) := by decide +kernel
theorem dX7_term_3 : decode cX7_term 3 = .ok (.invokevirtual 201, 3) := by decide +kernel
theorem dX7_term_6 : decode cX7_term 6 = .ok (.iconst 1, 1) := by decide +kernel
theorem dX7_term_7 : decode cX7_term 7 = .ok (.isub, 1) := by decide +kernel
theorem dX7_term_8 : decode cX7_term 8 = .ok (.invokestatic 99, 3) := by decide +kernel
theorem dX7_term_11 : decode cX7_term 11 = .ok (.ifCond .ne 6, 3) := by decide +kernel
theorem dX7_term_14 : decode cX7_term 14 = .ok (.bipush (-2), 2) := by decide +kernel
theorem dX7_term_16 : decode cX7_term 16 = .ok (.ireturn, 1) := by decide +kernel
theorem dX7_term_17 : decode cX7_term 17 = .ok (.aload_n 0, 1) := by decide +kernel
theorem dX7_term_18 : decode cX7_term 18 = .ok (.iload_n 1, 1) := by decide +kernel
theorem dX7_term_19 : decode cX7_term 19 = .ok (.aload_n 0, 1) := by decide +kernel
theorem dX7_term_20 : decode cX7_term 20 = .ok (.getfield 73, 3) := by decide +kernel
theorem dX7_term_23 : decode cX7_term 23 = .ok (.invokevirtual 204, 3) := by decide +kernel
theorem dX7_term_26 : decode cX7_term 26 = .ok (.istore_n 2, 1) := by decide +kernel
theorem dX7_term_27 : decode cX7_term 27 = .ok (.iload_n 2, 1) := by decide +kernel
theorem dX7_term_28 : decode cX7_term 28 = .ok (.ifCond .ge 8, 3) := by decide +kernel
theorem dX7_term_31 : decode cX7_term 31 = .ok (.bipush (-3), 2) := by decide +kernel
theorem dX7_term_33 : decode cX7_term 33 = .ok (.goto 4, 3) := by decide +kernel
theorem dX7_term_36 : decode cX7_term 36 = .ok (.iload_n 2, 1) := by decide +kernel
theorem dX7_term_37 : decode cX7_term 37 = .ok (.ireturn, 1) := by decide +kernel
def mk64 (p : Nat → Bool) : Nat → Int64
  | 0 => 0
  | k + 1 => mk64 p k ||| (if p k then (1 : Int64) <<< ((nI k).toInt64 &&& 63) else 0)
theorem one_shl {k : Nat} (hk : k < 64) (j : Nat) : ((1 : Int64) <<< ((nI k).toInt64 &&& 63)).toBitVec.getLsbD j = decide (j = k) := by
  have h1 : ∀ k, k < 64 → ((1 : Int64) <<< ((nI k).toInt64 &&& 63)).toBitVec = BitVec.twoPow 64 k := by decide +kernel
  rw [h1 k hk, BitVec.getLsbD_twoPow]
  by_cases hj : j = k
  · subst hj; simp [hk]
  · have : ¬ k = j := fun h => hj h.symm
    simp [hj, this]
theorem mk64_bit (p : Nat → Bool) : ∀ k, k ≤ 64 → ∀ j, lbit (mk64 p k) j = (decide (j < k) && p j)
  | 0, _, j => by simp [mk64, lbit]
  | k + 1, hk, j => by
    have ih := mk64_bit p k (by omega) j
    unfold lbit at ih ⊢
    unfold mk64
    rw [Int64.toBitVec_or, BitVec.getLsbD_or, ih]
    cases hp : p k
    · simp only [hp, Bool.false_eq_true, if_false]
      have : (0 : Int64).toBitVec.getLsbD j = false := by simp
      rw [this, Bool.or_false]
      by_cases hj : j = k
      · subst hj; simp [hp]
      · have : (j < k + 1) = (j < k) := by simp; omega
        simp only [this]
    · simp only [if_true]
      rw [one_shl (by omega)]
      by_cases hj : j = k
      · subst hj; simp [hp]
      · have : (j < k + 1) = (j < k) := by simp; omega
        simp [this, hj]
theorem l_ext {S T : Int64} (h : ∀ j, j < 64 → lbit S j = lbit T j) : S = T := by
  apply Int64.toBitVec_inj.mp
  apply BitVec.eq_of_getLsbD_eq
  exact h
/-- a world keeps a term -/
def ktF (law : Int64) (sl y z a w : Nat) : Bool := decide (w &&& y = y) && decide (w &&& z = 0) && lbit law w && decide (pop 6 ((w ^^^ a) &&& (63 ^^^ (y ||| z))) ≤ sl)
section MODEL5
variable {xl : Nat} {xs : Nat → Int32} {n : Nat} {h : Nat → PC} {I : Nat → Nat → Int32} {J : Nat → Nat → Int64} {X : Nat → Option Nat} {t : Nat}
theorem c_X7_keepsTerm {y z sl a w : Nat} (hn : 49 ≤ n) (hy : I 33 21 = nI y) (hz : I 33 22 = nI z) (hs : I 33 6 = nI sl) (hy6 : y < 64) (hz6 : z < 64) (hs6 : sl ≤ 6) (ha : a < 64) (hw : w < 64) : Rn xl xs 1 22 0 0 mX7_keepsTerm [.ref 33, .int (nI w), .int (nI a)] n (sysH I J X) (some (.int (b2i (ktF (J 33 8) sl y z a w)))) n (sysH I J X) := by
  intro Q hQ
  have hx : w ^^^ a < 64 := Nat.xor_lt_two_pow (n := 6) hw ha
  have hyz : y ||| z < 64 := Nat.or_lt_two_pow (n := 6) hy6 hz6
  have hb : (w ^^^ a) &&& (63 ^^^ (y ||| z)) < 64 := Nat.lt_of_le_of_lt Nat.and_le_left hx
  have hp := pop_le 6 ((w ^^^ a) &&& (63 ^^^ (y ||| z)))
  have h1 : w &&& y < 64 := Nat.lt_of_le_of_lt Nat.and_le_left hw
  have h2 : w &&& z < 64 := Nat.lt_of_le_of_lt Nat.and_le_left hw
  show Ev xl xs 1 22 0 0 mX7_keepsTerm 0 [some (.ref 33), some (.int (nI w)), some (.int (nI a))] [] n (sysH I J X) Q
  refine ev_iload_n (q := 1) dX7_keepsTerm_0 rfl rfl ?_
  refine ev_aload_n (q := 2) dX7_keepsTerm_1 rfl rfl ?_
  refine ev_get (q := 5) dX7_keepsTerm_2 fr_X7_184 rfl (lt_n hn (by decide)) rfl rfl ?_
  refine ev_iand (q := 6) dX7_keepsTerm_5 rfl ?_
  refine ev_aload_n (q := 7) dX7_keepsTerm_6 rfl rfl ?_
  refine ev_get (q := 10) dX7_keepsTerm_7 fr_X7_184 rfl (lt_n hn (by decide)) rfl rfl ?_
  rw [hy, nI_and]
  refine ev_icmp_ne (q := 13) 62 dX7_keepsTerm_10 (by decide) rfl (fun c_10 => ?_) (fun c_10 => ?_)
  · have c_10 : ¬ w &&& y = y := fun h => c_10 (by rw [h])
    refine ev_iconst (q := 63) (0) dX7_keepsTerm_62 (by decide) rfl ?_
    exact ev_iretE dX7_keepsTerm_63 rfl (nar_b2i _) (by simp [ktF, b2i, *]) rfl rfl hQ
  · have c_10 : w &&& y = y := (nI_eq (by omega) (by omega)).mp c_10
    refine ev_iload_n (q := 14) dX7_keepsTerm_13 rfl rfl ?_
    refine ev_aload_n (q := 15) dX7_keepsTerm_14 rfl rfl ?_
    refine ev_get (q := 18) dX7_keepsTerm_15 fr_X7_187 rfl (lt_n hn (by decide)) rfl rfl ?_
    refine ev_iand (q := 19) dX7_keepsTerm_18 rfl ?_
    rw [hz, nI_and]
    refine ev_if_ne (q := 22) 62 dX7_keepsTerm_19 (by decide) rfl (fun c_19 => ?_) (fun c_19 => ?_)
    · have c_19 : ¬ w &&& z = 0 := fun h => c_19 (by rw [h]; rfl)
      refine ev_iconst (q := 63) (0) dX7_keepsTerm_62 (by decide) rfl ?_
      exact ev_iretE dX7_keepsTerm_63 rfl (nar_b2i _) (by simp [ktF, b2i, *]) rfl rfl hQ
    · have c_19 : w &&& z = 0 := (nI_eq (b := 0) (by omega) (by omega)).mp c_19
      refine ev_aload_n (q := 23) dX7_keepsTerm_22 rfl rfl ?_
      refine ev_get (q := 26) dX7_keepsTerm_23 fr_X7_80 rfl (lt_n hn (by decide)) rfl rfl ?_
      refine ev_iload_n (q := 27) dX7_keepsTerm_26 rfl rfl ?_
      refine ev_callS2i (q := 30) dX7_keepsTerm_27 ca_X7_143 (c_X7_holds (by omega)) (Nat.le_of_ble_eq_true rfl) (Nat.le_of_ble_eq_true rfl) (by decide) (by decide) rfl ?_
      refine ev_if_eq (q := 33) 62 dX7_keepsTerm_30 (by decide) rfl (fun c_30 => ?_) (fun c_30 => ?_)
      · have c_30 := b2i_0.mp c_30
        refine ev_iconst (q := 63) (0) dX7_keepsTerm_62 (by decide) rfl ?_
        exact ev_iretE dX7_keepsTerm_63 rfl (nar_b2i _) (by simp [ktF, b2i, *]) rfl rfl hQ
      · have c_30 := b2i_n0.mp c_30
        refine ev_iload_n (q := 34) dX7_keepsTerm_33 rfl rfl ?_
        refine ev_iload_n (q := 35) dX7_keepsTerm_34 rfl rfl ?_
        refine ev_ixor (q := 36) dX7_keepsTerm_35 rfl ?_
        refine ev_aload_n (q := 37) dX7_keepsTerm_36 rfl rfl ?_
        refine ev_get (q := 40) dX7_keepsTerm_37 fr_X7_184 rfl (lt_n hn (by decide)) rfl rfl ?_
        refine ev_aload_n (q := 41) dX7_keepsTerm_40 rfl rfl ?_
        refine ev_get (q := 44) dX7_keepsTerm_41 fr_X7_187 rfl (lt_n hn (by decide)) rfl rfl ?_
        refine ev_ior (q := 45) dX7_keepsTerm_44 rfl ?_
        refine ev_iconst (q := 46) (-1) dX7_keepsTerm_45 (by decide) rfl ?_
        refine ev_ixor (q := 47) dX7_keepsTerm_46 rfl ?_
        refine ev_iand (q := 48) dX7_keepsTerm_47 rfl ?_
        rw [hy, hz, nI_or, nI_xor, nI_not hx hyz]
        refine ev_callS1i (q := 51) dX7_keepsTerm_48 ca_X7_147 (c_X7_bits (by omega)) (Nat.le_of_ble_eq_true rfl) (Nat.le_of_ble_eq_true rfl) (by decide) (by decide) rfl ?_
        refine ev_aload_n (q := 52) dX7_keepsTerm_51 rfl rfl ?_
        refine ev_get (q := 55) dX7_keepsTerm_52 fr_X7_70 rfl (lt_n hn (by decide)) rfl rfl ?_
        rw [hs]
        refine ev_icmp_gt (q := 58) 62 dX7_keepsTerm_55 (by decide) rfl (fun c_55 => ?_) (fun c_55 => ?_)
        · have c_55 : ¬ pop 6 ((w ^^^ a) &&& (63 ^^^ (y ||| z))) ≤ sl := Nat.not_le.mpr ((nI_ltI (by omega) (by omega)).mp c_55)
          refine ev_iconst (q := 63) (0) dX7_keepsTerm_62 (by decide) rfl ?_
          exact ev_iretE dX7_keepsTerm_63 rfl (nar_b2i _) (by simp [ktF, b2i, *]) rfl rfl hQ
        · have c_55 : pop 6 ((w ^^^ a) &&& (63 ^^^ (y ||| z))) ≤ sl := Nat.not_lt.mp fun h => c_55 ((nI_ltI (by omega) (by omega)).mpr h)
          refine ev_iconst (q := 59) (1) dX7_keepsTerm_58 (by decide) rfl ?_
          refine ev_goto 63 dX7_keepsTerm_59 (by decide) ?_
          exact ev_iretE dX7_keepsTerm_63 rfl (nar_b2i _) (by simp [ktF, b2i, *]) rfl rfl hQ
def ktT (J : Nat → Nat → Int64) (t sl num a : Nat) : Nat → Bool := ktF (J 33 8) sl (tmask 1 t num t) (tmask 2 t num t) a
theorem c_X7_keepingTerm {sl a num : Nat} (hn : 49 ≤ n) (ht : I 33 0 = nI t) (h6 : t ≤ 6) (hs : I 33 6 = nI sl) (hs6 : sl ≤ 6) (ha : a < 64) (hu : num < 2 ^ 31) : Rn xl xs 2 44 0 0 mX7_keepingTerm [.ref 33, .int (nI num), .int (nI a)] n (sysH I J X) (some (.long (mk64 (ktT J t sl num a) (2 ^ t)))) n (sysH (ynT I t num) J X) := by
  intro Q hQ
  have h64 : 2 ^ t ≤ 64 := Nat.pow_le_pow_right (n := 2) (by decide) h6
  have hy6 := tmask_lt 1 t num h6 t (by omega)
  have hz6 := tmask_lt 2 t num h6 t (by omega)
  have hy : ynT I t num 33 21 = nI (tmask 1 t num t) := rfl
  have hz : ynT I t num 33 22 = nI (tmask 2 t num t) := rfl
  have ht2 : ynT I t num 33 0 = nI t := ht
  have hs2 : ynT I t num 33 6 = nI sl := hs
  show Ev xl xs 2 44 0 0 mX7_keepingTerm 0 [some (.ref 33), some (.int (nI num)), some (.int (nI a)), none, none, none] [] n (sysH I J X) Q
  have lp : ∀ j k, k + j = 2 ^ t → Ev xl xs 2 44 0 0 mX7_keepingTerm 10 [some (.ref 33), some (.int (nI num)), some (.int (nI a)), some (.long (mk64 (ktT J t sl num a) k)), none, some (.int (nI k))] [] n (sysH (ynT I t num) J X) Q := by
    intro j
    induction j using Nat.strongRecOn with
    | _ j ih =>
      intro k hk
      refine ev_iload (q := 12) dX7_keepingTerm_10 rfl rfl ?_
      refine ev_aload_n (q := 13) dX7_keepingTerm_12 rfl rfl ?_
      refine ev_callV0i (q := 16) dX7_keepingTerm_13 ca_X7_95 (c_X7_worlds hn ht2 h6) rfl (lt_n hn (by decide)) rfl rfl (Nat.le_of_ble_eq_true rfl) (Nat.le_of_ble_eq_true rfl) (by decide) (by decide) rfl ?_
      refine ev_icmp_ge (q := 19) 46 dX7_keepingTerm_16 (by decide) rfl (fun c_16 => ?_) (fun c_16 => ?_)
      · have c_16 : 2 ^ t ≤ k := (nI_leI (by omega) (by omega)).mp c_16
        refine ev_lload_n (q := 47) dX7_keepingTerm_46 rfl rfl ?_
        exact ev_lretE dX7_keepingTerm_47 rfl (by rw [show k = 2 ^ t by omega]) rfl rfl hQ
      · have c_16 : ¬ 2 ^ t ≤ k := fun h => c_16 ((nI_leI (by omega) (by omega)).mpr h)
        refine ev_lload_n (q := 20) dX7_keepingTerm_19 rfl rfl ?_
        refine ev_aload_n (q := 21) dX7_keepingTerm_20 rfl rfl ?_
        refine ev_iload (q := 23) dX7_keepingTerm_21 rfl rfl ?_
        refine ev_iload_n (q := 24) dX7_keepingTerm_23 rfl rfl ?_
        refine ev_callV2i (q := 27) dX7_keepingTerm_24 ca_X7_194 (c_X7_keepsTerm hn hy hz hs2 hy6 hz6 hs6 ha (by omega)) rfl (lt_n hn (by decide)) rfl rfl (Nat.le_of_ble_eq_true rfl) (Nat.le_of_ble_eq_true rfl) (by decide) (by decide) rfl ?_
        refine ev_if_eq (q := 30) 37 dX7_keepingTerm_27 (by decide) rfl (fun c_27 => ?_) (fun c_27 => ?_)
        · have c_27 : ktT J t sl num a k = false := b2i_0.mp c_27
          refine ev_lconst (q := 38) (0) dX7_keepingTerm_37 (by decide) rfl ?_
          refine ev_lor (q := 39) dX7_keepingTerm_38 rfl ?_
          refine ev_lst_3 (q := 40) dX7_keepingTerm_39 rfl rfl ?_
          refine ev_inc_5 (q := 43) (nI (k + 1)) dX7_keepingTerm_40 (nI_1 k) rfl rfl ?_
          refine ev_goto 10 dX7_keepingTerm_43 (by decide) ?_
          have e := ih (j - 1) (by omega) (k + 1) (by omega)
          simp only [mk64, c_27] at e
          exact e
        · have c_27 : ktT J t sl num a k = true := b2i_n0.mp c_27
          refine ev_lconst (q := 31) (1) dX7_keepingTerm_30 (by decide) rfl ?_
          refine ev_iload (q := 33) dX7_keepingTerm_31 rfl rfl ?_
          refine ev_lshl (q := 34) dX7_keepingTerm_33 rfl ?_
          refine ev_goto 38 dX7_keepingTerm_34 (by decide) ?_
          refine ev_lor (q := 39) dX7_keepingTerm_38 rfl ?_
          refine ev_lst_3 (q := 40) dX7_keepingTerm_39 rfl rfl ?_
          refine ev_inc_5 (q := 43) (nI (k + 1)) dX7_keepingTerm_40 (nI_1 k) rfl rfl ?_
          refine ev_goto 10 dX7_keepingTerm_43 (by decide) ?_
          have e := ih (j - 1) (by omega) (k + 1) (by omega)
          simp only [mk64, c_27] at e
          exact e
  refine ev_aload_n (q := 1) dX7_keepingTerm_0 rfl rfl ?_
  refine ev_iload_n (q := 2) dX7_keepingTerm_1 rfl rfl ?_
  refine ev_callV1v (q := 5) dX7_keepingTerm_2 ca_X7_190 (c_X7_layTerm hn ht h6 (by omega)) rfl (lt_n hn (by decide)) rfl rfl (Nat.le_of_ble_eq_true rfl) (Nat.le_of_ble_eq_true rfl) (by decide) (by decide) rfl ?_
  refine ev_lconst (q := 6) (0) dX7_keepingTerm_5 (by decide) rfl ?_
  refine ev_lst_3 (q := 7) dX7_keepingTerm_6 rfl rfl ?_
  refine ev_iconst (q := 8) (0) dX7_keepingTerm_7 (by decide) rfl ?_
  refine ev_ist_5 (q := 10) dX7_keepingTerm_8 rfl rfl ?_
  exact lp (2 ^ t) 0 (by omega)
theorem lk_ynT {num wy wi a : Nat} : lkF (ynT I t num) t wy wi a = lkF I t wy wi a := rfl
/-- what the spirit makes of a term -/
def mtF (I : Nat → Nat → Int32) (J : Nat → Nat → Int64) (t sl wy wi num a : Nat) : Option Nat := upto (mkF (lkF I t wy wi a) (mk64 (ktT J t sl num a) (2 ^ t))) (2 ^ t) none
theorem c_X7_madeOfTerm {sl wy wi a num : Nat} (hn : 49 ≤ n) (ht : I 33 0 = nI t) (h6 : t ≤ 6) (hs : I 33 6 = nI sl) (hs6 : sl ≤ 6) (hwy : I 33 4 = nI wy) (h3 : wy < 3) (hwi : I 33 5 = nI wi) (h4 : wi < 4) (ha : a < 64) (hu : num < 2 ^ 31) : Rn xl xs 4 92 0 0 mX7_madeOfTerm [.ref 33, .int (nI num), .int (nI a)] n (sysH I J X) (some (.int (eo (mtF I J t sl wy wi num a)))) n (sysH (ynT I t num) J X) := by
  intro Q hQ
  show Ev xl xs 4 92 0 0 mX7_madeOfTerm 0 [some (.ref 33), some (.int (nI num)), some (.int (nI a))] [] n (sysH I J X) Q
  refine ev_aload_n (q := 1) dX7_madeOfTerm_0 rfl rfl ?_
  refine ev_aload_n (q := 2) dX7_madeOfTerm_1 rfl rfl ?_
  refine ev_iload_n (q := 3) dX7_madeOfTerm_2 rfl rfl ?_
  refine ev_iload_n (q := 4) dX7_madeOfTerm_3 rfl rfl ?_
  refine ev_callV2l (q := 7) dX7_madeOfTerm_4 ca_X7_197 (c_X7_keepingTerm hn ht h6 hs hs6 (by omega) (by omega)) rfl (lt_n hn (by decide)) rfl rfl (Nat.le_of_ble_eq_true rfl) (Nat.le_of_ble_eq_true rfl) (by decide) (by decide) rfl ?_
  refine ev_iload_n (q := 8) dX7_madeOfTerm_7 rfl rfl ?_
  refine ev_callV2i (q := 11) dX7_madeOfTerm_8 ca_X7_171 (c_X7_madeOf (I := ynT I t num) hn ht h6 hwy h3 hwi h4 ha) rfl (lt_n hn (by decide)) rfl rfl (Nat.le_of_ble_eq_true rfl) (Nat.le_of_ble_eq_true rfl) (by decide) (by decide) rfl ?_
  exact ev_iretE dX7_madeOfTerm_11 rfl rfl rfl rfl rfl hQ
theorem mtF_lt {sl wy wi num a v : Nat} (h : mtF I J t sl wy wi num a = some v) : v < 2 ^ t := mkF_lt _ _ h
end MODEL5
