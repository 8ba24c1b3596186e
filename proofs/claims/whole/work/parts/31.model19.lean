def lostL : Int64 := -1000000000000000000
def drA (I : Nat → Nat → Int32) (J : Nat → Nat → Int64) (t sl wy wi he sg : Nat) (r : Int64) : Int64 := if ffP I t sg = -6 then (match mdO I J t sl wy wi he sg with | none => lostL + (-3) | some _ => r) else lostL + (-5)
def wn (I : Nat → Nat → Int32) (t c w : Nat) : Nat := (wtF I t c w + 1000).toNatClampNeg
section MODEL19
variable {xl : Nat} {xs : Nat → Int32} {n : Nat} {h : Nat → PC} {I S : Nat → Nat → Int32} {J T : Nat → Nat → Int64} {X : Nat → Option Nat} {t sl wy wi he sg : Nat}
theorem lN_add1 (a : Nat) : lN a + 1 = lN (a + 1) := lN_1 a
theorem s_X7_drunk (hn : 49 ≤ n) (hm : MI I t sl wy wi he) (hsg : I 33 16 = nI sg) (h40 : sg ≤ 40) (k part : Int32) : RnS xl xs 5 116 0 0 mX7_drunk [.ref 33, .int k, .int part] n I J X (some (.long (if inb k 0 (nI t - 1) then (if inb part 0 1 then drA I J t sl wy wi he sg (lN (leastN (cN (fun w => lbit (kpL I J t sl sg he) w && w.testBit k.toNatClampNeg) (2 ^ t)) (cN (lbit (kpL I J t sl sg he)) (2 ^ t)) part)) else lostL + (-2)) else lostL + (-1)))) n I J X := by
  intro S T Q hQ
  have hm' := hm
  obtain ⟨ht, ht2, h6, hs, hs6, hwy, h3, hwi, h4, hhe, hhl⟩ := hm'
  have h64 := p2_le h6
  show Ev xl xs 5 116 0 0 mX7_drunk 0 [some (.ref 33), some (.int k), some (.int part), none, none, none, none, none, none] [] n (sysH (ov I S) (ovJ J T) X) Q
  cases hc : inb k 0 (nI t - 1) with
  | false =>
    rw [hc] at hQ
    refine ev_aload_n (q := 1) dX7_drunk_0 rfl rfl ?_
    refine ev_iload_n (q := 2) dX7_drunk_1 rfl rfl ?_
    refine ev_callV1i (q := 5) dX7_drunk_2 ca_X7_107 (s_X7_isThing hn hm _) rfl (lt_n hn (by decide)) rfl rfl (Nat.le_of_ble_eq_true rfl) (Nat.le_of_ble_eq_true rfl) (by decide) (by decide) rfl ?_
    refine ev_if_ne (q := 8) 12 dX7_drunk_5 (by decide) rfl (fun c_5 => ?_) (fun c_5 => ?_)
    · exact absurd (b2i_ne.mp c_5) (by rw [hc]; decide)
    · refine ev_ldc2 (q := 11) co_X7_233 dX7_drunk_8 rfl ?_
      exact ev_lretE dX7_drunk_11 rfl rfl rfl rfl (hQ _ _)
  | true =>
    rw [hc, if_pos rfl] at hQ
    cases hin : inb part 0 1 with
    | false =>
      rw [hin] at hQ
      refine ev_aload_n (q := 1) dX7_drunk_0 rfl rfl ?_
      refine ev_iload_n (q := 2) dX7_drunk_1 rfl rfl ?_
      refine ev_callV1i (q := 5) dX7_drunk_2 ca_X7_107 (s_X7_isThing hn hm _) rfl (lt_n hn (by decide)) rfl rfl (Nat.le_of_ble_eq_true rfl) (Nat.le_of_ble_eq_true rfl) (by decide) (by decide) rfl ?_
      refine ev_if_ne (q := 8) 12 dX7_drunk_5 (by decide) rfl (fun c_5 => ?_) (fun c_5 => ?_)
      · refine ev_iload_n (q := 13) dX7_drunk_12 rfl rfl ?_
        refine ev_iconst (q := 14) (0) dX7_drunk_13 (by decide) rfl ?_
        refine ev_iconst (q := 15) (1) dX7_drunk_14 (by decide) rfl ?_
        refine ev_callS3i (q := 18) dX7_drunk_15 ca_X7_99 (c_X7_in _ _ _) (Nat.le_of_ble_eq_true rfl) (Nat.le_of_ble_eq_true rfl) (by decide) (by decide) rfl ?_
        refine ev_if_ne (q := 21) 25 dX7_drunk_18 (by decide) rfl (fun c_18 => ?_) (fun c_18 => ?_)
        · exact absurd (b2i_ne.mp c_18) (by rw [hin]; decide)
        · refine ev_ldc2 (q := 24) co_X7_235 dX7_drunk_21 rfl ?_
          exact ev_lretE dX7_drunk_24 rfl rfl rfl rfl (hQ _ _)
      · exact absurd c_5 (b2i_n0.mpr hc)
    | true =>
      rw [hin, if_pos rfl] at hQ
      obtain ⟨K, hK, rfl⟩ := inb_nat (by omega) hc (by omega)
      rw [nI_clamp (by omega)] at hQ
      rcases mdF_or (I := I) (J := J) (t := t) (sl := sl) (wy := wy) (wi := wi) (he := he) (sg := sg) with ⟨hd, hf⟩ | ⟨hd, hf, ho⟩ | ⟨w, hw, hd, hf, ho⟩
      · rw [drA, if_neg hf] at hQ
        refine ev_aload_n (q := 1) dX7_drunk_0 rfl rfl ?_
        refine ev_iload_n (q := 2) dX7_drunk_1 rfl rfl ?_
        refine ev_callV1i (q := 5) dX7_drunk_2 ca_X7_107 (s_X7_isThing hn hm _) rfl (lt_n hn (by decide)) rfl rfl (Nat.le_of_ble_eq_true rfl) (Nat.le_of_ble_eq_true rfl) (by decide) (by decide) rfl ?_
        refine ev_if_ne (q := 8) 12 dX7_drunk_5 (by decide) rfl (fun c_5 => ?_) (fun c_5 => ?_)
        · refine ev_iload_n (q := 13) dX7_drunk_12 rfl rfl ?_
          refine ev_iconst (q := 14) (0) dX7_drunk_13 (by decide) rfl ?_
          refine ev_iconst (q := 15) (1) dX7_drunk_14 (by decide) rfl ?_
          refine ev_callS3i (q := 18) dX7_drunk_15 ca_X7_99 (c_X7_in _ _ _) (Nat.le_of_ble_eq_true rfl) (Nat.le_of_ble_eq_true rfl) (by decide) (by decide) rfl ?_
          refine ev_if_ne (q := 21) 25 dX7_drunk_18 (by decide) rfl (fun c_18 => ?_) (fun c_18 => ?_)
          · refine ev_aload_n (q := 26) dX7_drunk_25 rfl rfl ?_
            refine ev_callV0iP (q := 29) dX7_drunk_26 ca_X7_175 (s_X7_made hn hm hsg h40) rfl (lt_n hn (by decide)) rfl rfl (Nat.le_of_ble_eq_true rfl) (Nat.le_of_ble_eq_true rfl) (by decide) (by decide) rfl (fun S T hp_26 => ?_)
            rw [hd]
            refine ev_ist_3 (q := 30) dX7_drunk_29 rfl rfl ?_
            refine ev_iload_n (q := 31) dX7_drunk_30 rfl rfl ?_
            refine ev_if_ge (q := 34) 41 dX7_drunk_31 (by decide) rfl (fun c_31 => ?_) (fun c_31 => ?_)
            · exact absurd c_31 (by decide)
            · refine ev_ldc2 (q := 37) co_X7_237 dX7_drunk_34 rfl ?_
              refine ev_iload_n (q := 38) dX7_drunk_37 rfl rfl ?_
              refine ev_i2l (q := 39) dX7_drunk_38 rfl ?_
              refine ev_ladd (q := 40) dX7_drunk_39 rfl ?_
              exact ev_lretE dX7_drunk_40 rfl (by decide) rfl rfl (hQ _ _)
          · exact absurd c_18 (b2i_n0.mpr hin)
        · exact absurd c_5 (b2i_n0.mpr hc)
      · rw [drA, if_pos hf, ho] at hQ
        refine ev_aload_n (q := 1) dX7_drunk_0 rfl rfl ?_
        refine ev_iload_n (q := 2) dX7_drunk_1 rfl rfl ?_
        refine ev_callV1i (q := 5) dX7_drunk_2 ca_X7_107 (s_X7_isThing hn hm _) rfl (lt_n hn (by decide)) rfl rfl (Nat.le_of_ble_eq_true rfl) (Nat.le_of_ble_eq_true rfl) (by decide) (by decide) rfl ?_
        refine ev_if_ne (q := 8) 12 dX7_drunk_5 (by decide) rfl (fun c_5 => ?_) (fun c_5 => ?_)
        · refine ev_iload_n (q := 13) dX7_drunk_12 rfl rfl ?_
          refine ev_iconst (q := 14) (0) dX7_drunk_13 (by decide) rfl ?_
          refine ev_iconst (q := 15) (1) dX7_drunk_14 (by decide) rfl ?_
          refine ev_callS3i (q := 18) dX7_drunk_15 ca_X7_99 (c_X7_in _ _ _) (Nat.le_of_ble_eq_true rfl) (Nat.le_of_ble_eq_true rfl) (by decide) (by decide) rfl ?_
          refine ev_if_ne (q := 21) 25 dX7_drunk_18 (by decide) rfl (fun c_18 => ?_) (fun c_18 => ?_)
          · refine ev_aload_n (q := 26) dX7_drunk_25 rfl rfl ?_
            refine ev_callV0iP (q := 29) dX7_drunk_26 ca_X7_175 (s_X7_made hn hm hsg h40) rfl (lt_n hn (by decide)) rfl rfl (Nat.le_of_ble_eq_true rfl) (Nat.le_of_ble_eq_true rfl) (by decide) (by decide) rfl (fun S T hp_26 => ?_)
            rw [hd]
            refine ev_ist_3 (q := 30) dX7_drunk_29 rfl rfl ?_
            refine ev_iload_n (q := 31) dX7_drunk_30 rfl rfl ?_
            refine ev_if_ge (q := 34) 41 dX7_drunk_31 (by decide) rfl (fun c_31 => ?_) (fun c_31 => ?_)
            · exact absurd c_31 (by decide)
            · refine ev_ldc2 (q := 37) co_X7_237 dX7_drunk_34 rfl ?_
              refine ev_iload_n (q := 38) dX7_drunk_37 rfl rfl ?_
              refine ev_i2l (q := 39) dX7_drunk_38 rfl ?_
              refine ev_ladd (q := 40) dX7_drunk_39 rfl ?_
              exact ev_lretE dX7_drunk_40 rfl (show _ = lostL + (-3) by decide) rfl rfl (hQ _ _)
          · exact absurd c_18 (b2i_n0.mpr hin)
        · exact absurd c_5 (b2i_n0.mpr hc)
      · rw [drA, if_pos hf, ho] at hQ
        have hvt := ffM_VT h6 ht2 h40 hf
        have hwb : lbit (kpL I J t sl sg he) w = true := mkF_bit _ _ ho
        generalize hZ : kpL I J t sl sg he = Z at hQ hwb
        have hc1 := cN_le (fun w => lbit Z w && w.testBit K) (2 ^ t)
        have hc2 := cN_le (lbit Z) (2 ^ t)
        have hc3 := cN_pos (lbit Z) (2 ^ t) w hw hwb
        have lp : ∀ j i, i + j = 2 ^ t → ∀ S T a3, Ev xl xs 5 116 0 0 mX7_drunk 57 [some (.ref 33), some (.int (nI K)), some (.int part), a3, some (.long Z), none, some (.long (lN (cN (fun w => lbit Z w && w.testBit K) i))), none, some (.int (nI i))] [] n (sysH (ov I S) (ovJ J T) X) Q := by
          intro j
          induction j using Nat.strongRecOn with
          | _ j ih =>
            intro i hi S T a3
            have e : ∀ h1, _ := fun (h1 : j - 1 < j) => ih (j - 1) h1 (i + 1)
            simp only [cN] at e
            refine ev_iload (q := 59) dX7_drunk_57 rfl rfl ?_
            refine ev_aload_n (q := 60) dX7_drunk_59 rfl rfl ?_
            refine ev_callV0i (q := 63) dX7_drunk_60 ca_X7_95 (s_X7_worlds hn hm) rfl (lt_n hn (by decide)) rfl rfl (Nat.le_of_ble_eq_true rfl) (Nat.le_of_ble_eq_true rfl) (by decide) (by decide) rfl ?_
            refine ev_icmp_ge (q := 66) 101 dX7_drunk_63 (by decide) rfl (fun c_63 => ?_) (fun c_63 => ?_)
            · have c_63 : 2 ^ t ≤ i := (nI_leI (by omega) (by omega)).mp c_63
              rw [show i = 2 ^ t by omega]
              refine ev_lload (q := 103) dX7_drunk_101 rfl rfl ?_
              refine ev_aload_n (q := 104) dX7_drunk_103 rfl rfl ?_
              refine ev_lload (q := 106) dX7_drunk_104 rfl rfl ?_
              refine ev_callV1i (q := 109) dX7_drunk_106 ca_X7_161 (s_X7_count hn hm) rfl (lt_n hn (by decide)) rfl rfl (Nat.le_of_ble_eq_true rfl) (Nat.le_of_ble_eq_true rfl) (by decide) (by decide) rfl ?_
              refine ev_i2l (q := 110) dX7_drunk_109 rfl ?_
              rw [upto_cN, nI_l (by omega)]
              refine ev_iload_n (q := 111) dX7_drunk_110 rfl rfl ?_
              refine ev_callS3l (q := 114) dX7_drunk_111 ca_X7_239 (c_X7_least _ (by omega) (by omega) (by omega)) (Nat.le_of_ble_eq_true rfl) (Nat.le_of_ble_eq_true rfl) (by decide) (by decide) rfl ?_
              exact ev_lretE dX7_drunk_114 rfl rfl rfl rfl (hQ _ _)
            · have c_63 : ¬ 2 ^ t ≤ i := fun h => c_63 ((nI_leI (by omega) (by omega)).mpr h)
              have e := e (by omega) (by omega)
              refine ev_lload (q := 68) dX7_drunk_66 rfl rfl ?_
              refine ev_lload (q := 70) dX7_drunk_68 rfl rfl ?_
              refine ev_iload (q := 72) dX7_drunk_70 rfl rfl ?_
              refine ev_callS2i (q := 75) dX7_drunk_72 ca_X7_143 (c_X7_holds (by omega)) (Nat.le_of_ble_eq_true rfl) (Nat.le_of_ble_eq_true rfl) (by decide) (by decide) rfl ?_
              refine ev_if_eq (q := 78) 91 dX7_drunk_75 (by decide) rfl (fun c_75 => ?_) (fun c_75 => ?_)
              · have c_75 := b2i_0.mp c_75
                simp only [c_75, Bool.false_and, Bool.false_eq_true, if_false, Nat.add_zero] at e
                refine ev_lconst (q := 92) (0) dX7_drunk_91 (by decide) rfl ?_
                refine ev_ladd (q := 93) dX7_drunk_92 rfl ?_
                refine ev_lst_6 (q := 95) dX7_drunk_93 rfl rfl ?_
                refine ev_inc_8 (q := 98) (nI (i + 1)) dX7_drunk_95 (nI_1 i) rfl rfl ?_
                refine ev_goto 57 dX7_drunk_98 (by decide) ?_
                first | (rw [lN_1]; exact e _ _ _) | (rw [show ∀ z : Int64, z + 0 = z from fun z => by simp]; exact e _ _ _)
              · have c_75 := b2i_n0.mp c_75
                refine ev_iload (q := 80) dX7_drunk_78 rfl rfl ?_
                refine ev_iload_n (q := 81) dX7_drunk_80 rfl rfl ?_
                refine ev_callS2i (q := 84) dX7_drunk_81 ca_X7_113 (c_X7_has (by omega) (by omega)) (Nat.le_of_ble_eq_true rfl) (Nat.le_of_ble_eq_true rfl) (by decide) (by decide) rfl ?_
                refine ev_if_eq (q := 87) 91 dX7_drunk_84 (by decide) rfl (fun c_84 => ?_) (fun c_84 => ?_)
                · have c_84 := b2i_0.mp c_84
                  simp only [c_84, Bool.and_false, Bool.false_eq_true, if_false, Nat.add_zero] at e
                  refine ev_lconst (q := 92) (0) dX7_drunk_91 (by decide) rfl ?_
                  refine ev_ladd (q := 93) dX7_drunk_92 rfl ?_
                  refine ev_lst_6 (q := 95) dX7_drunk_93 rfl rfl ?_
                  refine ev_inc_8 (q := 98) (nI (i + 1)) dX7_drunk_95 (nI_1 i) rfl rfl ?_
                  refine ev_goto 57 dX7_drunk_98 (by decide) ?_
                  first | (rw [lN_1]; exact e _ _ _) | (rw [show ∀ z : Int64, z + 0 = z from fun z => by simp]; exact e _ _ _)
                · have c_84 := b2i_n0.mp c_84
                  simp only [c_75, c_84, Bool.and_self, if_true] at e
                  refine ev_lconst (q := 88) (1) dX7_drunk_87 (by decide) rfl ?_
                  refine ev_goto 92 dX7_drunk_88 (by decide) ?_
                  refine ev_ladd (q := 93) dX7_drunk_92 rfl ?_
                  refine ev_lst_6 (q := 95) dX7_drunk_93 rfl rfl ?_
                  refine ev_inc_8 (q := 98) (nI (i + 1)) dX7_drunk_95 (nI_1 i) rfl rfl ?_
                  refine ev_goto 57 dX7_drunk_98 (by decide) ?_
                  first | (rw [lN_1]; exact e _ _ _) | (rw [show ∀ z : Int64, z + 0 = z from fun z => by simp]; exact e _ _ _)
        have hkp : ∀ S T, PadOK I S sg → _ := fun S T hpad => s_keepP (xl := xl) (xs := xs) (n := n) (J := J) (S := S) (T := T) (X := X) hn hm hvt hpad (show he < 64 by omega)
        rw [hZ] at hkp
        refine ev_aload_n (q := 1) dX7_drunk_0 rfl rfl ?_
        refine ev_iload_n (q := 2) dX7_drunk_1 rfl rfl ?_
        refine ev_callV1i (q := 5) dX7_drunk_2 ca_X7_107 (s_X7_isThing hn hm _) rfl (lt_n hn (by decide)) rfl rfl (Nat.le_of_ble_eq_true rfl) (Nat.le_of_ble_eq_true rfl) (by decide) (by decide) rfl ?_
        refine ev_if_ne (q := 8) 12 dX7_drunk_5 (by decide) rfl (fun c_5 => ?_) (fun c_5 => ?_)
        · refine ev_iload_n (q := 13) dX7_drunk_12 rfl rfl ?_
          refine ev_iconst (q := 14) (0) dX7_drunk_13 (by decide) rfl ?_
          refine ev_iconst (q := 15) (1) dX7_drunk_14 (by decide) rfl ?_
          refine ev_callS3i (q := 18) dX7_drunk_15 ca_X7_99 (c_X7_in _ _ _) (Nat.le_of_ble_eq_true rfl) (Nat.le_of_ble_eq_true rfl) (by decide) (by decide) rfl ?_
          refine ev_if_ne (q := 21) 25 dX7_drunk_18 (by decide) rfl (fun c_18 => ?_) (fun c_18 => ?_)
          · refine ev_aload_n (q := 26) dX7_drunk_25 rfl rfl ?_
            refine ev_callV0iP (q := 29) dX7_drunk_26 ca_X7_175 (s_X7_made hn hm hsg h40) rfl (lt_n hn (by decide)) rfl rfl (Nat.le_of_ble_eq_true rfl) (Nat.le_of_ble_eq_true rfl) (by decide) (by decide) rfl (fun S T hp_26 => ?_)
            rw [hd]
            refine ev_ist_3 (q := 30) dX7_drunk_29 rfl rfl ?_
            refine ev_iload_n (q := 31) dX7_drunk_30 rfl rfl ?_
            refine ev_if_ge (q := 34) 41 dX7_drunk_31 (by decide) rfl (fun c_31 => ?_) (fun c_31 => ?_)
            · refine ev_aload_n (q := 42) dX7_drunk_41 rfl rfl ?_
              refine ev_aload_n (q := 43) dX7_drunk_42 rfl rfl ?_
              refine ev_get (q := 46) dX7_drunk_43 fr_X7_73 rfl (lt_n hn (by decide)) rfl rfl ?_
              rw [show ov I S 33 7 = nI he from hhe]
              refine ev_callV1lP (q := 49) dX7_drunk_46 ca_X7_157 (hkp S T (hp_26 hf)) rfl (lt_n hn (by decide)) rfl rfl (Nat.le_of_ble_eq_true rfl) (Nat.le_of_ble_eq_true rfl) (by decide) (by decide) rfl (fun S T hp_46 => ?_)
              refine ev_lst_4 (q := 51) dX7_drunk_49 rfl rfl ?_
              refine ev_lconst (q := 52) (0) dX7_drunk_51 (by decide) rfl ?_
              refine ev_lst_6 (q := 54) dX7_drunk_52 rfl rfl ?_
              refine ev_iconst (q := 55) (0) dX7_drunk_54 (by decide) rfl ?_
              refine ev_ist_8 (q := 57) dX7_drunk_55 rfl rfl ?_
              exact lp (2 ^ t) 0 (by omega) _ _ _
            · exact absurd (nI_pos' (by omega)) c_31
          · exact absurd c_18 (b2i_n0.mpr hin)
        · exact absurd c_5 (b2i_n0.mpr hc)
theorem s_X7_mean (hn : 49 ≤ n) (hm : MI I t sl wy wi he) (hsg : I 33 16 = nI sg) (h40 : sg ≤ 40) (hwb : ∀ c w, c < 4 → w < 2 ^ t → wtF I t c w + 1000 = nI (wn I t c w) ∧ wn I t c w ≤ 2000) (c part : Int32) : RnS xl xs 5 116 0 0 mX7_mean [.ref 33, .int c, .int part] n I J X (some (.long (if inb c 0 3 then (if inb part 0 1 then drA I J t sl wy wi he sg (lN (leastN (sN (fun w => if lbit (kpL I J t sl sg he) w then wn I t c.toNatClampNeg w else 0) (2 ^ t)) (cN (lbit (kpL I J t sl sg he)) (2 ^ t)) part)) else lostL + (-2)) else lostL + (-1)))) n I J X := by
  intro S T Q hQ
  have hm' := hm
  obtain ⟨ht, ht2, h6, hs, hs6, hwy, h3, hwi, h4, hhe, hhl⟩ := hm'
  have h64 := p2_le h6
  show Ev xl xs 5 116 0 0 mX7_mean 0 [some (.ref 33), some (.int c), some (.int part), none, none, none, none, none, none] [] n (sysH (ov I S) (ovJ J T) X) Q
  cases hc : inb c 0 3 with
  | false =>
    rw [hc] at hQ
    refine ev_iload_n (q := 1) dX7_mean_0 rfl rfl ?_
    refine ev_callS1i (q := 4) dX7_mean_1 ca_X7_103 (c_X7_isCousin _) (Nat.le_of_ble_eq_true rfl) (Nat.le_of_ble_eq_true rfl) (by decide) (by decide) rfl ?_
    refine ev_if_ne (q := 7) 11 dX7_mean_4 (by decide) rfl (fun c_4 => ?_) (fun c_4 => ?_)
    · exact absurd (b2i_ne.mp c_4) (by rw [hc]; decide)
    · refine ev_ldc2 (q := 10) co_X7_233 dX7_mean_7 rfl ?_
      exact ev_lretE dX7_mean_10 rfl rfl rfl rfl (hQ _ _)
  | true =>
    rw [hc, if_pos rfl] at hQ
    cases hin : inb part 0 1 with
    | false =>
      rw [hin] at hQ
      refine ev_iload_n (q := 1) dX7_mean_0 rfl rfl ?_
      refine ev_callS1i (q := 4) dX7_mean_1 ca_X7_103 (c_X7_isCousin _) (Nat.le_of_ble_eq_true rfl) (Nat.le_of_ble_eq_true rfl) (by decide) (by decide) rfl ?_
      refine ev_if_ne (q := 7) 11 dX7_mean_4 (by decide) rfl (fun c_4 => ?_) (fun c_4 => ?_)
      · refine ev_iload_n (q := 12) dX7_mean_11 rfl rfl ?_
        refine ev_iconst (q := 13) (0) dX7_mean_12 (by decide) rfl ?_
        refine ev_iconst (q := 14) (1) dX7_mean_13 (by decide) rfl ?_
        refine ev_callS3i (q := 17) dX7_mean_14 ca_X7_99 (c_X7_in _ _ _) (Nat.le_of_ble_eq_true rfl) (Nat.le_of_ble_eq_true rfl) (by decide) (by decide) rfl ?_
        refine ev_if_ne (q := 20) 24 dX7_mean_17 (by decide) rfl (fun c_17 => ?_) (fun c_17 => ?_)
        · exact absurd (b2i_ne.mp c_17) (by rw [hin]; decide)
        · refine ev_ldc2 (q := 23) co_X7_235 dX7_mean_20 rfl ?_
          exact ev_lretE dX7_mean_23 rfl rfl rfl rfl (hQ _ _)
      · exact absurd c_4 (b2i_n0.mpr hc)
    | true =>
      rw [hin, if_pos rfl] at hQ
      obtain ⟨C, -, hC3, rfl⟩ := inb_lo (lo := 0) (hi := 3) (by decide) hc (by decide)
      rw [nI_clamp (by omega)] at hQ
      rcases mdF_or (I := I) (J := J) (t := t) (sl := sl) (wy := wy) (wi := wi) (he := he) (sg := sg) with ⟨hd, hf⟩ | ⟨hd, hf, ho⟩ | ⟨w, hw, hd, hf, ho⟩
      · rw [drA, if_neg hf] at hQ
        refine ev_iload_n (q := 1) dX7_mean_0 rfl rfl ?_
        refine ev_callS1i (q := 4) dX7_mean_1 ca_X7_103 (c_X7_isCousin _) (Nat.le_of_ble_eq_true rfl) (Nat.le_of_ble_eq_true rfl) (by decide) (by decide) rfl ?_
        refine ev_if_ne (q := 7) 11 dX7_mean_4 (by decide) rfl (fun c_4 => ?_) (fun c_4 => ?_)
        · refine ev_iload_n (q := 12) dX7_mean_11 rfl rfl ?_
          refine ev_iconst (q := 13) (0) dX7_mean_12 (by decide) rfl ?_
          refine ev_iconst (q := 14) (1) dX7_mean_13 (by decide) rfl ?_
          refine ev_callS3i (q := 17) dX7_mean_14 ca_X7_99 (c_X7_in _ _ _) (Nat.le_of_ble_eq_true rfl) (Nat.le_of_ble_eq_true rfl) (by decide) (by decide) rfl ?_
          refine ev_if_ne (q := 20) 24 dX7_mean_17 (by decide) rfl (fun c_17 => ?_) (fun c_17 => ?_)
          · refine ev_aload_n (q := 25) dX7_mean_24 rfl rfl ?_
            refine ev_callV0iP (q := 28) dX7_mean_25 ca_X7_175 (s_X7_made hn hm hsg h40) rfl (lt_n hn (by decide)) rfl rfl (Nat.le_of_ble_eq_true rfl) (Nat.le_of_ble_eq_true rfl) (by decide) (by decide) rfl (fun S T hp_25 => ?_)
            rw [hd]
            refine ev_ist_3 (q := 29) dX7_mean_28 rfl rfl ?_
            refine ev_iload_n (q := 30) dX7_mean_29 rfl rfl ?_
            refine ev_if_ge (q := 33) 40 dX7_mean_30 (by decide) rfl (fun c_30 => ?_) (fun c_30 => ?_)
            · exact absurd c_30 (by decide)
            · refine ev_ldc2 (q := 36) co_X7_237 dX7_mean_33 rfl ?_
              refine ev_iload_n (q := 37) dX7_mean_36 rfl rfl ?_
              refine ev_i2l (q := 38) dX7_mean_37 rfl ?_
              refine ev_ladd (q := 39) dX7_mean_38 rfl ?_
              exact ev_lretE dX7_mean_39 rfl (by decide) rfl rfl (hQ _ _)
          · exact absurd c_17 (b2i_n0.mpr hin)
        · exact absurd c_4 (b2i_n0.mpr hc)
      · rw [drA, if_pos hf, ho] at hQ
        refine ev_iload_n (q := 1) dX7_mean_0 rfl rfl ?_
        refine ev_callS1i (q := 4) dX7_mean_1 ca_X7_103 (c_X7_isCousin _) (Nat.le_of_ble_eq_true rfl) (Nat.le_of_ble_eq_true rfl) (by decide) (by decide) rfl ?_
        refine ev_if_ne (q := 7) 11 dX7_mean_4 (by decide) rfl (fun c_4 => ?_) (fun c_4 => ?_)
        · refine ev_iload_n (q := 12) dX7_mean_11 rfl rfl ?_
          refine ev_iconst (q := 13) (0) dX7_mean_12 (by decide) rfl ?_
          refine ev_iconst (q := 14) (1) dX7_mean_13 (by decide) rfl ?_
          refine ev_callS3i (q := 17) dX7_mean_14 ca_X7_99 (c_X7_in _ _ _) (Nat.le_of_ble_eq_true rfl) (Nat.le_of_ble_eq_true rfl) (by decide) (by decide) rfl ?_
          refine ev_if_ne (q := 20) 24 dX7_mean_17 (by decide) rfl (fun c_17 => ?_) (fun c_17 => ?_)
          · refine ev_aload_n (q := 25) dX7_mean_24 rfl rfl ?_
            refine ev_callV0iP (q := 28) dX7_mean_25 ca_X7_175 (s_X7_made hn hm hsg h40) rfl (lt_n hn (by decide)) rfl rfl (Nat.le_of_ble_eq_true rfl) (Nat.le_of_ble_eq_true rfl) (by decide) (by decide) rfl (fun S T hp_25 => ?_)
            rw [hd]
            refine ev_ist_3 (q := 29) dX7_mean_28 rfl rfl ?_
            refine ev_iload_n (q := 30) dX7_mean_29 rfl rfl ?_
            refine ev_if_ge (q := 33) 40 dX7_mean_30 (by decide) rfl (fun c_30 => ?_) (fun c_30 => ?_)
            · exact absurd c_30 (by decide)
            · refine ev_ldc2 (q := 36) co_X7_237 dX7_mean_33 rfl ?_
              refine ev_iload_n (q := 37) dX7_mean_36 rfl rfl ?_
              refine ev_i2l (q := 38) dX7_mean_37 rfl ?_
              refine ev_ladd (q := 39) dX7_mean_38 rfl ?_
              exact ev_lretE dX7_mean_39 rfl (show _ = lostL + (-3) by decide) rfl rfl (hQ _ _)
          · exact absurd c_17 (b2i_n0.mpr hin)
        · exact absurd c_4 (b2i_n0.mpr hc)
      · rw [drA, if_pos hf, ho] at hQ
        have hvt := ffM_VT h6 ht2 h40 hf
        have hwb2 : lbit (kpL I J t sl sg he) w = true := mkF_bit _ _ ho
        generalize hZ : kpL I J t sl sg he = Z at hQ hwb2
        have hc2 := cN_le (lbit Z) (2 ^ t)
        have hc3 := cN_pos (lbit Z) (2 ^ t) w hw hwb2
        have hc1 : ∀ i, i ≤ 2 ^ t → sN (fun w => if lbit Z w then wn I t C w else 0) i ≤ i * 2000 := by
          intro i
          induction i with
          | zero => intro _; simp [sN]
          | succ i ih =>
            intro hi
            have h1 := ih (by omega)
            have h2 := (hwb C i (by omega) (by omega)).2
            show sN _ i + (if lbit Z i then wn I t C i else 0) ≤ _
            rw [Nat.succ_mul]
            refine Nat.add_le_add h1 ?_
            split
            · exact h2
            · exact Nat.zero_le _
        have hc4 := hc1 (2 ^ t) (Nat.le_refl _)
        have lp : ∀ j i, i + j = 2 ^ t → ∀ S T a3, Ev xl xs 5 116 0 0 mX7_mean 56 [some (.ref 33), some (.int (nI C)), some (.int part), a3, some (.long Z), none, some (.long (lN (sN (fun w => if lbit Z w then wn I t C w else 0) i))), none, some (.int (nI i))] [] n (sysH (ov I S) (ovJ J T) X) Q := by
          intro j
          induction j using Nat.strongRecOn with
          | _ j ih =>
            intro i hi S T a3
            have e : ∀ h1, _ := fun (h1 : j - 1 < j) => ih (j - 1) h1 (i + 1)
            simp only [sN] at e
            refine ev_iload (q := 58) dX7_mean_56 rfl rfl ?_
            refine ev_aload_n (q := 59) dX7_mean_58 rfl rfl ?_
            refine ev_callV0i (q := 62) dX7_mean_59 ca_X7_95 (s_X7_worlds hn hm) rfl (lt_n hn (by decide)) rfl rfl (Nat.le_of_ble_eq_true rfl) (Nat.le_of_ble_eq_true rfl) (by decide) (by decide) rfl ?_
            refine ev_icmp_ge (q := 65) 102 dX7_mean_62 (by decide) rfl (fun c_62 => ?_) (fun c_62 => ?_)
            · have c_62 : 2 ^ t ≤ i := (nI_leI (by omega) (by omega)).mp c_62
              rw [show i = 2 ^ t by omega]
              refine ev_lload (q := 104) dX7_mean_102 rfl rfl ?_
              refine ev_aload_n (q := 105) dX7_mean_104 rfl rfl ?_
              refine ev_lload (q := 107) dX7_mean_105 rfl rfl ?_
              refine ev_callV1i (q := 110) dX7_mean_107 ca_X7_161 (s_X7_count hn hm) rfl (lt_n hn (by decide)) rfl rfl (Nat.le_of_ble_eq_true rfl) (Nat.le_of_ble_eq_true rfl) (by decide) (by decide) rfl ?_
              refine ev_i2l (q := 111) dX7_mean_110 rfl ?_
              rw [upto_cN, nI_l (by omega)]
              refine ev_iload_n (q := 112) dX7_mean_111 rfl rfl ?_
              refine ev_callS3l (q := 115) dX7_mean_112 ca_X7_239 (c_X7_least _ (by omega) (by omega) (by omega)) (Nat.le_of_ble_eq_true rfl) (Nat.le_of_ble_eq_true rfl) (by decide) (by decide) rfl ?_
              exact ev_lretE dX7_mean_115 rfl rfl rfl rfl (hQ _ _)
            · have c_62 : ¬ 2 ^ t ≤ i := fun h => c_62 ((nI_leI (by omega) (by omega)).mpr h)
              have e := e (by omega) (by omega)
              obtain ⟨hb1, hb2⟩ := hwb C i (by omega) (by omega)
              refine ev_lload (q := 67) dX7_mean_65 rfl rfl ?_
              refine ev_lload (q := 69) dX7_mean_67 rfl rfl ?_
              refine ev_iload (q := 71) dX7_mean_69 rfl rfl ?_
              refine ev_callS2i (q := 74) dX7_mean_71 ca_X7_143 (c_X7_holds (by omega)) (Nat.le_of_ble_eq_true rfl) (Nat.le_of_ble_eq_true rfl) (by decide) (by decide) rfl ?_
              refine ev_if_eq (q := 77) 92 dX7_mean_74 (by decide) rfl (fun c_74 => ?_) (fun c_74 => ?_)
              · have c_74 := b2i_0.mp c_74
                simp only [c_74, Bool.false_eq_true, if_false, Nat.add_zero] at e
                refine ev_lconst (q := 93) (0) dX7_mean_92 (by decide) rfl ?_
                refine ev_ladd (q := 94) dX7_mean_93 rfl ?_
                refine ev_lst_6 (q := 96) dX7_mean_94 rfl rfl ?_
                refine ev_inc_8 (q := 99) (nI (i + 1)) dX7_mean_96 (nI_1 i) rfl rfl ?_
                refine ev_goto 56 dX7_mean_99 (by decide) ?_
                first | (rw [lN_add]; exact e _ _ _) | (rw [show ∀ z : Int64, z + 0 = z from fun z => by simp]; exact e _ _ _)
              · have c_74 := b2i_n0.mp c_74
                simp only [c_74, if_true] at e
                refine ev_aload_n (q := 78) dX7_mean_77 rfl rfl ?_
                refine ev_iload_n (q := 79) dX7_mean_78 rfl rfl ?_
                refine ev_iload (q := 81) dX7_mean_79 rfl rfl ?_
                refine ev_callV2i (q := 84) dX7_mean_81 ca_X7_117 (s_X7_worthTo hn hm (by omega) (by omega)) rfl (lt_n hn (by decide)) rfl rfl (Nat.le_of_ble_eq_true rfl) (Nat.le_of_ble_eq_true rfl) (by decide) (by decide) rfl ?_
                refine ev_sipush (q := 87) (1000) dX7_mean_84 (by decide) rfl ?_
                refine ev_iadd (q := 88) dX7_mean_87 rfl ?_
                rw [hb1]
                refine ev_i2l (q := 89) dX7_mean_88 rfl ?_
                rw [nI_l (by omega)]
                refine ev_goto 93 dX7_mean_89 (by decide) ?_
                refine ev_ladd (q := 94) dX7_mean_93 rfl ?_
                refine ev_lst_6 (q := 96) dX7_mean_94 rfl rfl ?_
                refine ev_inc_8 (q := 99) (nI (i + 1)) dX7_mean_96 (nI_1 i) rfl rfl ?_
                refine ev_goto 56 dX7_mean_99 (by decide) ?_
                first | (rw [lN_add]; exact e _ _ _) | (rw [show ∀ z : Int64, z + 0 = z from fun z => by simp]; exact e _ _ _)
        have hkp : ∀ S T, PadOK I S sg → _ := fun S T hpad => s_keepP (xl := xl) (xs := xs) (n := n) (J := J) (S := S) (T := T) (X := X) hn hm hvt hpad (show he < 64 by omega)
        rw [hZ] at hkp
        refine ev_iload_n (q := 1) dX7_mean_0 rfl rfl ?_
        refine ev_callS1i (q := 4) dX7_mean_1 ca_X7_103 (c_X7_isCousin _) (Nat.le_of_ble_eq_true rfl) (Nat.le_of_ble_eq_true rfl) (by decide) (by decide) rfl ?_
        refine ev_if_ne (q := 7) 11 dX7_mean_4 (by decide) rfl (fun c_4 => ?_) (fun c_4 => ?_)
        · refine ev_iload_n (q := 12) dX7_mean_11 rfl rfl ?_
          refine ev_iconst (q := 13) (0) dX7_mean_12 (by decide) rfl ?_
          refine ev_iconst (q := 14) (1) dX7_mean_13 (by decide) rfl ?_
          refine ev_callS3i (q := 17) dX7_mean_14 ca_X7_99 (c_X7_in _ _ _) (Nat.le_of_ble_eq_true rfl) (Nat.le_of_ble_eq_true rfl) (by decide) (by decide) rfl ?_
          refine ev_if_ne (q := 20) 24 dX7_mean_17 (by decide) rfl (fun c_17 => ?_) (fun c_17 => ?_)
          · refine ev_aload_n (q := 25) dX7_mean_24 rfl rfl ?_
            refine ev_callV0iP (q := 28) dX7_mean_25 ca_X7_175 (s_X7_made hn hm hsg h40) rfl (lt_n hn (by decide)) rfl rfl (Nat.le_of_ble_eq_true rfl) (Nat.le_of_ble_eq_true rfl) (by decide) (by decide) rfl (fun S T hp_25 => ?_)
            rw [hd]
            refine ev_ist_3 (q := 29) dX7_mean_28 rfl rfl ?_
            refine ev_iload_n (q := 30) dX7_mean_29 rfl rfl ?_
            refine ev_if_ge (q := 33) 40 dX7_mean_30 (by decide) rfl (fun c_30 => ?_) (fun c_30 => ?_)
            · refine ev_aload_n (q := 41) dX7_mean_40 rfl rfl ?_
              refine ev_aload_n (q := 42) dX7_mean_41 rfl rfl ?_
              refine ev_get (q := 45) dX7_mean_42 fr_X7_73 rfl (lt_n hn (by decide)) rfl rfl ?_
              rw [show ov I S 33 7 = nI he from hhe]
              refine ev_callV1lP (q := 48) dX7_mean_45 ca_X7_157 (hkp S T (hp_25 hf)) rfl (lt_n hn (by decide)) rfl rfl (Nat.le_of_ble_eq_true rfl) (Nat.le_of_ble_eq_true rfl) (by decide) (by decide) rfl (fun S T hp_45 => ?_)
              refine ev_lst_4 (q := 50) dX7_mean_48 rfl rfl ?_
              refine ev_lconst (q := 51) (0) dX7_mean_50 (by decide) rfl ?_
              refine ev_lst_6 (q := 53) dX7_mean_51 rfl rfl ?_
              refine ev_iconst (q := 54) (0) dX7_mean_53 (by decide) rfl ?_
              refine ev_ist_8 (q := 56) dX7_mean_54 rfl rfl ?_
              exact lp (2 ^ t) 0 (by omega) _ _ _
            · exact absurd (nI_pos' (by omega)) c_30
          · exact absurd c_17 (b2i_n0.mpr hin)
        · exact absurd c_4 (b2i_n0.mpr hc)
end MODEL19
