theorem inc_m1 (x : Int32) : x + Int32.ofInt (-1) = x - 1 := (Int32.sub_eq_add_neg (a := x) (b := 1)).symm
section MODEL4
variable {xl : Nat} {xs : Nat → Int32} {n : Nat} {h : Nat → PC} {I : Nat → Nat → Int32} {J : Nat → Nat → Int64} {X : Nat → Option Nat} {t : Nat}
theorem c_X7_terms (hn : 49 ≤ n) (ht : I 33 0 = nI t) (h6 : t ≤ 6) : Rn xl xs 0 0 0 0 mX7_terms [.ref 33] n (sysH I J X) (some (.int (nI (3 ^ t)))) n (sysH I J X) := by
  intro Q hQ
  show Ev xl xs 0 0 0 0 mX7_terms 0 [some (.ref 33), none, none] [] n (sysH I J X) Q
  have lp : ∀ j k, k + j = t → Ev xl xs 0 0 0 0 mX7_terms 4 [some (.ref 33), some (.int (nI (3 ^ k))), some (.int (nI k))] [] n (sysH I J X) Q := by
    intro j
    induction j using Nat.strongRecOn with
    | _ j ih =>
      intro k hk
      refine ev_iload_n (q := 5) dX7_terms_4 rfl rfl ?_
      refine ev_aload_n (q := 6) dX7_terms_5 rfl rfl ?_
      refine ev_get (q := 9) dX7_terms_6 fr_X7_7 rfl (lt_n hn (by decide)) rfl rfl ?_
      rw [ht]
      refine ev_icmp_ge (q := 12) 22 dX7_terms_9 (by decide) rfl (fun c_9 => ?_) (fun c_9 => ?_)
      · have c_9 : t ≤ k := (nI_leI (by omega) (by omega)).mp c_9
        refine ev_iload_n (q := 23) dX7_terms_22 rfl rfl ?_
        exact ev_iretE dX7_terms_23 rfl rfl (by rw [show k = t by omega]) rfl rfl hQ
      · have c_9 : ¬ t ≤ k := fun h => c_9 ((nI_leI (by omega) (by omega)).mpr h)
        refine ev_iload_n (q := 13) dX7_terms_12 rfl rfl ?_
        refine ev_iconst (q := 14) (3) dX7_terms_13 (by decide) rfl ?_
        refine ev_imul (q := 15) dX7_terms_14 rfl ?_
        refine ev_ist_1 (q := 16) dX7_terms_15 rfl rfl ?_
        refine ev_inc_2 (q := 19) (nI (k + 1)) dX7_terms_16 (nI_1 k) rfl rfl ?_
        refine ev_goto 4 dX7_terms_19 (by decide) ?_
        rw [show (3 : Int32) = nI 3 from rfl, pk_mul, ← Nat.pow_succ]
        exact ih (j - 1) (by omega) (k + 1) (by omega)
  refine ev_iconst (q := 1) (1) dX7_terms_0 (by decide) rfl ?_
  refine ev_ist_1 (q := 2) dX7_terms_1 rfl rfl ?_
  refine ev_iconst (q := 3) (0) dX7_terms_2 (by decide) rfl ?_
  refine ev_ist_2 (q := 4) dX7_terms_3 rfl rfl ?_
  exact lp t 0 (by omega)
theorem c_X7_digitOf {num k : Nat} (hn : 49 ≤ n) (ht : I 33 0 = nI t) (h6 : t ≤ 6) (hk : k < t) (hu : num < 2 ^ 31) : Rn xl xs 0 0 0 0 mX7_digitOf [.ref 33, .int (nI num), .int (nI k)] n (sysH I J X) (some (.int (nI (dig t num k)))) n (sysH I J X) := by
  intro Q hQ
  show Ev xl xs 0 0 0 0 mX7_digitOf 0 [some (.ref 33), some (.int (nI num)), some (.int (nI k)), none, none] [] n (sysH I J X) Q
  have lp : ∀ j i, k + j = i → i < t → Ev xl xs 0 0 0 0 mX7_digitOf 10 [some (.ref 33), some (.int (nI num)), some (.int (nI k)), some (.int (nI (num / 3 ^ (t - 1 - i)))), some (.int (nI i))] [] n (sysH I J X) Q := by
    intro j
    induction j using Nat.strongRecOn with
    | _ j ih =>
      intro i hi hit
      have hb : num / 3 ^ (t - 1 - i) < 2 ^ 31 := Nat.lt_of_le_of_lt (Nat.div_le_self _ _) hu
      refine ev_iload (q := 12) dX7_digitOf_10 rfl rfl ?_
      refine ev_iload_n (q := 13) dX7_digitOf_12 rfl rfl ?_
      refine ev_icmp_le (q := 16) 26 dX7_digitOf_13 (by decide) rfl (fun c_13 => ?_) (fun c_13 => ?_)
      · have c_13 : i ≤ k := (nI_leI (by omega) (by omega)).mp c_13
        refine ev_iload_n (q := 27) dX7_digitOf_26 rfl rfl ?_
        refine ev_iconst (q := 28) (3) dX7_digitOf_27 (by decide) rfl ?_
        refine ev_irem (q := 29) (by decide) dX7_digitOf_28 rfl ?_
        exact ev_iretE dX7_digitOf_29 rfl rfl (by rw [nI_rem3 hb, show i = k by omega]; rfl) rfl rfl hQ
      · have c_13 : ¬ i ≤ k := fun h => c_13 ((nI_leI (by omega) (by omega)).mpr h)
        refine ev_iload_n (q := 17) dX7_digitOf_16 rfl rfl ?_
        refine ev_iconst (q := 18) (3) dX7_digitOf_17 (by decide) rfl ?_
        refine ev_idiv (q := 19) (by decide) dX7_digitOf_18 rfl ?_
        refine ev_ist_3 (q := 20) dX7_digitOf_19 rfl rfl ?_
        refine ev_inc_4 (q := 23) (nI (i - 1)) dX7_digitOf_20 (by obtain ⟨i', rfl⟩ : ∃ i', i = i' + 1 := ⟨i - 1, by omega⟩; exact pk_m1 i') rfl rfl ?_
        refine ev_goto 10 dX7_digitOf_23 (by decide) ?_
        rw [nI_div3 hb, Nat.div_div_eq_div_mul, show 3 ^ (t - 1 - i) * 3 = 3 ^ (t - 1 - (i - 1)) from by rw [show t - 1 - (i - 1) = (t - 1 - i) + 1 by omega, Nat.pow_succ]]
        exact ih (j - 1) (by omega) (i - 1) (by omega) (by omega)
  refine ev_iload_n (q := 1) dX7_digitOf_0 rfl rfl ?_
  refine ev_ist_3 (q := 2) dX7_digitOf_1 rfl rfl ?_
  refine ev_aload_n (q := 3) dX7_digitOf_2 rfl rfl ?_
  refine ev_get (q := 6) dX7_digitOf_3 fr_X7_7 rfl (lt_n hn (by decide)) rfl rfl ?_
  rw [ht]
  refine ev_iconst (q := 7) (1) dX7_digitOf_6 (by decide) rfl ?_
  refine ev_isub (q := 8) dX7_digitOf_7 rfl ?_
  refine ev_ist_4 (q := 10) dX7_digitOf_8 rfl rfl ?_
  have e := lp (t - 1 - k) (t - 1) (by omega) (by omega)
  rw [Nat.sub_self, Nat.pow_zero, Nat.div_one] at e
  rw [show nI t - 1 = nI (t - 1) from pk_sub (b := 1) (by omega)]
  exact e
theorem c_X7_words {num : Nat} (hn : 49 ≤ n) (ht : I 33 0 = nI t) (h6 : t ≤ 6) (hu : num < 2 ^ 31) : Rn xl xs 1 24 0 0 mX7_words [.ref 33, .int (nI num)] n (sysH I J X) (some (.int (nI (wd t num)))) n (sysH I J X) := by
  intro Q hQ
  show Ev xl xs 1 24 0 0 mX7_words 0 [some (.ref 33), some (.int (nI num)), none, none] [] n (sysH I J X) Q
  have lp : ∀ j k, k + j = t → Ev xl xs 1 24 0 0 mX7_words 4 [some (.ref 33), some (.int (nI num)), some (.int (nI (wdc t num k))), some (.int (nI k))] [] n (sysH I J X) Q := by
    intro j
    induction j using Nat.strongRecOn with
    | _ j ih =>
      intro k hk
      have hd : dig t num k < 3 := Nat.mod_lt _ (by decide)
      refine ev_iload_n (q := 5) dX7_words_4 rfl rfl ?_
      refine ev_aload_n (q := 6) dX7_words_5 rfl rfl ?_
      refine ev_get (q := 9) dX7_words_6 fr_X7_7 rfl (lt_n hn (by decide)) rfl rfl ?_
      rw [ht]
      refine ev_icmp_ge (q := 12) 35 dX7_words_9 (by decide) rfl (fun c_9 => ?_) (fun c_9 => ?_)
      · have c_9 : t ≤ k := (nI_leI (by omega) (by omega)).mp c_9
        refine ev_iload_n (q := 36) dX7_words_35 rfl rfl ?_
        exact ev_iretE dX7_words_36 rfl rfl (by rw [show k = t by omega]; rfl) rfl rfl hQ
      · have c_9 : ¬ t ≤ k := fun h => c_9 ((nI_leI (by omega) (by omega)).mpr h)
        refine ev_iload_n (q := 13) dX7_words_12 rfl rfl ?_
        refine ev_aload_n (q := 14) dX7_words_13 rfl rfl ?_
        refine ev_iload_n (q := 15) dX7_words_14 rfl rfl ?_
        refine ev_iload_n (q := 16) dX7_words_15 rfl rfl ?_
        refine ev_callV2i (q := 19) dX7_words_16 ca_X7_181 (c_X7_digitOf hn ht h6 (by omega) (by omega)) rfl (lt_n hn (by decide)) rfl rfl (Nat.le_of_ble_eq_true rfl) (Nat.le_of_ble_eq_true rfl) (by decide) (by decide) rfl ?_
        refine ev_if_le (q := 22) 26 dX7_words_19 (by decide) rfl (fun c_19 => ?_) (fun c_19 => ?_)
        · have c_19 : ¬ 0 < dig t num k := Nat.not_lt.mpr ((nI_leI (b := 0) (by omega) (by omega)).mp c_19)
          refine ev_iconst (q := 27) (0) dX7_words_26 (by decide) rfl ?_
          refine ev_iadd (q := 28) dX7_words_27 rfl ?_
          refine ev_ist_2 (q := 29) dX7_words_28 rfl rfl ?_
          refine ev_inc_3 (q := 32) (nI (k + 1)) dX7_words_29 (nI_1 k) rfl rfl ?_
          refine ev_goto 4 dX7_words_32 (by decide) ?_
          have e := ih (j - 1) (by omega) (k + 1) (by omega)
          simp only [wdc, c_19, if_true, if_false] at e
          first | (rw [nI_1]; exact e) | (rw [show nI (wdc t num k) + 0 = nI (wdc t num k + 0) from nI_add _ 0]; exact e)
        · have c_19 : 0 < dig t num k := Nat.not_le.mp fun h => c_19 ((nI_leI (b := 0) (by omega) (by omega)).mpr h)
          refine ev_iconst (q := 23) (1) dX7_words_22 (by decide) rfl ?_
          refine ev_goto 27 dX7_words_23 (by decide) ?_
          refine ev_iadd (q := 28) dX7_words_27 rfl ?_
          refine ev_ist_2 (q := 29) dX7_words_28 rfl rfl ?_
          refine ev_inc_3 (q := 32) (nI (k + 1)) dX7_words_29 (nI_1 k) rfl rfl ?_
          refine ev_goto 4 dX7_words_32 (by decide) ?_
          have e := ih (j - 1) (by omega) (k + 1) (by omega)
          simp only [wdc, c_19, if_true, if_false] at e
          first | (rw [nI_1]; exact e) | (rw [show nI (wdc t num k) + 0 = nI (wdc t num k + 0) from nI_add _ 0]; exact e)
  refine ev_iconst (q := 1) (0) dX7_words_0 (by decide) rfl ?_
  refine ev_ist_2 (q := 2) dX7_words_1 rfl rfl ?_
  refine ev_iconst (q := 3) (0) dX7_words_2 (by decide) rfl ?_
  refine ev_ist_3 (q := 4) dX7_words_3 rfl rfl ?_
  exact lp t 0 (by omega)
def ynT (I : Nat → Nat → Int32) (t num : Nat) : Nat → Nat → Int32 := yn I (nI (tmask 1 t num t)) (nI (tmask 2 t num t))
theorem c_X7_layTerm {num : Nat} (hn : 49 ≤ n) (ht : I 33 0 = nI t) (h6 : t ≤ 6) (hu : num < 2 ^ 31) : Rn xl xs 0 0 0 0 mX7_layTerm [.ref 33, .int (nI num)] n (sysH I J X) none n (sysH (ynT I t num) J X) := by
  intro Q hQ
  show Ev xl xs 0 0 0 0 mX7_layTerm 0 [some (.ref 33), some (.int (nI num)), none, none] [] n (sysH I J X) Q
  have lp : ∀ j i, i + j = t → Ev xl xs 0 0 0 0 mX7_layTerm 19 [some (.ref 33), some (.int (nI num)), some (.int (nI (num / 3 ^ i))), some (.int (nI j - 1))] [] n (sysH (yn I (nI (tmask 1 t num i)) (nI (tmask 2 t num i))) J X) Q := by
    intro j
    induction j with
    | zero =>
      intro i hi
      have hi : i = t := by omega
      subst hi
      refine ev_iload_n (q := 20) dX7_layTerm_19 rfl rfl ?_
      refine ev_if_lt (q := 23) 79 dX7_layTerm_20 (by decide) rfl (fun c_20 => ?_) (fun c_20 => ?_)
      · exact ev_retE dX7_layTerm_79 rfl rfl rfl hQ
      · exact absurd (show nI 0 - 1 < 0 by decide) c_20
    | succ j ih =>
      intro i hi
      have hb : num / 3 ^ i < 2 ^ 31 := Nat.lt_of_le_of_lt (Nat.div_le_self _ _) hu
      have hm : num / 3 ^ i % 3 < 3 := Nat.mod_lt _ (by decide)
      have hj : t - 1 - i = j := by omega
      rw [show nI (j + 1) - 1 = nI j from nI_pred j]
      refine ev_iload_n (q := 20) dX7_layTerm_19 rfl rfl ?_
      refine ev_if_lt (q := 23) 79 dX7_layTerm_20 (by decide) rfl (fun c_20 => ?_) (fun c_20 => ?_)
      · exact absurd c_20 (nI_pos (by omega))
      · refine ev_aload_n (q := 24) dX7_layTerm_23 rfl rfl ?_
        refine ev_dup (q := 25) (fun _ => rfl) dX7_layTerm_24 rfl ?_
        refine ev_get (q := 28) dX7_layTerm_25 fr_X7_184 rfl (lt_n hn (by decide)) rfl rfl ?_
        refine ev_iload_n (q := 29) dX7_layTerm_28 rfl rfl ?_
        refine ev_iconst (q := 30) (3) dX7_layTerm_29 (by decide) rfl ?_
        refine ev_irem (q := 31) (by decide) dX7_layTerm_30 rfl ?_
        rw [nI_rem3 hb]
        refine ev_iconst (q := 32) (1) dX7_layTerm_31 (by decide) rfl ?_
        refine ev_icmp_ne (q := 35) 41 dX7_layTerm_32 (by decide) rfl (fun c_32 => ?_) (fun c_32 => ?_)
        · have c_32 : ¬ num / 3 ^ i % 3 = 1 := fun h => c_32 (by rw [h]; rfl)
          refine ev_iconst (q := 42) (0) dX7_layTerm_41 (by decide) rfl ?_
          rw [show ∀ z, yn I (nI (tmask 1 t num i)) z 33 21 = nI (tmask 1 t num i) from fun _ => rfl]
          refine ev_ior (q := 43) dX7_layTerm_42 rfl ?_
          first | rw [nI_sh1 (by omega), nI_or] | rw [show (0 : Int32) = nI 0 from rfl, nI_or]
          refine ev_putI (q := 46) dX7_layTerm_43 fa_X7_184 rfl (by decide) (lt_n hn (by decide)) (Nat.le_of_ble_eq_true rfl) ⟨rfl, rfl⟩ rfl rfl ?_
          rw [yn_y]
          refine ev_aload_n (q := 47) dX7_layTerm_46 rfl rfl ?_
          refine ev_dup (q := 48) (fun _ => rfl) dX7_layTerm_47 rfl ?_
          refine ev_get (q := 51) dX7_layTerm_48 fr_X7_187 rfl (lt_n hn (by decide)) rfl rfl ?_
          refine ev_iload_n (q := 52) dX7_layTerm_51 rfl rfl ?_
          refine ev_iconst (q := 53) (3) dX7_layTerm_52 (by decide) rfl ?_
          refine ev_irem (q := 54) (by decide) dX7_layTerm_53 rfl ?_
          rw [nI_rem3 hb]
          refine ev_iconst (q := 55) (2) dX7_layTerm_54 (by decide) rfl ?_
          refine ev_icmp_ne (q := 58) 64 dX7_layTerm_55 (by decide) rfl (fun c_55 => ?_) (fun c_55 => ?_)
          · have c_55 : ¬ num / 3 ^ i % 3 = 2 := fun h => c_55 (by rw [h]; rfl)
            refine ev_iconst (q := 65) (0) dX7_layTerm_64 (by decide) rfl ?_
            rw [show ∀ z, yn I z (nI (tmask 2 t num i)) 33 22 = nI (tmask 2 t num i) from fun _ => rfl]
            refine ev_ior (q := 66) dX7_layTerm_65 rfl ?_
            first | rw [nI_sh1 (by omega), nI_or] | rw [show (0 : Int32) = nI 0 from rfl, nI_or]
            refine ev_putI (q := 69) dX7_layTerm_66 fa_X7_187 rfl (by decide) (lt_n hn (by decide)) (Nat.le_of_ble_eq_true rfl) ⟨rfl, rfl⟩ rfl rfl ?_
            rw [yn_n]
            refine ev_iload_n (q := 70) dX7_layTerm_69 rfl rfl ?_
            refine ev_iconst (q := 71) (3) dX7_layTerm_70 (by decide) rfl ?_
            refine ev_idiv (q := 72) (by decide) dX7_layTerm_71 rfl ?_
            refine ev_ist_2 (q := 73) dX7_layTerm_72 rfl rfl ?_
            refine ev_inc_3 (q := 76) (nI j - 1) dX7_layTerm_73 (inc_m1 _) rfl rfl ?_
            refine ev_goto 19 dX7_layTerm_76 (by decide) ?_
            rw [nI_div3 hb, Nat.div_div_eq_div_mul, ← Nat.pow_succ]
            have e := ih (i + 1) (by omega)
            try simp only [tmask, hj, c_32, c_55, if_true, if_false] at e
            first | exact e | exact absurd (c_32.symm.trans c_55) (by decide)
          · have c_55 : num / 3 ^ i % 3 = 2 := (nI_eq (b := 2) (by omega) (by omega)).mp c_55
            refine ev_iconst (q := 59) (1) dX7_layTerm_58 (by decide) rfl ?_
            refine ev_iload_n (q := 60) dX7_layTerm_59 rfl rfl ?_
            refine ev_ishl (q := 61) dX7_layTerm_60 rfl ?_
            refine ev_goto 65 dX7_layTerm_61 (by decide) ?_
            rw [show ∀ z, yn I z (nI (tmask 2 t num i)) 33 22 = nI (tmask 2 t num i) from fun _ => rfl]
            refine ev_ior (q := 66) dX7_layTerm_65 rfl ?_
            first | rw [nI_sh1 (by omega), nI_or] | rw [show (0 : Int32) = nI 0 from rfl, nI_or]
            refine ev_putI (q := 69) dX7_layTerm_66 fa_X7_187 rfl (by decide) (lt_n hn (by decide)) (Nat.le_of_ble_eq_true rfl) ⟨rfl, rfl⟩ rfl rfl ?_
            rw [yn_n]
            refine ev_iload_n (q := 70) dX7_layTerm_69 rfl rfl ?_
            refine ev_iconst (q := 71) (3) dX7_layTerm_70 (by decide) rfl ?_
            refine ev_idiv (q := 72) (by decide) dX7_layTerm_71 rfl ?_
            refine ev_ist_2 (q := 73) dX7_layTerm_72 rfl rfl ?_
            refine ev_inc_3 (q := 76) (nI j - 1) dX7_layTerm_73 (inc_m1 _) rfl rfl ?_
            refine ev_goto 19 dX7_layTerm_76 (by decide) ?_
            rw [nI_div3 hb, Nat.div_div_eq_div_mul, ← Nat.pow_succ]
            have e := ih (i + 1) (by omega)
            try simp only [tmask, hj, c_32, c_55, if_true, if_false] at e
            first | exact e | exact absurd (c_32.symm.trans c_55) (by decide)
        · have c_32 : num / 3 ^ i % 3 = 1 := (nI_eq (b := 1) (by omega) (by omega)).mp c_32
          refine ev_iconst (q := 36) (1) dX7_layTerm_35 (by decide) rfl ?_
          refine ev_iload_n (q := 37) dX7_layTerm_36 rfl rfl ?_
          refine ev_ishl (q := 38) dX7_layTerm_37 rfl ?_
          refine ev_goto 42 dX7_layTerm_38 (by decide) ?_
          rw [show ∀ z, yn I (nI (tmask 1 t num i)) z 33 21 = nI (tmask 1 t num i) from fun _ => rfl]
          refine ev_ior (q := 43) dX7_layTerm_42 rfl ?_
          first | rw [nI_sh1 (by omega), nI_or] | rw [show (0 : Int32) = nI 0 from rfl, nI_or]
          refine ev_putI (q := 46) dX7_layTerm_43 fa_X7_184 rfl (by decide) (lt_n hn (by decide)) (Nat.le_of_ble_eq_true rfl) ⟨rfl, rfl⟩ rfl rfl ?_
          rw [yn_y]
          refine ev_aload_n (q := 47) dX7_layTerm_46 rfl rfl ?_
          refine ev_dup (q := 48) (fun _ => rfl) dX7_layTerm_47 rfl ?_
          refine ev_get (q := 51) dX7_layTerm_48 fr_X7_187 rfl (lt_n hn (by decide)) rfl rfl ?_
          refine ev_iload_n (q := 52) dX7_layTerm_51 rfl rfl ?_
          refine ev_iconst (q := 53) (3) dX7_layTerm_52 (by decide) rfl ?_
          refine ev_irem (q := 54) (by decide) dX7_layTerm_53 rfl ?_
          rw [nI_rem3 hb]
          refine ev_iconst (q := 55) (2) dX7_layTerm_54 (by decide) rfl ?_
          refine ev_icmp_ne (q := 58) 64 dX7_layTerm_55 (by decide) rfl (fun c_55 => ?_) (fun c_55 => ?_)
          · have c_55 : ¬ num / 3 ^ i % 3 = 2 := fun h => c_55 (by rw [h]; rfl)
            refine ev_iconst (q := 65) (0) dX7_layTerm_64 (by decide) rfl ?_
            rw [show ∀ z, yn I z (nI (tmask 2 t num i)) 33 22 = nI (tmask 2 t num i) from fun _ => rfl]
            refine ev_ior (q := 66) dX7_layTerm_65 rfl ?_
            first | rw [nI_sh1 (by omega), nI_or] | rw [show (0 : Int32) = nI 0 from rfl, nI_or]
            refine ev_putI (q := 69) dX7_layTerm_66 fa_X7_187 rfl (by decide) (lt_n hn (by decide)) (Nat.le_of_ble_eq_true rfl) ⟨rfl, rfl⟩ rfl rfl ?_
            rw [yn_n]
            refine ev_iload_n (q := 70) dX7_layTerm_69 rfl rfl ?_
            refine ev_iconst (q := 71) (3) dX7_layTerm_70 (by decide) rfl ?_
            refine ev_idiv (q := 72) (by decide) dX7_layTerm_71 rfl ?_
            refine ev_ist_2 (q := 73) dX7_layTerm_72 rfl rfl ?_
            refine ev_inc_3 (q := 76) (nI j - 1) dX7_layTerm_73 (inc_m1 _) rfl rfl ?_
            refine ev_goto 19 dX7_layTerm_76 (by decide) ?_
            rw [nI_div3 hb, Nat.div_div_eq_div_mul, ← Nat.pow_succ]
            have e := ih (i + 1) (by omega)
            try simp only [tmask, hj, c_32, c_55, if_true, if_false] at e
            first | exact e | exact absurd (c_32.symm.trans c_55) (by decide)
          · have c_55 : num / 3 ^ i % 3 = 2 := (nI_eq (b := 2) (by omega) (by omega)).mp c_55
            refine ev_iconst (q := 59) (1) dX7_layTerm_58 (by decide) rfl ?_
            refine ev_iload_n (q := 60) dX7_layTerm_59 rfl rfl ?_
            refine ev_ishl (q := 61) dX7_layTerm_60 rfl ?_
            refine ev_goto 65 dX7_layTerm_61 (by decide) ?_
            rw [show ∀ z, yn I z (nI (tmask 2 t num i)) 33 22 = nI (tmask 2 t num i) from fun _ => rfl]
            refine ev_ior (q := 66) dX7_layTerm_65 rfl ?_
            first | rw [nI_sh1 (by omega), nI_or] | rw [show (0 : Int32) = nI 0 from rfl, nI_or]
            refine ev_putI (q := 69) dX7_layTerm_66 fa_X7_187 rfl (by decide) (lt_n hn (by decide)) (Nat.le_of_ble_eq_true rfl) ⟨rfl, rfl⟩ rfl rfl ?_
            rw [yn_n]
            refine ev_iload_n (q := 70) dX7_layTerm_69 rfl rfl ?_
            refine ev_iconst (q := 71) (3) dX7_layTerm_70 (by decide) rfl ?_
            refine ev_idiv (q := 72) (by decide) dX7_layTerm_71 rfl ?_
            refine ev_ist_2 (q := 73) dX7_layTerm_72 rfl rfl ?_
            refine ev_inc_3 (q := 76) (nI j - 1) dX7_layTerm_73 (inc_m1 _) rfl rfl ?_
            refine ev_goto 19 dX7_layTerm_76 (by decide) ?_
            rw [nI_div3 hb, Nat.div_div_eq_div_mul, ← Nat.pow_succ]
            have e := ih (i + 1) (by omega)
            try simp only [tmask, hj, c_32, c_55, if_true, if_false] at e
            first | exact e | exact absurd (c_32.symm.trans c_55) (by decide)
  refine ev_aload_n (q := 1) dX7_layTerm_0 rfl rfl ?_
  refine ev_iconst (q := 2) (0) dX7_layTerm_1 (by decide) rfl ?_
  refine ev_putI (q := 5) dX7_layTerm_2 fa_X7_184 rfl (by decide) (lt_n hn (by decide)) (Nat.le_of_ble_eq_true rfl) ⟨rfl, rfl⟩ rfl rfl ?_
  refine ev_aload_n (q := 6) dX7_layTerm_5 rfl rfl ?_
  refine ev_iconst (q := 7) (0) dX7_layTerm_6 (by decide) rfl ?_
  refine ev_putI (q := 10) dX7_layTerm_7 fa_X7_187 rfl (by decide) (lt_n hn (by decide)) (Nat.le_of_ble_eq_true rfl) ⟨rfl, rfl⟩ rfl rfl ?_
  have hz := yn_0 I 0 0
  refine ev_iload_n (q := 11) dX7_layTerm_10 rfl rfl ?_
  refine ev_ist_2 (q := 12) dX7_layTerm_11 rfl rfl ?_
  refine ev_aload_n (q := 13) dX7_layTerm_12 rfl rfl ?_
  refine ev_get (q := 16) dX7_layTerm_13 fr_X7_7 rfl (lt_n hn (by decide)) rfl rfl ?_
  rw [show setI (setI I 33 (upd (I 33) 21 0)) 33 (upd (setI I 33 (upd (I 33) 21 0) 33) 22 0) 33 0 = nI t from ht]
  refine ev_iconst (q := 17) (1) dX7_layTerm_16 (by decide) rfl ?_
  refine ev_isub (q := 18) dX7_layTerm_17 rfl ?_
  refine ev_ist_3 (q := 19) dX7_layTerm_18 rfl rfl ?_
  rw [hz]
  have e := lp t 0 (by omega)
  rw [Nat.pow_zero, Nat.div_one] at e
  exact e
end MODEL4
