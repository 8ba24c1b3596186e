def rowF (J : Nat → Nat → Int64) (t sl : Nat) (most : Int32) (f0 : Nat → Int32) : Nat → Nat → Int32
  | 0 => f0
  | i + 1 => fun w => bsV J t sl most (rowF J t sl most f0 i) w
def lastA (J : Nat → Nat → Int64) (t sl : Nat) (most what : Int32) (f : Nat → Int32) (he : Nat) : Int32 := if what = 0 then bsV J t sl most f he + 1000 else eoP (bsP J t sl most f he)
section MODEL10
variable {xl : Nat} {xs : Nat → Int32} {n : Nat} {h : Nat → PC} {I S : Nat → Nat → Int32} {J T : Nat → Nat → Int64} {X : Nat → Option Nat} {t sl wy wi he : Nat}
theorem inb_lo {v : Int32} {lo hi : Nat} (hh : hi < 2 ^ 30) (h : inb v (nI lo) (nI hi) = true) (hl : lo ≤ hi) : ∃ k, lo ≤ k ∧ k ≤ hi ∧ v = nI k := by
  simp only [inb, Bool.and_eq_true, decide_eq_true_eq] at h
  have h1 : (0 : Int32) ≤ nI lo := nI_pos' (by omega)
  obtain ⟨j, hj, e⟩ := nI_of (x := v) (by simp only [i_le, i_lt] at *; omega)
  refine ⟨j, ?_, ?_, e⟩
  · rw [e] at h; exact (nI_leI (by omega) hj).mp h.1
  · rw [e] at h; exact (nI_leI hj (by omega)).mp h.2
theorem s_X7_row (hn : 49 ≤ n) (hm : MI I t sl wy wi he) (kk most what : Int32) : RnS xl xs 3 73 0 0 mX7_row [.ref 33, .int kk, .int most, .int what] n I J X (some (.int (if inb kk 1 3 && (inb most 0 6 && inb what 0 1) then lastA J t sl most what (rowF J t sl most (wtF I t wi) (kk.toNatClampNeg - 1)) he else -2))) n I J X := by
  intro S T Q hQ
  have hm' := hm
  obtain ⟨ht, ht2, h6, hs, hs6, hwy, h3, hwi, h4, hhe, hhl⟩ := hm'
  have h64 := p2_le h6
  have h729 := p3_le h6
  show Ev xl xs 3 73 0 0 mX7_row 0 [some (.ref 33), some (.int kk), some (.int most), some (.int what), none, none] [] n (sysH (ov I S) (ovJ J T) X) Q
  cases hin : (inb kk 1 3 && (inb most 0 6 && inb what 0 1)) with
  | false =>
    rw [hin] at hQ
    refine ev_iload_n (q := 1) dX7_row_0 rfl rfl ?_
    refine ev_iconst (q := 2) (1) dX7_row_1 (by decide) rfl ?_
    refine ev_iconst (q := 3) (3) dX7_row_2 (by decide) rfl ?_
    refine ev_callS3i (q := 6) dX7_row_3 ca_X7_99 (c_X7_in _ _ _) (Nat.le_of_ble_eq_true rfl) (Nat.le_of_ble_eq_true rfl) (by decide) (by decide) rfl ?_
    refine ev_if_eq (q := 9) 28 dX7_row_6 (by decide) rfl (fun c_6 => ?_) (fun c_6 => ?_)
    · have c_6 := b2i_0.mp c_6
      refine ev_bipush (q := 30) (-2) dX7_row_28 (by decide) rfl ?_
      exact ev_iretE dX7_row_30 rfl rfl rfl rfl rfl (hQ _ _)
    · have c_6 := b2i_n0.mp c_6
      refine ev_iload_n (q := 10) dX7_row_9 rfl rfl ?_
      refine ev_iconst (q := 11) (0) dX7_row_10 (by decide) rfl ?_
      refine ev_bipush (q := 13) (6) dX7_row_11 (by decide) rfl ?_
      refine ev_callS3i (q := 16) dX7_row_13 ca_X7_99 (c_X7_in _ _ _) (Nat.le_of_ble_eq_true rfl) (Nat.le_of_ble_eq_true rfl) (by decide) (by decide) rfl ?_
      refine ev_if_eq (q := 19) 28 dX7_row_16 (by decide) rfl (fun c_16 => ?_) (fun c_16 => ?_)
      · have c_16 := b2i_0.mp c_16
        refine ev_bipush (q := 30) (-2) dX7_row_28 (by decide) rfl ?_
        exact ev_iretE dX7_row_30 rfl rfl rfl rfl rfl (hQ _ _)
      · have c_16 := b2i_n0.mp c_16
        refine ev_iload_n (q := 20) dX7_row_19 rfl rfl ?_
        refine ev_iconst (q := 21) (0) dX7_row_20 (by decide) rfl ?_
        refine ev_iconst (q := 22) (1) dX7_row_21 (by decide) rfl ?_
        refine ev_callS3i (q := 25) dX7_row_22 ca_X7_99 (c_X7_in _ _ _) (Nat.le_of_ble_eq_true rfl) (Nat.le_of_ble_eq_true rfl) (by decide) (by decide) rfl ?_
        refine ev_if_ne (q := 28) 31 dX7_row_25 (by decide) rfl (fun c_25 => ?_) (fun c_25 => ?_)
        · exact absurd (b2i_ne.mp c_25) (by rw [c_6, c_16, Bool.true_and, Bool.true_and] at hin; rw [hin]; decide)
        · refine ev_bipush (q := 30) (-2) dX7_row_28 (by decide) rfl ?_
          exact ev_iretE dX7_row_30 rfl rfl rfl rfl rfl (hQ _ _)
  | true =>
    rw [hin] at hQ
    have hin := Bool.and_eq_true_iff.mp hin
    have hin2 := Bool.and_eq_true_iff.mp hin.2
    obtain ⟨K, hK1, hK3, rfl⟩ := inb_lo (lo := 1) (hi := 3) (by decide) hin.1 (by decide)
    rw [nI_clamp (by omega)] at hQ
    have endL : ∀ S T a5, (∀ w, w < 2 ^ t → S 45 w = rowF J t sl most (wtF I t wi) (K - 1) w) → Ev xl xs 3 73 0 0 mX7_row 118 [some (.ref 33), some (.int (nI K)), some (.int most), some (.int what), some (.int (nI K)), a5] [] n (sysH (ov I S) (ovJ J T) X) Q := by
      intro S T a5 h45
      have e1 := bsV_congr (J := J) (t := t) (sl := sl) (a := he) (most := most) h45 hhl
      have e2 := bsP_congr (J := J) (t := t) (sl := sl) (a := he) (most := most) h45
      refine ev_aload_n (q := 119) dX7_row_118 rfl rfl ?_
      refine ev_aload_n (q := 120) dX7_row_119 rfl rfl ?_
      refine ev_get (q := 123) dX7_row_120 fr_X7_73 rfl (lt_n hn (by decide)) rfl rfl ?_
      rw [show ov I S 33 7 = nI he from hhe]
      refine ev_iload_n (q := 124) dX7_row_123 rfl rfl ?_
      refine ev_callV2iP (q := 127) dX7_row_124 ca_X7_217 (s_X7_bestFrom hn hm (by omega)) rfl (lt_n hn (by decide)) rfl rfl (Nat.le_of_ble_eq_true rfl) (Nat.le_of_ble_eq_true rfl) (by decide) (by decide) rfl (fun S T hp_124 => ?_)
      refine ev_ist_4 (q := 129) dX7_row_127 rfl rfl ?_
      obtain ⟨-, -, -, hb⟩ := hp_124
      refine ev_iload_n (q := 130) dX7_row_129 rfl rfl ?_
      refine ev_if_ne (q := 133) 142 dX7_row_130 (by decide) rfl (fun c_130 => ?_) (fun c_130 => ?_)
      · have c_130 : ¬ what = 0 := c_130
        refine ev_aload_n (q := 143) dX7_row_142 rfl rfl ?_
        refine ev_get (q := 146) dX7_row_143 fr_X7_210 rfl (lt_n hn (by decide)) rfl rfl ?_
        exact ev_iretE dX7_row_146 rfl rfl (by first | (simp only [lastA, c_130, if_true, if_false, e1]; done) | (simp only [lastA, c_130, if_true, if_false, ← e2]; exact hb)) rfl rfl (hQ _ _)
      · refine ev_iload (q := 135) dX7_row_133 rfl rfl ?_
        refine ev_sipush (q := 138) (1000) dX7_row_135 (by decide) rfl ?_
        refine ev_iadd (q := 139) dX7_row_138 rfl ?_
        refine ev_goto 146 dX7_row_139 (by decide) ?_
        exact ev_iretE dX7_row_146 rfl rfl (by first | (simp only [lastA, c_130, if_true, if_false, e1]; done) | (simp only [lastA, c_130, if_true, if_false, ← e2]; exact hb)) rfl rfl (hQ _ _)
    have in2 : ∀ i, (∀ S T a5, (∀ w, w < 2 ^ t → S 45 w = rowF J t sl most (wtF I t wi) i w) → Ev xl xs 3 73 0 0 mX7_row 112 [some (.ref 33), some (.int (nI K)), some (.int most), some (.int what), some (.int (nI i)), a5] [] n (sysH (ov I S) (ovJ J T) X) Q) → ∀ j k, k + j = 2 ^ t → ∀ S T, (∀ w, w < 2 ^ t → S 44 w = rowF J t sl most (wtF I t wi) i w) → (∀ w, w < k → S 45 w = rowF J t sl most (wtF I t wi) i w) → Ev xl xs 3 73 0 0 mX7_row 83 [some (.ref 33), some (.int (nI K)), some (.int most), some (.int what), some (.int (nI i)), some (.int (nI k))] [] n (sysH (ov I S) (ovJ J T) X) Q := by
      intro i hout j
      induction j using Nat.strongRecOn with
      | _ j ih =>
        intro k hk S T e44 e45
        refine ev_iload (q := 85) dX7_row_83 rfl rfl ?_
        refine ev_aload_n (q := 86) dX7_row_85 rfl rfl ?_
        refine ev_callV0i (q := 89) dX7_row_86 ca_X7_95 (s_X7_worlds hn hm) rfl (lt_n hn (by decide)) rfl rfl (Nat.le_of_ble_eq_true rfl) (Nat.le_of_ble_eq_true rfl) (by decide) (by decide) rfl ?_
        refine ev_icmp_ge (q := 92) 112 dX7_row_89 (by decide) rfl (fun c_89 => ?_) (fun c_89 => ?_)
        · have c_89 : 2 ^ t ≤ k := (nI_leI (by omega) (by omega)).mp c_89
          exact hout S T _ (fun w hw => e45 w (by omega))
        · have c_89 : ¬ 2 ^ t ≤ k := fun h => c_89 ((nI_leI (by omega) (by omega)).mpr h)
          refine ev_aload_n (q := 93) dX7_row_92 rfl rfl ?_
          refine ev_get (q := 96) dX7_row_93 fr_X7_49 rfl (lt_n hn (by decide)) rfl rfl ?_
          refine ev_iload (q := 98) dX7_row_96 rfl rfl ?_
          refine ev_aload_n (q := 99) dX7_row_98 rfl rfl ?_
          refine ev_get (q := 102) dX7_row_99 fr_X7_46 rfl (lt_n hn (by decide)) rfl rfl ?_
          refine ev_iload (q := 104) dX7_row_102 rfl rfl ?_
          refine ev_iaS (q := 105) _ dX7_row_104 rfl rfl (by omega) (lt_n hn (by decide)) rfl ?_
          first | refine ev_isK (q := 106) _ dX7_row_105 rfl rfl (by omega) (lt_n hn (by decide)) rfl rfl ?_ | refine ev_isR (q := 106) _ dX7_row_105 rfl rfl (by omega) (lt_n hn (by decide)) rfl rfl ?_
          refine ev_inc_5 (q := 109) (nI (k + 1)) dX7_row_106 (nI_1 k) rfl rfl ?_
          refine ev_goto 83 dX7_row_109 (by decide) ?_
          exact ih (j - 1) (by omega) (k + 1) (by omega) _ _ (by exact e44) (by intro w hw; by_cases hwk : w = k; (subst hwk; exact (pk_us).trans (e44 w (by omega))); exact (pk_un hwk).trans (e45 w (by omega)))
    have in1 : ∀ i, (∀ S T a5, (∀ w, w < 2 ^ t → S 45 w = rowF J t sl most (wtF I t wi) i w) → Ev xl xs 3 73 0 0 mX7_row 112 [some (.ref 33), some (.int (nI K)), some (.int most), some (.int what), some (.int (nI i)), a5] [] n (sysH (ov I S) (ovJ J T) X) Q) → 1 ≤ i → ∀ j k, k + j = 2 ^ t → ∀ S T, (∀ w, w < 2 ^ t → S 45 w = rowF J t sl most (wtF I t wi) (i - 1) w) → (∀ w, w < k → S 44 w = rowF J t sl most (wtF I t wi) i w) → Ev xl xs 3 73 0 0 mX7_row 51 [some (.ref 33), some (.int (nI K)), some (.int most), some (.int what), some (.int (nI i)), some (.int (nI k))] [] n (sysH (ov I S) (ovJ J T) X) Q := by
      intro i hout hi j
      induction j using Nat.strongRecOn with
      | _ j ih =>
        intro k hk S T e45 e44
        refine ev_iload (q := 53) dX7_row_51 rfl rfl ?_
        refine ev_aload_n (q := 54) dX7_row_53 rfl rfl ?_
        refine ev_callV0i (q := 57) dX7_row_54 ca_X7_95 (s_X7_worlds hn hm) rfl (lt_n hn (by decide)) rfl rfl (Nat.le_of_ble_eq_true rfl) (Nat.le_of_ble_eq_true rfl) (by decide) (by decide) rfl ?_
        refine ev_icmp_ge (q := 60) 80 dX7_row_57 (by decide) rfl (fun c_57 => ?_) (fun c_57 => ?_)
        · have c_57 : 2 ^ t ≤ k := (nI_leI (by omega) (by omega)).mp c_57
          refine ev_iconst (q := 81) (0) dX7_row_80 (by decide) rfl ?_
          refine ev_ist_5 (q := 83) dX7_row_81 rfl rfl ?_
          exact in2 i hout (2 ^ t) 0 (by omega) _ _ (fun w hw => e44 w (by omega)) (fun w hw => absurd hw (by omega))
        · have c_57 : ¬ 2 ^ t ≤ k := fun h => c_57 ((nI_leI (by omega) (by omega)).mpr h)
          refine ev_aload_n (q := 61) dX7_row_60 rfl rfl ?_
          refine ev_get (q := 64) dX7_row_61 fr_X7_46 rfl (lt_n hn (by decide)) rfl rfl ?_
          refine ev_iload (q := 66) dX7_row_64 rfl rfl ?_
          refine ev_aload_n (q := 67) dX7_row_66 rfl rfl ?_
          refine ev_iload (q := 69) dX7_row_67 rfl rfl ?_
          refine ev_iload_n (q := 70) dX7_row_69 rfl rfl ?_
          have hbv := bsV_congr (J := J) (t := t) (sl := sl) (a := k) (most := most) e45 (by omega)
          refine ev_callV2iP (q := 73) dX7_row_70 ca_X7_217 (s_X7_bestFrom hn hm (by omega)) rfl (lt_n hn (by decide)) rfl rfl (Nat.le_of_ble_eq_true rfl) (Nat.le_of_ble_eq_true rfl) (by decide) (by decide) rfl (fun S T hp_70 => ?_)
          obtain ⟨-, g44, g45, -⟩ := hp_70
          first | refine ev_isK (q := 74) _ dX7_row_73 rfl rfl (by omega) (lt_n hn (by decide)) rfl rfl ?_ | refine ev_isR (q := 74) _ dX7_row_73 rfl rfl (by omega) (lt_n hn (by decide)) rfl rfl ?_
          refine ev_inc_5 (q := 77) (nI (k + 1)) dX7_row_74 (nI_1 k) rfl rfl ?_
          refine ev_goto 51 dX7_row_77 (by decide) ?_
          exact ih (j - 1) (by omega) (k + 1) (by omega) _ _ (by intro w hw; exact (congrFun g45 w).trans (e45 w hw)) (by intro w hw; by_cases hwk : w = k; (subst hwk; refine (pk_us).trans (hbv.trans ?_); obtain ⟨i', rfl⟩ : ∃ i', i = i' + 1 := ⟨i - 1, by omega⟩; rfl); exact (pk_un hwk).trans ((congrFun g44 w).trans (e44 w (by omega))))
    have lp : ∀ j i, i + j = K → 1 ≤ i → ∀ S T a5, (∀ w, w < 2 ^ t → S 45 w = rowF J t sl most (wtF I t wi) (i - 1) w) → Ev xl xs 3 73 0 0 mX7_row 42 [some (.ref 33), some (.int (nI K)), some (.int most), some (.int what), some (.int (nI i)), a5] [] n (sysH (ov I S) (ovJ J T) X) Q := by
      intro j
      induction j using Nat.strongRecOn with
      | _ j ih =>
        intro i hi hi1 S T a5 e45
        have nx : ¬ K ≤ i → ∀ S T a5, (∀ w, w < 2 ^ t → S 45 w = rowF J t sl most (wtF I t wi) i w) → Ev xl xs 3 73 0 0 mX7_row 112 [some (.ref 33), some (.int (nI K)), some (.int most), some (.int what), some (.int (nI i)), a5] [] n (sysH (ov I S) (ovJ J T) X) Q := by
          intro hKi S T a5 e45
          refine ev_inc_4 (q := 115) (nI (i + 1)) dX7_row_112 (nI_1 i) rfl rfl ?_
          refine ev_goto 42 dX7_row_115 (by decide) ?_
          exact ih (j - 1) (by omega) (i + 1) (by omega) (by omega) _ _ _ (by exact e45)
        refine ev_iload (q := 44) dX7_row_42 rfl rfl ?_
        refine ev_iload_n (q := 45) dX7_row_44 rfl rfl ?_
        refine ev_icmp_ge (q := 48) 118 dX7_row_45 (by decide) rfl (fun c_45 => ?_) (fun c_45 => ?_)
        · have c_45 : K ≤ i := (nI_leI (by omega) (by omega)).mp c_45
          rw [show i = K by omega]
          exact endL _ _ _ (by rw [← show i = K by omega]; exact e45)
        · have c_45 : ¬ K ≤ i := fun h => c_45 ((nI_leI (by omega) (by omega)).mpr h)
          refine ev_iconst (q := 49) (0) dX7_row_48 (by decide) rfl ?_
          refine ev_ist_5 (q := 51) dX7_row_49 rfl rfl ?_
          exact in1 i (nx c_45) hi1 (2 ^ t) 0 (by omega) _ _ (by exact e45) (fun w hw => absurd hw (by omega))
    refine ev_iload_n (q := 1) dX7_row_0 rfl rfl ?_
    refine ev_iconst (q := 2) (1) dX7_row_1 (by decide) rfl ?_
    refine ev_iconst (q := 3) (3) dX7_row_2 (by decide) rfl ?_
    refine ev_callS3i (q := 6) dX7_row_3 ca_X7_99 (c_X7_in _ _ _) (Nat.le_of_ble_eq_true rfl) (Nat.le_of_ble_eq_true rfl) (by decide) (by decide) rfl ?_
    refine ev_if_eq (q := 9) 28 dX7_row_6 (by decide) rfl (fun c_6 => ?_) (fun c_6 => ?_)
    · exact absurd c_6 (b2i_n0.mpr hin.1)
    · refine ev_iload_n (q := 10) dX7_row_9 rfl rfl ?_
      refine ev_iconst (q := 11) (0) dX7_row_10 (by decide) rfl ?_
      refine ev_bipush (q := 13) (6) dX7_row_11 (by decide) rfl ?_
      refine ev_callS3i (q := 16) dX7_row_13 ca_X7_99 (c_X7_in _ _ _) (Nat.le_of_ble_eq_true rfl) (Nat.le_of_ble_eq_true rfl) (by decide) (by decide) rfl ?_
      refine ev_if_eq (q := 19) 28 dX7_row_16 (by decide) rfl (fun c_16 => ?_) (fun c_16 => ?_)
      · exact absurd c_16 (b2i_n0.mpr hin2.1)
      · refine ev_iload_n (q := 20) dX7_row_19 rfl rfl ?_
        refine ev_iconst (q := 21) (0) dX7_row_20 (by decide) rfl ?_
        refine ev_iconst (q := 22) (1) dX7_row_21 (by decide) rfl ?_
        refine ev_callS3i (q := 25) dX7_row_22 ca_X7_99 (c_X7_in _ _ _) (Nat.le_of_ble_eq_true rfl) (Nat.le_of_ble_eq_true rfl) (by decide) (by decide) rfl ?_
        refine ev_if_ne (q := 28) 31 dX7_row_25 (by decide) rfl (fun c_25 => ?_) (fun c_25 => ?_)
        · refine ev_aload_n (q := 32) dX7_row_31 rfl rfl ?_
          refine ev_aload_n (q := 33) dX7_row_32 rfl rfl ?_
          refine ev_get (q := 36) dX7_row_33 fr_X7_67 rfl (lt_n hn (by decide)) rfl rfl ?_
          rw [show ov I S 33 5 = nI wi from hwi]
          refine ev_callV1v (q := 39) dX7_row_36 ca_X7_214 (s_X7_layAhead hn hm (by omega)) rfl (lt_n hn (by decide)) rfl rfl (Nat.le_of_ble_eq_true rfl) (Nat.le_of_ble_eq_true rfl) (by decide) (by decide) rfl ?_
          refine ev_iconst (q := 40) (1) dX7_row_39 (by decide) rfl ?_
          refine ev_ist_4 (q := 42) dX7_row_40 rfl rfl ?_
          exact lp (K - 1) 1 (by omega) (by omega) _ _ _ (fun w hw => fillA_at hw)
        · exact absurd c_25 (b2i_n0.mpr hin2.2)
end MODEL10
