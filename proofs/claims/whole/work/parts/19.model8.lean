section MODEL8
variable {xl : Nat} {xs : Nat → Int32} {n : Nat} {h : Nat → PC} {I S : Nat → Nat → Int32} {J T : Nat → Nat → Int64} {X : Nat → Option Nat} {t sl wy wi he : Nat}
theorem s_X7_most (hn : 49 ≤ n) (hm : MI I t sl wy wi he) (most what : Int32) : RnS xl xs 5 114 0 0 mX7_most [.ref 33, .int most, .int what] n I J X (some (.int (if inb most 0 6 && inb what 0 1 then (match upto (pickB (btW t) (ownM I J t sl wy wi he most)) (3 ^ t) none with | none => -6 | some p => if what = 1 then nI p.1 else p.2 + 1000) else -2))) n I J X := by
  intro S T Q hQ
  have hm' := hm
  obtain ⟨ht, ht2, h6, hs, hs6, hwy, h3, hwi, h4, hhe, hhl⟩ := hm'
  have h64 := p2_le h6
  have h729 := p3_le h6
  show Ev xl xs 5 114 0 0 mX7_most 0 [some (.ref 33), some (.int most), some (.int what), none, none, none, none, none] [] n (sysH (ov I S) (ovJ J T) X) Q
  cases hin : (inb most 0 6 && inb what 0 1) with
  | false =>
    rw [hin] at hQ
    refine ev_iload_n (q := 1) dX7_most_0 rfl rfl ?_
    refine ev_iconst (q := 2) (0) dX7_most_1 (by decide) rfl ?_
    refine ev_bipush (q := 4) (6) dX7_most_2 (by decide) rfl ?_
    refine ev_callS3i (q := 7) dX7_most_4 ca_X7_99 (c_X7_in _ _ _) (Nat.le_of_ble_eq_true rfl) (Nat.le_of_ble_eq_true rfl) (by decide) (by decide) rfl ?_
    refine ev_if_eq (q := 10) 19 dX7_most_7 (by decide) rfl (fun c_7 => ?_) (fun c_7 => ?_)
    · have c_7 := b2i_0.mp c_7
      refine ev_bipush (q := 21) (-2) dX7_most_19 (by decide) rfl ?_
      exact ev_iretE dX7_most_21 rfl rfl rfl rfl rfl (hQ _ _)
    · have c_7 := b2i_n0.mp c_7
      refine ev_iload_n (q := 11) dX7_most_10 rfl rfl ?_
      refine ev_iconst (q := 12) (0) dX7_most_11 (by decide) rfl ?_
      refine ev_iconst (q := 13) (1) dX7_most_12 (by decide) rfl ?_
      refine ev_callS3i (q := 16) dX7_most_13 ca_X7_99 (c_X7_in _ _ _) (Nat.le_of_ble_eq_true rfl) (Nat.le_of_ble_eq_true rfl) (by decide) (by decide) rfl ?_
      refine ev_if_ne (q := 19) 22 dX7_most_16 (by decide) rfl (fun c_16 => ?_) (fun c_16 => ?_)
      · exact absurd (b2i_ne.mp c_16) (by rw [c_7, Bool.true_and] at hin; rw [hin]; decide)
      · refine ev_bipush (q := 21) (-2) dX7_most_19 (by decide) rfl ?_
        exact ev_iretE dX7_most_21 rfl rfl rfl rfl rfl (hQ _ _)
  | true =>
    rw [hin] at hQ
    have hin := Bool.and_eq_true_iff.mp hin
    have lp : ∀ j k, k + j = 3 ^ t → ∀ S T a6 a7, Ev xl xs 5 114 0 0 mX7_most 31 [some (.ref 33), some (.int most), some (.int what), some (.int (eoP (upto (pickB (btW t) (ownM I J t sl wy wi he most)) k none))), some (.int (bvP (upto (pickB (btW t) (ownM I J t sl wy wi he most)) k none))), some (.int (nI k)), a6, a7] [] n (sysH (ov I S) (ovJ J T) X) Q := by
      intro j
      induction j using Nat.strongRecOn with
      | _ j ih =>
        intro k hk S T a6 a7
        have hlt := pickB_lt (better := btW t) (own := ownM I J t sl wy wi he most) k
        have hwk := wd_le (num := k) h6
        cases ho : upto (pickB (btW t) (ownM I J t sl wy wi he most)) k none with
        | none =>
          cases hmk : mtF I J t sl wy wi k he with
          | none =>
            refine ev_iload (q := 33) dX7_most_31 rfl rfl ?_
            refine ev_aload_n (q := 34) dX7_most_33 rfl rfl ?_
            refine ev_callV0i (q := 37) dX7_most_34 ca_X7_201 (s_X7_terms hn hm) rfl (lt_n hn (by decide)) rfl rfl (Nat.le_of_ble_eq_true rfl) (Nat.le_of_ble_eq_true rfl) (by decide) (by decide) rfl ?_
            refine ev_icmp_ge (q := 40) 138 dX7_most_37 (by decide) rfl (fun c_37 => ?_) (fun c_37 => ?_)
            · have c_37 : 3 ^ t ≤ k := (nI_leI (by omega) (by omega)).mp c_37
              refine ev_iload_n (q := 139) dX7_most_138 rfl rfl ?_
              refine ev_if_lt (q := 142) 147 dX7_most_139 (by decide) rfl (fun c_139 => ?_) (fun c_139 => ?_)
              · refine ev_iload_n (q := 148) dX7_most_147 rfl rfl ?_
                refine ev_goto 157 dX7_most_148 (by decide) ?_
                exact ev_iretE dX7_most_157 rfl rfl (by rw [show 3 ^ t = k by omega, ho]; rfl) rfl rfl (hQ _ _)
              · exact absurd neg6 c_139
            · have c_37 : ¬ 3 ^ t ≤ k := fun h => c_37 ((nI_leI (by omega) (by omega)).mpr h)
              refine ev_aload_n (q := 41) dX7_most_40 rfl rfl ?_
              refine ev_iload (q := 43) dX7_most_41 rfl rfl ?_
              refine ev_callV1i (q := 46) dX7_most_43 ca_X7_207 (s_X7_words hn hm (by omega)) rfl (lt_n hn (by decide)) rfl rfl (Nat.le_of_ble_eq_true rfl) (Nat.le_of_ble_eq_true rfl) (by decide) (by decide) rfl ?_
              refine ev_iload_n (q := 47) dX7_most_46 rfl rfl ?_
              refine ev_icmp_gt (q := 50) 63 dX7_most_47 (by decide) rfl (fun c_47 => ?_) (fun c_47 => ?_)
              · have c_47 : ¬ nI (wd t k) ≤ most := fun h => absurd c_47 (by simp only [i_le, i_lt] at *; omega)
                refine ev_bipush (q := 65) (-6) dX7_most_63 (by decide) rfl ?_
                refine ev_ist_6 (q := 67) dX7_most_65 rfl rfl ?_
                refine ev_iload (q := 69) dX7_most_67 rfl rfl ?_
                refine ev_if_ge (q := 72) 76 dX7_most_69 (by decide) rfl (fun c_69 => ?_) (fun c_69 => ?_)
                · exact absurd c_69 (by decide)
                · refine ev_iconst (q := 73) (0) dX7_most_72 (by decide) rfl ?_
                  refine ev_goto 86 dX7_most_73 (by decide) ?_
                  refine ev_ist_7 (q := 88) dX7_most_86 rfl rfl ?_
                  refine ev_iload (q := 90) dX7_most_88 rfl rfl ?_
                  refine ev_if_lt (q := 93) 132 dX7_most_90 (by decide) rfl (fun c_90 => ?_) (fun c_90 => ?_)
                  · refine ev_inc_5 (q := 135) (nI (k + 1)) dX7_most_132 (nI_1 k) rfl rfl ?_
                    refine ev_goto 31 dX7_most_135 (by decide) ?_
                    have e := ih (j - 1) (by omega) (k + 1) (by omega) S T
                    simp only [upto, pickB, ownM, ho, hmk, c_47, if_true, if_false, Option.map_none] at e
                    exact e _ _
                  · exact absurd neg6 c_90
              · have c_47 : nI (wd t k) ≤ most := by simp only [i_le, i_lt] at *; omega
                refine ev_aload_n (q := 51) dX7_most_50 rfl rfl ?_
                refine ev_iload (q := 53) dX7_most_51 rfl rfl ?_
                refine ev_aload_n (q := 54) dX7_most_53 rfl rfl ?_
                refine ev_get (q := 57) dX7_most_54 fr_X7_73 rfl (lt_n hn (by decide)) rfl rfl ?_
                rw [show ov I S 33 7 = nI he from hhe]
                refine ev_callV2iS (q := 60) dX7_most_57 ca_X7_204 (s_X7_madeOfTerm hn hm (by omega) (by omega)) rfl (lt_n hn (by decide)) rfl rfl (Nat.le_of_ble_eq_true rfl) (Nat.le_of_ble_eq_true rfl) (by decide) (by decide) rfl (fun S T => ?_)
                rw [hmk]
                refine ev_goto 65 dX7_most_60 (by decide) ?_
                refine ev_ist_6 (q := 67) dX7_most_65 rfl rfl ?_
                refine ev_iload (q := 69) dX7_most_67 rfl rfl ?_
                refine ev_if_ge (q := 72) 76 dX7_most_69 (by decide) rfl (fun c_69 => ?_) (fun c_69 => ?_)
                · exact absurd c_69 (by decide)
                · refine ev_iconst (q := 73) (0) dX7_most_72 (by decide) rfl ?_
                  refine ev_goto 86 dX7_most_73 (by decide) ?_
                  refine ev_ist_7 (q := 88) dX7_most_86 rfl rfl ?_
                  refine ev_iload (q := 90) dX7_most_88 rfl rfl ?_
                  refine ev_if_lt (q := 93) 132 dX7_most_90 (by decide) rfl (fun c_90 => ?_) (fun c_90 => ?_)
                  · refine ev_inc_5 (q := 135) (nI (k + 1)) dX7_most_132 (nI_1 k) rfl rfl ?_
                    refine ev_goto 31 dX7_most_135 (by decide) ?_
                    have e := ih (j - 1) (by omega) (k + 1) (by omega) S T
                    simp only [upto, pickB, ownM, ho, hmk, c_47, if_true, if_false, Option.map_none] at e
                    exact e _ _
                  · exact absurd neg6 c_90
          | some v =>
            have hv := mtF_lt hmk
            refine ev_iload (q := 33) dX7_most_31 rfl rfl ?_
            refine ev_aload_n (q := 34) dX7_most_33 rfl rfl ?_
            refine ev_callV0i (q := 37) dX7_most_34 ca_X7_201 (s_X7_terms hn hm) rfl (lt_n hn (by decide)) rfl rfl (Nat.le_of_ble_eq_true rfl) (Nat.le_of_ble_eq_true rfl) (by decide) (by decide) rfl ?_
            refine ev_icmp_ge (q := 40) 138 dX7_most_37 (by decide) rfl (fun c_37 => ?_) (fun c_37 => ?_)
            · have c_37 : 3 ^ t ≤ k := (nI_leI (by omega) (by omega)).mp c_37
              refine ev_iload_n (q := 139) dX7_most_138 rfl rfl ?_
              refine ev_if_lt (q := 142) 147 dX7_most_139 (by decide) rfl (fun c_139 => ?_) (fun c_139 => ?_)
              · refine ev_iload_n (q := 148) dX7_most_147 rfl rfl ?_
                refine ev_goto 157 dX7_most_148 (by decide) ?_
                exact ev_iretE dX7_most_157 rfl rfl (by rw [show 3 ^ t = k by omega, ho]; rfl) rfl rfl (hQ _ _)
              · exact absurd neg6 c_139
            · have c_37 : ¬ 3 ^ t ≤ k := fun h => c_37 ((nI_leI (by omega) (by omega)).mpr h)
              refine ev_aload_n (q := 41) dX7_most_40 rfl rfl ?_
              refine ev_iload (q := 43) dX7_most_41 rfl rfl ?_
              refine ev_callV1i (q := 46) dX7_most_43 ca_X7_207 (s_X7_words hn hm (by omega)) rfl (lt_n hn (by decide)) rfl rfl (Nat.le_of_ble_eq_true rfl) (Nat.le_of_ble_eq_true rfl) (by decide) (by decide) rfl ?_
              refine ev_iload_n (q := 47) dX7_most_46 rfl rfl ?_
              refine ev_icmp_gt (q := 50) 63 dX7_most_47 (by decide) rfl (fun c_47 => ?_) (fun c_47 => ?_)
              · have c_47 : ¬ nI (wd t k) ≤ most := fun h => absurd c_47 (by simp only [i_le, i_lt] at *; omega)
                refine ev_bipush (q := 65) (-6) dX7_most_63 (by decide) rfl ?_
                refine ev_ist_6 (q := 67) dX7_most_65 rfl rfl ?_
                refine ev_iload (q := 69) dX7_most_67 rfl rfl ?_
                refine ev_if_ge (q := 72) 76 dX7_most_69 (by decide) rfl (fun c_69 => ?_) (fun c_69 => ?_)
                · try (exact absurd c_69 (by decide))
                  all_goals (
                    refine ev_aload_n (q := 77) dX7_most_76 rfl rfl ?_
                    refine ev_aload_n (q := 78) dX7_most_77 rfl rfl ?_
                    refine ev_get (q := 81) dX7_most_78 fr_X7_67 rfl (lt_n hn (by decide)) rfl rfl ?_
                    rw [show ov I S 33 5 = nI wi from hwi]
                    refine ev_iload (q := 83) dX7_most_81 rfl rfl ?_
                    refine ev_callV2i (q := 86) dX7_most_83 ca_X7_117 (s_X7_worthTo (w := v) hn hm (by omega) (by omega)) rfl (lt_n hn (by decide)) rfl rfl (Nat.le_of_ble_eq_true rfl) (Nat.le_of_ble_eq_true rfl) (by decide) (by decide) rfl ?_
                    refine ev_ist_7 (q := 88) dX7_most_86 rfl rfl ?_
                    refine ev_iload (q := 90) dX7_most_88 rfl rfl ?_
                    refine ev_if_lt (q := 93) 132 dX7_most_90 (by decide) rfl (fun c_90 => ?_) (fun c_90 => ?_)
                    · try (exact absurd c_90 (nI_pos (by omega)))
                      all_goals (
                        refine ev_inc_5 (q := 135) (nI (k + 1)) dX7_most_132 (nI_1 k) rfl rfl ?_
                        refine ev_goto 31 dX7_most_135 (by decide) ?_
                        have e := ih (j - 1) (by omega) (k + 1) (by omega) S T
                        simp only [upto, pickB, ownM, ho, hmk, c_47, if_true, if_false, Option.map_some] at e
                        exact e _ _
                      )
                    · try (exact absurd neg6 c_90)
                      all_goals (
                        refine ev_iload_n (q := 94) dX7_most_93 rfl rfl ?_
                        refine ev_if_lt (q := 97) 125 dX7_most_94 (by decide) rfl (fun c_94 => ?_) (fun c_94 => ?_)
                        · refine ev_iload (q := 127) dX7_most_125 rfl rfl ?_
                          refine ev_ist_3 (q := 128) dX7_most_127 rfl rfl ?_
                          refine ev_iload (q := 130) dX7_most_128 rfl rfl ?_
                          refine ev_ist_4 (q := 132) dX7_most_130 rfl rfl ?_
                          refine ev_inc_5 (q := 135) (nI (k + 1)) dX7_most_132 (nI_1 k) rfl rfl ?_
                          refine ev_goto 31 dX7_most_135 (by decide) ?_
                          have e := ih (j - 1) (by omega) (k + 1) (by omega) S T
                          simp only [upto, pickB, ownM, ho, hmk, c_47, if_true, if_false, Option.map_some] at e
                          exact e _ _
                        · exact absurd neg6 c_94
                      )
                  )
                · try (exact absurd (nI_pos' (by omega)) c_69)
                  all_goals (
                    refine ev_iconst (q := 73) (0) dX7_most_72 (by decide) rfl ?_
                    refine ev_goto 86 dX7_most_73 (by decide) ?_
                    refine ev_ist_7 (q := 88) dX7_most_86 rfl rfl ?_
                    refine ev_iload (q := 90) dX7_most_88 rfl rfl ?_
                    refine ev_if_lt (q := 93) 132 dX7_most_90 (by decide) rfl (fun c_90 => ?_) (fun c_90 => ?_)
                    · try (exact absurd c_90 (nI_pos (by omega)))
                      all_goals (
                        refine ev_inc_5 (q := 135) (nI (k + 1)) dX7_most_132 (nI_1 k) rfl rfl ?_
                        refine ev_goto 31 dX7_most_135 (by decide) ?_
                        have e := ih (j - 1) (by omega) (k + 1) (by omega) S T
                        simp only [upto, pickB, ownM, ho, hmk, c_47, if_true, if_false, Option.map_some] at e
                        exact e _ _
                      )
                    · try (exact absurd neg6 c_90)
                      all_goals (
                        refine ev_iload_n (q := 94) dX7_most_93 rfl rfl ?_
                        refine ev_if_lt (q := 97) 125 dX7_most_94 (by decide) rfl (fun c_94 => ?_) (fun c_94 => ?_)
                        · refine ev_iload (q := 127) dX7_most_125 rfl rfl ?_
                          refine ev_ist_3 (q := 128) dX7_most_127 rfl rfl ?_
                          refine ev_iload (q := 130) dX7_most_128 rfl rfl ?_
                          refine ev_ist_4 (q := 132) dX7_most_130 rfl rfl ?_
                          refine ev_inc_5 (q := 135) (nI (k + 1)) dX7_most_132 (nI_1 k) rfl rfl ?_
                          refine ev_goto 31 dX7_most_135 (by decide) ?_
                          have e := ih (j - 1) (by omega) (k + 1) (by omega) S T
                          simp only [upto, pickB, ownM, ho, hmk, c_47, if_true, if_false, Option.map_some] at e
                          exact e _ _
                        · exact absurd neg6 c_94
                      )
                  )
              · have c_47 : nI (wd t k) ≤ most := by simp only [i_le, i_lt] at *; omega
                refine ev_aload_n (q := 51) dX7_most_50 rfl rfl ?_
                refine ev_iload (q := 53) dX7_most_51 rfl rfl ?_
                refine ev_aload_n (q := 54) dX7_most_53 rfl rfl ?_
                refine ev_get (q := 57) dX7_most_54 fr_X7_73 rfl (lt_n hn (by decide)) rfl rfl ?_
                rw [show ov I S 33 7 = nI he from hhe]
                refine ev_callV2iS (q := 60) dX7_most_57 ca_X7_204 (s_X7_madeOfTerm hn hm (by omega) (by omega)) rfl (lt_n hn (by decide)) rfl rfl (Nat.le_of_ble_eq_true rfl) (Nat.le_of_ble_eq_true rfl) (by decide) (by decide) rfl (fun S T => ?_)
                rw [hmk]
                refine ev_goto 65 dX7_most_60 (by decide) ?_
                refine ev_ist_6 (q := 67) dX7_most_65 rfl rfl ?_
                refine ev_iload (q := 69) dX7_most_67 rfl rfl ?_
                refine ev_if_ge (q := 72) 76 dX7_most_69 (by decide) rfl (fun c_69 => ?_) (fun c_69 => ?_)
                · try (exact absurd c_69 (by decide))
                  all_goals (
                    refine ev_aload_n (q := 77) dX7_most_76 rfl rfl ?_
                    refine ev_aload_n (q := 78) dX7_most_77 rfl rfl ?_
                    refine ev_get (q := 81) dX7_most_78 fr_X7_67 rfl (lt_n hn (by decide)) rfl rfl ?_
                    rw [show ov I S 33 5 = nI wi from hwi]
                    refine ev_iload (q := 83) dX7_most_81 rfl rfl ?_
                    refine ev_callV2i (q := 86) dX7_most_83 ca_X7_117 (s_X7_worthTo (w := v) hn hm (by omega) (by omega)) rfl (lt_n hn (by decide)) rfl rfl (Nat.le_of_ble_eq_true rfl) (Nat.le_of_ble_eq_true rfl) (by decide) (by decide) rfl ?_
                    refine ev_ist_7 (q := 88) dX7_most_86 rfl rfl ?_
                    refine ev_iload (q := 90) dX7_most_88 rfl rfl ?_
                    refine ev_if_lt (q := 93) 132 dX7_most_90 (by decide) rfl (fun c_90 => ?_) (fun c_90 => ?_)
                    · try (exact absurd c_90 (nI_pos (by omega)))
                      all_goals (
                        refine ev_inc_5 (q := 135) (nI (k + 1)) dX7_most_132 (nI_1 k) rfl rfl ?_
                        refine ev_goto 31 dX7_most_135 (by decide) ?_
                        have e := ih (j - 1) (by omega) (k + 1) (by omega) S T
                        simp only [upto, pickB, ownM, ho, hmk, c_47, if_true, if_false, Option.map_some] at e
                        exact e _ _
                      )
                    · try (exact absurd neg6 c_90)
                      all_goals (
                        refine ev_iload_n (q := 94) dX7_most_93 rfl rfl ?_
                        refine ev_if_lt (q := 97) 125 dX7_most_94 (by decide) rfl (fun c_94 => ?_) (fun c_94 => ?_)
                        · refine ev_iload (q := 127) dX7_most_125 rfl rfl ?_
                          refine ev_ist_3 (q := 128) dX7_most_127 rfl rfl ?_
                          refine ev_iload (q := 130) dX7_most_128 rfl rfl ?_
                          refine ev_ist_4 (q := 132) dX7_most_130 rfl rfl ?_
                          refine ev_inc_5 (q := 135) (nI (k + 1)) dX7_most_132 (nI_1 k) rfl rfl ?_
                          refine ev_goto 31 dX7_most_135 (by decide) ?_
                          have e := ih (j - 1) (by omega) (k + 1) (by omega) S T
                          simp only [upto, pickB, ownM, ho, hmk, c_47, if_true, if_false, Option.map_some] at e
                          exact e _ _
                        · exact absurd neg6 c_94
                      )
                  )
                · try (exact absurd (nI_pos' (by omega)) c_69)
                  all_goals (
                    refine ev_iconst (q := 73) (0) dX7_most_72 (by decide) rfl ?_
                    refine ev_goto 86 dX7_most_73 (by decide) ?_
                    refine ev_ist_7 (q := 88) dX7_most_86 rfl rfl ?_
                    refine ev_iload (q := 90) dX7_most_88 rfl rfl ?_
                    refine ev_if_lt (q := 93) 132 dX7_most_90 (by decide) rfl (fun c_90 => ?_) (fun c_90 => ?_)
                    · try (exact absurd c_90 (nI_pos (by omega)))
                      all_goals (
                        refine ev_inc_5 (q := 135) (nI (k + 1)) dX7_most_132 (nI_1 k) rfl rfl ?_
                        refine ev_goto 31 dX7_most_135 (by decide) ?_
                        have e := ih (j - 1) (by omega) (k + 1) (by omega) S T
                        simp only [upto, pickB, ownM, ho, hmk, c_47, if_true, if_false, Option.map_some] at e
                        exact e _ _
                      )
                    · try (exact absurd neg6 c_90)
                      all_goals (
                        refine ev_iload_n (q := 94) dX7_most_93 rfl rfl ?_
                        refine ev_if_lt (q := 97) 125 dX7_most_94 (by decide) rfl (fun c_94 => ?_) (fun c_94 => ?_)
                        · refine ev_iload (q := 127) dX7_most_125 rfl rfl ?_
                          refine ev_ist_3 (q := 128) dX7_most_127 rfl rfl ?_
                          refine ev_iload (q := 130) dX7_most_128 rfl rfl ?_
                          refine ev_ist_4 (q := 132) dX7_most_130 rfl rfl ?_
                          refine ev_inc_5 (q := 135) (nI (k + 1)) dX7_most_132 (nI_1 k) rfl rfl ?_
                          refine ev_goto 31 dX7_most_135 (by decide) ?_
                          have e := ih (j - 1) (by omega) (k + 1) (by omega) S T
                          simp only [upto, pickB, ownM, ho, hmk, c_47, if_true, if_false, Option.map_some] at e
                          exact e _ _
                        · exact absurd neg6 c_94
                      )
                  )
        | some p =>
          obtain ⟨u, b⟩ := p
          have hu := hlt u b ho
          have hwu := wd_le (num := u) h6
          cases hmk : mtF I J t sl wy wi k he with
          | none =>
            refine ev_iload (q := 33) dX7_most_31 rfl rfl ?_
            refine ev_aload_n (q := 34) dX7_most_33 rfl rfl ?_
            refine ev_callV0i (q := 37) dX7_most_34 ca_X7_201 (s_X7_terms hn hm) rfl (lt_n hn (by decide)) rfl rfl (Nat.le_of_ble_eq_true rfl) (Nat.le_of_ble_eq_true rfl) (by decide) (by decide) rfl ?_
            refine ev_icmp_ge (q := 40) 138 dX7_most_37 (by decide) rfl (fun c_37 => ?_) (fun c_37 => ?_)
            · have c_37 : 3 ^ t ≤ k := (nI_leI (by omega) (by omega)).mp c_37
              refine ev_iload_n (q := 139) dX7_most_138 rfl rfl ?_
              refine ev_if_lt (q := 142) 147 dX7_most_139 (by decide) rfl (fun c_139 => ?_) (fun c_139 => ?_)
              · exact absurd c_139 (nI_pos (by omega))
              · refine ev_iload_n (q := 143) dX7_most_142 rfl rfl ?_
                refine ev_iconst (q := 144) (1) dX7_most_143 (by decide) rfl ?_
                refine ev_icmp_ne (q := 147) 151 dX7_most_144 (by decide) rfl (fun c_144 => ?_) (fun c_144 => ?_)
                · refine ev_iload (q := 153) dX7_most_151 rfl rfl ?_
                  refine ev_sipush (q := 156) (1000) dX7_most_153 (by decide) rfl ?_
                  refine ev_iadd (q := 157) dX7_most_156 rfl ?_
                  exact ev_iretE dX7_most_157 rfl rfl (by rw [show 3 ^ t = k by omega, ho]; first | (simp [c_144]; done) | (simp [c_144]; rfl)) rfl rfl (hQ _ _)
                · refine ev_iload_n (q := 148) dX7_most_147 rfl rfl ?_
                  refine ev_goto 157 dX7_most_148 (by decide) ?_
                  exact ev_iretE dX7_most_157 rfl rfl (by rw [show 3 ^ t = k by omega, ho]; first | (simp [c_144]; done) | (simp [c_144]; rfl)) rfl rfl (hQ _ _)
            · have c_37 : ¬ 3 ^ t ≤ k := fun h => c_37 ((nI_leI (by omega) (by omega)).mpr h)
              refine ev_aload_n (q := 41) dX7_most_40 rfl rfl ?_
              refine ev_iload (q := 43) dX7_most_41 rfl rfl ?_
              refine ev_callV1i (q := 46) dX7_most_43 ca_X7_207 (s_X7_words hn hm (by omega)) rfl (lt_n hn (by decide)) rfl rfl (Nat.le_of_ble_eq_true rfl) (Nat.le_of_ble_eq_true rfl) (by decide) (by decide) rfl ?_
              refine ev_iload_n (q := 47) dX7_most_46 rfl rfl ?_
              refine ev_icmp_gt (q := 50) 63 dX7_most_47 (by decide) rfl (fun c_47 => ?_) (fun c_47 => ?_)
              · have c_47 : ¬ nI (wd t k) ≤ most := fun h => absurd c_47 (by simp only [i_le, i_lt] at *; omega)
                refine ev_bipush (q := 65) (-6) dX7_most_63 (by decide) rfl ?_
                refine ev_ist_6 (q := 67) dX7_most_65 rfl rfl ?_
                refine ev_iload (q := 69) dX7_most_67 rfl rfl ?_
                refine ev_if_ge (q := 72) 76 dX7_most_69 (by decide) rfl (fun c_69 => ?_) (fun c_69 => ?_)
                · exact absurd c_69 (by decide)
                · refine ev_iconst (q := 73) (0) dX7_most_72 (by decide) rfl ?_
                  refine ev_goto 86 dX7_most_73 (by decide) ?_
                  refine ev_ist_7 (q := 88) dX7_most_86 rfl rfl ?_
                  refine ev_iload (q := 90) dX7_most_88 rfl rfl ?_
                  refine ev_if_lt (q := 93) 132 dX7_most_90 (by decide) rfl (fun c_90 => ?_) (fun c_90 => ?_)
                  · refine ev_inc_5 (q := 135) (nI (k + 1)) dX7_most_132 (nI_1 k) rfl rfl ?_
                    refine ev_goto 31 dX7_most_135 (by decide) ?_
                    have e := ih (j - 1) (by omega) (k + 1) (by omega) S T
                    simp only [upto, pickB, ownM, ho, hmk, c_47, if_true, if_false, Option.map_none] at e
                    exact e _ _
                  · exact absurd neg6 c_90
              · have c_47 : nI (wd t k) ≤ most := by simp only [i_le, i_lt] at *; omega
                refine ev_aload_n (q := 51) dX7_most_50 rfl rfl ?_
                refine ev_iload (q := 53) dX7_most_51 rfl rfl ?_
                refine ev_aload_n (q := 54) dX7_most_53 rfl rfl ?_
                refine ev_get (q := 57) dX7_most_54 fr_X7_73 rfl (lt_n hn (by decide)) rfl rfl ?_
                rw [show ov I S 33 7 = nI he from hhe]
                refine ev_callV2iS (q := 60) dX7_most_57 ca_X7_204 (s_X7_madeOfTerm hn hm (by omega) (by omega)) rfl (lt_n hn (by decide)) rfl rfl (Nat.le_of_ble_eq_true rfl) (Nat.le_of_ble_eq_true rfl) (by decide) (by decide) rfl (fun S T => ?_)
                rw [hmk]
                refine ev_goto 65 dX7_most_60 (by decide) ?_
                refine ev_ist_6 (q := 67) dX7_most_65 rfl rfl ?_
                refine ev_iload (q := 69) dX7_most_67 rfl rfl ?_
                refine ev_if_ge (q := 72) 76 dX7_most_69 (by decide) rfl (fun c_69 => ?_) (fun c_69 => ?_)
                · exact absurd c_69 (by decide)
                · refine ev_iconst (q := 73) (0) dX7_most_72 (by decide) rfl ?_
                  refine ev_goto 86 dX7_most_73 (by decide) ?_
                  refine ev_ist_7 (q := 88) dX7_most_86 rfl rfl ?_
                  refine ev_iload (q := 90) dX7_most_88 rfl rfl ?_
                  refine ev_if_lt (q := 93) 132 dX7_most_90 (by decide) rfl (fun c_90 => ?_) (fun c_90 => ?_)
                  · refine ev_inc_5 (q := 135) (nI (k + 1)) dX7_most_132 (nI_1 k) rfl rfl ?_
                    refine ev_goto 31 dX7_most_135 (by decide) ?_
                    have e := ih (j - 1) (by omega) (k + 1) (by omega) S T
                    simp only [upto, pickB, ownM, ho, hmk, c_47, if_true, if_false, Option.map_none] at e
                    exact e _ _
                  · exact absurd neg6 c_90
          | some v =>
            have hv := mtF_lt hmk
            refine ev_iload (q := 33) dX7_most_31 rfl rfl ?_
            refine ev_aload_n (q := 34) dX7_most_33 rfl rfl ?_
            refine ev_callV0i (q := 37) dX7_most_34 ca_X7_201 (s_X7_terms hn hm) rfl (lt_n hn (by decide)) rfl rfl (Nat.le_of_ble_eq_true rfl) (Nat.le_of_ble_eq_true rfl) (by decide) (by decide) rfl ?_
            refine ev_icmp_ge (q := 40) 138 dX7_most_37 (by decide) rfl (fun c_37 => ?_) (fun c_37 => ?_)
            · have c_37 : 3 ^ t ≤ k := (nI_leI (by omega) (by omega)).mp c_37
              refine ev_iload_n (q := 139) dX7_most_138 rfl rfl ?_
              refine ev_if_lt (q := 142) 147 dX7_most_139 (by decide) rfl (fun c_139 => ?_) (fun c_139 => ?_)
              · exact absurd c_139 (nI_pos (by omega))
              · refine ev_iload_n (q := 143) dX7_most_142 rfl rfl ?_
                refine ev_iconst (q := 144) (1) dX7_most_143 (by decide) rfl ?_
                refine ev_icmp_ne (q := 147) 151 dX7_most_144 (by decide) rfl (fun c_144 => ?_) (fun c_144 => ?_)
                · refine ev_iload (q := 153) dX7_most_151 rfl rfl ?_
                  refine ev_sipush (q := 156) (1000) dX7_most_153 (by decide) rfl ?_
                  refine ev_iadd (q := 157) dX7_most_156 rfl ?_
                  exact ev_iretE dX7_most_157 rfl rfl (by rw [show 3 ^ t = k by omega, ho]; first | (simp [c_144]; done) | (simp [c_144]; rfl)) rfl rfl (hQ _ _)
                · refine ev_iload_n (q := 148) dX7_most_147 rfl rfl ?_
                  refine ev_goto 157 dX7_most_148 (by decide) ?_
                  exact ev_iretE dX7_most_157 rfl rfl (by rw [show 3 ^ t = k by omega, ho]; first | (simp [c_144]; done) | (simp [c_144]; rfl)) rfl rfl (hQ _ _)
            · have c_37 : ¬ 3 ^ t ≤ k := fun h => c_37 ((nI_leI (by omega) (by omega)).mpr h)
              refine ev_aload_n (q := 41) dX7_most_40 rfl rfl ?_
              refine ev_iload (q := 43) dX7_most_41 rfl rfl ?_
              refine ev_callV1i (q := 46) dX7_most_43 ca_X7_207 (s_X7_words hn hm (by omega)) rfl (lt_n hn (by decide)) rfl rfl (Nat.le_of_ble_eq_true rfl) (Nat.le_of_ble_eq_true rfl) (by decide) (by decide) rfl ?_
              refine ev_iload_n (q := 47) dX7_most_46 rfl rfl ?_
              refine ev_icmp_gt (q := 50) 63 dX7_most_47 (by decide) rfl (fun c_47 => ?_) (fun c_47 => ?_)
              · have c_47 : ¬ nI (wd t k) ≤ most := fun h => absurd c_47 (by simp only [i_le, i_lt] at *; omega)
                refine ev_bipush (q := 65) (-6) dX7_most_63 (by decide) rfl ?_
                refine ev_ist_6 (q := 67) dX7_most_65 rfl rfl ?_
                refine ev_iload (q := 69) dX7_most_67 rfl rfl ?_
                refine ev_if_ge (q := 72) 76 dX7_most_69 (by decide) rfl (fun c_69 => ?_) (fun c_69 => ?_)
                · try (exact absurd c_69 (by decide))
                  all_goals (
                    refine ev_aload_n (q := 77) dX7_most_76 rfl rfl ?_
                    refine ev_aload_n (q := 78) dX7_most_77 rfl rfl ?_
                    refine ev_get (q := 81) dX7_most_78 fr_X7_67 rfl (lt_n hn (by decide)) rfl rfl ?_
                    rw [show ov I S 33 5 = nI wi from hwi]
                    refine ev_iload (q := 83) dX7_most_81 rfl rfl ?_
                    refine ev_callV2i (q := 86) dX7_most_83 ca_X7_117 (s_X7_worthTo (w := v) hn hm (by omega) (by omega)) rfl (lt_n hn (by decide)) rfl rfl (Nat.le_of_ble_eq_true rfl) (Nat.le_of_ble_eq_true rfl) (by decide) (by decide) rfl ?_
                    refine ev_ist_7 (q := 88) dX7_most_86 rfl rfl ?_
                    refine ev_iload (q := 90) dX7_most_88 rfl rfl ?_
                    refine ev_if_lt (q := 93) 132 dX7_most_90 (by decide) rfl (fun c_90 => ?_) (fun c_90 => ?_)
                    · try (exact absurd c_90 (nI_pos (by omega)))
                      all_goals (
                        refine ev_inc_5 (q := 135) (nI (k + 1)) dX7_most_132 (nI_1 k) rfl rfl ?_
                        refine ev_goto 31 dX7_most_135 (by decide) ?_
                        have e := ih (j - 1) (by omega) (k + 1) (by omega) S T
                        first | (simp only [upto, pickB, ownM, ho, hmk, c_47, if_true, if_false, Option.map_some, hbt] at e; exact e _ _) | (simp only [upto, pickB, ownM, ho, hmk, c_47, if_true, if_false, Option.map_some] at e; exact e _ _)
                      )
                    · try (exact absurd neg6 c_90)
                      all_goals (
                        refine ev_iload_n (q := 94) dX7_most_93 rfl rfl ?_
                        refine ev_if_lt (q := 97) 125 dX7_most_94 (by decide) rfl (fun c_94 => ?_) (fun c_94 => ?_)
                        · exact absurd c_94 (nI_pos (by omega))
                        · refine ev_iload (q := 99) dX7_most_97 rfl rfl ?_
                          refine ev_iload (q := 101) dX7_most_99 rfl rfl ?_
                          refine ev_icmp_gt (q := 104) 125 dX7_most_101 (by decide) rfl (fun c_101 => ?_) (fun c_101 => ?_)
                          · have hbt : btW t k (wtF I t wi v) u b = true := by simp [btW, show b < wtF I t wi v from c_101]
                            refine ev_iload (q := 127) dX7_most_125 rfl rfl ?_
                            refine ev_ist_3 (q := 128) dX7_most_127 rfl rfl ?_
                            refine ev_iload (q := 130) dX7_most_128 rfl rfl ?_
                            refine ev_ist_4 (q := 132) dX7_most_130 rfl rfl ?_
                            refine ev_inc_5 (q := 135) (nI (k + 1)) dX7_most_132 (nI_1 k) rfl rfl ?_
                            refine ev_goto 31 dX7_most_135 (by decide) ?_
                            have e := ih (j - 1) (by omega) (k + 1) (by omega) S T
                            first | (simp only [upto, pickB, ownM, ho, hmk, c_47, if_true, if_false, Option.map_some, hbt] at e; exact e _ _) | (simp only [upto, pickB, ownM, ho, hmk, c_47, if_true, if_false, Option.map_some] at e; exact e _ _)
                          · have c_101 : ¬ b < wtF I t wi v := c_101
                            refine ev_iload (q := 106) dX7_most_104 rfl rfl ?_
                            refine ev_iload (q := 108) dX7_most_106 rfl rfl ?_
                            refine ev_icmp_ne (q := 111) 132 dX7_most_108 (by decide) rfl (fun c_108 => ?_) (fun c_108 => ?_)
                            · have hbt : btW t k (wtF I t wi v) u b = false := by simp [btW, c_101, show ¬ wtF I t wi v = b from c_108]
                              refine ev_inc_5 (q := 135) (nI (k + 1)) dX7_most_132 (nI_1 k) rfl rfl ?_
                              refine ev_goto 31 dX7_most_135 (by decide) ?_
                              have e := ih (j - 1) (by omega) (k + 1) (by omega) S T
                              first | (simp only [upto, pickB, ownM, ho, hmk, c_47, if_true, if_false, Option.map_some, hbt] at e; exact e _ _) | (simp only [upto, pickB, ownM, ho, hmk, c_47, if_true, if_false, Option.map_some] at e; exact e _ _)
                            · have c_108 : wtF I t wi v = b := c_108
                              refine ev_aload_n (q := 112) dX7_most_111 rfl rfl ?_
                              refine ev_iload (q := 114) dX7_most_112 rfl rfl ?_
                              refine ev_callV1i (q := 117) dX7_most_114 ca_X7_207 (s_X7_words hn hm (by omega)) rfl (lt_n hn (by decide)) rfl rfl (Nat.le_of_ble_eq_true rfl) (Nat.le_of_ble_eq_true rfl) (by decide) (by decide) rfl ?_
                              refine ev_aload_n (q := 118) dX7_most_117 rfl rfl ?_
                              refine ev_iload_n (q := 119) dX7_most_118 rfl rfl ?_
                              refine ev_callV1i (q := 122) dX7_most_119 ca_X7_207 (s_X7_words (num := u) hn hm (by omega)) rfl (lt_n hn (by decide)) rfl rfl (Nat.le_of_ble_eq_true rfl) (Nat.le_of_ble_eq_true rfl) (by decide) (by decide) rfl ?_
                              refine ev_icmp_ge (q := 125) 132 dX7_most_122 (by decide) rfl (fun c_122 => ?_) (fun c_122 => ?_)
                              · have hbt : btW t k (wtF I t wi v) u b = false := by have : ¬ wd t k < wd t u := Nat.not_lt.mpr ((nI_leI (by omega) (by omega)).mp c_122); simp [btW, c_101, this]
                                refine ev_inc_5 (q := 135) (nI (k + 1)) dX7_most_132 (nI_1 k) rfl rfl ?_
                                refine ev_goto 31 dX7_most_135 (by decide) ?_
                                have e := ih (j - 1) (by omega) (k + 1) (by omega) S T
                                first | (simp only [upto, pickB, ownM, ho, hmk, c_47, if_true, if_false, Option.map_some, hbt] at e; exact e _ _) | (simp only [upto, pickB, ownM, ho, hmk, c_47, if_true, if_false, Option.map_some] at e; exact e _ _)
                              · have hbt : btW t k (wtF I t wi v) u b = true := by have : wd t k < wd t u := Nat.not_le.mp fun h => c_122 ((nI_leI (by omega) (by omega)).mpr h); simp [btW, c_101, c_108, this]
                                refine ev_iload (q := 127) dX7_most_125 rfl rfl ?_
                                refine ev_ist_3 (q := 128) dX7_most_127 rfl rfl ?_
                                refine ev_iload (q := 130) dX7_most_128 rfl rfl ?_
                                refine ev_ist_4 (q := 132) dX7_most_130 rfl rfl ?_
                                refine ev_inc_5 (q := 135) (nI (k + 1)) dX7_most_132 (nI_1 k) rfl rfl ?_
                                refine ev_goto 31 dX7_most_135 (by decide) ?_
                                have e := ih (j - 1) (by omega) (k + 1) (by omega) S T
                                first | (simp only [upto, pickB, ownM, ho, hmk, c_47, if_true, if_false, Option.map_some, hbt] at e; exact e _ _) | (simp only [upto, pickB, ownM, ho, hmk, c_47, if_true, if_false, Option.map_some] at e; exact e _ _)
                      )
                  )
                · try (exact absurd (nI_pos' (by omega)) c_69)
                  all_goals (
                    refine ev_iconst (q := 73) (0) dX7_most_72 (by decide) rfl ?_
                    refine ev_goto 86 dX7_most_73 (by decide) ?_
                    refine ev_ist_7 (q := 88) dX7_most_86 rfl rfl ?_
                    refine ev_iload (q := 90) dX7_most_88 rfl rfl ?_
                    refine ev_if_lt (q := 93) 132 dX7_most_90 (by decide) rfl (fun c_90 => ?_) (fun c_90 => ?_)
                    · try (exact absurd c_90 (nI_pos (by omega)))
                      all_goals (
                        refine ev_inc_5 (q := 135) (nI (k + 1)) dX7_most_132 (nI_1 k) rfl rfl ?_
                        refine ev_goto 31 dX7_most_135 (by decide) ?_
                        have e := ih (j - 1) (by omega) (k + 1) (by omega) S T
                        first | (simp only [upto, pickB, ownM, ho, hmk, c_47, if_true, if_false, Option.map_some, hbt] at e; exact e _ _) | (simp only [upto, pickB, ownM, ho, hmk, c_47, if_true, if_false, Option.map_some] at e; exact e _ _)
                      )
                    · try (exact absurd neg6 c_90)
                      all_goals (
                        refine ev_iload_n (q := 94) dX7_most_93 rfl rfl ?_
                        refine ev_if_lt (q := 97) 125 dX7_most_94 (by decide) rfl (fun c_94 => ?_) (fun c_94 => ?_)
                        · exact absurd c_94 (nI_pos (by omega))
                        · refine ev_iload (q := 99) dX7_most_97 rfl rfl ?_
                          refine ev_iload (q := 101) dX7_most_99 rfl rfl ?_
                          refine ev_icmp_gt (q := 104) 125 dX7_most_101 (by decide) rfl (fun c_101 => ?_) (fun c_101 => ?_)
                          · have hbt : btW t k (wtF I t wi v) u b = true := by simp [btW, show b < wtF I t wi v from c_101]
                            refine ev_iload (q := 127) dX7_most_125 rfl rfl ?_
                            refine ev_ist_3 (q := 128) dX7_most_127 rfl rfl ?_
                            refine ev_iload (q := 130) dX7_most_128 rfl rfl ?_
                            refine ev_ist_4 (q := 132) dX7_most_130 rfl rfl ?_
                            refine ev_inc_5 (q := 135) (nI (k + 1)) dX7_most_132 (nI_1 k) rfl rfl ?_
                            refine ev_goto 31 dX7_most_135 (by decide) ?_
                            have e := ih (j - 1) (by omega) (k + 1) (by omega) S T
                            first | (simp only [upto, pickB, ownM, ho, hmk, c_47, if_true, if_false, Option.map_some, hbt] at e; exact e _ _) | (simp only [upto, pickB, ownM, ho, hmk, c_47, if_true, if_false, Option.map_some] at e; exact e _ _)
                          · have c_101 : ¬ b < wtF I t wi v := c_101
                            refine ev_iload (q := 106) dX7_most_104 rfl rfl ?_
                            refine ev_iload (q := 108) dX7_most_106 rfl rfl ?_
                            refine ev_icmp_ne (q := 111) 132 dX7_most_108 (by decide) rfl (fun c_108 => ?_) (fun c_108 => ?_)
                            · have hbt : btW t k (wtF I t wi v) u b = false := by simp [btW, c_101, show ¬ wtF I t wi v = b from c_108]
                              refine ev_inc_5 (q := 135) (nI (k + 1)) dX7_most_132 (nI_1 k) rfl rfl ?_
                              refine ev_goto 31 dX7_most_135 (by decide) ?_
                              have e := ih (j - 1) (by omega) (k + 1) (by omega) S T
                              first | (simp only [upto, pickB, ownM, ho, hmk, c_47, if_true, if_false, Option.map_some, hbt] at e; exact e _ _) | (simp only [upto, pickB, ownM, ho, hmk, c_47, if_true, if_false, Option.map_some] at e; exact e _ _)
                            · have c_108 : wtF I t wi v = b := c_108
                              refine ev_aload_n (q := 112) dX7_most_111 rfl rfl ?_
                              refine ev_iload (q := 114) dX7_most_112 rfl rfl ?_
                              refine ev_callV1i (q := 117) dX7_most_114 ca_X7_207 (s_X7_words hn hm (by omega)) rfl (lt_n hn (by decide)) rfl rfl (Nat.le_of_ble_eq_true rfl) (Nat.le_of_ble_eq_true rfl) (by decide) (by decide) rfl ?_
                              refine ev_aload_n (q := 118) dX7_most_117 rfl rfl ?_
                              refine ev_iload_n (q := 119) dX7_most_118 rfl rfl ?_
                              refine ev_callV1i (q := 122) dX7_most_119 ca_X7_207 (s_X7_words (num := u) hn hm (by omega)) rfl (lt_n hn (by decide)) rfl rfl (Nat.le_of_ble_eq_true rfl) (Nat.le_of_ble_eq_true rfl) (by decide) (by decide) rfl ?_
                              refine ev_icmp_ge (q := 125) 132 dX7_most_122 (by decide) rfl (fun c_122 => ?_) (fun c_122 => ?_)
                              · have hbt : btW t k (wtF I t wi v) u b = false := by have : ¬ wd t k < wd t u := Nat.not_lt.mpr ((nI_leI (by omega) (by omega)).mp c_122); simp [btW, c_101, this]
                                refine ev_inc_5 (q := 135) (nI (k + 1)) dX7_most_132 (nI_1 k) rfl rfl ?_
                                refine ev_goto 31 dX7_most_135 (by decide) ?_
                                have e := ih (j - 1) (by omega) (k + 1) (by omega) S T
                                first | (simp only [upto, pickB, ownM, ho, hmk, c_47, if_true, if_false, Option.map_some, hbt] at e; exact e _ _) | (simp only [upto, pickB, ownM, ho, hmk, c_47, if_true, if_false, Option.map_some] at e; exact e _ _)
                              · have hbt : btW t k (wtF I t wi v) u b = true := by have : wd t k < wd t u := Nat.not_le.mp fun h => c_122 ((nI_leI (by omega) (by omega)).mpr h); simp [btW, c_101, c_108, this]
                                refine ev_iload (q := 127) dX7_most_125 rfl rfl ?_
                                refine ev_ist_3 (q := 128) dX7_most_127 rfl rfl ?_
                                refine ev_iload (q := 130) dX7_most_128 rfl rfl ?_
                                refine ev_ist_4 (q := 132) dX7_most_130 rfl rfl ?_
                                refine ev_inc_5 (q := 135) (nI (k + 1)) dX7_most_132 (nI_1 k) rfl rfl ?_
                                refine ev_goto 31 dX7_most_135 (by decide) ?_
                                have e := ih (j - 1) (by omega) (k + 1) (by omega) S T
                                first | (simp only [upto, pickB, ownM, ho, hmk, c_47, if_true, if_false, Option.map_some, hbt] at e; exact e _ _) | (simp only [upto, pickB, ownM, ho, hmk, c_47, if_true, if_false, Option.map_some] at e; exact e _ _)
                      )
                  )
              · have c_47 : nI (wd t k) ≤ most := by simp only [i_le, i_lt] at *; omega
                refine ev_aload_n (q := 51) dX7_most_50 rfl rfl ?_
                refine ev_iload (q := 53) dX7_most_51 rfl rfl ?_
                refine ev_aload_n (q := 54) dX7_most_53 rfl rfl ?_
                refine ev_get (q := 57) dX7_most_54 fr_X7_73 rfl (lt_n hn (by decide)) rfl rfl ?_
                rw [show ov I S 33 7 = nI he from hhe]
                refine ev_callV2iS (q := 60) dX7_most_57 ca_X7_204 (s_X7_madeOfTerm hn hm (by omega) (by omega)) rfl (lt_n hn (by decide)) rfl rfl (Nat.le_of_ble_eq_true rfl) (Nat.le_of_ble_eq_true rfl) (by decide) (by decide) rfl (fun S T => ?_)
                rw [hmk]
                refine ev_goto 65 dX7_most_60 (by decide) ?_
                refine ev_ist_6 (q := 67) dX7_most_65 rfl rfl ?_
                refine ev_iload (q := 69) dX7_most_67 rfl rfl ?_
                refine ev_if_ge (q := 72) 76 dX7_most_69 (by decide) rfl (fun c_69 => ?_) (fun c_69 => ?_)
                · try (exact absurd c_69 (by decide))
                  all_goals (
                    refine ev_aload_n (q := 77) dX7_most_76 rfl rfl ?_
                    refine ev_aload_n (q := 78) dX7_most_77 rfl rfl ?_
                    refine ev_get (q := 81) dX7_most_78 fr_X7_67 rfl (lt_n hn (by decide)) rfl rfl ?_
                    rw [show ov I S 33 5 = nI wi from hwi]
                    refine ev_iload (q := 83) dX7_most_81 rfl rfl ?_
                    refine ev_callV2i (q := 86) dX7_most_83 ca_X7_117 (s_X7_worthTo (w := v) hn hm (by omega) (by omega)) rfl (lt_n hn (by decide)) rfl rfl (Nat.le_of_ble_eq_true rfl) (Nat.le_of_ble_eq_true rfl) (by decide) (by decide) rfl ?_
                    refine ev_ist_7 (q := 88) dX7_most_86 rfl rfl ?_
                    refine ev_iload (q := 90) dX7_most_88 rfl rfl ?_
                    refine ev_if_lt (q := 93) 132 dX7_most_90 (by decide) rfl (fun c_90 => ?_) (fun c_90 => ?_)
                    · try (exact absurd c_90 (nI_pos (by omega)))
                      all_goals (
                        refine ev_inc_5 (q := 135) (nI (k + 1)) dX7_most_132 (nI_1 k) rfl rfl ?_
                        refine ev_goto 31 dX7_most_135 (by decide) ?_
                        have e := ih (j - 1) (by omega) (k + 1) (by omega) S T
                        first | (simp only [upto, pickB, ownM, ho, hmk, c_47, if_true, if_false, Option.map_some, hbt] at e; exact e _ _) | (simp only [upto, pickB, ownM, ho, hmk, c_47, if_true, if_false, Option.map_some] at e; exact e _ _)
                      )
                    · try (exact absurd neg6 c_90)
                      all_goals (
                        refine ev_iload_n (q := 94) dX7_most_93 rfl rfl ?_
                        refine ev_if_lt (q := 97) 125 dX7_most_94 (by decide) rfl (fun c_94 => ?_) (fun c_94 => ?_)
                        · exact absurd c_94 (nI_pos (by omega))
                        · refine ev_iload (q := 99) dX7_most_97 rfl rfl ?_
                          refine ev_iload (q := 101) dX7_most_99 rfl rfl ?_
                          refine ev_icmp_gt (q := 104) 125 dX7_most_101 (by decide) rfl (fun c_101 => ?_) (fun c_101 => ?_)
                          · have hbt : btW t k (wtF I t wi v) u b = true := by simp [btW, show b < wtF I t wi v from c_101]
                            refine ev_iload (q := 127) dX7_most_125 rfl rfl ?_
                            refine ev_ist_3 (q := 128) dX7_most_127 rfl rfl ?_
                            refine ev_iload (q := 130) dX7_most_128 rfl rfl ?_
                            refine ev_ist_4 (q := 132) dX7_most_130 rfl rfl ?_
                            refine ev_inc_5 (q := 135) (nI (k + 1)) dX7_most_132 (nI_1 k) rfl rfl ?_
                            refine ev_goto 31 dX7_most_135 (by decide) ?_
                            have e := ih (j - 1) (by omega) (k + 1) (by omega) S T
                            first | (simp only [upto, pickB, ownM, ho, hmk, c_47, if_true, if_false, Option.map_some, hbt] at e; exact e _ _) | (simp only [upto, pickB, ownM, ho, hmk, c_47, if_true, if_false, Option.map_some] at e; exact e _ _)
                          · have c_101 : ¬ b < wtF I t wi v := c_101
                            refine ev_iload (q := 106) dX7_most_104 rfl rfl ?_
                            refine ev_iload (q := 108) dX7_most_106 rfl rfl ?_
                            refine ev_icmp_ne (q := 111) 132 dX7_most_108 (by decide) rfl (fun c_108 => ?_) (fun c_108 => ?_)
                            · have hbt : btW t k (wtF I t wi v) u b = false := by simp [btW, c_101, show ¬ wtF I t wi v = b from c_108]
                              refine ev_inc_5 (q := 135) (nI (k + 1)) dX7_most_132 (nI_1 k) rfl rfl ?_
                              refine ev_goto 31 dX7_most_135 (by decide) ?_
                              have e := ih (j - 1) (by omega) (k + 1) (by omega) S T
                              first | (simp only [upto, pickB, ownM, ho, hmk, c_47, if_true, if_false, Option.map_some, hbt] at e; exact e _ _) | (simp only [upto, pickB, ownM, ho, hmk, c_47, if_true, if_false, Option.map_some] at e; exact e _ _)
                            · have c_108 : wtF I t wi v = b := c_108
                              refine ev_aload_n (q := 112) dX7_most_111 rfl rfl ?_
                              refine ev_iload (q := 114) dX7_most_112 rfl rfl ?_
                              refine ev_callV1i (q := 117) dX7_most_114 ca_X7_207 (s_X7_words hn hm (by omega)) rfl (lt_n hn (by decide)) rfl rfl (Nat.le_of_ble_eq_true rfl) (Nat.le_of_ble_eq_true rfl) (by decide) (by decide) rfl ?_
                              refine ev_aload_n (q := 118) dX7_most_117 rfl rfl ?_
                              refine ev_iload_n (q := 119) dX7_most_118 rfl rfl ?_
                              refine ev_callV1i (q := 122) dX7_most_119 ca_X7_207 (s_X7_words (num := u) hn hm (by omega)) rfl (lt_n hn (by decide)) rfl rfl (Nat.le_of_ble_eq_true rfl) (Nat.le_of_ble_eq_true rfl) (by decide) (by decide) rfl ?_
                              refine ev_icmp_ge (q := 125) 132 dX7_most_122 (by decide) rfl (fun c_122 => ?_) (fun c_122 => ?_)
                              · have hbt : btW t k (wtF I t wi v) u b = false := by have : ¬ wd t k < wd t u := Nat.not_lt.mpr ((nI_leI (by omega) (by omega)).mp c_122); simp [btW, c_101, this]
                                refine ev_inc_5 (q := 135) (nI (k + 1)) dX7_most_132 (nI_1 k) rfl rfl ?_
                                refine ev_goto 31 dX7_most_135 (by decide) ?_
                                have e := ih (j - 1) (by omega) (k + 1) (by omega) S T
                                first | (simp only [upto, pickB, ownM, ho, hmk, c_47, if_true, if_false, Option.map_some, hbt] at e; exact e _ _) | (simp only [upto, pickB, ownM, ho, hmk, c_47, if_true, if_false, Option.map_some] at e; exact e _ _)
                              · have hbt : btW t k (wtF I t wi v) u b = true := by have : wd t k < wd t u := Nat.not_le.mp fun h => c_122 ((nI_leI (by omega) (by omega)).mpr h); simp [btW, c_101, c_108, this]
                                refine ev_iload (q := 127) dX7_most_125 rfl rfl ?_
                                refine ev_ist_3 (q := 128) dX7_most_127 rfl rfl ?_
                                refine ev_iload (q := 130) dX7_most_128 rfl rfl ?_
                                refine ev_ist_4 (q := 132) dX7_most_130 rfl rfl ?_
                                refine ev_inc_5 (q := 135) (nI (k + 1)) dX7_most_132 (nI_1 k) rfl rfl ?_
                                refine ev_goto 31 dX7_most_135 (by decide) ?_
                                have e := ih (j - 1) (by omega) (k + 1) (by omega) S T
                                first | (simp only [upto, pickB, ownM, ho, hmk, c_47, if_true, if_false, Option.map_some, hbt] at e; exact e _ _) | (simp only [upto, pickB, ownM, ho, hmk, c_47, if_true, if_false, Option.map_some] at e; exact e _ _)
                      )
                  )
                · try (exact absurd (nI_pos' (by omega)) c_69)
                  all_goals (
                    refine ev_iconst (q := 73) (0) dX7_most_72 (by decide) rfl ?_
                    refine ev_goto 86 dX7_most_73 (by decide) ?_
                    refine ev_ist_7 (q := 88) dX7_most_86 rfl rfl ?_
                    refine ev_iload (q := 90) dX7_most_88 rfl rfl ?_
                    refine ev_if_lt (q := 93) 132 dX7_most_90 (by decide) rfl (fun c_90 => ?_) (fun c_90 => ?_)
                    · try (exact absurd c_90 (nI_pos (by omega)))
                      all_goals (
                        refine ev_inc_5 (q := 135) (nI (k + 1)) dX7_most_132 (nI_1 k) rfl rfl ?_
                        refine ev_goto 31 dX7_most_135 (by decide) ?_
                        have e := ih (j - 1) (by omega) (k + 1) (by omega) S T
                        first | (simp only [upto, pickB, ownM, ho, hmk, c_47, if_true, if_false, Option.map_some, hbt] at e; exact e _ _) | (simp only [upto, pickB, ownM, ho, hmk, c_47, if_true, if_false, Option.map_some] at e; exact e _ _)
                      )
                    · try (exact absurd neg6 c_90)
                      all_goals (
                        refine ev_iload_n (q := 94) dX7_most_93 rfl rfl ?_
                        refine ev_if_lt (q := 97) 125 dX7_most_94 (by decide) rfl (fun c_94 => ?_) (fun c_94 => ?_)
                        · exact absurd c_94 (nI_pos (by omega))
                        · refine ev_iload (q := 99) dX7_most_97 rfl rfl ?_
                          refine ev_iload (q := 101) dX7_most_99 rfl rfl ?_
                          refine ev_icmp_gt (q := 104) 125 dX7_most_101 (by decide) rfl (fun c_101 => ?_) (fun c_101 => ?_)
                          · have hbt : btW t k (wtF I t wi v) u b = true := by simp [btW, show b < wtF I t wi v from c_101]
                            refine ev_iload (q := 127) dX7_most_125 rfl rfl ?_
                            refine ev_ist_3 (q := 128) dX7_most_127 rfl rfl ?_
                            refine ev_iload (q := 130) dX7_most_128 rfl rfl ?_
                            refine ev_ist_4 (q := 132) dX7_most_130 rfl rfl ?_
                            refine ev_inc_5 (q := 135) (nI (k + 1)) dX7_most_132 (nI_1 k) rfl rfl ?_
                            refine ev_goto 31 dX7_most_135 (by decide) ?_
                            have e := ih (j - 1) (by omega) (k + 1) (by omega) S T
                            first | (simp only [upto, pickB, ownM, ho, hmk, c_47, if_true, if_false, Option.map_some, hbt] at e; exact e _ _) | (simp only [upto, pickB, ownM, ho, hmk, c_47, if_true, if_false, Option.map_some] at e; exact e _ _)
                          · have c_101 : ¬ b < wtF I t wi v := c_101
                            refine ev_iload (q := 106) dX7_most_104 rfl rfl ?_
                            refine ev_iload (q := 108) dX7_most_106 rfl rfl ?_
                            refine ev_icmp_ne (q := 111) 132 dX7_most_108 (by decide) rfl (fun c_108 => ?_) (fun c_108 => ?_)
                            · have hbt : btW t k (wtF I t wi v) u b = false := by simp [btW, c_101, show ¬ wtF I t wi v = b from c_108]
                              refine ev_inc_5 (q := 135) (nI (k + 1)) dX7_most_132 (nI_1 k) rfl rfl ?_
                              refine ev_goto 31 dX7_most_135 (by decide) ?_
                              have e := ih (j - 1) (by omega) (k + 1) (by omega) S T
                              first | (simp only [upto, pickB, ownM, ho, hmk, c_47, if_true, if_false, Option.map_some, hbt] at e; exact e _ _) | (simp only [upto, pickB, ownM, ho, hmk, c_47, if_true, if_false, Option.map_some] at e; exact e _ _)
                            · have c_108 : wtF I t wi v = b := c_108
                              refine ev_aload_n (q := 112) dX7_most_111 rfl rfl ?_
                              refine ev_iload (q := 114) dX7_most_112 rfl rfl ?_
                              refine ev_callV1i (q := 117) dX7_most_114 ca_X7_207 (s_X7_words hn hm (by omega)) rfl (lt_n hn (by decide)) rfl rfl (Nat.le_of_ble_eq_true rfl) (Nat.le_of_ble_eq_true rfl) (by decide) (by decide) rfl ?_
                              refine ev_aload_n (q := 118) dX7_most_117 rfl rfl ?_
                              refine ev_iload_n (q := 119) dX7_most_118 rfl rfl ?_
                              refine ev_callV1i (q := 122) dX7_most_119 ca_X7_207 (s_X7_words (num := u) hn hm (by omega)) rfl (lt_n hn (by decide)) rfl rfl (Nat.le_of_ble_eq_true rfl) (Nat.le_of_ble_eq_true rfl) (by decide) (by decide) rfl ?_
                              refine ev_icmp_ge (q := 125) 132 dX7_most_122 (by decide) rfl (fun c_122 => ?_) (fun c_122 => ?_)
                              · have hbt : btW t k (wtF I t wi v) u b = false := by have : ¬ wd t k < wd t u := Nat.not_lt.mpr ((nI_leI (by omega) (by omega)).mp c_122); simp [btW, c_101, this]
                                refine ev_inc_5 (q := 135) (nI (k + 1)) dX7_most_132 (nI_1 k) rfl rfl ?_
                                refine ev_goto 31 dX7_most_135 (by decide) ?_
                                have e := ih (j - 1) (by omega) (k + 1) (by omega) S T
                                first | (simp only [upto, pickB, ownM, ho, hmk, c_47, if_true, if_false, Option.map_some, hbt] at e; exact e _ _) | (simp only [upto, pickB, ownM, ho, hmk, c_47, if_true, if_false, Option.map_some] at e; exact e _ _)
                              · have hbt : btW t k (wtF I t wi v) u b = true := by have : wd t k < wd t u := Nat.not_le.mp fun h => c_122 ((nI_leI (by omega) (by omega)).mpr h); simp [btW, c_101, c_108, this]
                                refine ev_iload (q := 127) dX7_most_125 rfl rfl ?_
                                refine ev_ist_3 (q := 128) dX7_most_127 rfl rfl ?_
                                refine ev_iload (q := 130) dX7_most_128 rfl rfl ?_
                                refine ev_ist_4 (q := 132) dX7_most_130 rfl rfl ?_
                                refine ev_inc_5 (q := 135) (nI (k + 1)) dX7_most_132 (nI_1 k) rfl rfl ?_
                                refine ev_goto 31 dX7_most_135 (by decide) ?_
                                have e := ih (j - 1) (by omega) (k + 1) (by omega) S T
                                first | (simp only [upto, pickB, ownM, ho, hmk, c_47, if_true, if_false, Option.map_some, hbt] at e; exact e _ _) | (simp only [upto, pickB, ownM, ho, hmk, c_47, if_true, if_false, Option.map_some] at e; exact e _ _)
                      )
                  )
    refine ev_iload_n (q := 1) dX7_most_0 rfl rfl ?_
    refine ev_iconst (q := 2) (0) dX7_most_1 (by decide) rfl ?_
    refine ev_bipush (q := 4) (6) dX7_most_2 (by decide) rfl ?_
    refine ev_callS3i (q := 7) dX7_most_4 ca_X7_99 (c_X7_in _ _ _) (Nat.le_of_ble_eq_true rfl) (Nat.le_of_ble_eq_true rfl) (by decide) (by decide) rfl ?_
    refine ev_if_eq (q := 10) 19 dX7_most_7 (by decide) rfl (fun c_7 => ?_) (fun c_7 => ?_)
    · exact absurd c_7 (b2i_n0.mpr hin.1)
    · refine ev_iload_n (q := 11) dX7_most_10 rfl rfl ?_
      refine ev_iconst (q := 12) (0) dX7_most_11 (by decide) rfl ?_
      refine ev_iconst (q := 13) (1) dX7_most_12 (by decide) rfl ?_
      refine ev_callS3i (q := 16) dX7_most_13 ca_X7_99 (c_X7_in _ _ _) (Nat.le_of_ble_eq_true rfl) (Nat.le_of_ble_eq_true rfl) (by decide) (by decide) rfl ?_
      refine ev_if_ne (q := 19) 22 dX7_most_16 (by decide) rfl (fun c_16 => ?_) (fun c_16 => ?_)
      · refine ev_bipush (q := 24) (-6) dX7_most_22 (by decide) rfl ?_
        refine ev_ist_3 (q := 25) dX7_most_24 rfl rfl ?_
        refine ev_iconst (q := 26) (0) dX7_most_25 (by decide) rfl ?_
        refine ev_ist_4 (q := 28) dX7_most_26 rfl rfl ?_
        refine ev_iconst (q := 29) (0) dX7_most_28 (by decide) rfl ?_
        refine ev_ist_5 (q := 31) dX7_most_29 rfl rfl ?_
        exact lp (3 ^ t) 0 (by omega) _ _ _ _
      · exact absurd c_16 (b2i_n0.mpr hin.2)
theorem s_X7_votesFor {w : Nat} (hn : 49 ≤ n) (hm : MI I t sl wy wi he) (hw : w < 64) : Rn xl xs 2 45 0 0 mX7_votesFor [.ref 33, .int (nI w)] n (sysH (ov I S) (ovJ J T) X) (some (.int (voF I t he w))) n (sysH (ov I S) (ovJ J T) X) := by
  intro Q hQ
  have hm' := hm
  obtain ⟨ht, ht2, h6, hs, hs6, hwy, h3, hwi, h4, hhe, hhl⟩ := hm'
  have h64 := p2_le h6
  show Ev xl xs 2 45 0 0 mX7_votesFor 0 [some (.ref 33), some (.int (nI w)), none, none] [] n (sysH (ov I S) (ovJ J T) X) Q
  have lp : ∀ j k, k + j = 4 → Ev xl xs 2 45 0 0 mX7_votesFor 4 [some (.ref 33), some (.int (nI w)), some (.int (upto (fun c s => s + if wtF I t c he < wtF I t c w then I 36 c else 0) k 0)), some (.int (nI k))] [] n (sysH (ov I S) (ovJ J T) X) Q := by
    intro j
    induction j using Nat.strongRecOn with
    | _ j ih =>
      intro k hk
      refine ev_iload_n (q := 5) dX7_votesFor_4 rfl rfl ?_
      refine ev_iconst (q := 6) (4) dX7_votesFor_5 (by decide) rfl ?_
      refine ev_icmp_ge (q := 9) 46 dX7_votesFor_6 (by decide) rfl (fun c_6 => ?_) (fun c_6 => ?_)
      · have c_6 : 4 ≤ k := (nI_leI (a := 4) (by omega) (by omega)).mp c_6
        refine ev_iload_n (q := 47) dX7_votesFor_46 rfl rfl ?_
        exact ev_iretE dX7_votesFor_47 rfl rfl (by rw [show k = 4 by omega]; rfl) rfl rfl hQ
      · have c_6 : ¬ 4 ≤ k := fun h => c_6 ((nI_leI (a := 4) (by omega) (by omega)).mpr h)
        refine ev_iload_n (q := 10) dX7_votesFor_9 rfl rfl ?_
        refine ev_aload_n (q := 11) dX7_votesFor_10 rfl rfl ?_
        refine ev_iload_n (q := 12) dX7_votesFor_11 rfl rfl ?_
        refine ev_iload_n (q := 13) dX7_votesFor_12 rfl rfl ?_
        refine ev_callV2i (q := 16) dX7_votesFor_13 ca_X7_117 (s_X7_worthTo hn hm (by omega) (by omega)) rfl (lt_n hn (by decide)) rfl rfl (Nat.le_of_ble_eq_true rfl) (Nat.le_of_ble_eq_true rfl) (by decide) (by decide) rfl ?_
        refine ev_aload_n (q := 17) dX7_votesFor_16 rfl rfl ?_
        refine ev_iload_n (q := 18) dX7_votesFor_17 rfl rfl ?_
        refine ev_aload_n (q := 19) dX7_votesFor_18 rfl rfl ?_
        refine ev_get (q := 22) dX7_votesFor_19 fr_X7_73 rfl (lt_n hn (by decide)) rfl rfl ?_
        rw [show ov I S 33 7 = nI he from hhe]
        refine ev_callV2i (q := 25) dX7_votesFor_22 ca_X7_117 (s_X7_worthTo hn hm (by omega) (by omega)) rfl (lt_n hn (by decide)) rfl rfl (Nat.le_of_ble_eq_true rfl) (Nat.le_of_ble_eq_true rfl) (by decide) (by decide) rfl ?_
        refine ev_icmp_le (q := 28) 37 dX7_votesFor_25 (by decide) rfl (fun c_25 => ?_) (fun c_25 => ?_)
        · have c_25 : ¬ wtF I t k he < wtF I t k w := fun h => absurd c_25 (by simp only [i_le, i_lt] at *; omega)
          refine ev_iconst (q := 38) (0) dX7_votesFor_37 (by decide) rfl ?_
          refine ev_iadd (q := 39) dX7_votesFor_38 rfl ?_
          refine ev_ist_2 (q := 40) dX7_votesFor_39 rfl rfl ?_
          refine ev_inc_3 (q := 43) (nI (k + 1)) dX7_votesFor_40 (nI_1 k) rfl rfl ?_
          refine ev_goto 4 dX7_votesFor_43 (by decide) ?_
          have e := ih (j - 1) (by omega) (k + 1) (by omega)
          simp only [upto, c_25, if_true, if_false] at e
          exact e
        · have c_25 : wtF I t k he < wtF I t k w := by simp only [i_le, i_lt] at *; omega
          refine ev_aload_n (q := 29) dX7_votesFor_28 rfl rfl ?_
          refine ev_get (q := 32) dX7_votesFor_29 fr_X7_20 rfl (lt_n hn (by decide)) rfl rfl ?_
          refine ev_iload_n (q := 33) dX7_votesFor_32 rfl rfl ?_
          refine ev_iaS (q := 34) _ dX7_votesFor_33 rfl rfl (by omega) (lt_n hn (by decide)) rfl ?_
          refine ev_goto 38 dX7_votesFor_34 (by decide) ?_
          refine ev_iadd (q := 39) dX7_votesFor_38 rfl ?_
          refine ev_ist_2 (q := 40) dX7_votesFor_39 rfl rfl ?_
          refine ev_inc_3 (q := 43) (nI (k + 1)) dX7_votesFor_40 (nI_1 k) rfl rfl ?_
          refine ev_goto 4 dX7_votesFor_43 (by decide) ?_
          have e := ih (j - 1) (by omega) (k + 1) (by omega)
          simp only [upto, c_25, if_true, if_false] at e
          exact e
  refine ev_iconst (q := 1) (0) dX7_votesFor_0 (by decide) rfl ?_
  refine ev_ist_2 (q := 2) dX7_votesFor_1 rfl rfl ?_
  refine ev_iconst (q := 3) (0) dX7_votesFor_2 (by decide) rfl ?_
  refine ev_ist_3 (q := 4) dX7_votesFor_3 rfl rfl ?_
  exact lp 4 0 (by omega)
theorem s_X7_worthToAll {w : Nat} (hn : 49 ≤ n) (hm : MI I t sl wy wi he) (hw : w < 64) : Rn xl xs 2 45 0 0 mX7_worthToAll [.ref 33, .int (nI w)] n (sysH (ov I S) (ovJ J T) X) (some (.int (waF I t w))) n (sysH (ov I S) (ovJ J T) X) := by
  intro Q hQ
  show Ev xl xs 2 45 0 0 mX7_worthToAll 0 [some (.ref 33), some (.int (nI w)), none, none] [] n (sysH (ov I S) (ovJ J T) X) Q
  have lp : ∀ j k, k + j = 4 → Ev xl xs 2 45 0 0 mX7_worthToAll 4 [some (.ref 33), some (.int (nI w)), some (.int (upto (fun c s => s + wtF I t c w) k 0)), some (.int (nI k))] [] n (sysH (ov I S) (ovJ J T) X) Q := by
    intro j
    induction j using Nat.strongRecOn with
    | _ j ih =>
      intro k hk
      refine ev_iload_n (q := 5) dX7_worthToAll_4 rfl rfl ?_
      refine ev_iconst (q := 6) (4) dX7_worthToAll_5 (by decide) rfl ?_
      refine ev_icmp_ge (q := 9) 24 dX7_worthToAll_6 (by decide) rfl (fun c_6 => ?_) (fun c_6 => ?_)
      · have c_6 : 4 ≤ k := (nI_leI (a := 4) (by omega) (by omega)).mp c_6
        refine ev_iload_n (q := 25) dX7_worthToAll_24 rfl rfl ?_
        exact ev_iretE dX7_worthToAll_25 rfl rfl (by rw [show k = 4 by omega]; rfl) rfl rfl hQ
      · have c_6 : ¬ 4 ≤ k := fun h => c_6 ((nI_leI (a := 4) (by omega) (by omega)).mpr h)
        refine ev_iload_n (q := 10) dX7_worthToAll_9 rfl rfl ?_
        refine ev_aload_n (q := 11) dX7_worthToAll_10 rfl rfl ?_
        refine ev_iload_n (q := 12) dX7_worthToAll_11 rfl rfl ?_
        refine ev_iload_n (q := 13) dX7_worthToAll_12 rfl rfl ?_
        refine ev_callV2i (q := 16) dX7_worthToAll_13 ca_X7_117 (s_X7_worthTo hn hm (by omega) (by omega)) rfl (lt_n hn (by decide)) rfl rfl (Nat.le_of_ble_eq_true rfl) (Nat.le_of_ble_eq_true rfl) (by decide) (by decide) rfl ?_
        refine ev_iadd (q := 17) dX7_worthToAll_16 rfl ?_
        refine ev_ist_2 (q := 18) dX7_worthToAll_17 rfl rfl ?_
        refine ev_inc_3 (q := 21) (nI (k + 1)) dX7_worthToAll_18 (nI_1 k) rfl rfl ?_
        refine ev_goto 4 dX7_worthToAll_21 (by decide) ?_
        exact ih (j - 1) (by omega) (k + 1) (by omega)
  refine ev_iconst (q := 1) (0) dX7_worthToAll_0 (by decide) rfl ?_
  refine ev_ist_2 (q := 2) dX7_worthToAll_1 rfl rfl ?_
  refine ev_iconst (q := 3) (0) dX7_worthToAll_2 (by decide) rfl ?_
  refine ev_ist_3 (q := 4) dX7_worthToAll_3 rfl rfl ?_
  exact lp 4 0 (by omega)
theorem s_X7_agreed (hn : 49 ≤ n) (hm : MI I t sl wy wi he) (what : Int32) : RnS xl xs 5 114 0 0 mX7_agreed [.ref 33, .int what] n I J X (some (.int (if inb what 0 1 then (match upto (pickB (fun _ o _ b => decide (b < o)) (ownA I J t sl wy wi he)) (3 ^ t) none with | none => -6 | some p => if what = 0 then nI p.1 else p.2 / 100000) else -2))) n I J X := by
  intro S T Q hQ
  have hm' := hm
  obtain ⟨ht, ht2, h6, hs, hs6, hwy, h3, hwi, h4, hhe, hhl⟩ := hm'
  have h64 := p2_le h6
  have h729 := p3_le h6
  show Ev xl xs 5 114 0 0 mX7_agreed 0 [some (.ref 33), some (.int what), none, none, none, none, none] [] n (sysH (ov I S) (ovJ J T) X) Q
  cases hin : inb what 0 1 with
  | false =>
    rw [hin] at hQ
    refine ev_iload_n (q := 1) dX7_agreed_0 rfl rfl ?_
    refine ev_iconst (q := 2) (0) dX7_agreed_1 (by decide) rfl ?_
    refine ev_iconst (q := 3) (1) dX7_agreed_2 (by decide) rfl ?_
    refine ev_callS3i (q := 6) dX7_agreed_3 ca_X7_99 (c_X7_in _ _ _) (Nat.le_of_ble_eq_true rfl) (Nat.le_of_ble_eq_true rfl) (by decide) (by decide) rfl ?_
    refine ev_if_ne (q := 9) 12 dX7_agreed_6 (by decide) rfl (fun c_6 => ?_) (fun c_6 => ?_)
    · exact absurd (b2i_ne.mp c_6) (by rw [hin]; decide)
    · refine ev_bipush (q := 11) (-2) dX7_agreed_9 (by decide) rfl ?_
      exact ev_iretE dX7_agreed_11 rfl rfl rfl rfl rfl (hQ _ _)
  | true =>
    rw [hin] at hQ
    have lp : ∀ j k, k + j = 3 ^ t → ∀ S T a5 a6, Ev xl xs 5 114 0 0 mX7_agreed 20 [some (.ref 33), some (.int what), some (.int (eoP (upto (pickB (fun _ o _ b => decide (b < o)) (ownA I J t sl wy wi he)) k none))), some (.int (bvP (upto (pickB (fun _ o _ b => decide (b < o)) (ownA I J t sl wy wi he)) k none))), some (.int (nI k)), a5, a6] [] n (sysH (ov I S) (ovJ J T) X) Q := by
      intro j
      induction j using Nat.strongRecOn with
      | _ j ih =>
        intro k hk S T a5 a6
        have hlt := pickB_lt (better := fun _ o _ b => decide (b < o)) (own := ownA I J t sl wy wi he) k
        cases ho : upto (pickB (fun _ o _ b => decide (b < o)) (ownA I J t sl wy wi he)) k none with
        | none =>
          cases hmk : mtF I J t sl wy wi k he with
          | none =>
            refine ev_iload (q := 22) dX7_agreed_20 rfl rfl ?_
            refine ev_aload_n (q := 23) dX7_agreed_22 rfl rfl ?_
            refine ev_callV0i (q := 26) dX7_agreed_23 ca_X7_201 (s_X7_terms hn hm) rfl (lt_n hn (by decide)) rfl rfl (Nat.le_of_ble_eq_true rfl) (Nat.le_of_ble_eq_true rfl) (by decide) (by decide) rfl ?_
            refine ev_icmp_ge (q := 29) 112 dX7_agreed_26 (by decide) rfl (fun c_26 => ?_) (fun c_26 => ?_)
            · have c_26 : 3 ^ t ≤ k := (nI_leI (by omega) (by omega)).mp c_26
              refine ev_iload_n (q := 113) dX7_agreed_112 rfl rfl ?_
              refine ev_if_lt (q := 116) 120 dX7_agreed_113 (by decide) rfl (fun c_113 => ?_) (fun c_113 => ?_)
              · refine ev_iload_n (q := 121) dX7_agreed_120 rfl rfl ?_
                refine ev_goto 128 dX7_agreed_121 (by decide) ?_
                exact ev_iretE dX7_agreed_128 rfl rfl (by rw [show 3 ^ t = k by omega, ho]; rfl) rfl rfl (hQ _ _)
              · exact absurd neg6 c_113
            · have c_26 : ¬ 3 ^ t ≤ k := fun h => c_26 ((nI_leI (by omega) (by omega)).mpr h)
              refine ev_aload_n (q := 30) dX7_agreed_29 rfl rfl ?_
              refine ev_iload (q := 32) dX7_agreed_30 rfl rfl ?_
              refine ev_aload_n (q := 33) dX7_agreed_32 rfl rfl ?_
              refine ev_get (q := 36) dX7_agreed_33 fr_X7_73 rfl (lt_n hn (by decide)) rfl rfl ?_
              rw [show ov I S 33 7 = nI he from hhe]
              refine ev_callV2iS (q := 39) dX7_agreed_36 ca_X7_204 (s_X7_madeOfTerm hn hm (by omega) (by omega)) rfl (lt_n hn (by decide)) rfl rfl (Nat.le_of_ble_eq_true rfl) (Nat.le_of_ble_eq_true rfl) (by decide) (by decide) rfl (fun S T => ?_)
              rw [hmk]
              refine ev_ist_5 (q := 41) dX7_agreed_39 rfl rfl ?_
              refine ev_iload (q := 43) dX7_agreed_41 rfl rfl ?_
              refine ev_if_ge (q := 46) 50 dX7_agreed_43 (by decide) rfl (fun c_43 => ?_) (fun c_43 => ?_)
              · exact absurd c_43 (by decide)
              · refine ev_iconst (q := 47) (0) dX7_agreed_46 (by decide) rfl ?_
                refine ev_goto 83 dX7_agreed_47 (by decide) ?_
                refine ev_ist_6 (q := 85) dX7_agreed_83 rfl rfl ?_
                refine ev_iload (q := 87) dX7_agreed_85 rfl rfl ?_
                refine ev_if_lt (q := 90) 106 dX7_agreed_87 (by decide) rfl (fun c_87 => ?_) (fun c_87 => ?_)
                · refine ev_inc_4 (q := 109) (nI (k + 1)) dX7_agreed_106 (nI_1 k) rfl rfl ?_
                  refine ev_goto 20 dX7_agreed_109 (by decide) ?_
                  have e := ih (j - 1) (by omega) (k + 1) (by omega) S T
                  simp only [upto, pickB, ownA, ho, hmk, Option.map_none] at e
                  exact e _ _
                · exact absurd neg6 c_87
          | some v =>
            have hv := mtF_lt hmk
            refine ev_iload (q := 22) dX7_agreed_20 rfl rfl ?_
            refine ev_aload_n (q := 23) dX7_agreed_22 rfl rfl ?_
            refine ev_callV0i (q := 26) dX7_agreed_23 ca_X7_201 (s_X7_terms hn hm) rfl (lt_n hn (by decide)) rfl rfl (Nat.le_of_ble_eq_true rfl) (Nat.le_of_ble_eq_true rfl) (by decide) (by decide) rfl ?_
            refine ev_icmp_ge (q := 29) 112 dX7_agreed_26 (by decide) rfl (fun c_26 => ?_) (fun c_26 => ?_)
            · have c_26 : 3 ^ t ≤ k := (nI_leI (by omega) (by omega)).mp c_26
              refine ev_iload_n (q := 113) dX7_agreed_112 rfl rfl ?_
              refine ev_if_lt (q := 116) 120 dX7_agreed_113 (by decide) rfl (fun c_113 => ?_) (fun c_113 => ?_)
              · refine ev_iload_n (q := 121) dX7_agreed_120 rfl rfl ?_
                refine ev_goto 128 dX7_agreed_121 (by decide) ?_
                exact ev_iretE dX7_agreed_128 rfl rfl (by rw [show 3 ^ t = k by omega, ho]; rfl) rfl rfl (hQ _ _)
              · exact absurd neg6 c_113
            · have c_26 : ¬ 3 ^ t ≤ k := fun h => c_26 ((nI_leI (by omega) (by omega)).mpr h)
              refine ev_aload_n (q := 30) dX7_agreed_29 rfl rfl ?_
              refine ev_iload (q := 32) dX7_agreed_30 rfl rfl ?_
              refine ev_aload_n (q := 33) dX7_agreed_32 rfl rfl ?_
              refine ev_get (q := 36) dX7_agreed_33 fr_X7_73 rfl (lt_n hn (by decide)) rfl rfl ?_
              rw [show ov I S 33 7 = nI he from hhe]
              refine ev_callV2iS (q := 39) dX7_agreed_36 ca_X7_204 (s_X7_madeOfTerm hn hm (by omega) (by omega)) rfl (lt_n hn (by decide)) rfl rfl (Nat.le_of_ble_eq_true rfl) (Nat.le_of_ble_eq_true rfl) (by decide) (by decide) rfl (fun S T => ?_)
              rw [hmk]
              refine ev_ist_5 (q := 41) dX7_agreed_39 rfl rfl ?_
              refine ev_iload (q := 43) dX7_agreed_41 rfl rfl ?_
              refine ev_if_ge (q := 46) 50 dX7_agreed_43 (by decide) rfl (fun c_43 => ?_) (fun c_43 => ?_)
              · refine ev_ldc (q := 52) co_X7_223 dX7_agreed_50 rfl ?_
                refine ev_aload_n (q := 53) dX7_agreed_52 rfl rfl ?_
                refine ev_iload (q := 55) dX7_agreed_53 rfl rfl ?_
                refine ev_callV1i (q := 58) dX7_agreed_55 ca_X7_220 (s_X7_votesFor (w := v) hn hm (by omega)) rfl (lt_n hn (by decide)) rfl rfl (Nat.le_of_ble_eq_true rfl) (Nat.le_of_ble_eq_true rfl) (by decide) (by decide) rfl ?_
                refine ev_imul (q := 59) dX7_agreed_58 rfl ?_
                refine ev_bipush (q := 61) (10) dX7_agreed_59 (by decide) rfl ?_
                refine ev_aload_n (q := 62) dX7_agreed_61 rfl rfl ?_
                refine ev_iload (q := 64) dX7_agreed_62 rfl rfl ?_
                refine ev_callV1i (q := 67) dX7_agreed_64 ca_X7_224 (s_X7_worthToAll (w := v) hn hm (by omega)) rfl (lt_n hn (by decide)) rfl rfl (Nat.le_of_ble_eq_true rfl) (Nat.le_of_ble_eq_true rfl) (by decide) (by decide) rfl ?_
                refine ev_sipush (q := 70) (500) dX7_agreed_67 (by decide) rfl ?_
                refine ev_iadd (q := 71) dX7_agreed_70 rfl ?_
                refine ev_imul (q := 72) dX7_agreed_71 rfl ?_
                refine ev_iadd (q := 73) dX7_agreed_72 rfl ?_
                refine ev_bipush (q := 75) (6) dX7_agreed_73 (by decide) rfl ?_
                refine ev_iadd (q := 76) dX7_agreed_75 rfl ?_
                refine ev_aload_n (q := 77) dX7_agreed_76 rfl rfl ?_
                refine ev_iload (q := 79) dX7_agreed_77 rfl rfl ?_
                refine ev_callV1i (q := 82) dX7_agreed_79 ca_X7_207 (s_X7_words hn hm (by omega)) rfl (lt_n hn (by decide)) rfl rfl (Nat.le_of_ble_eq_true rfl) (Nat.le_of_ble_eq_true rfl) (by decide) (by decide) rfl ?_
                refine ev_isub (q := 83) dX7_agreed_82 rfl ?_
                refine ev_ist_6 (q := 85) dX7_agreed_83 rfl rfl ?_
                refine ev_iload (q := 87) dX7_agreed_85 rfl rfl ?_
                refine ev_if_lt (q := 90) 106 dX7_agreed_87 (by decide) rfl (fun c_87 => ?_) (fun c_87 => ?_)
                · exact absurd c_87 (nI_pos (by omega))
                · refine ev_iload_n (q := 91) dX7_agreed_90 rfl rfl ?_
                  refine ev_if_lt (q := 94) 100 dX7_agreed_91 (by decide) rfl (fun c_91 => ?_) (fun c_91 => ?_)
                  · refine ev_iload (q := 102) dX7_agreed_100 rfl rfl ?_
                    refine ev_ist_2 (q := 103) dX7_agreed_102 rfl rfl ?_
                    refine ev_iload (q := 105) dX7_agreed_103 rfl rfl ?_
                    refine ev_ist_3 (q := 106) dX7_agreed_105 rfl rfl ?_
                    refine ev_inc_4 (q := 109) (nI (k + 1)) dX7_agreed_106 (nI_1 k) rfl rfl ?_
                    refine ev_goto 20 dX7_agreed_109 (by decide) ?_
                    have e := ih (j - 1) (by omega) (k + 1) (by omega) S T
                    simp only [upto, pickB, ownA, ho, hmk, Option.map_some] at e
                    exact e _ _
                  · exact absurd neg6 c_91
              · exact absurd (nI_pos' (by omega)) c_43
        | some p =>
          obtain ⟨u, b⟩ := p
          have hu := hlt u b ho
          cases hmk : mtF I J t sl wy wi k he with
          | none =>
            refine ev_iload (q := 22) dX7_agreed_20 rfl rfl ?_
            refine ev_aload_n (q := 23) dX7_agreed_22 rfl rfl ?_
            refine ev_callV0i (q := 26) dX7_agreed_23 ca_X7_201 (s_X7_terms hn hm) rfl (lt_n hn (by decide)) rfl rfl (Nat.le_of_ble_eq_true rfl) (Nat.le_of_ble_eq_true rfl) (by decide) (by decide) rfl ?_
            refine ev_icmp_ge (q := 29) 112 dX7_agreed_26 (by decide) rfl (fun c_26 => ?_) (fun c_26 => ?_)
            · have c_26 : 3 ^ t ≤ k := (nI_leI (by omega) (by omega)).mp c_26
              refine ev_iload_n (q := 113) dX7_agreed_112 rfl rfl ?_
              refine ev_if_lt (q := 116) 120 dX7_agreed_113 (by decide) rfl (fun c_113 => ?_) (fun c_113 => ?_)
              · exact absurd c_113 (nI_pos (by omega))
              · refine ev_iload_n (q := 117) dX7_agreed_116 rfl rfl ?_
                refine ev_if_ne (q := 120) 124 dX7_agreed_117 (by decide) rfl (fun c_117 => ?_) (fun c_117 => ?_)
                · refine ev_iload_n (q := 125) dX7_agreed_124 rfl rfl ?_
                  refine ev_ldc (q := 127) co_X7_223 dX7_agreed_125 rfl ?_
                  refine ev_idiv (q := 128) (by decide) dX7_agreed_127 rfl ?_
                  exact ev_iretE dX7_agreed_128 rfl rfl (by rw [show 3 ^ t = k by omega, ho]; first | (simp [c_117]; done) | (simp [c_117]; rfl)) rfl rfl (hQ _ _)
                · refine ev_iload_n (q := 121) dX7_agreed_120 rfl rfl ?_
                  refine ev_goto 128 dX7_agreed_121 (by decide) ?_
                  exact ev_iretE dX7_agreed_128 rfl rfl (by rw [show 3 ^ t = k by omega, ho]; first | (simp [c_117]; done) | (simp [c_117]; rfl)) rfl rfl (hQ _ _)
            · have c_26 : ¬ 3 ^ t ≤ k := fun h => c_26 ((nI_leI (by omega) (by omega)).mpr h)
              refine ev_aload_n (q := 30) dX7_agreed_29 rfl rfl ?_
              refine ev_iload (q := 32) dX7_agreed_30 rfl rfl ?_
              refine ev_aload_n (q := 33) dX7_agreed_32 rfl rfl ?_
              refine ev_get (q := 36) dX7_agreed_33 fr_X7_73 rfl (lt_n hn (by decide)) rfl rfl ?_
              rw [show ov I S 33 7 = nI he from hhe]
              refine ev_callV2iS (q := 39) dX7_agreed_36 ca_X7_204 (s_X7_madeOfTerm hn hm (by omega) (by omega)) rfl (lt_n hn (by decide)) rfl rfl (Nat.le_of_ble_eq_true rfl) (Nat.le_of_ble_eq_true rfl) (by decide) (by decide) rfl (fun S T => ?_)
              rw [hmk]
              refine ev_ist_5 (q := 41) dX7_agreed_39 rfl rfl ?_
              refine ev_iload (q := 43) dX7_agreed_41 rfl rfl ?_
              refine ev_if_ge (q := 46) 50 dX7_agreed_43 (by decide) rfl (fun c_43 => ?_) (fun c_43 => ?_)
              · exact absurd c_43 (by decide)
              · refine ev_iconst (q := 47) (0) dX7_agreed_46 (by decide) rfl ?_
                refine ev_goto 83 dX7_agreed_47 (by decide) ?_
                refine ev_ist_6 (q := 85) dX7_agreed_83 rfl rfl ?_
                refine ev_iload (q := 87) dX7_agreed_85 rfl rfl ?_
                refine ev_if_lt (q := 90) 106 dX7_agreed_87 (by decide) rfl (fun c_87 => ?_) (fun c_87 => ?_)
                · refine ev_inc_4 (q := 109) (nI (k + 1)) dX7_agreed_106 (nI_1 k) rfl rfl ?_
                  refine ev_goto 20 dX7_agreed_109 (by decide) ?_
                  have e := ih (j - 1) (by omega) (k + 1) (by omega) S T
                  simp only [upto, pickB, ownA, ho, hmk, Option.map_none] at e
                  exact e _ _
                · exact absurd neg6 c_87
          | some v =>
            have hv := mtF_lt hmk
            refine ev_iload (q := 22) dX7_agreed_20 rfl rfl ?_
            refine ev_aload_n (q := 23) dX7_agreed_22 rfl rfl ?_
            refine ev_callV0i (q := 26) dX7_agreed_23 ca_X7_201 (s_X7_terms hn hm) rfl (lt_n hn (by decide)) rfl rfl (Nat.le_of_ble_eq_true rfl) (Nat.le_of_ble_eq_true rfl) (by decide) (by decide) rfl ?_
            refine ev_icmp_ge (q := 29) 112 dX7_agreed_26 (by decide) rfl (fun c_26 => ?_) (fun c_26 => ?_)
            · have c_26 : 3 ^ t ≤ k := (nI_leI (by omega) (by omega)).mp c_26
              refine ev_iload_n (q := 113) dX7_agreed_112 rfl rfl ?_
              refine ev_if_lt (q := 116) 120 dX7_agreed_113 (by decide) rfl (fun c_113 => ?_) (fun c_113 => ?_)
              · exact absurd c_113 (nI_pos (by omega))
              · refine ev_iload_n (q := 117) dX7_agreed_116 rfl rfl ?_
                refine ev_if_ne (q := 120) 124 dX7_agreed_117 (by decide) rfl (fun c_117 => ?_) (fun c_117 => ?_)
                · refine ev_iload_n (q := 125) dX7_agreed_124 rfl rfl ?_
                  refine ev_ldc (q := 127) co_X7_223 dX7_agreed_125 rfl ?_
                  refine ev_idiv (q := 128) (by decide) dX7_agreed_127 rfl ?_
                  exact ev_iretE dX7_agreed_128 rfl rfl (by rw [show 3 ^ t = k by omega, ho]; first | (simp [c_117]; done) | (simp [c_117]; rfl)) rfl rfl (hQ _ _)
                · refine ev_iload_n (q := 121) dX7_agreed_120 rfl rfl ?_
                  refine ev_goto 128 dX7_agreed_121 (by decide) ?_
                  exact ev_iretE dX7_agreed_128 rfl rfl (by rw [show 3 ^ t = k by omega, ho]; first | (simp [c_117]; done) | (simp [c_117]; rfl)) rfl rfl (hQ _ _)
            · have c_26 : ¬ 3 ^ t ≤ k := fun h => c_26 ((nI_leI (by omega) (by omega)).mpr h)
              refine ev_aload_n (q := 30) dX7_agreed_29 rfl rfl ?_
              refine ev_iload (q := 32) dX7_agreed_30 rfl rfl ?_
              refine ev_aload_n (q := 33) dX7_agreed_32 rfl rfl ?_
              refine ev_get (q := 36) dX7_agreed_33 fr_X7_73 rfl (lt_n hn (by decide)) rfl rfl ?_
              rw [show ov I S 33 7 = nI he from hhe]
              refine ev_callV2iS (q := 39) dX7_agreed_36 ca_X7_204 (s_X7_madeOfTerm hn hm (by omega) (by omega)) rfl (lt_n hn (by decide)) rfl rfl (Nat.le_of_ble_eq_true rfl) (Nat.le_of_ble_eq_true rfl) (by decide) (by decide) rfl (fun S T => ?_)
              rw [hmk]
              refine ev_ist_5 (q := 41) dX7_agreed_39 rfl rfl ?_
              refine ev_iload (q := 43) dX7_agreed_41 rfl rfl ?_
              refine ev_if_ge (q := 46) 50 dX7_agreed_43 (by decide) rfl (fun c_43 => ?_) (fun c_43 => ?_)
              · refine ev_ldc (q := 52) co_X7_223 dX7_agreed_50 rfl ?_
                refine ev_aload_n (q := 53) dX7_agreed_52 rfl rfl ?_
                refine ev_iload (q := 55) dX7_agreed_53 rfl rfl ?_
                refine ev_callV1i (q := 58) dX7_agreed_55 ca_X7_220 (s_X7_votesFor (w := v) hn hm (by omega)) rfl (lt_n hn (by decide)) rfl rfl (Nat.le_of_ble_eq_true rfl) (Nat.le_of_ble_eq_true rfl) (by decide) (by decide) rfl ?_
                refine ev_imul (q := 59) dX7_agreed_58 rfl ?_
                refine ev_bipush (q := 61) (10) dX7_agreed_59 (by decide) rfl ?_
                refine ev_aload_n (q := 62) dX7_agreed_61 rfl rfl ?_
                refine ev_iload (q := 64) dX7_agreed_62 rfl rfl ?_
                refine ev_callV1i (q := 67) dX7_agreed_64 ca_X7_224 (s_X7_worthToAll (w := v) hn hm (by omega)) rfl (lt_n hn (by decide)) rfl rfl (Nat.le_of_ble_eq_true rfl) (Nat.le_of_ble_eq_true rfl) (by decide) (by decide) rfl ?_
                refine ev_sipush (q := 70) (500) dX7_agreed_67 (by decide) rfl ?_
                refine ev_iadd (q := 71) dX7_agreed_70 rfl ?_
                refine ev_imul (q := 72) dX7_agreed_71 rfl ?_
                refine ev_iadd (q := 73) dX7_agreed_72 rfl ?_
                refine ev_bipush (q := 75) (6) dX7_agreed_73 (by decide) rfl ?_
                refine ev_iadd (q := 76) dX7_agreed_75 rfl ?_
                refine ev_aload_n (q := 77) dX7_agreed_76 rfl rfl ?_
                refine ev_iload (q := 79) dX7_agreed_77 rfl rfl ?_
                refine ev_callV1i (q := 82) dX7_agreed_79 ca_X7_207 (s_X7_words hn hm (by omega)) rfl (lt_n hn (by decide)) rfl rfl (Nat.le_of_ble_eq_true rfl) (Nat.le_of_ble_eq_true rfl) (by decide) (by decide) rfl ?_
                refine ev_isub (q := 83) dX7_agreed_82 rfl ?_
                refine ev_ist_6 (q := 85) dX7_agreed_83 rfl rfl ?_
                refine ev_iload (q := 87) dX7_agreed_85 rfl rfl ?_
                refine ev_if_lt (q := 90) 106 dX7_agreed_87 (by decide) rfl (fun c_87 => ?_) (fun c_87 => ?_)
                · exact absurd c_87 (nI_pos (by omega))
                · refine ev_iload_n (q := 91) dX7_agreed_90 rfl rfl ?_
                  refine ev_if_lt (q := 94) 100 dX7_agreed_91 (by decide) rfl (fun c_91 => ?_) (fun c_91 => ?_)
                  · exact absurd c_91 (nI_pos (by omega))
                  · refine ev_iload (q := 96) dX7_agreed_94 rfl rfl ?_
                    refine ev_iload_n (q := 97) dX7_agreed_96 rfl rfl ?_
                    refine ev_icmp_le (q := 100) 106 dX7_agreed_97 (by decide) rfl (fun c_97 => ?_) (fun c_97 => ?_)
                    · have hbt : decide (b < 100000 * voF I t he v + 10 * (waF I t v + 500) + 6 - nI (wd t k)) = false := by rw [decide_eq_false_iff_not]; intro hz; exact absurd (show (100000 * voF I t he v + 10 * (waF I t v + 500) + 6 - nI (wd t k)) ≤ b from c_97) (by simp only [i_le, i_lt] at *; omega)
                      refine ev_inc_4 (q := 109) (nI (k + 1)) dX7_agreed_106 (nI_1 k) rfl rfl ?_
                      refine ev_goto 20 dX7_agreed_109 (by decide) ?_
                      have e := ih (j - 1) (by omega) (k + 1) (by omega) S T
                      simp only [upto, pickB, ownA, ho, hmk, Option.map_some, hbt, if_true, if_false] at e
                      exact e _ _
                    · have hbt : decide (b < 100000 * voF I t he v + 10 * (waF I t v + 500) + 6 - nI (wd t k)) = true := by rw [decide_eq_true_iff]; have c_97 : ¬ (100000 * voF I t he v + 10 * (waF I t v + 500) + 6 - nI (wd t k)) ≤ b := c_97; simp only [i_le, i_lt] at *; omega
                      refine ev_iload (q := 102) dX7_agreed_100 rfl rfl ?_
                      refine ev_ist_2 (q := 103) dX7_agreed_102 rfl rfl ?_
                      refine ev_iload (q := 105) dX7_agreed_103 rfl rfl ?_
                      refine ev_ist_3 (q := 106) dX7_agreed_105 rfl rfl ?_
                      refine ev_inc_4 (q := 109) (nI (k + 1)) dX7_agreed_106 (nI_1 k) rfl rfl ?_
                      refine ev_goto 20 dX7_agreed_109 (by decide) ?_
                      have e := ih (j - 1) (by omega) (k + 1) (by omega) S T
                      simp only [upto, pickB, ownA, ho, hmk, Option.map_some, hbt, if_true, if_false] at e
                      exact e _ _
              · exact absurd (nI_pos' (by omega)) c_43
    refine ev_iload_n (q := 1) dX7_agreed_0 rfl rfl ?_
    refine ev_iconst (q := 2) (0) dX7_agreed_1 (by decide) rfl ?_
    refine ev_iconst (q := 3) (1) dX7_agreed_2 (by decide) rfl ?_
    refine ev_callS3i (q := 6) dX7_agreed_3 ca_X7_99 (c_X7_in _ _ _) (Nat.le_of_ble_eq_true rfl) (Nat.le_of_ble_eq_true rfl) (by decide) (by decide) rfl ?_
    refine ev_if_ne (q := 9) 12 dX7_agreed_6 (by decide) rfl (fun c_6 => ?_) (fun c_6 => ?_)
    · refine ev_bipush (q := 14) (-6) dX7_agreed_12 (by decide) rfl ?_
      refine ev_ist_2 (q := 15) dX7_agreed_14 rfl rfl ?_
      refine ev_iconst (q := 16) (0) dX7_agreed_15 (by decide) rfl ?_
      refine ev_ist_3 (q := 17) dX7_agreed_16 rfl rfl ?_
      refine ev_iconst (q := 18) (0) dX7_agreed_17 (by decide) rfl ?_
      refine ev_ist_4 (q := 20) dX7_agreed_18 rfl rfl ?_
      exact lp (3 ^ t) 0 (by omega) _ _ _ _
    · exact absurd c_6 (b2i_n0.mpr hin)
end MODEL8
