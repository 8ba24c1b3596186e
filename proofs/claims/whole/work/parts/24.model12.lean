/-- a term did all that came -/
def gdL (I : Nat → Nat → Int32) (J : Nat → Nat → Int64) (t sl wy wi : Nat) (cf : Nat → Nat) (c : Nat) (num : Nat) : Bool := upto (fun i b => b && decide (eo (mtF I J t sl wy wi num (cf i)) = I 40 (2 * i + 1))) c true
abbrev YS : Type := Nat × Nat × Int32 × Int32
def yrF (I : Nat → Nat → Int32) (J : Nat → Nat → Int64) (t sl wy wi : Nat) : Nat → YS → YS := fun _ s => match mtF I J t sl wy wi ((75 * s.1 + 74) % 65537 % 3 ^ t) s.2.1 with
  | none => ((75 * s.1 + 74) % 65537, s.2.1, s.2.2.1 + 1, s.2.2.2)
  | some w => ((75 * s.1 + 74) % 65537, w, s.2.2.1, s.2.2.2 + if wtF I t wi w < wtF I t wi s.2.1 then 1 else 0)
theorem gdL_f {I : Nat → Nat → Int32} {J : Nat → Nat → Int64} {t sl wy wi num : Nat} {cf : Nat → Nat} (k : Nat) (h : upto (fun i b => b && decide (eo (mtF I J t sl wy wi num (cf i)) = I 40 (2 * i + 1))) k true = false) : ∀ j, upto (fun i b => b && decide (eo (mtF I J t sl wy wi num (cf i)) = I 40 (2 * i + 1))) (k + j) true = false
  | 0 => h
  | j + 1 => by
    show (upto (fun i b => b && decide (eo (mtF I J t sl wy wi num (cf i)) = I 40 (2 * i + 1))) (k + j) true && _) = false
    rw [gdL_f k h j, Bool.false_and]
theorem yr_ok {I : Nat → Nat → Int32} {J : Nat → Nat → Int64} {t sl wy wi : Nat} (s0 : YS) (h1 : s0.1 < 65537) (h2 : s0.2.1 < 2 ^ t) : ∀ k, (upto (yrF I J t sl wy wi) k s0).1 < 65537 ∧ (upto (yrF I J t sl wy wi) k s0).2.1 < 2 ^ t
  | 0 => ⟨h1, h2⟩
  | k + 1 => by
    obtain ⟨e1, e2⟩ := yr_ok (I := I) (J := J) (t := t) (sl := sl) (wy := wy) (wi := wi) s0 h1 h2 k
    show (yrF I J t sl wy wi k (upto (yrF I J t sl wy wi) k s0)).1 < 65537 ∧ (yrF I J t sl wy wi k (upto (yrF I J t sl wy wi) k s0)).2.1 < 2 ^ t
    generalize upto (yrF I J t sl wy wi) k s0 = s at e1 e2
    unfold yrF
    split
    · exact ⟨Nat.mod_lt _ (by decide), e2⟩
    · rename_i w hw
      exact ⟨Nat.mod_lt _ (by decide), mtF_lt hw⟩
section MODEL12
variable {xl : Nat} {xs : Nat → Int32} {n : Nat} {h : Nat → PC} {I S : Nat → Nat → Int32} {J T : Nat → Nat → Int64} {X : Nat → Option Nat} {t sl wy wi he : Nat}
theorem s_X7_letters {c : Nat} {cf : Nat → Nat} (hn : 49 ≤ n) (hm : MI I t sl wy wi he) (hc : I 33 14 = nI c) (hc6 : c ≤ 6) (hcf : ∀ i, i < c → I 40 (2 * i) = nI (cf i) ∧ cf i < 2 ^ t) (what : Int32) : RnS xl xs 5 114 0 0 mX7_letters [.ref 33, .int what] n I J X (some (.int (if inb what 0 1 then (if what = 0 then upto (fun k s => s + b2i (gdL I J t sl wy wi cf c k)) (3 ^ t) 0 else eo (upto (pickW t (gdL I J t sl wy wi cf c)) (3 ^ t) none)) else -2))) n I J X := by
  intro S T Q hQ
  have hm' := hm
  obtain ⟨ht, ht2, h6, hs, hs6, hwy, h3, hwi, h4, hhe, hhl⟩ := hm'
  have h64 := p2_le h6
  have h729 := p3_le h6
  show Ev xl xs 5 114 0 0 mX7_letters 0 [some (.ref 33), some (.int what), none, none, none, none, none] [] n (sysH (ov I S) (ovJ J T) X) Q
  cases hin : inb what 0 1 with
  | false =>
    rw [hin] at hQ
    refine ev_iload_n (q := 1) dX7_letters_0 rfl rfl ?_
    refine ev_iconst (q := 2) (0) dX7_letters_1 (by decide) rfl ?_
    refine ev_iconst (q := 3) (1) dX7_letters_2 (by decide) rfl ?_
    refine ev_callS3i (q := 6) dX7_letters_3 ca_X7_99 (c_X7_in _ _ _) (Nat.le_of_ble_eq_true rfl) (Nat.le_of_ble_eq_true rfl) (by decide) (by decide) rfl ?_
    refine ev_if_ne (q := 9) 12 dX7_letters_6 (by decide) rfl (fun c_6 => ?_) (fun c_6 => ?_)
    · exact absurd (b2i_ne.mp c_6) (by rw [hin]; decide)
    · refine ev_bipush (q := 11) (-2) dX7_letters_9 (by decide) rfl ?_
      exact ev_iretE dX7_letters_11 rfl rfl rfl rfl rfl (hQ _ _)
  | true =>
    rw [hin] at hQ
    have inn : ∀ num, num < 3 ^ t → ∀ x2 x3, (∀ S T a6, Ev xl xs 5 114 0 0 mX7_letters 91 [some (.ref 33), some (.int what), some (.int x2), some (.int x3), some (.int (nI num)), some (.int (b2i (gdL I J t sl wy wi cf c num))), a6] [] n (sysH (ov I S) (ovJ J T) X) Q) → ∀ j k, k + j = c → ∀ S T, Ev xl xs 5 114 0 0 mX7_letters 35 [some (.ref 33), some (.int what), some (.int x2), some (.int x3), some (.int (nI num)), some (.int (b2i (upto (fun i b => b && decide (eo (mtF I J t sl wy wi num (cf i)) = I 40 (2 * i + 1))) k true))), some (.int (nI k))] [] n (sysH (ov I S) (ovJ J T) X) Q := by
      intro num hnum x2 x3 hout j
      induction j using Nat.strongRecOn with
      | _ j ih =>
        intro k hk S T
        refine ev_iload (q := 37) dX7_letters_35 rfl rfl ?_
        refine ev_aload_n (q := 38) dX7_letters_37 rfl rfl ?_
        refine ev_get (q := 41) dX7_letters_38 fr_X7_90 rfl (lt_n hn (by decide)) rfl rfl ?_
        rw [show ov I S 33 14 = nI c from hc]
        refine ev_icmp_ge (q := 44) 91 dX7_letters_41 (by decide) rfl (fun c_41 => ?_) (fun c_41 => ?_)
        · have c_41 : c ≤ k := (nI_leI (by omega) (by omega)).mp c_41
          have hkc : k = c := by omega
          first | (have e := gdL_f k c_46 (c - k); rw [show k + (c - k) = c by omega] at e; have e2 : gdL I J t sl wy wi cf c num = false := e; rw [c_46, ← e2]; exact hout S T _) | (subst hkc; exact hout S T _)
        · have c_41 : ¬ c ≤ k := fun h => c_41 ((nI_leI (by omega) (by omega)).mpr h)
          obtain ⟨hcf1, hcf2⟩ := hcf k (by omega)
          refine ev_iload (q := 46) dX7_letters_44 rfl rfl ?_
          refine ev_if_eq (q := 49) 91 dX7_letters_46 (by decide) rfl (fun c_46 => ?_) (fun c_46 => ?_)
          · have c_46 := b2i_0.mp c_46
            first | (have e := gdL_f k c_46 (c - k); rw [show k + (c - k) = c by omega] at e; have e2 : gdL I J t sl wy wi cf c num = false := e; rw [c_46, ← e2]; exact hout S T _) | (subst hkc; exact hout S T _)
          · have c_46 := b2i_n0.mp c_46
            refine ev_aload_n (q := 50) dX7_letters_49 rfl rfl ?_
            refine ev_iload (q := 52) dX7_letters_50 rfl rfl ?_
            refine ev_aload_n (q := 53) dX7_letters_52 rfl rfl ?_
            refine ev_get (q := 56) dX7_letters_53 fr_X7_33 rfl (lt_n hn (by decide)) rfl rfl ?_
            refine ev_iconst (q := 57) (2) dX7_letters_56 (by decide) rfl ?_
            refine ev_iload (q := 59) dX7_letters_57 rfl rfl ?_
            refine ev_imul (q := 60) dX7_letters_59 rfl ?_
            refine ev_iaS (q := 61) (2 * k) dX7_letters_60 (by rw [show (2 : Int32) = nI 2 from rfl, pk_mul]) rfl (by omega) (lt_n hn (by decide)) rfl ?_
            rw [show ov I S 40 (2 * k) = nI (cf k) from hcf1]
            refine ev_callV2iS (q := 64) dX7_letters_61 ca_X7_204 (s_X7_madeOfTerm hn hm (by omega) (by omega)) rfl (lt_n hn (by decide)) rfl rfl (Nat.le_of_ble_eq_true rfl) (Nat.le_of_ble_eq_true rfl) (by decide) (by decide) rfl (fun S T => ?_)
            refine ev_aload_n (q := 65) dX7_letters_64 rfl rfl ?_
            refine ev_get (q := 68) dX7_letters_65 fr_X7_33 rfl (lt_n hn (by decide)) rfl rfl ?_
            refine ev_iconst (q := 69) (2) dX7_letters_68 (by decide) rfl ?_
            refine ev_iload (q := 71) dX7_letters_69 rfl rfl ?_
            refine ev_imul (q := 72) dX7_letters_71 rfl ?_
            refine ev_iconst (q := 73) (1) dX7_letters_72 (by decide) rfl ?_
            refine ev_iadd (q := 74) dX7_letters_73 rfl ?_
            refine ev_iaS (q := 75) (2 * k + 1) dX7_letters_74 (by rw [show (2 : Int32) = nI 2 from rfl, pk_mul]; exact nI_1 _) rfl (by omega) (lt_n hn (by decide)) rfl ?_
            refine ev_icmp_ne (q := 78) 82 dX7_letters_75 (by decide) rfl (fun c_75 => ?_) (fun c_75 => ?_)
            · have c_75 : ¬ eo (mtF I J t sl wy wi num (cf k)) = I 40 (2 * k + 1) := c_75
              refine ev_iconst (q := 83) (0) dX7_letters_82 (by decide) rfl ?_
              refine ev_ist_5 (q := 85) dX7_letters_83 rfl rfl ?_
              refine ev_inc_6 (q := 88) (nI (k + 1)) dX7_letters_85 (nI_1 k) rfl rfl ?_
              refine ev_goto 35 dX7_letters_88 (by decide) ?_
              have e := ih (j - 1) (by omega) (k + 1) (by omega)
              simp only [upto, c_46, c_75, decide_true, decide_false, Bool.and_true, Bool.and_false] at e
              exact e _ _
            · have c_75 : eo (mtF I J t sl wy wi num (cf k)) = I 40 (2 * k + 1) := c_75
              refine ev_iconst (q := 79) (1) dX7_letters_78 (by decide) rfl ?_
              refine ev_goto 83 dX7_letters_79 (by decide) ?_
              refine ev_ist_5 (q := 85) dX7_letters_83 rfl rfl ?_
              refine ev_inc_6 (q := 88) (nI (k + 1)) dX7_letters_85 (nI_1 k) rfl rfl ?_
              refine ev_goto 35 dX7_letters_88 (by decide) ?_
              have e := ih (j - 1) (by omega) (k + 1) (by omega)
              simp only [upto, c_46, c_75, decide_true, decide_false, Bool.and_true, Bool.and_false] at e
              exact e _ _
    have lp : ∀ j k, k + j = 3 ^ t → ∀ S T a5 a6, Ev xl xs 5 114 0 0 mX7_letters 20 [some (.ref 33), some (.int what), some (.int (upto (fun k s => s + b2i (gdL I J t sl wy wi cf c k)) k 0)), some (.int (eo (upto (pickW t (gdL I J t sl wy wi cf c)) k none))), some (.int (nI k)), a5, a6] [] n (sysH (ov I S) (ovJ J T) X) Q := by
      intro j
      induction j using Nat.strongRecOn with
      | _ j ih =>
        intro k hk S T a5 a6
        have hlt := pickW_lt (t := t) (good := gdL I J t sl wy wi cf c) k
        have hwk := wd_le (num := k) h6
        have tl : ¬ 3 ^ t ≤ k → ∀ S T a6, Ev xl xs 5 114 0 0 mX7_letters 91 [some (.ref 33), some (.int what), some (.int (upto (fun k s => s + b2i (gdL I J t sl wy wi cf c k)) k 0)), some (.int (eo (upto (pickW t (gdL I J t sl wy wi cf c)) k none))), some (.int (nI k)), some (.int (b2i (gdL I J t sl wy wi cf c k))), a6] [] n (sysH (ov I S) (ovJ J T) X) Q := by
          intro hkt S T a6
          have e := ih (j - 1) (by omega) (k + 1) (by omega)
          cases hg : gdL I J t sl wy wi cf c k with
          | false =>
            simp only [upto, pickW, hg, Bool.false_eq_true, if_false] at e
            refine ev_iload (q := 93) dX7_letters_91 rfl rfl ?_
            refine ev_if_eq (q := 96) 119 dX7_letters_93 (by decide) rfl (fun c_93 => ?_) (fun c_93 => ?_)
            · refine ev_iload_n (q := 120) dX7_letters_119 rfl rfl ?_
              refine ev_ist_3 (q := 121) dX7_letters_120 rfl rfl ?_
              refine ev_iload_n (q := 122) dX7_letters_121 rfl rfl ?_
              refine ev_iload (q := 124) dX7_letters_122 rfl rfl ?_
              refine ev_if_eq (q := 127) 131 dX7_letters_124 (by decide) rfl (fun c_124 => ?_) (fun c_124 => ?_)
              · refine ev_iconst (q := 132) (0) dX7_letters_131 (by decide) rfl ?_
                refine ev_iadd (q := 133) dX7_letters_132 rfl ?_
                refine ev_ist_2 (q := 134) dX7_letters_133 rfl rfl ?_
                refine ev_inc_4 (q := 137) (nI (k + 1)) dX7_letters_134 (nI_1 k) rfl rfl ?_
                refine ev_goto 20 dX7_letters_137 (by decide) ?_
                exact e _ _ _ _
              · exact absurd rfl c_124
            · exact absurd rfl c_93
          | true =>
            cases ho : upto (pickW t (gdL I J t sl wy wi cf c)) k none with
            | none =>
              simp only [upto, pickW, hg, ho, if_true] at e
              refine ev_iload (q := 93) dX7_letters_91 rfl rfl ?_
              refine ev_if_eq (q := 96) 119 dX7_letters_93 (by decide) rfl (fun c_93 => ?_) (fun c_93 => ?_)
              · exact absurd c_93 (by decide)
              · refine ev_iload_n (q := 97) dX7_letters_96 rfl rfl ?_
                refine ev_if_lt (q := 100) 114 dX7_letters_97 (by decide) rfl (fun c_97 => ?_) (fun c_97 => ?_)
                · refine ev_iload (q := 116) dX7_letters_114 rfl rfl ?_
                  refine ev_goto 120 dX7_letters_116 (by decide) ?_
                  refine ev_ist_3 (q := 121) dX7_letters_120 rfl rfl ?_
                  refine ev_iload_n (q := 122) dX7_letters_121 rfl rfl ?_
                  refine ev_iload (q := 124) dX7_letters_122 rfl rfl ?_
                  refine ev_if_eq (q := 127) 131 dX7_letters_124 (by decide) rfl (fun c_124 => ?_) (fun c_124 => ?_)
                  · exact absurd c_124 (by decide)
                  · refine ev_iconst (q := 128) (1) dX7_letters_127 (by decide) rfl ?_
                    refine ev_goto 132 dX7_letters_128 (by decide) ?_
                    refine ev_iadd (q := 133) dX7_letters_132 rfl ?_
                    refine ev_ist_2 (q := 134) dX7_letters_133 rfl rfl ?_
                    refine ev_inc_4 (q := 137) (nI (k + 1)) dX7_letters_134 (nI_1 k) rfl rfl ?_
                    refine ev_goto 20 dX7_letters_137 (by decide) ?_
                    exact e _ _ _ _
                · exact absurd neg6 c_97
            | some u =>
              have hu := hlt u ho
              have hwu := wd_le (num := u) h6
              simp only [upto, pickW, hg, ho, if_true] at e
              refine ev_iload (q := 93) dX7_letters_91 rfl rfl ?_
              refine ev_if_eq (q := 96) 119 dX7_letters_93 (by decide) rfl (fun c_93 => ?_) (fun c_93 => ?_)
              · exact absurd c_93 (by decide)
              · refine ev_iload_n (q := 97) dX7_letters_96 rfl rfl ?_
                refine ev_if_lt (q := 100) 114 dX7_letters_97 (by decide) rfl (fun c_97 => ?_) (fun c_97 => ?_)
                · exact absurd c_97 (nI_pos (by omega))
                · refine ev_aload_n (q := 101) dX7_letters_100 rfl rfl ?_
                  refine ev_iload (q := 103) dX7_letters_101 rfl rfl ?_
                  refine ev_callV1i (q := 106) dX7_letters_103 ca_X7_207 (s_X7_words hn hm (by omega)) rfl (lt_n hn (by decide)) rfl rfl (Nat.le_of_ble_eq_true rfl) (Nat.le_of_ble_eq_true rfl) (by decide) (by decide) rfl ?_
                  refine ev_aload_n (q := 107) dX7_letters_106 rfl rfl ?_
                  refine ev_iload_n (q := 108) dX7_letters_107 rfl rfl ?_
                  refine ev_callV1i (q := 111) dX7_letters_108 ca_X7_207 (s_X7_words (num := u) hn hm (by omega)) rfl (lt_n hn (by decide)) rfl rfl (Nat.le_of_ble_eq_true rfl) (Nat.le_of_ble_eq_true rfl) (by decide) (by decide) rfl ?_
                  refine ev_icmp_ge (q := 114) 119 dX7_letters_111 (by decide) rfl (fun c_111 => ?_) (fun c_111 => ?_)
                  · have c_111 : ¬ wd t k < wd t u := Nat.not_lt.mpr ((nI_leI (by omega) (by omega)).mp c_111)
                    simp only [c_111, if_false] at e
                    refine ev_iload_n (q := 120) dX7_letters_119 rfl rfl ?_
                    refine ev_ist_3 (q := 121) dX7_letters_120 rfl rfl ?_
                    refine ev_iload_n (q := 122) dX7_letters_121 rfl rfl ?_
                    refine ev_iload (q := 124) dX7_letters_122 rfl rfl ?_
                    refine ev_if_eq (q := 127) 131 dX7_letters_124 (by decide) rfl (fun c_124 => ?_) (fun c_124 => ?_)
                    · exact absurd c_124 (by decide)
                    · refine ev_iconst (q := 128) (1) dX7_letters_127 (by decide) rfl ?_
                      refine ev_goto 132 dX7_letters_128 (by decide) ?_
                      refine ev_iadd (q := 133) dX7_letters_132 rfl ?_
                      refine ev_ist_2 (q := 134) dX7_letters_133 rfl rfl ?_
                      refine ev_inc_4 (q := 137) (nI (k + 1)) dX7_letters_134 (nI_1 k) rfl rfl ?_
                      refine ev_goto 20 dX7_letters_137 (by decide) ?_
                      exact e _ _ _ _
                  · have c_111 : wd t k < wd t u := Nat.not_le.mp fun h => c_111 ((nI_leI (by omega) (by omega)).mpr h)
                    simp only [c_111, if_true] at e
                    refine ev_iload (q := 116) dX7_letters_114 rfl rfl ?_
                    refine ev_goto 120 dX7_letters_116 (by decide) ?_
                    refine ev_ist_3 (q := 121) dX7_letters_120 rfl rfl ?_
                    refine ev_iload_n (q := 122) dX7_letters_121 rfl rfl ?_
                    refine ev_iload (q := 124) dX7_letters_122 rfl rfl ?_
                    refine ev_if_eq (q := 127) 131 dX7_letters_124 (by decide) rfl (fun c_124 => ?_) (fun c_124 => ?_)
                    · exact absurd c_124 (by decide)
                    · refine ev_iconst (q := 128) (1) dX7_letters_127 (by decide) rfl ?_
                      refine ev_goto 132 dX7_letters_128 (by decide) ?_
                      refine ev_iadd (q := 133) dX7_letters_132 rfl ?_
                      refine ev_ist_2 (q := 134) dX7_letters_133 rfl rfl ?_
                      refine ev_inc_4 (q := 137) (nI (k + 1)) dX7_letters_134 (nI_1 k) rfl rfl ?_
                      refine ev_goto 20 dX7_letters_137 (by decide) ?_
                      exact e _ _ _ _
        refine ev_iload (q := 22) dX7_letters_20 rfl rfl ?_
        refine ev_aload_n (q := 23) dX7_letters_22 rfl rfl ?_
        refine ev_callV0i (q := 26) dX7_letters_23 ca_X7_201 (s_X7_terms hn hm) rfl (lt_n hn (by decide)) rfl rfl (Nat.le_of_ble_eq_true rfl) (Nat.le_of_ble_eq_true rfl) (by decide) (by decide) rfl ?_
        refine ev_icmp_ge (q := 29) 140 dX7_letters_26 (by decide) rfl (fun c_26 => ?_) (fun c_26 => ?_)
        · have c_26 : 3 ^ t ≤ k := (nI_leI (by omega) (by omega)).mp c_26
          refine ev_iload_n (q := 141) dX7_letters_140 rfl rfl ?_
          refine ev_if_ne (q := 144) 148 dX7_letters_141 (by decide) rfl (fun c_141 => ?_) (fun c_141 => ?_)
          · have c_141 : ¬ what = 0 := c_141
            refine ev_iload_n (q := 149) dX7_letters_148 rfl rfl ?_
            exact ev_iretE dX7_letters_149 rfl rfl (by rw [show k = 3 ^ t by omega]; simp only [c_141, if_true, if_false]) rfl rfl (hQ _ _)
          · refine ev_iload_n (q := 145) dX7_letters_144 rfl rfl ?_
            refine ev_goto 149 dX7_letters_145 (by decide) ?_
            exact ev_iretE dX7_letters_149 rfl rfl (by rw [show k = 3 ^ t by omega]; simp only [c_141, if_true, if_false]) rfl rfl (hQ _ _)
        · have c_26 : ¬ 3 ^ t ≤ k := fun h => c_26 ((nI_leI (by omega) (by omega)).mpr h)
          refine ev_iconst (q := 30) (1) dX7_letters_29 (by decide) rfl ?_
          refine ev_ist_5 (q := 32) dX7_letters_30 rfl rfl ?_
          refine ev_iconst (q := 33) (0) dX7_letters_32 (by decide) rfl ?_
          refine ev_ist_6 (q := 35) dX7_letters_33 rfl rfl ?_
          exact inn k (by omega) _ _ (tl c_26) c 0 (by omega) _ _
    refine ev_iload_n (q := 1) dX7_letters_0 rfl rfl ?_
    refine ev_iconst (q := 2) (0) dX7_letters_1 (by decide) rfl ?_
    refine ev_iconst (q := 3) (1) dX7_letters_2 (by decide) rfl ?_
    refine ev_callS3i (q := 6) dX7_letters_3 ca_X7_99 (c_X7_in _ _ _) (Nat.le_of_ble_eq_true rfl) (Nat.le_of_ble_eq_true rfl) (by decide) (by decide) rfl ?_
    refine ev_if_ne (q := 9) 12 dX7_letters_6 (by decide) rfl (fun c_6 => ?_) (fun c_6 => ?_)
    · refine ev_iconst (q := 13) (0) dX7_letters_12 (by decide) rfl ?_
      refine ev_ist_2 (q := 14) dX7_letters_13 rfl rfl ?_
      refine ev_bipush (q := 16) (-6) dX7_letters_14 (by decide) rfl ?_
      refine ev_ist_3 (q := 17) dX7_letters_16 rfl rfl ?_
      refine ev_iconst (q := 18) (0) dX7_letters_17 (by decide) rfl ?_
      refine ev_ist_4 (q := 20) dX7_letters_18 rfl rfl ?_
      exact lp (3 ^ t) 0 (by omega) _ _ _ _
    · exact absurd c_6 (b2i_n0.mpr hin)
theorem s_X7_year (hn : 49 ≤ n) (hm : MI I t sl wy wi he) (seed m what : Int32) : RnS xl xs 5 114 0 0 mX7_year [.ref 33, .int seed, .int m, .int what] n I J X (some (.int (if inb seed 0 9999 && (inb m 1 99 && inb what 0 2) then (if what = 0 then (upto (yrF I J t sl wy wi) m.toNatClampNeg (seed.toNatClampNeg, he, 0, 0)).2.2.1 else if what = 1 then nI (upto (yrF I J t sl wy wi) m.toNatClampNeg (seed.toNatClampNeg, he, 0, 0)).2.1 else (upto (yrF I J t sl wy wi) m.toNatClampNeg (seed.toNatClampNeg, he, 0, 0)).2.2.2) else -2))) n I J X := by
  intro S T Q hQ
  have hm' := hm
  obtain ⟨ht, ht2, h6, hs, hs6, hwy, h3, hwi, h4, hhe, hhl⟩ := hm'
  have h64 := p2_le h6
  have h729 := p3_le h6
  have hpos : 0 < 3 ^ t := Nat.pow_pos (by decide)
  show Ev xl xs 5 114 0 0 mX7_year 0 [some (.ref 33), some (.int seed), some (.int m), some (.int what), none, none, none, none, none, none] [] n (sysH (ov I S) (ovJ J T) X) Q
  cases hin : (inb seed 0 9999 && (inb m 1 99 && inb what 0 2)) with
  | false =>
    rw [hin] at hQ
    refine ev_iload_n (q := 1) dX7_year_0 rfl rfl ?_
    refine ev_iconst (q := 2) (0) dX7_year_1 (by decide) rfl ?_
    refine ev_sipush (q := 5) (9999) dX7_year_2 (by decide) rfl ?_
    refine ev_callS3i (q := 8) dX7_year_5 ca_X7_99 (c_X7_in _ _ _) (Nat.le_of_ble_eq_true rfl) (Nat.le_of_ble_eq_true rfl) (by decide) (by decide) rfl ?_
    refine ev_if_eq (q := 11) 30 dX7_year_8 (by decide) rfl (fun c_8 => ?_) (fun c_8 => ?_)
    · have c_8 := b2i_0.mp c_8
      refine ev_bipush (q := 32) (-2) dX7_year_30 (by decide) rfl ?_
      exact ev_iretE dX7_year_32 rfl rfl rfl rfl rfl (hQ _ _)
    · have c_8 := b2i_n0.mp c_8
      refine ev_iload_n (q := 12) dX7_year_11 rfl rfl ?_
      refine ev_iconst (q := 13) (1) dX7_year_12 (by decide) rfl ?_
      refine ev_bipush (q := 15) (99) dX7_year_13 (by decide) rfl ?_
      refine ev_callS3i (q := 18) dX7_year_15 ca_X7_99 (c_X7_in _ _ _) (Nat.le_of_ble_eq_true rfl) (Nat.le_of_ble_eq_true rfl) (by decide) (by decide) rfl ?_
      refine ev_if_eq (q := 21) 30 dX7_year_18 (by decide) rfl (fun c_18 => ?_) (fun c_18 => ?_)
      · have c_18 := b2i_0.mp c_18
        refine ev_bipush (q := 32) (-2) dX7_year_30 (by decide) rfl ?_
        exact ev_iretE dX7_year_32 rfl rfl rfl rfl rfl (hQ _ _)
      · have c_18 := b2i_n0.mp c_18
        refine ev_iload_n (q := 22) dX7_year_21 rfl rfl ?_
        refine ev_iconst (q := 23) (0) dX7_year_22 (by decide) rfl ?_
        refine ev_iconst (q := 24) (2) dX7_year_23 (by decide) rfl ?_
        refine ev_callS3i (q := 27) dX7_year_24 ca_X7_99 (c_X7_in _ _ _) (Nat.le_of_ble_eq_true rfl) (Nat.le_of_ble_eq_true rfl) (by decide) (by decide) rfl ?_
        refine ev_if_ne (q := 30) 33 dX7_year_27 (by decide) rfl (fun c_27 => ?_) (fun c_27 => ?_)
        · exact absurd (b2i_ne.mp c_27) (by rw [c_8, c_18, Bool.true_and, Bool.true_and] at hin; rw [hin]; decide)
        · refine ev_bipush (q := 32) (-2) dX7_year_30 (by decide) rfl ?_
          exact ev_iretE dX7_year_32 rfl rfl rfl rfl rfl (hQ _ _)
  | true =>
    rw [hin] at hQ
    have hin := Bool.and_eq_true_iff.mp hin
    have hin2 := Bool.and_eq_true_iff.mp hin.2
    obtain ⟨x0, -, hx0, rfl⟩ := inb_lo (lo := 0) (hi := 9999) (by decide) hin.1 (by decide)
    obtain ⟨mm, hm1, hm99, rfl⟩ := inb_lo (lo := 1) (hi := 99) (by decide) hin2.1 (by decide)
    rw [nI_clamp (by omega), nI_clamp (by omega)] at hQ
    have lp : ∀ j k, k + j = mm → ∀ S T a9, Ev xl xs 5 114 0 0 mX7_year 51 [some (.ref 33), some (.int (nI x0)), some (.int (nI mm)), some (.int what), some (.int (nI (upto (yrF I J t sl wy wi) k (x0, he, 0, 0)).1)), some (.int (nI (upto (yrF I J t sl wy wi) k (x0, he, 0, 0)).2.1)), some (.int (upto (yrF I J t sl wy wi) k (x0, he, 0, 0)).2.2.1), some (.int (upto (yrF I J t sl wy wi) k (x0, he, 0, 0)).2.2.2), some (.int (nI k)), a9] [] n (sysH (ov I S) (ovJ J T) X) Q := by
      intro j
      induction j using Nat.strongRecOn with
      | _ j ih =>
        intro k hk S T a9
        obtain ⟨hx1, hx2⟩ := yr_ok (I := I) (J := J) (t := t) (sl := sl) (wy := wy) (wi := wi) (x0, he, 0, 0) (show x0 < 65537 by omega) hhl k
        have e := ih (j - 1)
        have e := fun h1 => e h1 (k + 1)
        simp only [upto] at e
        by_cases hkm : k = mm
        · subst hkm
          refine ev_iload (q := 53) dX7_year_51 rfl rfl ?_
          refine ev_iload_n (q := 54) dX7_year_53 rfl rfl ?_
          refine ev_icmp_ge (q := 57) 148 dX7_year_54 (by decide) rfl (fun c_54 => ?_) (fun c_54 => ?_)
          · refine ev_iload_n (q := 149) dX7_year_148 rfl rfl ?_
            refine ev_if_ne (q := 152) 157 dX7_year_149 (by decide) rfl (fun c_149 => ?_) (fun c_149 => ?_)
            · have c_149 : ¬ what = 0 := c_149
              refine ev_iload_n (q := 158) dX7_year_157 rfl rfl ?_
              refine ev_iconst (q := 159) (1) dX7_year_158 (by decide) rfl ?_
              refine ev_icmp_ne (q := 162) 167 dX7_year_159 (by decide) rfl (fun c_159 => ?_) (fun c_159 => ?_)
              · have c_159 : ¬ what = 1 := c_159
                refine ev_iload (q := 169) dX7_year_167 rfl rfl ?_
                exact ev_iretE dX7_year_169 rfl rfl (by first | (simp only [c_149, if_true]; done) | (rw [if_pos rfl, if_neg c_149, if_pos c_159]; done) | (rw [if_pos rfl, if_neg c_149, if_neg c_159]; done)) rfl rfl (hQ _ _)
              · refine ev_iload (q := 164) dX7_year_162 rfl rfl ?_
                refine ev_goto 169 dX7_year_164 (by decide) ?_
                exact ev_iretE dX7_year_169 rfl rfl (by first | (simp only [c_149, if_true]; done) | (rw [if_pos rfl, if_neg c_149, if_pos c_159]; done) | (rw [if_pos rfl, if_neg c_149, if_neg c_159]; done)) rfl rfl (hQ _ _)
            · refine ev_iload (q := 154) dX7_year_152 rfl rfl ?_
              refine ev_goto 169 dX7_year_154 (by decide) ?_
              exact ev_iretE dX7_year_169 rfl rfl (by first | (simp only [c_149, if_true]; done) | (rw [if_pos rfl, if_neg c_149, if_pos c_159]; done) | (rw [if_pos rfl, if_neg c_149, if_neg c_159]; done)) rfl rfl (hQ _ _)
          · exact absurd ((nI_leI (by omega) (by omega)).mpr (Nat.le_refl _)) c_54
        · generalize upto (yrF I J t sl wy wi) k (x0, he, 0, 0) = s at hx1 hx2 e ⊢
          obtain ⟨x, a, em, ha⟩ := s
          dsimp only at hx1 hx2 e ⊢
          have hq1 : nI (75 * x + 74) - nI (75 * x + 74) / 65537 * 65537 = nI ((75 * x + 74) % 65537) := pk_rem (by omega) (d := 65537) (by decide) (by decide)
          have hxl : (75 * x + 74) % 65537 < 65537 := Nat.mod_lt _ (by decide)
          have hq2 : nI ((75 * x + 74) % 65537) - nI ((75 * x + 74) % 65537) / nI (3 ^ t) * nI (3 ^ t) = nI ((75 * x + 74) % 65537 % 3 ^ t) := pk_rem (by omega) hpos (by omega)
          have hml : (75 * x + 74) % 65537 % 3 ^ t < 3 ^ t := Nat.mod_lt _ hpos
          have hne : ¬ nI (3 ^ t) = 0 := nI_ne0 hpos (by omega)
          cases hmk : mtF I J t sl wy wi ((75 * x + 74) % 65537 % 3 ^ t) a with
          | none =>
            simp only [yrF, hmk] at e
            refine ev_iload (q := 53) dX7_year_51 rfl rfl ?_
            refine ev_iload_n (q := 54) dX7_year_53 rfl rfl ?_
            refine ev_icmp_ge (q := 57) 148 dX7_year_54 (by decide) rfl (fun c_54 => ?_) (fun c_54 => ?_)
            · exact absurd ((nI_leI (by omega) (by omega)).mp c_54) (by omega)
            · refine ev_bipush (q := 59) (75) dX7_year_57 (by decide) rfl ?_
              refine ev_iload (q := 61) dX7_year_59 rfl rfl ?_
              refine ev_imul (q := 62) dX7_year_61 rfl ?_
              refine ev_bipush (q := 64) (74) dX7_year_62 (by decide) rfl ?_
              refine ev_iadd (q := 65) dX7_year_64 rfl ?_
              refine ev_ldc (q := 67) co_X7_243 dX7_year_65 rfl ?_
              refine ev_irem (q := 68) (by decide) dX7_year_67 rfl ?_
              rw [show (75 : Int32) = nI 75 from rfl, pk_mul, show (74 : Int32) = nI 74 from rfl, nI_add, hq1]
              refine ev_ist_4 (q := 70) dX7_year_68 rfl rfl ?_
              refine ev_aload_n (q := 71) dX7_year_70 rfl rfl ?_
              refine ev_iload (q := 73) dX7_year_71 rfl rfl ?_
              refine ev_aload_n (q := 74) dX7_year_73 rfl rfl ?_
              refine ev_callV0i (q := 77) dX7_year_74 ca_X7_201 (s_X7_terms hn hm) rfl (lt_n hn (by decide)) rfl rfl (Nat.le_of_ble_eq_true rfl) (Nat.le_of_ble_eq_true rfl) (by decide) (by decide) rfl ?_
              refine ev_irem (q := 78) hne dX7_year_77 rfl ?_
              rw [hq2]
              refine ev_iload (q := 80) dX7_year_78 rfl rfl ?_
              refine ev_callV2iS (q := 83) dX7_year_80 ca_X7_204 (s_X7_madeOfTerm hn hm (by omega) (by omega)) rfl (lt_n hn (by decide)) rfl rfl (Nat.le_of_ble_eq_true rfl) (Nat.le_of_ble_eq_true rfl) (by decide) (by decide) rfl (fun S T => ?_)
              rw [hmk]
              refine ev_ist_9 (q := 85) dX7_year_83 rfl rfl ?_
              refine ev_iload (q := 87) dX7_year_85 rfl rfl ?_
              refine ev_iload (q := 89) dX7_year_87 rfl rfl ?_
              refine ev_if_ge (q := 92) 96 dX7_year_89 (by decide) rfl (fun c_89 => ?_) (fun c_89 => ?_)
              · exact absurd c_89 (by decide)
              · refine ev_iconst (q := 93) (1) dX7_year_92 (by decide) rfl ?_
                refine ev_goto 97 dX7_year_93 (by decide) ?_
                refine ev_iadd (q := 98) dX7_year_97 rfl ?_
                refine ev_ist_6 (q := 100) dX7_year_98 rfl rfl ?_
                refine ev_iload (q := 102) dX7_year_100 rfl rfl ?_
                refine ev_if_lt (q := 105) 142 dX7_year_102 (by decide) rfl (fun c_102 => ?_) (fun c_102 => ?_)
                · refine ev_inc_8 (q := 145) (nI (k + 1)) dX7_year_142 (nI_1 k) rfl rfl ?_
                  refine ev_goto 51 dX7_year_145 (by decide) ?_
                  exact e (by omega) (by omega) _ _ _
                · exact absurd neg6 c_102
          | some w =>
            have hwl := mtF_lt hmk
            simp only [yrF, hmk] at e
            refine ev_iload (q := 53) dX7_year_51 rfl rfl ?_
            refine ev_iload_n (q := 54) dX7_year_53 rfl rfl ?_
            refine ev_icmp_ge (q := 57) 148 dX7_year_54 (by decide) rfl (fun c_54 => ?_) (fun c_54 => ?_)
            · exact absurd ((nI_leI (by omega) (by omega)).mp c_54) (by omega)
            · refine ev_bipush (q := 59) (75) dX7_year_57 (by decide) rfl ?_
              refine ev_iload (q := 61) dX7_year_59 rfl rfl ?_
              refine ev_imul (q := 62) dX7_year_61 rfl ?_
              refine ev_bipush (q := 64) (74) dX7_year_62 (by decide) rfl ?_
              refine ev_iadd (q := 65) dX7_year_64 rfl ?_
              refine ev_ldc (q := 67) co_X7_243 dX7_year_65 rfl ?_
              refine ev_irem (q := 68) (by decide) dX7_year_67 rfl ?_
              rw [show (75 : Int32) = nI 75 from rfl, pk_mul, show (74 : Int32) = nI 74 from rfl, nI_add, hq1]
              refine ev_ist_4 (q := 70) dX7_year_68 rfl rfl ?_
              refine ev_aload_n (q := 71) dX7_year_70 rfl rfl ?_
              refine ev_iload (q := 73) dX7_year_71 rfl rfl ?_
              refine ev_aload_n (q := 74) dX7_year_73 rfl rfl ?_
              refine ev_callV0i (q := 77) dX7_year_74 ca_X7_201 (s_X7_terms hn hm) rfl (lt_n hn (by decide)) rfl rfl (Nat.le_of_ble_eq_true rfl) (Nat.le_of_ble_eq_true rfl) (by decide) (by decide) rfl ?_
              refine ev_irem (q := 78) hne dX7_year_77 rfl ?_
              rw [hq2]
              refine ev_iload (q := 80) dX7_year_78 rfl rfl ?_
              refine ev_callV2iS (q := 83) dX7_year_80 ca_X7_204 (s_X7_madeOfTerm hn hm (by omega) (by omega)) rfl (lt_n hn (by decide)) rfl rfl (Nat.le_of_ble_eq_true rfl) (Nat.le_of_ble_eq_true rfl) (by decide) (by decide) rfl (fun S T => ?_)
              rw [hmk]
              refine ev_ist_9 (q := 85) dX7_year_83 rfl rfl ?_
              refine ev_iload (q := 87) dX7_year_85 rfl rfl ?_
              refine ev_iload (q := 89) dX7_year_87 rfl rfl ?_
              refine ev_if_ge (q := 92) 96 dX7_year_89 (by decide) rfl (fun c_89 => ?_) (fun c_89 => ?_)
              · refine ev_iconst (q := 97) (0) dX7_year_96 (by decide) rfl ?_
                refine ev_iadd (q := 98) dX7_year_97 rfl ?_
                refine ev_ist_6 (q := 100) dX7_year_98 rfl rfl ?_
                refine ev_iload (q := 102) dX7_year_100 rfl rfl ?_
                refine ev_if_lt (q := 105) 142 dX7_year_102 (by decide) rfl (fun c_102 => ?_) (fun c_102 => ?_)
                · exact absurd c_102 (nI_pos (by omega))
                · refine ev_iload (q := 107) dX7_year_105 rfl rfl ?_
                  refine ev_aload_n (q := 108) dX7_year_107 rfl rfl ?_
                  refine ev_aload_n (q := 109) dX7_year_108 rfl rfl ?_
                  refine ev_get (q := 112) dX7_year_109 fr_X7_67 rfl (lt_n hn (by decide)) rfl rfl ?_
                  rw [show ov I S 33 5 = nI wi from hwi]
                  refine ev_iload (q := 114) dX7_year_112 rfl rfl ?_
                  refine ev_callV2i (q := 117) dX7_year_114 ca_X7_117 (s_X7_worthTo (w := w) hn hm (by omega) (by omega)) rfl (lt_n hn (by decide)) rfl rfl (Nat.le_of_ble_eq_true rfl) (Nat.le_of_ble_eq_true rfl) (by decide) (by decide) rfl ?_
                  refine ev_aload_n (q := 118) dX7_year_117 rfl rfl ?_
                  refine ev_aload_n (q := 119) dX7_year_118 rfl rfl ?_
                  refine ev_get (q := 122) dX7_year_119 fr_X7_67 rfl (lt_n hn (by decide)) rfl rfl ?_
                  rw [show ov I S 33 5 = nI wi from hwi]
                  refine ev_iload (q := 124) dX7_year_122 rfl rfl ?_
                  refine ev_callV2i (q := 127) dX7_year_124 ca_X7_117 (s_X7_worthTo hn hm (by omega) (by omega)) rfl (lt_n hn (by decide)) rfl rfl (Nat.le_of_ble_eq_true rfl) (Nat.le_of_ble_eq_true rfl) (by decide) (by decide) rfl ?_
                  refine ev_icmp_ge (q := 130) 134 dX7_year_127 (by decide) rfl (fun c_127 => ?_) (fun c_127 => ?_)
                  · have c_127 : ¬ wtF I t wi w < wtF I t wi a := fun h => absurd c_127 (by simp only [i_le, i_lt] at *; omega)
                    simp only [c_127, if_false] at e
                    refine ev_iconst (q := 135) (0) dX7_year_134 (by decide) rfl ?_
                    refine ev_iadd (q := 136) dX7_year_135 rfl ?_
                    refine ev_ist_7 (q := 138) dX7_year_136 rfl rfl ?_
                    refine ev_iload (q := 140) dX7_year_138 rfl rfl ?_
                    refine ev_ist_5 (q := 142) dX7_year_140 rfl rfl ?_
                    refine ev_inc_8 (q := 145) (nI (k + 1)) dX7_year_142 (nI_1 k) rfl rfl ?_
                    refine ev_goto 51 dX7_year_145 (by decide) ?_
                    rw [show em + 0 = em by simp]
                    exact e (by omega) (by omega) _ _ _
                  · have c_127 : wtF I t wi w < wtF I t wi a := by simp only [i_le, i_lt] at *; omega
                    simp only [c_127, if_true] at e
                    refine ev_iconst (q := 131) (1) dX7_year_130 (by decide) rfl ?_
                    refine ev_goto 135 dX7_year_131 (by decide) ?_
                    refine ev_iadd (q := 136) dX7_year_135 rfl ?_
                    refine ev_ist_7 (q := 138) dX7_year_136 rfl rfl ?_
                    refine ev_iload (q := 140) dX7_year_138 rfl rfl ?_
                    refine ev_ist_5 (q := 142) dX7_year_140 rfl rfl ?_
                    refine ev_inc_8 (q := 145) (nI (k + 1)) dX7_year_142 (nI_1 k) rfl rfl ?_
                    refine ev_goto 51 dX7_year_145 (by decide) ?_
                    rw [show em + 0 = em by simp]
                    exact e (by omega) (by omega) _ _ _
              · exact absurd (nI_pos' (by omega)) c_89
    refine ev_iload_n (q := 1) dX7_year_0 rfl rfl ?_
    refine ev_iconst (q := 2) (0) dX7_year_1 (by decide) rfl ?_
    refine ev_sipush (q := 5) (9999) dX7_year_2 (by decide) rfl ?_
    refine ev_callS3i (q := 8) dX7_year_5 ca_X7_99 (c_X7_in _ _ _) (Nat.le_of_ble_eq_true rfl) (Nat.le_of_ble_eq_true rfl) (by decide) (by decide) rfl ?_
    refine ev_if_eq (q := 11) 30 dX7_year_8 (by decide) rfl (fun c_8 => ?_) (fun c_8 => ?_)
    · exact absurd c_8 (b2i_n0.mpr hin.1)
    · refine ev_iload_n (q := 12) dX7_year_11 rfl rfl ?_
      refine ev_iconst (q := 13) (1) dX7_year_12 (by decide) rfl ?_
      refine ev_bipush (q := 15) (99) dX7_year_13 (by decide) rfl ?_
      refine ev_callS3i (q := 18) dX7_year_15 ca_X7_99 (c_X7_in _ _ _) (Nat.le_of_ble_eq_true rfl) (Nat.le_of_ble_eq_true rfl) (by decide) (by decide) rfl ?_
      refine ev_if_eq (q := 21) 30 dX7_year_18 (by decide) rfl (fun c_18 => ?_) (fun c_18 => ?_)
      · exact absurd c_18 (b2i_n0.mpr hin2.1)
      · refine ev_iload_n (q := 22) dX7_year_21 rfl rfl ?_
        refine ev_iconst (q := 23) (0) dX7_year_22 (by decide) rfl ?_
        refine ev_iconst (q := 24) (2) dX7_year_23 (by decide) rfl ?_
        refine ev_callS3i (q := 27) dX7_year_24 ca_X7_99 (c_X7_in _ _ _) (Nat.le_of_ble_eq_true rfl) (Nat.le_of_ble_eq_true rfl) (by decide) (by decide) rfl ?_
        refine ev_if_ne (q := 30) 33 dX7_year_27 (by decide) rfl (fun c_27 => ?_) (fun c_27 => ?_)
        · refine ev_iload_n (q := 34) dX7_year_33 rfl rfl ?_
          refine ev_ist_4 (q := 36) dX7_year_34 rfl rfl ?_
          refine ev_aload_n (q := 37) dX7_year_36 rfl rfl ?_
          refine ev_get (q := 40) dX7_year_37 fr_X7_73 rfl (lt_n hn (by decide)) rfl rfl ?_
          rw [show ov I S 33 7 = nI he from hhe]
          refine ev_ist_5 (q := 42) dX7_year_40 rfl rfl ?_
          refine ev_iconst (q := 43) (0) dX7_year_42 (by decide) rfl ?_
          refine ev_ist_6 (q := 45) dX7_year_43 rfl rfl ?_
          refine ev_iconst (q := 46) (0) dX7_year_45 (by decide) rfl ?_
          refine ev_ist_7 (q := 48) dX7_year_46 rfl rfl ?_
          refine ev_iconst (q := 49) (0) dX7_year_48 (by decide) rfl ?_
          refine ev_ist_8 (q := 51) dX7_year_49 rfl rfl ?_
          exact lp mm 0 (by omega) _ _ _
        · exact absurd c_27 (b2i_n0.mpr hin2.2)
end MODEL12
