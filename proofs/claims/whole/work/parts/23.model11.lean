theorem woF_at {J : Nat → Nat → Int64} {t sl a num : Nat} {f : Nat → Int32} : ∀ N, (upto (fun w x => if ktT J t sl num a w && decide (f w < x) then f w else x) N 1000000) = 1000000 ∨ ∃ w, w < N ∧ ktT J t sl num a w = true ∧ f w = upto (fun w x => if ktT J t sl num a w && decide (f w < x) then f w else x) N 1000000
  | 0 => Or.inl rfl
  | N + 1 => by
    have ih := woF_at (J := J) (t := t) (sl := sl) (a := a) (num := num) (f := f) N
    show (if ktT J t sl num a N && decide (f N < upto (fun w x => if ktT J t sl num a w && decide (f w < x) then f w else x) N 1000000) then f N else upto (fun w x => if ktT J t sl num a w && decide (f w < x) then f w else x) N 1000000) = 1000000 ∨ ∃ w, w < N + 1 ∧ ktT J t sl num a w = true ∧ f w = (if ktT J t sl num a N && decide (f N < upto (fun w x => if ktT J t sl num a w && decide (f w < x) then f w else x) N 1000000) then f N else upto (fun w x => if ktT J t sl num a w && decide (f w < x) then f w else x) N 1000000)
    split
    · rename_i hc
      exact Or.inr ⟨N, by omega, (Bool.and_eq_true_iff.mp hc).1, rfl⟩
    · rcases ih with h | ⟨w, h1, h2, h3⟩
      · exact Or.inl h
      · exact Or.inr ⟨w, by omega, h2, h3⟩
theorem pickB_own {better : Nat → Int32 → Nat → Int32 → Bool} {own : Nat → Option Int32} : ∀ k v b, upto (pickB better own) k none = some (v, b) → own v = some b
  | 0, v, b, h => by cases h
  | k + 1, v, b, h => by
    have ih := pickB_own (better := better) (own := own) k
    have h : pickB better own k (upto (pickB better own) k none) = some (v, b) := h
    generalize upto (pickB better own) k none = o at h ih
    unfold pickB at h
    split at h
    · exact ih v b h
    · rename_i o' ho'
      cases o with
      | none => cases h; exact ho'
      | some u =>
        obtain ⟨u, c⟩ := u
        dsimp only at h
        split at h
        · cases h; exact ho'
        · cases h; exact ih _ _ rfl
theorem bsP_own {J : Nat → Nat → Int64} {t sl a u : Nat} {most b : Int32} {f : Nat → Int32} (h : bsP J t sl most f a = some (u, b)) : u < 3 ^ t ∧ ∃ w, w < 2 ^ t ∧ ktT J t sl u a w = true ∧ f w = b := by
  refine ⟨pickB_lt _ _ _ h, ?_⟩
  have ho := pickB_own _ _ _ h
  unfold ownB at ho
  split at ho
  · split at ho
    · rename_i hlt
      cases ho
      rcases woF_at (J := J) (t := t) (sl := sl) (a := a) (num := u) (f := f) (2 ^ t) with e | e
      · exact absurd hlt (by unfold woF; rw [e]; decide)
      · exact e
    · cases ho
  · cases ho
/-- the first world that keeps the term and is worth so much -/
def fiF (J : Nat → Nat → Int64) (t sl a u : Nat) (b : Int32) (f : Nat → Int32) : Nat → Option Nat → Option Nat := fun w o => match o with
  | none => if ktT J t sl u a w && decide (f w = b) then some w else none
  | some v => some v
theorem fiF_lt {J : Nat → Nat → Int64} {t sl a u : Nat} {b : Int32} {f : Nat → Int32} : ∀ N v, upto (fiF J t sl a u b f) N none = some v → v < N
  | 0, v, h => by cases h
  | N + 1, v, h => by
    have ih := fiF_lt (J := J) (t := t) (sl := sl) (a := a) (u := u) (b := b) (f := f) N
    have h : fiF J t sl a u b f N (upto (fiF J t sl a u b f) N none) = some v := h
    generalize upto (fiF J t sl a u b f) N none = o at h ih
    cases o with
    | none =>
      unfold fiF at h
      dsimp only at h
      split at h
      · cases h; omega
      · cases h
    | some w =>
      cases h
      have := ih _ rfl
      omega
theorem fiF_some {J : Nat → Nat → Int64} {t sl a u : Nat} {b : Int32} {f : Nat → Int32} : ∀ N w, w < N → ktT J t sl u a w = true → f w = b → upto (fiF J t sl a u b f) N none ≠ none
  | 0, w, h, _, _ => absurd h (by omega)
  | N + 1, w, h, h1, h2 => by
    have ih := fiF_some (J := J) (t := t) (sl := sl) (a := a) (u := u) (b := b) (f := f) N w
    show fiF J t sl a u b f N (upto (fiF J t sl a u b f) N none) ≠ none
    cases ho : upto (fiF J t sl a u b f) N none with
    | some v => simp [fiF]
    | none =>
      have : w = N := by
        by_cases hw : w < N
        · exact absurd ho (ih hw h1 h2)
        · omega
      subst this
      simp [fiF, h1, h2]
theorem fiF_congr {J : Nat → Nat → Int64} {t sl a u : Nat} {b : Int32} {f g : Nat → Int32} {N : Nat} (h : ∀ w, w < N → f w = g w) : upto (fiF J t sl a u b f) N none = upto (fiF J t sl a u b g) N none := upto_congr (fun w hw x => by simp only [fiF, h w hw])
/-- where the other's wish ends -/
def toF (J : Nat → Nat → Int64) (t sl : Nat) (most : Int32) (f : Nat → Int32) (a : Nat) : Nat := match bsP J t sl most f a with
  | none => a
  | some p => (upto (fiF J t sl a p.1 p.2 f) (2 ^ t) none).getD 0
section MODEL11
variable {xl : Nat} {xs : Nat → Int32} {n : Nat} {h : Nat → PC} {I S : Nat → Nat → Int32} {J T : Nat → Nat → Int64} {X : Nat → Option Nat} {t sl wy wi he : Nat}
theorem s_X7_lamps (hn : 49 ≤ n) (hm : MI I t sl wy wi he) (c most what : Int32) : RnS xl xs 3 73 0 0 mX7_lamps [.ref 33, .int c, .int most, .int what] n I J X (some (.int (if inb c 0 3 && decide (c ≠ nI wi) then (if inb most 0 6 && inb what 0 1 then lastA J t sl most what (fun w => wtF I t wi (toF J t sl most (wtF I t c.toNatClampNeg) w)) he else -2) else -1))) n I J X := by
  intro S T Q hQ
  have hm' := hm
  obtain ⟨ht, ht2, h6, hs, hs6, hwy, h3, hwi, h4, hhe, hhl⟩ := hm'
  have h64 := p2_le h6
  have h729 := p3_le h6
  show Ev xl xs 3 73 0 0 mX7_lamps 0 [some (.ref 33), some (.int c), some (.int most), some (.int what), none, none, none, none] [] n (sysH (ov I S) (ovJ J T) X) Q
  cases hin0 : (inb c 0 3 && decide (c ≠ nI wi)) with
  | false =>
    rw [hin0] at hQ
    refine ev_iload_n (q := 1) dX7_lamps_0 rfl rfl ?_
    refine ev_callS1i (q := 4) dX7_lamps_1 ca_X7_103 (c_X7_isCousin _) (Nat.le_of_ble_eq_true rfl) (Nat.le_of_ble_eq_true rfl) (by decide) (by decide) rfl ?_
    refine ev_if_eq (q := 7) 15 dX7_lamps_4 (by decide) rfl (fun c_4 => ?_) (fun c_4 => ?_)
    · have c_4 := b2i_0.mp c_4
      refine ev_iconst (q := 16) (-1) dX7_lamps_15 (by decide) rfl ?_
      exact ev_iretE dX7_lamps_16 rfl rfl rfl rfl rfl (hQ _ _)
    · have c_4 := b2i_n0.mp c_4
      refine ev_iload_n (q := 8) dX7_lamps_7 rfl rfl ?_
      refine ev_aload_n (q := 9) dX7_lamps_8 rfl rfl ?_
      refine ev_get (q := 12) dX7_lamps_9 fr_X7_67 rfl (lt_n hn (by decide)) rfl rfl ?_
      rw [show ov I S 33 5 = nI wi from hwi]
      refine ev_icmp_ne (q := 15) 17 dX7_lamps_12 (by decide) rfl (fun c_12 => ?_) (fun c_12 => ?_)
      · exact absurd hin0 (by rw [c_4, Bool.true_and]; simp [show ¬ c = nI wi from c_12])
      · refine ev_iconst (q := 16) (-1) dX7_lamps_15 (by decide) rfl ?_
        exact ev_iretE dX7_lamps_16 rfl rfl rfl rfl rfl (hQ _ _)
  | true =>
    rw [hin0] at hQ
    have hin0 := Bool.and_eq_true_iff.mp hin0
    have hcw : c ≠ nI wi := of_decide_eq_true hin0.2
    cases hin : (inb most 0 6 && inb what 0 1) with
    | false =>
      rw [hin] at hQ
      refine ev_iload_n (q := 1) dX7_lamps_0 rfl rfl ?_
      refine ev_callS1i (q := 4) dX7_lamps_1 ca_X7_103 (c_X7_isCousin _) (Nat.le_of_ble_eq_true rfl) (Nat.le_of_ble_eq_true rfl) (by decide) (by decide) rfl ?_
      refine ev_if_eq (q := 7) 15 dX7_lamps_4 (by decide) rfl (fun c_4 => ?_) (fun c_4 => ?_)
      · exact absurd c_4 (b2i_n0.mpr hin0.1)
      · refine ev_iload_n (q := 8) dX7_lamps_7 rfl rfl ?_
        refine ev_aload_n (q := 9) dX7_lamps_8 rfl rfl ?_
        refine ev_get (q := 12) dX7_lamps_9 fr_X7_67 rfl (lt_n hn (by decide)) rfl rfl ?_
        rw [show ov I S 33 5 = nI wi from hwi]
        refine ev_icmp_ne (q := 15) 17 dX7_lamps_12 (by decide) rfl (fun c_12 => ?_) (fun c_12 => ?_)
        · refine ev_iload_n (q := 18) dX7_lamps_17 rfl rfl ?_
          refine ev_iconst (q := 19) (0) dX7_lamps_18 (by decide) rfl ?_
          refine ev_bipush (q := 21) (6) dX7_lamps_19 (by decide) rfl ?_
          refine ev_callS3i (q := 24) dX7_lamps_21 ca_X7_99 (c_X7_in _ _ _) (Nat.le_of_ble_eq_true rfl) (Nat.le_of_ble_eq_true rfl) (by decide) (by decide) rfl ?_
          refine ev_if_eq (q := 27) 36 dX7_lamps_24 (by decide) rfl (fun c_24 => ?_) (fun c_24 => ?_)
          · have c_24 := b2i_0.mp c_24
            refine ev_bipush (q := 38) (-2) dX7_lamps_36 (by decide) rfl ?_
            exact ev_iretE dX7_lamps_38 rfl rfl rfl rfl rfl (hQ _ _)
          · have c_24 := b2i_n0.mp c_24
            refine ev_iload_n (q := 28) dX7_lamps_27 rfl rfl ?_
            refine ev_iconst (q := 29) (0) dX7_lamps_28 (by decide) rfl ?_
            refine ev_iconst (q := 30) (1) dX7_lamps_29 (by decide) rfl ?_
            refine ev_callS3i (q := 33) dX7_lamps_30 ca_X7_99 (c_X7_in _ _ _) (Nat.le_of_ble_eq_true rfl) (Nat.le_of_ble_eq_true rfl) (by decide) (by decide) rfl ?_
            refine ev_if_ne (q := 36) 39 dX7_lamps_33 (by decide) rfl (fun c_33 => ?_) (fun c_33 => ?_)
            · exact absurd (b2i_ne.mp c_33) (by rw [c_24, Bool.true_and] at hin; rw [hin]; decide)
            · refine ev_bipush (q := 38) (-2) dX7_lamps_36 (by decide) rfl ?_
              exact ev_iretE dX7_lamps_38 rfl rfl rfl rfl rfl (hQ _ _)
        · exact absurd c_12 hcw
    | true =>
      rw [hin] at hQ
      have hin := Bool.and_eq_true_iff.mp hin
      obtain ⟨C, -, hC3, rfl⟩ := inb_lo (lo := 0) (hi := 3) (by decide) hin0.1 (by decide)
      rw [nI_clamp (by omega)] at hQ
      have endL : ∀ S T a4 a5 a6 a7, (∀ w, w < 2 ^ t → S 45 w = wtF I t wi (toF J t sl most (wtF I t C) w)) → Ev xl xs 3 73 0 0 mX7_lamps 198 [some (.ref 33), some (.int (nI C)), some (.int most), some (.int what), a4, a5, a6, a7] [] n (sysH (ov I S) (ovJ J T) X) Q := by
        intro S T a4 a5 a6 a7 h45
        have e1 := bsV_congr (J := J) (t := t) (sl := sl) (a := he) (most := most) h45 hhl
        have e2 := bsP_congr (J := J) (t := t) (sl := sl) (a := he) (most := most) h45
        refine ev_aload_n (q := 199) dX7_lamps_198 rfl rfl ?_
        refine ev_aload_n (q := 200) dX7_lamps_199 rfl rfl ?_
        refine ev_get (q := 203) dX7_lamps_200 fr_X7_73 rfl (lt_n hn (by decide)) rfl rfl ?_
        rw [show ov I S 33 7 = nI he from hhe]
        refine ev_iload_n (q := 204) dX7_lamps_203 rfl rfl ?_
        refine ev_callV2iP (q := 207) dX7_lamps_204 ca_X7_217 (s_X7_bestFrom hn hm (by omega)) rfl (lt_n hn (by decide)) rfl rfl (Nat.le_of_ble_eq_true rfl) (Nat.le_of_ble_eq_true rfl) (by decide) (by decide) rfl (fun S T hp_204 => ?_)
        refine ev_ist_4 (q := 209) dX7_lamps_207 rfl rfl ?_
        obtain ⟨-, -, -, hb⟩ := hp_204
        refine ev_iload_n (q := 210) dX7_lamps_209 rfl rfl ?_
        refine ev_if_ne (q := 213) 222 dX7_lamps_210 (by decide) rfl (fun c_210 => ?_) (fun c_210 => ?_)
        · have c_210 : ¬ what = 0 := c_210
          refine ev_aload_n (q := 223) dX7_lamps_222 rfl rfl ?_
          refine ev_get (q := 226) dX7_lamps_223 fr_X7_210 rfl (lt_n hn (by decide)) rfl rfl ?_
          exact ev_iretE dX7_lamps_226 rfl rfl (by first | (simp only [lastA, c_210, if_true, if_false, e1]; done) | (simp only [lastA, c_210, if_true, if_false, ← e2]; exact hb)) rfl rfl (hQ _ _)
        · refine ev_iload (q := 215) dX7_lamps_213 rfl rfl ?_
          refine ev_sipush (q := 218) (1000) dX7_lamps_215 (by decide) rfl ?_
          refine ev_iadd (q := 219) dX7_lamps_218 rfl ?_
          refine ev_goto 226 dX7_lamps_219 (by decide) ?_
          exact ev_iretE dX7_lamps_226 rfl rfl (by first | (simp only [lastA, c_210, if_true, if_false, e1]; done) | (simp only [lastA, c_210, if_true, if_false, ← e2]; exact hb)) rfl rfl (hQ _ _)
      have in2 : ∀ j k, k + j = 2 ^ t → ∀ S T a5 a6 a7, (∀ w, w < 2 ^ t → S 44 w = wtF I t wi (toF J t sl most (wtF I t C) w)) → (∀ w, w < k → S 45 w = wtF I t wi (toF J t sl most (wtF I t C) w)) → Ev xl xs 3 73 0 0 mX7_lamps 169 [some (.ref 33), some (.int (nI C)), some (.int most), some (.int what), some (.int (nI k)), a5, a6, a7] [] n (sysH (ov I S) (ovJ J T) X) Q := by
        intro j
        induction j using Nat.strongRecOn with
        | _ j ih =>
          intro k hk S T a5 a6 a7 e44 e45
          refine ev_iload (q := 171) dX7_lamps_169 rfl rfl ?_
          refine ev_aload_n (q := 172) dX7_lamps_171 rfl rfl ?_
          refine ev_callV0i (q := 175) dX7_lamps_172 ca_X7_95 (s_X7_worlds hn hm) rfl (lt_n hn (by decide)) rfl rfl (Nat.le_of_ble_eq_true rfl) (Nat.le_of_ble_eq_true rfl) (by decide) (by decide) rfl ?_
          refine ev_icmp_ge (q := 178) 198 dX7_lamps_175 (by decide) rfl (fun c_175 => ?_) (fun c_175 => ?_)
          · have c_175 : 2 ^ t ≤ k := (nI_leI (by omega) (by omega)).mp c_175
            exact endL S T _ _ _ _ (fun w hw => e45 w (by omega))
          · have c_175 : ¬ 2 ^ t ≤ k := fun h => c_175 ((nI_leI (by omega) (by omega)).mpr h)
            refine ev_aload_n (q := 179) dX7_lamps_178 rfl rfl ?_
            refine ev_get (q := 182) dX7_lamps_179 fr_X7_49 rfl (lt_n hn (by decide)) rfl rfl ?_
            refine ev_iload (q := 184) dX7_lamps_182 rfl rfl ?_
            refine ev_aload_n (q := 185) dX7_lamps_184 rfl rfl ?_
            refine ev_get (q := 188) dX7_lamps_185 fr_X7_46 rfl (lt_n hn (by decide)) rfl rfl ?_
            refine ev_iload (q := 190) dX7_lamps_188 rfl rfl ?_
            refine ev_iaS (q := 191) _ dX7_lamps_190 rfl rfl (by omega) (lt_n hn (by decide)) rfl ?_
            first | refine ev_isK (q := 192) _ dX7_lamps_191 rfl rfl (by omega) (lt_n hn (by decide)) rfl rfl ?_ | refine ev_isR (q := 192) _ dX7_lamps_191 rfl rfl (by omega) (lt_n hn (by decide)) rfl rfl ?_
            refine ev_inc_4 (q := 195) (nI (k + 1)) dX7_lamps_192 (nI_1 k) rfl rfl ?_
            refine ev_goto 169 dX7_lamps_195 (by decide) ?_
            exact ih (j - 1) (by omega) (k + 1) (by omega) _ _ _ _ _ (by exact e44) (by intro w hw; by_cases hwk : w = k; (subst hwk; exact (pk_us).trans (e44 w (by omega))); exact (pk_un hwk).trans (e45 w (by omega)))
      have in0 : ∀ (k u : Nat) (b : Int32) (S' : Nat → Nat → Int32) (T' : Nat → Nat → Int64), k < 2 ^ t → u < 3 ^ t → (∀ w, w < 2 ^ t → S' 45 w = wtF I t C w) → S' 33 21 = nI (tmask 1 t u t) → S' 33 22 = nI (tmask 2 t u t) → (∀ a7, Ev xl xs 3 73 0 0 mX7_lamps 143 [some (.ref 33), some (.int (nI C)), some (.int most), some (.int what), some (.int (nI k)), some (.int b), some (.int (eo (upto (fiF J t sl k u b (wtF I t C)) (2 ^ t) none))), a7] [] n (sysH (ov I S') (ovJ J T') X) Q) → ∀ j w, w + j = 2 ^ t → Ev xl xs 3 73 0 0 mX7_lamps 91 [some (.ref 33), some (.int (nI C)), some (.int most), some (.int what), some (.int (nI k)), some (.int b), some (.int (eo (upto (fiF J t sl k u b (wtF I t C)) w none))), some (.int (nI w))] [] n (sysH (ov I S') (ovJ J T') X) Q := by
        intro k u b S' T' hk hu e45 e21 e22 hout j
        have hy6 := tmask_lt 1 t u h6 t (by omega)
        have hz6 := tmask_lt 2 t u h6 t (by omega)
        induction j using Nat.strongRecOn with
        | _ j ih =>
          intro w hw
          have hlt := fiF_lt (J := J) (t := t) (sl := sl) (a := k) (u := u) (b := b) (f := wtF I t C) w
          cases ho : upto (fiF J t sl k u b (wtF I t C)) w none with
          | none =>
            refine ev_iload (q := 93) dX7_lamps_91 rfl rfl ?_
            refine ev_aload_n (q := 94) dX7_lamps_93 rfl rfl ?_
            refine ev_callV0i (q := 97) dX7_lamps_94 ca_X7_95 (s_X7_worlds hn hm) rfl (lt_n hn (by decide)) rfl rfl (Nat.le_of_ble_eq_true rfl) (Nat.le_of_ble_eq_true rfl) (by decide) (by decide) rfl ?_
            refine ev_icmp_ge (q := 100) 143 dX7_lamps_97 (by decide) rfl (fun c_97 => ?_) (fun c_97 => ?_)
            · have c_97 : 2 ^ t ≤ w := (nI_leI (by omega) (by omega)).mp c_97
              have hk2 : w = 2 ^ t := by omega
              subst hk2
              have e := hout (some (.int (nI (2 ^ t))))
              rw [ho] at e
              exact e
            · have c_97 : ¬ 2 ^ t ≤ w := fun h => c_97 ((nI_leI (by omega) (by omega)).mpr h)
              refine ev_iload (q := 102) dX7_lamps_100 rfl rfl ?_
              refine ev_if_ge (q := 105) 133 dX7_lamps_102 (by decide) rfl (fun c_102 => ?_) (fun c_102 => ?_)
              · exact absurd c_102 (by decide)
              · refine ev_aload_n (q := 106) dX7_lamps_105 rfl rfl ?_
                refine ev_iload (q := 108) dX7_lamps_106 rfl rfl ?_
                refine ev_iload (q := 110) dX7_lamps_108 rfl rfl ?_
                refine ev_callV2i (q := 113) dX7_lamps_110 ca_X7_194 (c_X7_keepsTerm (I := ov I S') (y := tmask 1 t u t) (z := tmask 2 t u t) (sl := sl) hn e21 e22 hs hy6 hz6 hs6 (by omega) (by omega)) rfl (lt_n hn (by decide)) rfl rfl (Nat.le_of_ble_eq_true rfl) (Nat.le_of_ble_eq_true rfl) (by decide) (by decide) rfl ?_
                refine ev_if_eq (q := 116) 133 dX7_lamps_113 (by decide) rfl (fun c_113 => ?_) (fun c_113 => ?_)
                · have c_113 : ktT J t sl u k w = false := b2i_0.mp c_113
                  refine ev_iload (q := 135) dX7_lamps_133 rfl rfl ?_
                  refine ev_ist_6 (q := 137) dX7_lamps_135 rfl rfl ?_
                  refine ev_inc_7 (q := 140) (nI (w + 1)) dX7_lamps_137 (nI_1 w) rfl rfl ?_
                  refine ev_goto 91 dX7_lamps_140 (by decide) ?_
                  have e := ih (j - 1) (by omega) (w + 1) (by omega)
                  first | (simp only [upto, ho, fiF, c_113, c_125, decide_true, decide_false, Bool.and_true, Bool.and_false, if_true, if_false, Bool.false_eq_true] at e; exact e) | (simp only [upto, ho, fiF, c_113, Bool.false_and, if_false, Bool.false_eq_true] at e; exact e)
                · have c_113 : ktT J t sl u k w = true := b2i_n0.mp c_113
                  refine ev_aload_n (q := 117) dX7_lamps_116 rfl rfl ?_
                  refine ev_get (q := 120) dX7_lamps_117 fr_X7_49 rfl (lt_n hn (by decide)) rfl rfl ?_
                  refine ev_iload (q := 122) dX7_lamps_120 rfl rfl ?_
                  refine ev_iaS (q := 123) _ dX7_lamps_122 rfl rfl (by omega) (lt_n hn (by decide)) rfl ?_
                  rw [show ov I S' 45 w = wtF I t C w from e45 w (by omega)]
                  refine ev_iload (q := 125) dX7_lamps_123 rfl rfl ?_
                  refine ev_icmp_ne (q := 128) 133 dX7_lamps_125 (by decide) rfl (fun c_125 => ?_) (fun c_125 => ?_)
                  · have c_125 : ¬ wtF I t C w = b := c_125
                    refine ev_iload (q := 135) dX7_lamps_133 rfl rfl ?_
                    refine ev_ist_6 (q := 137) dX7_lamps_135 rfl rfl ?_
                    refine ev_inc_7 (q := 140) (nI (w + 1)) dX7_lamps_137 (nI_1 w) rfl rfl ?_
                    refine ev_goto 91 dX7_lamps_140 (by decide) ?_
                    have e := ih (j - 1) (by omega) (w + 1) (by omega)
                    first | (simp only [upto, ho, fiF, c_113, c_125, decide_true, decide_false, Bool.and_true, Bool.and_false, if_true, if_false, Bool.false_eq_true] at e; exact e) | (simp only [upto, ho, fiF, c_113, Bool.false_and, if_false, Bool.false_eq_true] at e; exact e)
                  · have c_125 : wtF I t C w = b := c_125
                    refine ev_iload (q := 130) dX7_lamps_128 rfl rfl ?_
                    refine ev_goto 135 dX7_lamps_130 (by decide) ?_
                    refine ev_ist_6 (q := 137) dX7_lamps_135 rfl rfl ?_
                    refine ev_inc_7 (q := 140) (nI (w + 1)) dX7_lamps_137 (nI_1 w) rfl rfl ?_
                    refine ev_goto 91 dX7_lamps_140 (by decide) ?_
                    have e := ih (j - 1) (by omega) (w + 1) (by omega)
                    first | (simp only [upto, ho, fiF, c_113, c_125, decide_true, decide_false, Bool.and_true, Bool.and_false, if_true, if_false, Bool.false_eq_true] at e; exact e) | (simp only [upto, ho, fiF, c_113, Bool.false_and, if_false, Bool.false_eq_true] at e; exact e)
          | some v =>
            have hv := hlt v ho
            refine ev_iload (q := 93) dX7_lamps_91 rfl rfl ?_
            refine ev_aload_n (q := 94) dX7_lamps_93 rfl rfl ?_
            refine ev_callV0i (q := 97) dX7_lamps_94 ca_X7_95 (s_X7_worlds hn hm) rfl (lt_n hn (by decide)) rfl rfl (Nat.le_of_ble_eq_true rfl) (Nat.le_of_ble_eq_true rfl) (by decide) (by decide) rfl ?_
            refine ev_icmp_ge (q := 100) 143 dX7_lamps_97 (by decide) rfl (fun c_97 => ?_) (fun c_97 => ?_)
            · have c_97 : 2 ^ t ≤ w := (nI_leI (by omega) (by omega)).mp c_97
              have hk2 : w = 2 ^ t := by omega
              subst hk2
              have e := hout (some (.int (nI (2 ^ t))))
              rw [ho] at e
              exact e
            · have c_97 : ¬ 2 ^ t ≤ w := fun h => c_97 ((nI_leI (by omega) (by omega)).mpr h)
              refine ev_iload (q := 102) dX7_lamps_100 rfl rfl ?_
              refine ev_if_ge (q := 105) 133 dX7_lamps_102 (by decide) rfl (fun c_102 => ?_) (fun c_102 => ?_)
              · refine ev_iload (q := 135) dX7_lamps_133 rfl rfl ?_
                refine ev_ist_6 (q := 137) dX7_lamps_135 rfl rfl ?_
                refine ev_inc_7 (q := 140) (nI (w + 1)) dX7_lamps_137 (nI_1 w) rfl rfl ?_
                refine ev_goto 91 dX7_lamps_140 (by decide) ?_
                have e := ih (j - 1) (by omega) (w + 1) (by omega)
                simp only [upto, ho, fiF] at e
                exact e
              · exact absurd (nI_pos' (by omega)) c_102
      have lp : ∀ j k, k + j = 2 ^ t → ∀ S T a5 a6 a7, (∀ w, w < 2 ^ t → S 45 w = wtF I t C w) → (∀ w, w < k → S 44 w = wtF I t wi (toF J t sl most (wtF I t C) w)) → Ev xl xs 3 73 0 0 mX7_lamps 47 [some (.ref 33), some (.int (nI C)), some (.int most), some (.int what), some (.int (nI k)), a5, a6, a7] [] n (sysH (ov I S) (ovJ J T) X) Q := by
        intro j
        induction j using Nat.strongRecOn with
        | _ j ih =>
          intro k hk S T a5 a6 a7 e45 e44
          have tl : ¬ 2 ^ t ≤ k → ∀ S T a5 a7 v, v = toF J t sl most (wtF I t C) k → v < 2 ^ t → (∀ w, w < 2 ^ t → S 45 w = wtF I t C w) → (∀ w, w < k → S 44 w = wtF I t wi (toF J t sl most (wtF I t C) w)) → Ev xl xs 3 73 0 0 mX7_lamps 143 [some (.ref 33), some (.int (nI C)), some (.int most), some (.int what), some (.int (nI k)), a5, some (.int (nI v)), a7] [] n (sysH (ov I S) (ovJ J T) X) Q := by
            intro hkt S T a5 a7 v hv hvt e45 e44
            refine ev_aload_n (q := 144) dX7_lamps_143 rfl rfl ?_
            refine ev_get (q := 147) dX7_lamps_144 fr_X7_46 rfl (lt_n hn (by decide)) rfl rfl ?_
            refine ev_iload (q := 149) dX7_lamps_147 rfl rfl ?_
            refine ev_aload_n (q := 150) dX7_lamps_149 rfl rfl ?_
            refine ev_aload_n (q := 151) dX7_lamps_150 rfl rfl ?_
            refine ev_get (q := 154) dX7_lamps_151 fr_X7_67 rfl (lt_n hn (by decide)) rfl rfl ?_
            rw [show ov I S 33 5 = nI wi from hwi]
            refine ev_iload (q := 156) dX7_lamps_154 rfl rfl ?_
            refine ev_callV2i (q := 159) dX7_lamps_156 ca_X7_117 (s_X7_worthTo hn hm (by omega) (by omega)) rfl (lt_n hn (by decide)) rfl rfl (Nat.le_of_ble_eq_true rfl) (Nat.le_of_ble_eq_true rfl) (by decide) (by decide) rfl ?_
            first | refine ev_isK (q := 160) _ dX7_lamps_159 rfl rfl (by omega) (lt_n hn (by decide)) rfl rfl ?_ | refine ev_isR (q := 160) _ dX7_lamps_159 rfl rfl (by omega) (lt_n hn (by decide)) rfl rfl ?_
            refine ev_inc_4 (q := 163) (nI (k + 1)) dX7_lamps_160 (nI_1 k) rfl rfl ?_
            refine ev_goto 47 dX7_lamps_163 (by decide) ?_
            exact ih (j - 1) (by omega) (k + 1) (by omega) _ _ _ _ _ (by exact e45) (by intro w hw; by_cases hwk : w = k; (subst hwk; refine (pk_us).trans ?_; rw [hv]); exact (pk_un hwk).trans (e44 w (by omega)))
          have hbp := bsP_congr (J := J) (t := t) (sl := sl) (a := k) (most := most) e45
          cases hb : bsP J t sl most (wtF I t C) k with
          | none =>
            rw [hb] at hbp
            refine ev_iload (q := 49) dX7_lamps_47 rfl rfl ?_
            refine ev_aload_n (q := 50) dX7_lamps_49 rfl rfl ?_
            refine ev_callV0i (q := 53) dX7_lamps_50 ca_X7_95 (s_X7_worlds hn hm) rfl (lt_n hn (by decide)) rfl rfl (Nat.le_of_ble_eq_true rfl) (Nat.le_of_ble_eq_true rfl) (by decide) (by decide) rfl ?_
            refine ev_icmp_ge (q := 56) 166 dX7_lamps_53 (by decide) rfl (fun c_53 => ?_) (fun c_53 => ?_)
            · have c_53 : 2 ^ t ≤ k := (nI_leI (by omega) (by omega)).mp c_53
              refine ev_iconst (q := 167) (0) dX7_lamps_166 (by decide) rfl ?_
              refine ev_ist_4 (q := 169) dX7_lamps_167 rfl rfl ?_
              exact in2 (2 ^ t) 0 (by omega) _ _ _ _ _ (fun w hw => e44 w (by omega)) (fun w hw => absurd hw (by omega))
            · have c_53 : ¬ 2 ^ t ≤ k := fun h => c_53 ((nI_leI (by omega) (by omega)).mpr h)
              refine ev_aload_n (q := 57) dX7_lamps_56 rfl rfl ?_
              refine ev_iload (q := 59) dX7_lamps_57 rfl rfl ?_
              refine ev_iload_n (q := 60) dX7_lamps_59 rfl rfl ?_
              refine ev_callV2iP (q := 63) dX7_lamps_60 ca_X7_217 (s_X7_bestFrom hn hm (by omega)) rfl (lt_n hn (by decide)) rfl rfl (Nat.le_of_ble_eq_true rfl) (Nat.le_of_ble_eq_true rfl) (by decide) (by decide) rfl (fun S T hp_60 => ?_)
              obtain ⟨-, g44, g45, g25⟩ := hp_60
              rw [hbp] at g25
              refine ev_ist_5 (q := 65) dX7_lamps_63 rfl rfl ?_
              refine ev_iload (q := 67) dX7_lamps_65 rfl rfl ?_
              refine ev_ist_6 (q := 69) dX7_lamps_67 rfl rfl ?_
              refine ev_aload_n (q := 70) dX7_lamps_69 rfl rfl ?_
              refine ev_get (q := 73) dX7_lamps_70 fr_X7_210 rfl (lt_n hn (by decide)) rfl rfl ?_
              rw [show ov I S 33 25 = -6 from g25]
              refine ev_if_lt (q := 76) 143 dX7_lamps_73 (by decide) rfl (fun c_73 => ?_) (fun c_73 => ?_)
              · exact tl c_53 S T _ _ k (by simp only [toF, hb]) (by omega) (by intro w hw; exact (congrFun g45 w).trans (e45 w hw)) (by intro w hw; exact (congrFun g44 w).trans (e44 w hw))
              · exact absurd neg6 c_73
          | some p =>
            obtain ⟨u, b⟩ := p
            obtain ⟨hu, w0, hw0, hk0, hf0⟩ := bsP_own hb
            have hns := fiF_some (J := J) (t := t) (sl := sl) (a := k) (u := u) (b := b) (f := wtF I t C) (2 ^ t) w0 hw0 hk0 hf0
            obtain ⟨v, hv⟩ := Option.ne_none_iff_exists'.mp hns
            have hvt := fiF_lt _ _ hv
            have htf : v = toF J t sl most (wtF I t C) k := by simp only [toF, hb, hv, Option.getD_some]
            have hbv : bsV J t sl most (S 45) k = b := by simp only [bsV, hbp, hb]
            rw [hb] at hbp
            refine ev_iload (q := 49) dX7_lamps_47 rfl rfl ?_
            refine ev_aload_n (q := 50) dX7_lamps_49 rfl rfl ?_
            refine ev_callV0i (q := 53) dX7_lamps_50 ca_X7_95 (s_X7_worlds hn hm) rfl (lt_n hn (by decide)) rfl rfl (Nat.le_of_ble_eq_true rfl) (Nat.le_of_ble_eq_true rfl) (by decide) (by decide) rfl ?_
            refine ev_icmp_ge (q := 56) 166 dX7_lamps_53 (by decide) rfl (fun c_53 => ?_) (fun c_53 => ?_)
            · have c_53 : 2 ^ t ≤ k := (nI_leI (by omega) (by omega)).mp c_53
              refine ev_iconst (q := 167) (0) dX7_lamps_166 (by decide) rfl ?_
              refine ev_ist_4 (q := 169) dX7_lamps_167 rfl rfl ?_
              exact in2 (2 ^ t) 0 (by omega) _ _ _ _ _ (fun w hw => e44 w (by omega)) (fun w hw => absurd hw (by omega))
            · have c_53 : ¬ 2 ^ t ≤ k := fun h => c_53 ((nI_leI (by omega) (by omega)).mpr h)
              refine ev_aload_n (q := 57) dX7_lamps_56 rfl rfl ?_
              refine ev_iload (q := 59) dX7_lamps_57 rfl rfl ?_
              refine ev_iload_n (q := 60) dX7_lamps_59 rfl rfl ?_
              refine ev_callV2iP (q := 63) dX7_lamps_60 ca_X7_217 (s_X7_bestFrom hn hm (by omega)) rfl (lt_n hn (by decide)) rfl rfl (Nat.le_of_ble_eq_true rfl) (Nat.le_of_ble_eq_true rfl) (by decide) (by decide) rfl (fun S T hp_60 => ?_)
              obtain ⟨-, g44, g45, g25⟩ := hp_60
              rw [hbp] at g25
              rw [hbv]
              refine ev_ist_5 (q := 65) dX7_lamps_63 rfl rfl ?_
              refine ev_iload (q := 67) dX7_lamps_65 rfl rfl ?_
              refine ev_ist_6 (q := 69) dX7_lamps_67 rfl rfl ?_
              refine ev_aload_n (q := 70) dX7_lamps_69 rfl rfl ?_
              refine ev_get (q := 73) dX7_lamps_70 fr_X7_210 rfl (lt_n hn (by decide)) rfl rfl ?_
              rw [show ov I S 33 25 = nI u from g25]
              refine ev_if_lt (q := 76) 143 dX7_lamps_73 (by decide) rfl (fun c_73 => ?_) (fun c_73 => ?_)
              · exact absurd c_73 (nI_pos (by omega))
              · refine ev_aload_n (q := 77) dX7_lamps_76 rfl rfl ?_
                refine ev_aload_n (q := 78) dX7_lamps_77 rfl rfl ?_
                refine ev_get (q := 81) dX7_lamps_78 fr_X7_210 rfl (lt_n hn (by decide)) rfl rfl ?_
                rw [show ov I S 33 25 = nI u from g25]
                refine ev_callV1v (q := 84) dX7_lamps_81 ca_X7_190 (s_X7_layTerm hn hm (by omega)) rfl (lt_n hn (by decide)) rfl rfl (Nat.le_of_ble_eq_true rfl) (Nat.le_of_ble_eq_true rfl) (by decide) (by decide) rfl ?_
                refine ev_bipush (q := 86) (-6) dX7_lamps_84 (by decide) rfl ?_
                refine ev_ist_6 (q := 88) dX7_lamps_86 rfl rfl ?_
                refine ev_iconst (q := 89) (0) dX7_lamps_88 (by decide) rfl ?_
                refine ev_ist_7 (q := 91) dX7_lamps_89 rfl rfl ?_
                refine in0 k u b _ _ (by omega) hu ?_ (by rfl) (by rfl) ?_ (2 ^ t) 0 (by omega)
                · intro w hw; exact (congrFun g45 w).trans (e45 w hw)
                · intro a7
                  rw [hv]
                  exact tl c_53 _ _ _ _ v htf hvt (by intro w hw; exact (congrFun g45 w).trans (e45 w hw)) (by intro w hw; exact (congrFun g44 w).trans (e44 w hw))
      refine ev_iload_n (q := 1) dX7_lamps_0 rfl rfl ?_
      refine ev_callS1i (q := 4) dX7_lamps_1 ca_X7_103 (c_X7_isCousin _) (Nat.le_of_ble_eq_true rfl) (Nat.le_of_ble_eq_true rfl) (by decide) (by decide) rfl ?_
      refine ev_if_eq (q := 7) 15 dX7_lamps_4 (by decide) rfl (fun c_4 => ?_) (fun c_4 => ?_)
      · exact absurd c_4 (b2i_n0.mpr hin0.1)
      · refine ev_iload_n (q := 8) dX7_lamps_7 rfl rfl ?_
        refine ev_aload_n (q := 9) dX7_lamps_8 rfl rfl ?_
        refine ev_get (q := 12) dX7_lamps_9 fr_X7_67 rfl (lt_n hn (by decide)) rfl rfl ?_
        rw [show ov I S 33 5 = nI wi from hwi]
        refine ev_icmp_ne (q := 15) 17 dX7_lamps_12 (by decide) rfl (fun c_12 => ?_) (fun c_12 => ?_)
        · refine ev_iload_n (q := 18) dX7_lamps_17 rfl rfl ?_
          refine ev_iconst (q := 19) (0) dX7_lamps_18 (by decide) rfl ?_
          refine ev_bipush (q := 21) (6) dX7_lamps_19 (by decide) rfl ?_
          refine ev_callS3i (q := 24) dX7_lamps_21 ca_X7_99 (c_X7_in _ _ _) (Nat.le_of_ble_eq_true rfl) (Nat.le_of_ble_eq_true rfl) (by decide) (by decide) rfl ?_
          refine ev_if_eq (q := 27) 36 dX7_lamps_24 (by decide) rfl (fun c_24 => ?_) (fun c_24 => ?_)
          · exact absurd c_24 (b2i_n0.mpr hin.1)
          · refine ev_iload_n (q := 28) dX7_lamps_27 rfl rfl ?_
            refine ev_iconst (q := 29) (0) dX7_lamps_28 (by decide) rfl ?_
            refine ev_iconst (q := 30) (1) dX7_lamps_29 (by decide) rfl ?_
            refine ev_callS3i (q := 33) dX7_lamps_30 ca_X7_99 (c_X7_in _ _ _) (Nat.le_of_ble_eq_true rfl) (Nat.le_of_ble_eq_true rfl) (by decide) (by decide) rfl ?_
            refine ev_if_ne (q := 36) 39 dX7_lamps_33 (by decide) rfl (fun c_33 => ?_) (fun c_33 => ?_)
            · refine ev_aload_n (q := 40) dX7_lamps_39 rfl rfl ?_
              refine ev_iload_n (q := 41) dX7_lamps_40 rfl rfl ?_
              refine ev_callV1v (q := 44) dX7_lamps_41 ca_X7_214 (s_X7_layAhead hn hm (by omega)) rfl (lt_n hn (by decide)) rfl rfl (Nat.le_of_ble_eq_true rfl) (Nat.le_of_ble_eq_true rfl) (by decide) (by decide) rfl ?_
              refine ev_iconst (q := 45) (0) dX7_lamps_44 (by decide) rfl ?_
              refine ev_ist_4 (q := 47) dX7_lamps_45 rfl rfl ?_
              exact lp (2 ^ t) 0 (by omega) _ _ _ _ _ (fun w hw => fillA_at hw) (fun w hw => absurd hw (by omega))
            · exact absurd c_33 (b2i_n0.mpr hin.2)
        · exact absurd c_12 hcw
end MODEL11
