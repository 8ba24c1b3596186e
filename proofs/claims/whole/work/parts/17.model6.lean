def MI (I : Nat → Nat → Int32) (t sl wy wi he : Nat) : Prop := I 33 0 = nI t ∧ 2 ≤ t ∧ t ≤ 6 ∧ I 33 6 = nI sl ∧ sl ≤ 6 ∧ I 33 4 = nI wy ∧ wy < 3 ∧ I 33 5 = nI wi ∧ wi < 4 ∧ I 33 7 = nI he ∧ he < 2 ^ t
theorem p2_le {t : Nat} (h6 : t ≤ 6) : 2 ^ t ≤ 64 := Nat.pow_le_pow_right (n := 2) (by decide) h6
theorem p3_le {t : Nat} (h6 : t ≤ 6) : 3 ^ t ≤ 729 := Nat.pow_le_pow_right (n := 3) (by decide) h6
/-- what a world is worth to a cousin -/
def wtF (I : Nat → Nat → Int32) (t c w : Nat) : Int32 := wsum (fun k => I 34 (6 * c + k)) t w
theorem ov_yn (I S : Nat → Nat → Int32) (y z : Int32) : yn (ov I S) y z = ov I (setI (setI S 33 (upd (S 33) 21 y)) 33 (upd (setI S 33 (upd (S 33) 21 y) 33) 22 z)) := by
  rw [← yn_0, ovf (p := 33) (j := 21) rfl, ovf (p := 33) (j := 22) rfl]
def lyS (S : Nat → Nat → Int32) (t num : Nat) : Nat → Nat → Int32 := setI (setI S 33 (upd (S 33) 21 (nI (tmask 1 t num t)))) 33 (upd (setI S 33 (upd (S 33) 21 (nI (tmask 1 t num t))) 33) 22 (nI (tmask 2 t num t)))
section MODEL6
variable {xl : Nat} {xs : Nat → Int32} {n : Nat} {h : Nat → PC} {I S : Nat → Nat → Int32} {J T : Nat → Nat → Int64} {X : Nat → Option Nat} {t sl wy wi he : Nat}
theorem s_X7_worlds (hn : 49 ≤ n) (hm : MI I t sl wy wi he) : Rn xl xs 0 0 0 0 mX7_worlds [.ref 33] n (sysH (ov I S) (ovJ J T) X) (some (.int (nI (2 ^ t)))) n (sysH (ov I S) (ovJ J T) X) := c_X7_worlds (I := ov I S) hn hm.1 hm.2.2.1
theorem s_X7_terms (hn : 49 ≤ n) (hm : MI I t sl wy wi he) : Rn xl xs 0 0 0 0 mX7_terms [.ref 33] n (sysH (ov I S) (ovJ J T) X) (some (.int (nI (3 ^ t)))) n (sysH (ov I S) (ovJ J T) X) := c_X7_terms (I := ov I S) hn hm.1 hm.2.2.1
theorem s_X7_isThing (hn : 49 ≤ n) (hm : MI I t sl wy wi he) (v : Int32) : Rn xl xs 1 22 0 0 mX7_isThing [.ref 33, .int v] n (sysH (ov I S) (ovJ J T) X) (some (.int (b2i (inb v 0 (nI t - 1))))) n (sysH (ov I S) (ovJ J T) X) := c_X7_isThing (I := ov I S) v hn hm.1
theorem s_X7_isWorld (hn : 49 ≤ n) (hm : MI I t sl wy wi he) (v : Int32) : Rn xl xs 1 22 0 0 mX7_isWorld [.ref 33, .int v] n (sysH (ov I S) (ovJ J T) X) (some (.int (b2i (inb v 0 (nI (2 ^ t) - 1))))) n (sysH (ov I S) (ovJ J T) X) := c_X7_isWorld (I := ov I S) v hn hm.1 hm.2.2.1
theorem s_X7_worthTo {c w : Nat} (hn : 49 ≤ n) (hm : MI I t sl wy wi he) (hc : c < 4) (hw : w < 2 ^ 31) : Rn xl xs 1 21 0 0 mX7_worthTo [.ref 33, .int (nI c), .int (nI w)] n (sysH (ov I S) (ovJ J T) X) (some (.int (wtF I t c w))) n (sysH (ov I S) (ovJ J T) X) := c_X7_worthTo (I := ov I S) hn hm.1 hm.2.2.1 hc hw
theorem s_X7_digitOf {num k : Nat} (hn : 49 ≤ n) (hm : MI I t sl wy wi he) (hk : k < t) (hu : num < 2 ^ 31) : Rn xl xs 0 0 0 0 mX7_digitOf [.ref 33, .int (nI num), .int (nI k)] n (sysH (ov I S) (ovJ J T) X) (some (.int (nI (dig t num k)))) n (sysH (ov I S) (ovJ J T) X) := c_X7_digitOf (I := ov I S) hn hm.1 hm.2.2.1 hk hu
theorem s_X7_words {num : Nat} (hn : 49 ≤ n) (hm : MI I t sl wy wi he) (hu : num < 2 ^ 31) : Rn xl xs 1 24 0 0 mX7_words [.ref 33, .int (nI num)] n (sysH (ov I S) (ovJ J T) X) (some (.int (nI (wd t num)))) n (sysH (ov I S) (ovJ J T) X) := c_X7_words (I := ov I S) hn hm.1 hm.2.2.1 hu
theorem s_X7_count {Z : Int64} (hn : 49 ≤ n) (hm : MI I t sl wy wi he) : Rn xl xs 1 22 0 0 mX7_count [.ref 33, .long Z] n (sysH (ov I S) (ovJ J T) X) (some (.int (upto (fun w c => c + b2i (lbit Z w)) (2 ^ t) 0))) n (sysH (ov I S) (ovJ J T) X) := c_X7_count (I := ov I S) hn hm.1 hm.2.2.1
theorem s_X7_madeOf {a : Nat} {Z : Int64} (hn : 49 ≤ n) (hm : MI I t sl wy wi he) (ha : a < 64) : Rn xl xs 3 67 0 0 mX7_madeOf [.ref 33, .long Z, .int (nI a)] n (sysH (ov I S) (ovJ J T) X) (some (.int (eo (upto (mkF (lkF I t wy wi a) Z) (2 ^ t) none)))) n (sysH (ov I S) (ovJ J T) X) := c_X7_madeOf (I := ov I S) hn hm.1 hm.2.2.1 hm.2.2.2.2.2.1 hm.2.2.2.2.2.2.1 hm.2.2.2.2.2.2.2.1 hm.2.2.2.2.2.2.2.2.1 ha
theorem s_X7_madeOfTerm {a num : Nat} (hn : 49 ≤ n) (hm : MI I t sl wy wi he) (ha : a < 64) (hu : num < 2 ^ 31) : RnS xl xs 4 92 0 0 mX7_madeOfTerm [.ref 33, .int (nI num), .int (nI a)] n I J X (some (.int (eo (mtF I J t sl wy wi num a)))) n I J X := by
  intro S T Q hQ
  refine c_X7_madeOfTerm (I := ov I S) hn hm.1 hm.2.2.1 hm.2.2.2.1 hm.2.2.2.2.1 hm.2.2.2.2.2.1 hm.2.2.2.2.2.2.1 hm.2.2.2.2.2.2.2.1 hm.2.2.2.2.2.2.2.2.1 ha hu Q ?_
  unfold ynT
  rw [ov_yn]
  exact hQ _ _
theorem s_X7_layTerm {num : Nat} (hn : 49 ≤ n) (hm : MI I t sl wy wi he) (hu : num < 2 ^ 31) : Rn xl xs 0 0 0 0 mX7_layTerm [.ref 33, .int (nI num)] n (sysH (ov I S) (ovJ J T) X) none n (sysH (ov I (lyS S t num)) (ovJ J T) X) := by
  have e := c_X7_layTerm (xl := xl) (xs := xs) (I := ov I S) (J := ovJ J T) (X := X) hn hm.1 hm.2.2.1 hu
  unfold ynT at e
  rw [ov_yn] at e
  exact e
/-- STATE for none -/
def e3 : Option Nat → Int32
  | none => -3
  | some w => nI w
theorem inb_nat {v : Int32} {m : Nat} (hm : m < 2 ^ 31) (h : inb v 0 (nI m - 1) = true) (h0 : 0 < m) : ∃ k, k < m ∧ v = nI k := by
  simp only [inb, Bool.and_eq_true, decide_eq_true_eq] at h
  obtain ⟨j, hj, e⟩ := nI_of (x := v) (by simp only [i_le, i_lt] at *; omega)
  refine ⟨j, ?_, e⟩
  have h2 := h.2
  rw [e, show nI m - 1 = nI (m - 1) from pk_sub (b := 1) h0] at h2
  have := (nI_leI hj (by omega)).mp h2
  omega
theorem s_X7_term (hn : 49 ≤ n) (hm : MI I t sl wy wi he) (v : Int32) : RnS xl xs 5 114 0 0 mX7_term [.ref 33, .int v] n I J X (some (.int (if inb v 0 (nI (3 ^ t) - 1) then e3 (mtF I J t sl wy wi v.toNatClampNeg he) else -2))) n I J X := by
  intro S T Q hQ
  have hm' := hm
  obtain ⟨ht, ht2, h6, hs, hs6, hwy, h3, hwi, h4, hhe, hhl⟩ := hm'
  have h64 := p2_le h6
  have h729 := p3_le h6
  have hpos : 0 < 3 ^ t := Nat.pow_pos (by decide)
  show Ev xl xs 5 114 0 0 mX7_term 0 [some (.ref 33), some (.int v), none] [] n (sysH (ov I S) (ovJ J T) X) Q
  refine ev_iload_n (q := 1) dX7_term_0 rfl rfl ?_
  refine ev_iconst (q := 2) (0) dX7_term_1 (by decide) rfl ?_
  refine ev_aload_n (q := 3) dX7_term_2 rfl rfl ?_
  refine ev_callV0i (q := 6) dX7_term_3 ca_X7_201 (s_X7_terms hn hm) rfl (lt_n hn (by decide)) rfl rfl (Nat.le_of_ble_eq_true rfl) (Nat.le_of_ble_eq_true rfl) (by decide) (by decide) rfl ?_
  refine ev_iconst (q := 7) (1) dX7_term_6 (by decide) rfl ?_
  refine ev_isub (q := 8) dX7_term_7 rfl ?_
  refine ev_callS3i (q := 11) dX7_term_8 ca_X7_99 (c_X7_in _ _ _) (Nat.le_of_ble_eq_true rfl) (Nat.le_of_ble_eq_true rfl) (by decide) (by decide) rfl ?_
  refine ev_if_ne (q := 14) 17 dX7_term_11 (by decide) rfl (fun c_11 => ?_) (fun c_11 => ?_)
  · have c_11 := b2i_ne.mp c_11
    obtain ⟨num, hnum, rfl⟩ := inb_nat (by omega) c_11 hpos
    refine ev_aload_n (q := 18) dX7_term_17 rfl rfl ?_
    refine ev_iload_n (q := 19) dX7_term_18 rfl rfl ?_
    refine ev_aload_n (q := 20) dX7_term_19 rfl rfl ?_
    refine ev_get (q := 23) dX7_term_20 fr_X7_73 rfl (lt_n hn (by decide)) rfl rfl ?_
    rw [show ov I S 33 7 = nI he from hhe]
    refine ev_callV2iS (q := 26) dX7_term_23 ca_X7_204 (s_X7_madeOfTerm hn hm (by omega) (by omega)) rfl (lt_n hn (by decide)) rfl rfl (Nat.le_of_ble_eq_true rfl) (Nat.le_of_ble_eq_true rfl) (by decide) (by decide) rfl (fun S T => ?_)
    refine ev_ist_2 (q := 27) dX7_term_26 rfl rfl ?_
    refine ev_iload_n (q := 28) dX7_term_27 rfl rfl ?_
    refine ev_if_ge (q := 31) 36 dX7_term_28 (by decide) rfl (fun c_28 => ?_) (fun c_28 => ?_)
    · have c_28 : ∃ w, mtF I J t sl wy wi num he = some w := by cases hx : mtF I J t sl wy wi num he with | none => rw [hx] at c_28; exact absurd c_28 (by decide) | some w => exact ⟨w, rfl⟩
      refine ev_iload_n (q := 37) dX7_term_36 rfl rfl ?_
      exact ev_iretE dX7_term_37 rfl rfl (by rw [c_11, nI_clamp (by omega)]; first | (obtain ⟨w, hw⟩ := c_28; rw [hw]; rfl) | (rw [c_28]; rfl)) rfl rfl (hQ _ _)
    · have c_28 : mtF I J t sl wy wi num he = none := by cases hx : mtF I J t sl wy wi num he with | none => rfl | some w => rw [hx] at c_28; have := mtF_lt hx; exact absurd (nI_pos' (by omega)) c_28
      refine ev_bipush (q := 33) (-3) dX7_term_31 (by decide) rfl ?_
      refine ev_goto 37 dX7_term_33 (by decide) ?_
      exact ev_iretE dX7_term_37 rfl rfl (by rw [c_11, nI_clamp (by omega)]; first | (obtain ⟨w, hw⟩ := c_28; rw [hw]; rfl) | (rw [c_28]; rfl)) rfl rfl (hQ _ _)
  · have c_11 : inb v 0 (nI (3 ^ t) - 1) = false := b2i_0.mp c_11
    refine ev_bipush (q := 16) (-2) dX7_term_14 (by decide) rfl ?_
    exact ev_iretE dX7_term_16 rfl rfl (by rw [c_11]; rfl) rfl rfl (hQ _ _)
end MODEL6
