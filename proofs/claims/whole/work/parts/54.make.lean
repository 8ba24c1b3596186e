theorem w_acI : Cond.arrayClass .int ∈ TB := tb_in (tt_1 102 rfl) rfl
theorem w_acJ : Cond.arrayClass .long ∈ TB := tb_in (tt_1 103 rfl) rfl
theorem w_acZ : Cond.arrayClass .boolean ∈ TB := tb_in (tt_4 77 rfl) rfl
theorem w_oi : Cond.instanceMethod objectInit ∈ TB := tb_in (tt_1 18 rfl) rfl
theorem w_oc : Cond.code objectInit ⟨#[0xb1]⟩ 1 none ∈ TB := tb_in (tt_1 19 rfl) rfl
def noref : Value → Bool
  | .ref _ => false
  | _ => true
theorem okl_nr {fs : List Value} (h : fs.all noref = true) : okl 0 fs := fun v hv => by
  have := List.all_eq_true.mp h v hv
  cases v <;> first | exact trivial | cases this
abbrev dX0 : List Value := [.int 0, .int 0, .int 0]
theorem dfX0 : ∀ j, j < 3 → defaultValue (tyX0 j) = vp_V dX0 j
  | 0, _ => rfl
  | 1, _ => rfl
  | 2, _ => rfl
  | j + 3, h => absurd h (by omega)
abbrev dX1 : List Value := [.null, .int 0, .null]
theorem dfX1 : ∀ j, j < 3 → defaultValue (tyX1 j) = vp_V dX1 j
  | 0, _ => rfl
  | 1, _ => rfl
  | 2, _ => rfl
  | j + 3, h => absurd h (by omega)
abbrev dX2 : List Value := [.null, .null, .null, .null, .null, .null, .null, .int 0]
theorem dfX2 : ∀ j, j < 8 → defaultValue (tyX2 j) = vp_V dX2 j
  | 0, _ => rfl
  | 1, _ => rfl
  | 2, _ => rfl
  | 3, _ => rfl
  | 4, _ => rfl
  | 5, _ => rfl
  | 6, _ => rfl
  | 7, _ => rfl
  | j + 8, h => absurd h (by omega)
abbrev dX3 : List Value := [.null, .null, .null, .null]
theorem dfX3 : ∀ j, j < 4 → defaultValue (tyX3 j) = vp_V dX3 j
  | 0, _ => rfl
  | 1, _ => rfl
  | 2, _ => rfl
  | 3, _ => rfl
  | j + 4, h => absurd h (by omega)
abbrev dX4 : List Value := [.int 0, .int 0, .int 0, .int 0, .int 0, .long 0, .null, .null, .null, .null, .int 0, .null, .int 0, .null, .null, .int 0]
theorem dfX4 : ∀ j, j < 16 → defaultValue (tyX4 j) = vp_V dX4 j
  | 0, _ => rfl
  | 1, _ => rfl
  | 2, _ => rfl
  | 3, _ => rfl
  | 4, _ => rfl
  | 5, _ => rfl
  | 6, _ => rfl
  | 7, _ => rfl
  | 8, _ => rfl
  | 9, _ => rfl
  | 10, _ => rfl
  | 11, _ => rfl
  | 12, _ => rfl
  | 13, _ => rfl
  | 14, _ => rfl
  | 15, _ => rfl
  | j + 16, h => absurd h (by omega)
abbrev dX5 : List Value := [.int 0, .null, .null, .null, .null]
theorem dfX5 : ∀ j, j < 5 → defaultValue (tyX5 j) = vp_V dX5 j
  | 0, _ => rfl
  | 1, _ => rfl
  | 2, _ => rfl
  | 3, _ => rfl
  | 4, _ => rfl
  | j + 5, h => absurd h (by omega)
abbrev dX6 : List Value := [.null, .null, .null, .null, .null, .null, .null, .null, .null, .null]
theorem dfX6 : ∀ j, j < 10 → defaultValue (tyX6 j) = vp_V dX6 j
  | 0, _ => rfl
  | 1, _ => rfl
  | 2, _ => rfl
  | 3, _ => rfl
  | 4, _ => rfl
  | 5, _ => rfl
  | 6, _ => rfl
  | 7, _ => rfl
  | 8, _ => rfl
  | 9, _ => rfl
  | j + 10, h => absurd h (by omega)
abbrev dX7 : List Value := [.int 0, .null, .null, .null, .int 0, .int 0, .int 0, .int 0, .long 0, .int 0, .null, .int 0, .null, .null, .int 0, .null, .int 0, .null, .int 0, .null, .null, .int 0, .int 0, .null, .null, .int 0, .null, .null, .null]
theorem dfX7 : ∀ j, j < 29 → defaultValue (tyX7 j) = vp_V dX7 j
  | 0, _ => rfl
  | 1, _ => rfl
  | 2, _ => rfl
  | 3, _ => rfl
  | 4, _ => rfl
  | 5, _ => rfl
  | 6, _ => rfl
  | 7, _ => rfl
  | 8, _ => rfl
  | 9, _ => rfl
  | 10, _ => rfl
  | 11, _ => rfl
  | 12, _ => rfl
  | 13, _ => rfl
  | 14, _ => rfl
  | 15, _ => rfl
  | 16, _ => rfl
  | 17, _ => rfl
  | 18, _ => rfl
  | 19, _ => rfl
  | 20, _ => rfl
  | 21, _ => rfl
  | 22, _ => rfl
  | 23, _ => rfl
  | 24, _ => rfl
  | 25, _ => rfl
  | 26, _ => rfl
  | 27, _ => rfl
  | 28, _ => rfl
  | j + 29, h => absurd h (by omega)
theorem nc_L_7 : NC RL 7 6 10 dX6 := ⟨RX6, TX6, tyX6, ciX6, tb_in (tt_1 12 rfl) rfl, tb_in (tt_1 13 rfl) rfl, tb_in (tt_1 1 rfl) rfl, dfX6, okl_nr rfl, fun _ => rfl⟩
theorem nc_L_10 : NC RL 10 7 29 dX7 := ⟨RX7, TX7, tyX7, ciX7, tb_in (tt_3 210 rfl) rfl, tb_in (tt_3 211 rfl) rfl, tb_in (tt_1 8 rfl) rfl, dfX7, okl_nr rfl, fun _ => rfl⟩
theorem nc_X6_7 : NC RX6 7 4 16 dX4 := ⟨RX4, TX4, tyX4, ciX4, tb_in (tt_1 20 rfl) rfl, tb_in (tt_1 21 rfl) rfl, tb_in (tt_1 2 rfl) rfl, dfX4, okl_nr rfl, fun _ => rfl⟩
theorem nc_X6_20 : NC RX6 20 1 3 dX1 := ⟨RX1, TX1, tyX1, ciX1, tb_in (tt_1 105 rfl) rfl, tb_in (tt_1 106 rfl) rfl, tb_in (tt_1 3 rfl) rfl, dfX1, okl_nr rfl, fun _ => rfl⟩
theorem nc_X6_30 : NC RX6 30 5 5 dX5 := ⟨RX5, TX5, tyX5, ciX5, tb_in (tt_1 123 rfl) rfl, tb_in (tt_1 124 rfl) rfl, tb_in (tt_1 4 rfl) rfl, dfX5, okl_nr rfl, fun _ => rfl⟩
theorem nc_X6_37 : NC RX6 37 3 4 dX3 := ⟨RX3, TX3, tyX3, ciX3, tb_in (tt_1 149 rfl) rfl, tb_in (tt_1 150 rfl) rfl, tb_in (tt_1 5 rfl) rfl, dfX3, okl_nr rfl, fun _ => rfl⟩
theorem nc_X6_46 : NC RX6 46 2 8 dX2 := ⟨RX2, TX2, tyX2, ciX2, tb_in (tt_1 169 rfl) rfl, tb_in (tt_1 170 rfl) rfl, tb_in (tt_1 6 rfl) rfl, dfX2, okl_nr rfl, fun _ => rfl⟩
theorem nc_X6_53 : NC RX6 53 0 3 dX0 := ⟨RX0, TX0, tyX0, ciX0, tb_in (tt_1 202 rfl) rfl, tb_in (tt_1 203 rfl) rfl, tb_in (tt_1 7 rfl) rfl, dfX0, okl_nr rfl, fun _ => rfl⟩
theorem hup_at {h : Nat → PC} {b : Nat} {c : PC} : hup h b c b = c := by simp [hup]
theorem hup_set {h : Nat → PC} {b : Nat} {c d : PC} : hup (hup h b c) b d = hup h b d := by funext j; unfold hup; split <;> rfl
theorem hup_id {h : Nat → PC} {b : Nat} {c : PC} (e : h b = c) : hup h b c = h := by
  funext j; unfold hup; split
  · rename_i g; rw [g, e]
  · rfl
theorem hup_new {h : Nat → PC} {b j : Nat} {c a : PC} (e : h j = a) (hn : j ≠ b) : hup (hup h b c) j a = hup h b c := hup_id (by unfold hup; rw [if_neg hn]; exact e)
section MK
variable {xl : Nat} {xs : Nat → Int32} {F L B1 B2 : Nat} {M : Mt} {pc : Nat} {lv lv' : List (Option Value)} {st : List Value} {n : Nat} {h : Nat → PC} {Q : QT} {q : Nat}
theorem ev_astoreN {i : Fin 4} (d : decode M.2.1 pc = .ok (.astore_n i, 1)) (hi : (i : Nat) < lv.length) (he : st1 lv i .null = lv') (hq : pc + 1 = q) (k : Ev xl xs F L B1 B2 M q lv' st n h Q) : Ev xl xs F L B1 B2 M pc lv (.null :: st) n h Q := by
  subst hq; subst he
  intro p l e R s m args below meth cc Z D cA sz zd n0 ad0 CM SM C ad H locs cells slots ls hH hE hS hc hs hl o1 o2
  exact lv_astore_nN C.hx C.hb d rfl (lh_has hl) (Nat.lt_of_lt_of_le hi hl.2.1) rfl (fun ls' hl' => k _ _ _ _ _ _ _ _ _ _ _ _ _ _ _ _ _ _ _ C ad H locs cells slots ls' hH hE hS hc hs (lh_st1 (x := .null) (by rw [st1_len]; exact hl.2.1) (st1_at _ _ _) hl') (okL_st1 o1 trivial) (okl_t o2))
theorem ev_astN_2 {a0 a1 a2 : Option Value} {t : List (Option Value)} (d : decode M.2.1 pc = .ok (.astore_n 2, 1)) (hk : kl a1 = a1) (hq : pc + 1 = q) (k : Ev xl xs F L B1 B2 M q (a0 :: a1 :: some .null :: t) st n h Q) : Ev xl xs F L B1 B2 M pc (a0 :: a1 :: a2 :: t) (.null :: st) n h Q := by
  subst hq
  exact ev_astoreN (lv' := (a0 :: a1 :: some .null :: t)) d (by show 2 < _; simp only [List.length_cons]; omega) (by simp only [st1, hk]) rfl k
theorem ev_less {b1 b2 : Nat} (h1 : b1 ≤ B1) (h2 : b2 ≤ B2) (k : Ev xl xs F L b1 b2 M pc lv st n h Q) : Ev xl xs F L B1 B2 M pc lv st n h Q := by
  intro p l e R s m args below meth cc Z D cA sz zd n0 ad0 CM SM C ad H locs cells slots ls hH hE hS hc hs hl o1 o2
  exact k _ _ _ _ _ _ _ _ _ _ _ _ _ _ _ _ _ _ _ C ad H locs cells slots ls hH hE hS (by omega) (by omega) hl o1 o2
end MK
